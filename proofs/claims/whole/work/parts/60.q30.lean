/-! ===== read: the page of a stripe ===== -/
section JN
variable {n w h st i tp r bs fs st0 t : Nat} {L T : LyS}
/-- the sample's exact colour, as both have it -/
theorem exact_eq (V : VL n w h st bs fs L) (hi : i < cd h st) (etp : tp = i * st) (er : r = hs h st i) (est0 : st0 = i * st * w) (ht : t < 16) (e4 : L.2 4 i = nI t) (hR : ∀ l, l < 4 → bit t l = 1 → RV w (sc bs fs l) l tp st0 (mny w (sc bs fs l) r) L T) (fu : Nat) (hfu : 7000 ≤ fu) {x y : Nat} (hx : x < w) (hy : tp ≤ y) (hy2 : y < tp + r) (l : Nat) (el : l = jl (bit t 1) (T.2 7 (576 + 24 * y + x))) (c : Int32) (ec : c = if bit t l = 1 then T.2 7 (ps w (sc bs fs l) l tp (kx w (sc bs fs l) tp x y)) else nI 0) :
    ∃ u, Layers_exactAt n L (nI x) (nI y) = some u ∧ (bit t 3 = 0 → u = c) ∧ (bit t 3 = 1 → Mo_together fu c (T.2 7 (1728 + 24 * y + x)) = some u) := by
  have hih := hs_h hi V.2.2.1.1
  have hyh : y < h := by omega
  have hyi : y / st = i := by
    have hst := V.2.2.1
    have := hs_le (h := h) (st := st) (i := i)
    rw [show y = st * i + (y - tp) by rw [etp, Nat.mul_comm st i]; omega, Nat.mul_add_div (by omega), Nat.div_eq_of_lt (by omega)]; omega
  have e4' : L.2 4 (y / st) = nI t := by rw [hyi]; exact e4
  have hkl : ∀ l, l < 4 → kx w (sc bs fs l) tp x y < mny w (sc bs fs l) r := fun l _ => kx_lt (sc_in (k := l) V.2.2.2.1 V.2.2.2.2.1).1 hx (by omega)
  have hm1 : bit t 1 = 1 → L.2 1 (st0 + kx w 1 tp x y) = T.2 7 (576 + 24 * y + x) := by
    intro q
    have := (hR 1 (by decide) q _ (hkl 1 (by decide))).1
    rw [sc_1, ps_1 hx hy] at this
    exact this
  have hjl : jl (bit t 1) (L.2 1 (st0 + kx w 1 tp x y)) = l := by
    rw [el]
    rcases bit_le t 1 with q | q
    · unfold jl; rw [q, if_neg (fun z => by omega), if_neg (fun z => by omega)]
    · rw [hm1 q]
  have hl := jl_or (bit t 1) (T.2 7 (576 + 24 * y + x))
  rw [← el] at hl
  have est : y / st * st * w = st0 := by rw [hyi, est0]
  have etp2 : y / st * st = tp := by rw [hyi, etp]
  have hj := joinedAt_eq V hx hyh e4' ht (fun l hl q => by
    rw [est, etp2]
    have := (hR l (by omega) q _ (hkl l (by omega))).2
    unfold Vl at this
    rw [if_neg (by omega)] at this
    exact this) l (by rw [est, etp2]; exact hjl.symm)
  rw [est, etp2] at hj
  have hcv : (if bit t l = 1 then L.2 l (st0 + kx w (sc bs fs l) tp x y) else nI 0) = c := by
    rw [ec]
    by_cases q : bit t l = 1
    · rw [if_pos q, if_pos q]; exact (hR l (by omega) q _ (hkl l (by omega))).1
    · rw [if_neg q, if_neg q]
  rw [hcv] at hj
  have hv3 := valueAt_eq V hx hyh (show 3 < 4 by decide) e4' ht
  rw [est, etp2, sc_3] at hv3
  unfold Layers_exactAt
  rw [show (3 : Int32) = nI 3 from rfl, hv3, Option.bind_some, hj]
  rcases bit_le t 3 with q | q
  · rw [q, if_neg (show ¬ (0 : Nat) = 1 by decide), if_pos rfl]
    exact ⟨c, rfl, fun _ => rfl, fun z => by omega⟩
  · have h3 := hR 3 (by decide) q _ (hkl 3 (by decide))
    rw [sc_3, ps_1 hx hy] at h3
    have hcl : Cl (L.2 3 (st0 + kx w 1 tp x y)) := by
      have := h3.2
      unfold Vl at this
      rw [if_neg (by decide)] at this
      exact this
    rw [q, if_pos rfl, if_neg (Cl_ne hcl)]
    obtain ⟨v, hv, g1, g2⟩ := together_eq c (L.2 3 (st0 + kx w 1 tp x y)) fu hfu
    simp only [Option.bind_some]
    rw [g1]
    refine ⟨v, rfl, fun z => by omega, fun _ => ?_⟩
    rw [h3.1] at g2
    exact g2
theorem join_all (D : LD w tp r bs fs) (HL : LayR w tp r bs fs T) (V : VL n w h st bs fs L) (hi : i < cd h st) (etp : tp = i * st) (er : r = hs h st i) (est0 : st0 = i * st * w) (ht : t < 16) (e4 : L.2 4 i = nI t) (h8 : ∀ l, l < 4 → T.2 8 l = nI (bit t l)) (hR : ∀ l, l < 4 → bit t l = 1 → RV w (sc bs fs l) l tp st0 (mny w (sc bs fs l) r) L T) (fu : Nat) (hfu : 7000 ≤ fu) :
    ∃ T', Mo_joinStripe fu T = some T' ∧ T'.1 = T.1 ∧ (∀ q, q ≠ 9 → T'.2 q = T.2 q) ∧ (∀ y x, tp ≤ y → y < tp + r → x < w → Layers_exactAt n L (nI x) (nI y) = some (T'.2 9 (24 * y + x))) ∧ ∀ P, P < 24 * tp → T'.2 9 P = T.2 9 P := by
  have hw := D.1
  have hr := D.2.1
  have hwr : w * r ≤ 24 * 24 := Nat.mul_le_mul (by omega) (by omega)
  obtain ⟨T', g1, g2, g3, g4, g5⟩ := loop1 (σ := LyS) (fun k j s => Mo_joinStripe_l2 fu k (nI j) s)
    (fun k T' => T'.1 = T.1 ∧ (∀ q, q ≠ 9 → T'.2 q = T.2 q) ∧ (∀ k', k' < k → Layers_exactAt n L (nI (k' % w)) (nI (tp + k' / w)) = some (T'.2 9 (24 * (tp + k' / w) + k' % w))) ∧ ∀ P, P < 24 * tp → T'.2 9 P = T.2 9 P) (w * r)
    (by
      rintro q k T' hk ⟨h1, h2, h3, h4⟩
      obtain ⟨k1, k2⟩ := k_in hw.1 hk
      have hy1 : tp ≤ tp + k / w := Nat.le_add_right _ _
      have hy2 : tp + k / w < tp + r := Nat.add_lt_add_left k1 tp
      generalize hx : k % w = x at *
      generalize hyy : tp + k / w = y at *
      have T15 : T'.1 15 = nI w := by rw [h1]; exact HL.1
      have T16 : T'.1 16 = nI tp := by rw [h1]; exact HL.2.1
      have T17 : T'.1 17 = nI r := by rw [h1]; exact HL.2.2.1
      have x1 : nI k - nI k / T'.1 15 * T'.1 15 = nI x := by rw [T15, pk_rem (by omega) (by omega) (by omega), hx]
      have x2 : T'.1 16 + nI k / T'.1 15 = nI y := by rw [T15, T16, pk_div (by omega) (by omega) (by omega), nI_add, hyy]
      have c8 : ∀ l, l < 4 → T'.2 8 l = nI (bit t l) := by rw [h2 8 (by decide)]; exact h8
      have c7 : T'.2 7 = T.2 7 := h2 7 (by decide)
      have hlay : LayR w tp r bs fs T' := LayR_fr HL h1
      obtain ⟨u, u1, u2, u3⟩ := exact_eq V hi etp er est0 ht e4 hR fu hfu k2 hy1 hy2 _ rfl _ rfl
      have hjl := jl_or (bit t 1) (T.2 7 (576 + 24 * y + x))
      generalize hl : jl (bit t 1) (T.2 7 (576 + 24 * y + x)) = l at *
      generalize hc : (if bit t l = 1 then T.2 7 (ps w (sc bs fs l) l tp (kx w (sc bs fs l) tp x y)) else nI 0) = c at *
      have hsc := sc_in (k := l) D.2.2.1 D.2.2.2
      have hkl : kx w (sc bs fs l) tp x y < mny w (sc bs fs l) r := kx_lt hsc.1 k2 (by omega)
      have hpl := ps_lt (l := l) hsc.1 hw.2 hr.2 hkl
      have hof : (if nI (bit t 1) = 0 then some (0 : Int32) else gd (nI (576 + 24 * y + x)) 2304 (if T.2 7 (576 + 24 * y + x) = 1 then some (2 : Int32) else some 0)) = some (nI l) := by
        rw [gd_nI (by omega) (by omega), ← hl]
        unfold jl
        rcases bit_le t 1 with z | z
        · rw [z, if_pos e00, if_neg (fun y => by omega)]; rfl
        · rw [z, if_neg n10]
          by_cases z2 : T.2 7 (576 + 24 * y + x) = nI 1
          · rw [if_pos (show T.2 7 (576 + 24 * y + x) = 1 from z2), if_pos ⟨rfl, z2⟩]; rfl
          · rw [if_neg (show ¬ T.2 7 (576 + 24 * y + x) = 1 from z2), if_neg (fun y => z2 y.2)]; rfl
      have hcc : (if nI (bit t l) = 0 then some (0 : Int32) else (Mo_placeAt T' (nI l) (nI x) (nI y)).bind fun r9 => gd r9 2304 (some (T.2 7 r9.toNatClampNeg))) = some c := by
        rw [← hc]
        rcases bit_le t l with z | z
        · rw [z, if_pos e00, if_neg (by decide)]; rfl
        · rw [z, if_neg n10, if_pos rfl, placeAt_eq D hlay (by omega) (by omega) (by omega) hy1, Option.bind_some, ← ps_kx hsc.1 k2, gd_nI (by omega) (by omega), nI_clamp (by omega)]
      have hfin : ∀ v, Layers_exactAt n L (nI x) (nI y) = some v → (Ls T' 9 (24 * y + x) v).1 = T.1 ∧ (∀ q, q ≠ 9 → (Ls T' 9 (24 * y + x) v).2 q = T.2 q) ∧ (∀ k', k' < k + 1 → Layers_exactAt n L (nI (k' % w)) (nI (tp + k' / w)) = some ((Ls T' 9 (24 * y + x) v).2 9 (24 * (tp + k' / w) + k' % w))) ∧ ∀ P, P < 24 * tp → (Ls T' 9 (24 * y + x) v).2 9 P = T.2 9 P := by
        intro v hv
        refine ⟨h1, fun q hq => by rw [ls_n hq]; exact h2 q hq, ?_, ?_⟩
        · intro k' hk'
          rw [ls_s]
          by_cases z : k' = k
          · rw [z, hx, hyy, pk_us]; exact hv
          · obtain ⟨j1, j2⟩ := k_in hw.1 (show k' < w * r by omega)
            have hne : 24 * (tp + k' / w) + k' % w ≠ 24 * y + x := by
              intro e
              rw [← hyy, ← hx] at e
              have e1 : k' % w = k % w := by omega
              have e2 : k' / w = k / w := by omega
              have d1 := Nat.div_add_mod k' w
              have d2 := Nat.div_add_mod k w
              rw [e1, e2] at d1
              omega
            rw [pk_un hne]; exact h3 k' (by omega)
        · intro P hP
          rw [ls_s, pk_un (by omega)]; exact h4 P hP
      refine ⟨Ls T' 9 (24 * y + x) u, ?_, hfin u u1⟩
      have hg1 : ∀ (α : Type) (z : Option α), gd (1 : Int32) 4 z = z := fun α z => gd_nI (k := 1) (by omega) (by omega)
      have hg3 : ∀ (α : Type) (z : Option α), gd (3 : Int32) 4 z = z := fun α z => gd_nI (k := 3) (by omega) (by omega)
      have a81 : T'.2 8 ((1 : Int32).toNatClampNeg) = nI (bit t 1) := c8 1 (by decide)
      have a83 : T'.2 8 ((3 : Int32).toNatClampNeg) = nI (bit t 3) := c8 3 (by decide)
      rw [Mo_joinStripe_l2, x1, x2, T15, T17, pk_mul, if_neg (nI_ge hk (by omega)), dz_nI (by omega) (by omega), dz_nI (by omega) (by omega), hg1, a81, show (24 : Int32) * nI y = nI (24 * y) from pk_mul 24 y, show (576 : Int32) + nI (24 * y) = nI (576 + 24 * y) from nI_add 576 _, nI_add, nI_clamp (show 576 + 24 * y + x < 2 ^ 31 by omega), c7, hof, Option.bind_some, gd_nI (show l < 4 by omega) (by omega), nI_clamp (show l < 2 ^ 31 by omega), c8 l (by omega), hcc, Option.bind_some, hg3, a83, show (1728 : Int32) + nI (24 * y) = nI (1728 + 24 * y) from nI_add 1728 _, nI_add, nI_add, nI_clamp (show 24 * y + x < 2 ^ 31 by omega), nI_clamp (show 1728 + 24 * y + x < 2 ^ 31 by omega), nI_p1]
      rcases bit_le t 3 with z | z
      · rw [z, if_pos e00, gd_nI (by omega) (by omega), u2 z]
      · rw [z, if_neg n10, gd_nI (by omega) (by omega), u3 z, Option.bind_some, gd_nI (by omega) (by omega)])
    (w * r) (fu - w * r) 0 T (by omega) ⟨rfl, fun _ _ => rfl, fun k' hk' => by omega, fun _ _ => rfl⟩
  rw [show fu - w * r + w * r = fu by omega, show fu - w * r = fu - w * r - 1 + 1 by omega] at g1
  rw [Mo_joinStripe_l2, show T'.1 15 = nI w by rw [g2]; exact HL.1, show T'.1 17 = nI r by rw [g2]; exact HL.2.2.1, pk_mul, if_pos (nI_le (Nat.le_refl _) (by omega))] at g1
  refine ⟨T', ?_, g2, g3, ?_, g5⟩
  · unfold Mo_joinStripe
    show (Mo_joinStripe_l2 fu fu (nI 0) T).bind _ = _
    rw [g1]; rfl
  · intro y x h1 h2 h3
    have hk : (y - tp) * w + x < w * r := ix_lt h3 (show y - tp < r by omega)
    obtain ⟨d1, d2⟩ := dm_c (q := y - tp) h3
    have := g4 _ hk
    rw [d1, d2, show tp + (y - tp) = y by omega] at this
    exact this
/-- a sample of another stripe stays as it is -/
theorem exact_fr {L L' : LyS} {t' : Nat} (V : VL n w h st bs fs L) (V' : VL n w h st bs fs L') {x y : Nat} (hx : x < w) (hy : y < h) (e4 : L.2 4 (y / st) = nI t') (ht : t' < 16) (e4' : L'.2 4 (y / st) = nI t') (hl : ∀ l j, l < 4 → j < y / st * st * w + w * hs h st (y / st) → L'.2 l j = L.2 l j) : Layers_exactAt n L' (nI x) (nI y) = Layers_exactAt n L (nI x) (nI y) := by
  have hyr := y_hs V.2.2.1.1 hy
  have hv : ∀ l, l < 4 → Layers_valueAt n L' (nI l) (nI x) (nI y) = Layers_valueAt n L (nI l) (nI x) (nI y) := by
    intro l hl4
    have hsc := sc_in (k := l) V.2.2.2.1 V.2.2.2.2.1
    have hk := kx_lt (s := sc bs fs l) hsc.1 hx hyr.1
    have hm := mny_le (w := w) (s := sc bs fs l) (r := hs h st (y / st)) hsc.1
    rw [valueAt_eq V hx hy hl4 e4 ht, valueAt_eq V' hx hy hl4 e4' ht, hl l _ hl4 (by omega)]
  have h0 : Layers_valueAt n L' 0 (nI x) (nI y) = Layers_valueAt n L 0 (nI x) (nI y) := hv 0 (by decide)
  have h1 : Layers_valueAt n L' 1 (nI x) (nI y) = Layers_valueAt n L 1 (nI x) (nI y) := hv 1 (by decide)
  have h2 : Layers_valueAt n L' 2 (nI x) (nI y) = Layers_valueAt n L 2 (nI x) (nI y) := hv 2 (by decide)
  have h3 : Layers_valueAt n L' 3 (nI x) (nI y) = Layers_valueAt n L 3 (nI x) (nI y) := hv 3 (by decide)
  unfold Layers_exactAt Layers_joinedAt Layers_joinedAt_b17
  rw [h0, h1, h2, h3]
end JN
