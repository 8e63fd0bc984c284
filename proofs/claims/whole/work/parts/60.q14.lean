section FPA
variable {n w h st i tp r bs fs : Nat} {col msk bare : Nat → Int32} {L1 T1 : LyS} {bf : Nat → Nat}
theorem fp_all (D : LD w tp r bs fs) (H : LayR w tp r bs fs T1) (V : VL n w h st bs fs L1) (etp : tp = i * st) (er : r = hs h st i) (hi : i < cd h st) {l : Nat} (hl : l = 0 ∨ l = 2) (side : Int32) (mk : Nat → Int32) (fu : Nat) (hfu : 7000 ≤ fu) (st0 : Nat) (est0 : st0 = i * st * w) {f : Int32} (hf : Cl f)
    (hb : ∀ k', k' < mny w (sc bs fs l) r → bf (st0 + k') < 16 ∧ bare (st0 + k') = nI (bf (st0 + k')) ∧ bit (bf (st0 + k')) l = 0)
    (hmp : ∀ k', k' < mny w (sc bs fs l) r → if bc mk side w (sc bs fs l) tp r k' = 0 then L1.2 l (st0 + k') = -1 ∧ T1.2 3 (ps w (sc bs fs l) l tp k') = nI 1 else (L1.2 l (st0 + k') = T1.2 2 (ps w (sc bs fs l) l tp k') ∧ Cl (L1.2 l (st0 + k'))) ∧ T1.2 3 (ps w (sc bs fs l) l tp k') = nI 0) :
    ∃ bare' L' T', Maker_fillBlocks fu n col msk bare L1 (nI i) (nI l) f = some (bare', L') ∧ Mo_makeBlocks_l137 fu (nI l) (nI (mny w (sc bs fs l) r)) f fu 0 T1 = some (0, T') ∧ FP l w (sc bs fs l) tp r st0 side mk L1 T1 bare bare' bf (mny w (sc bs fs l) r) L' T' := by
  have hw := D.1
  have hr := D.2.1
  have hsc := sc_in (k := l) D.2.2.1 D.2.2.2
  have hm := mny_le (w := w) (s := sc bs fs l) (r := r) hsc.1
  have hwr : w * r ≤ 24 * 24 := Nat.mul_le_mul (by omega) (by omega)
  have hcw := cd_le (a := w) hsc.1
  have hcr := cd_le (a := r) hsc.1
  have hih := hs_h hi V.2.2.1.1
  have hst0 : st0 + mny w (sc bs fs l) r ≤ n := by
    rw [est0]
    have h1 : (i * st + hs h st i) * w ≤ h * w := Nat.mul_le_mul_right w hih.1
    rw [Nat.add_mul, Nat.mul_comm h w, Nat.mul_comm (hs h st i) w, ← er] at h1
    have := V.2.2.2.2.2.1.1
    omega
  have emn : cd r (sc bs fs l) * cd w (sc bs fs l) = mny w (sc bs fs l) r := Nat.mul_comm _ _
  obtain ⟨s', t', g1, g2, g3⟩ := loop2N (σ := (Nat → Int32) × LyS) (τ := LyS)
    (fun k ro s => Maker_fillBlocks_l34 fu n col msk (nI l) f (nI (cd r (sc bs fs l))) (nI (cd w (sc bs fs l))) k (nI (st0 + ro * cd w (sc bs fs l))) (nI ro) s.1 s.2)
    (fun k j t => Mo_makeBlocks_l137 fu (nI l) (nI (mny w (sc bs fs l) r)) f k (nI j) t)
    (fun k s t => FP l w (sc bs fs l) tp r st0 side mk L1 T1 bare s.1 bf k s.2 t) (cd w (sc bs fs l)) (cd r (sc bs fs l))
    (by
      intro k k' ro s t hro hI
      obtain ⟨s2, t2, f1, f2, f3⟩ := loop2 (σ := (Nat → Int32) × LyS) (τ := LyS)
        (fun k c s => Maker_fillBlocks_l44 n col msk (nI l) f (nI (cd r (sc bs fs l))) (nI (cd w (sc bs fs l))) (nI ro) k (nI (st0 + (ro * cd w (sc bs fs l) + c))) (nI c) s.1 s.2)
        (fun k c t => Mo_makeBlocks_l137 fu (nI l) (nI (mny w (sc bs fs l) r)) f k (nI (ro * cd w (sc bs fs l) + c)) t)
        (fun c s t => FP l w (sc bs fs l) tp r st0 side mk L1 T1 bare s.1 bf (ro * cd w (sc bs fs l) + c) s.2 t) (cd w (sc bs fs l))
        (by
          intro q q' c s t hc hI
          obtain ⟨a1, a2, a3, z1, z2, z3⟩ := fp_step (col := col) (msk := msk) D H V.2.2.2.2.2.1.2 hl side mk fu hfu st0 hst0 hf hb hmp hc hro (nI (cd r (sc bs fs l))) hI q q'
          exact ⟨(a1, a2), a3, z1, z2, z3⟩)
        (cd w (sc bs fs l)) (fu - cd w (sc bs fs l)) k' 0 s t (by omega) hI
      rw [show fu - cd w (sc bs fs l) + cd w (sc bs fs l) = fu by omega] at f1
      rw [show fu - cd w (sc bs fs l) = fu - cd w (sc bs fs l) - 1 + 1 by omega] at f1
      rw [Maker_fillBlocks_l44, if_pos (nI_le (Nat.le_refl _) (by omega))] at f1
      refine ⟨s2, t2, ?_, f2, f3⟩
      rw [Maker_fillBlocks_l34, if_neg (nI_ge hro (by omega))]
      rw [show (0 : Int32) = nI 0 from rfl]
      rw [Nat.add_zero] at f1
      rw [f1]
      simp only [Option.bind_some]
      rw [nI_p1, show st0 + (ro * cd w (sc bs fs l) + cd w (sc bs fs l)) = st0 + (ro + 1) * cd w (sc bs fs l) by rw [Nat.add_mul, Nat.one_mul]])
    (cd r (sc bs fs l)) (fu - cd r (sc bs fs l)) (fu - mny w (sc bs fs l) r) 0 (bare, L1) T1 (by omega)
    ⟨rfl, fun _ _ => rfl, fun _ _ => rfl, fun k' hk' => by omega, fun _ _ => rfl, fun k' hk' => by omega, rfl, fun _ _ => rfl, fun _ _ => rfl⟩
  dsimp only at g1 g2 g3
  rw [show fu - cd r (sc bs fs l) + cd r (sc bs fs l) = fu by omega, show fu - cd r (sc bs fs l) = fu - cd r (sc bs fs l) - 1 + 1 by omega, Maker_fillBlocks_l34, if_pos (nI_le (Nat.le_refl _) (by omega))] at g1
  rw [emn] at g2 g3
  rw [show fu - mny w (sc bs fs l) r + mny w (sc bs fs l) r = fu by omega, show fu - mny w (sc bs fs l) r = fu - mny w (sc bs fs l) r - 1 + 1 by omega] at g2
  rw [Mo_makeBlocks_l137, if_pos (nI_le (Nat.le_refl _) (by omega))] at g2
  rw [Nat.zero_mul] at g1 g2
  obtain ⟨bare', L'⟩ := s'
  refine ⟨bare', L', t', ?_, g2, g3⟩
  unfold Maker_fillBlocks
  rw [rowsOf_eq V (by omega) (by omega), Option.bind_some, columnsOf_eq V (by omega), Option.bind_some, startOf_eq V, Option.bind_some, ← er, ← est0]
  rw [show (0 : Int32) = nI 0 from rfl]
  rw [Nat.add_zero] at g1
  rw [g1]; rfl
end FPA
/-- a layer of blocks made by both -/
def BK (l w s tp r st0 : Nat) (L T : LyS) (bare bare' : Nat → Int32) (bf : Nat → Nat) (L' T' : LyS) : Prop :=
  L'.1 = L.1 ∧ (∀ q, q ≠ l → L'.2 q = L.2 q) ∧ (∀ j, j < st0 ∨ st0 + mny w s r ≤ j → L'.2 l j = L.2 l j) ∧
  (∀ k, k < mny w s r → L'.2 l (st0 + k) = T'.2 2 (ps w s l tp k) ∧ Cl (L'.2 l (st0 + k))) ∧
  (∀ j, j < st0 ∨ st0 + mny w s r ≤ j → bare' j = bare j) ∧
  (∀ k, k < mny w s r → ∃ b, b < 16 ∧ bare' (st0 + k) = nI b ∧ T'.2 3 (ps w s l tp k) = nI (bit b l) ∧ ∀ m, m < 4 → m ≠ l → bit b m = bit (bf (st0 + k)) m) ∧
  T'.1 = T.1 ∧ (∀ q, q ≠ 2 → q ≠ 3 → T'.2 q = T.2 q) ∧ (∀ P, (∀ k, k < mny w s r → P ≠ ps w s l tp k) → T'.2 2 P = T.2 2 P ∧ T'.2 3 P = T.2 3 P)
section BKA
variable {n w h st i tp r bs fs : Nat} {col msk bare : Nat → Int32} {L T : LyS} {bf : Nat → Nat}
theorem bk_all (D : LD w tp r bs fs) (H : LayR w tp r bs fs T) (V : VL n w h st bs fs L) (etp : tp = i * st) (er : r = hs h st i) (hi : i < cd h st) {l : Nat} (hl : l = 0 ∨ l = 2) (side : Int32) (hside : side = if l = 2 then 1 else 0) (hC : RC w h col (T.2 0)) (hM : PB w h msk (T.2 1)) (hn : n = w * h) (fu : Nat) (hfu : 7000 ≤ fu) (st0 : Nat) (est0 : st0 = i * st * w)
    (hb : ∀ k', k' < mny w (sc bs fs l) r → bf (st0 + k') < 16 ∧ bare (st0 + k') = nI (bf (st0 + k')) ∧ bit (bf (st0 + k')) l = 0)
    (hex : ∃ y x, tp ≤ y ∧ y < tp + r ∧ x < w ∧ T.2 1 (24 * y + x) = side) :
    ∃ f L1 bare' L' T', Maker_makeBlocks fu n col msk bare L (nI i) (nI l) = some (f, L1) ∧ Maker_fillBlocks fu n col msk bare L1 (nI i) (nI l) f = some (bare', L') ∧ Mo_makeBlocks fu T (nI l) = some T' ∧ BK l w (sc bs fs l) tp r st0 L T bare bare' bf L' T' := by
  have hw := D.1
  have hr := D.2.1
  have hsc := sc_in (k := l) D.2.2.1 D.2.2.2
  obtain ⟨f, L1, T1, a1, a2, m1, m2, m3, m4, m5, m6, m7, m8, m9⟩ := mp_all (col := col) (msk := msk) (bare := bare) D H V etp er hi hl side hside hC hM hn fu hfu st0 est0
  have hf : Cl f := by
    rcases m9 with ⟨-, m9⟩ | m9
    · exfalso
      obtain ⟨y, x, h1, h2, h3, h4⟩ := hex
      have hk := kx_lt (s := sc bs fs l) (tp := tp) hsc.1 h3 (show y - tp < r by omega)
      have hz := m9 _ hk
      obtain ⟨d1, d2⟩ := dm_c (q := (y - tp) / sc bs fs l) (cd_lt hsc.1 h3)
      have hy1 : (y - tp) / sc bs fs l * sc bs fs l ≤ y - tp := Nat.div_mul_le_self _ _
      have hy2 := Nat.lt_div_mul_add (a := y - tp) (b := sc bs fs l) (by omega)
      have hx1 : x / sc bs fs l * sc bs fs l ≤ x := Nat.div_mul_le_self _ _
      have hx2 := Nat.lt_div_mul_add (a := x) (b := sc bs fs l) (by omega)
      unfold bc kx at hz
      rw [d1, d2] at hz
      unfold S2 at hz
      have p1 : 1 ≤ sm (fun a => sm (fun b => (fun y x => g0 side (T.2 1 (24 * y + x))) (tp + (y - tp) / sc bs fs l * sc bs fs l + a) (x / sc bs fs l * sc bs fs l + b)) (min (sc bs fs l) (w - x / sc bs fs l * sc bs fs l))) (min (sc bs fs l) (tp + r - (tp + (y - tp) / sc bs fs l * sc bs fs l))) := by
        apply sm_pos (j := y - (tp + (y - tp) / sc bs fs l * sc bs fs l)) (by omega)
        apply sm_pos (j := x - x / sc bs fs l * sc bs fs l) (by omega)
        have e1 : tp + (y - tp) / sc bs fs l * sc bs fs l + (y - (tp + (y - tp) / sc bs fs l * sc bs fs l)) = y := by omega
        have e2 : x / sc bs fs l * sc bs fs l + (x - x / sc bs fs l * sc bs fs l) = x := by omega
        rw [e1, e2]
        show 1 ≤ g0 side (T.2 1 (24 * y + x))
        unfold g0
        rw [if_pos h4]
        exact Nat.le_refl _
      omega
    · exact m9
  have hV1 : VL n w h st bs fs L1 := VL_fr V (fun k _ => by rw [m1]) (m2 5 (by omega)) (m2 6 (by omega))
  obtain ⟨bare', L', T', b1, b2, f1, f2, f3, f4, f5, f6, f7, f8, f9⟩ := fp_all (col := col) (msk := msk) (bare := bare) (bf := bf) (L1 := L1) (T1 := T1) D (LayR_fr H m5) hV1 etp er hi hl side (T.2 1) fu hfu st0 est0 hf hb (by
    intro k' hk'
    have := m4 k' hk'
    by_cases q : bc (T.2 1) side w (sc bs fs l) tp r k' = 0
    · rw [if_pos q] at this ⊢; exact this
    · rw [if_neg q] at this ⊢
      obtain ⟨u1, u2, u3⟩ := this
      refine ⟨⟨by rw [u1, u2], by rw [u1]; exact bv_cl q⟩, u3⟩)
  refine ⟨f, L1, bare', L', T', a1, b1, ?_, by rw [f1, m1], fun q hq => by rw [f2 q hq, m2 q hq], fun j hj => by rw [f3 j hj, m3 j hj], f4, f5, ?_, by rw [f7, m5], fun q h2 h3 => by rw [f8 q h2, m6 q h2 h3], fun P hP => ⟨by rw [f9 P hP, (m7 P hP).1], by rw [f8 3 (by decide), (m7 P hP).2]⟩⟩
  · unfold Mo_makeBlocks
    rw [count_eq D H (by omega), Option.bind_some, a2, Option.bind_some, b2]; rfl
  · intro k hk
    obtain ⟨b, y1, y2, y3, y4⟩ := f6 k hk
    refine ⟨b, y1, y2, ?_, y4⟩
    rw [f8 3 (by decide), y3]
    have := m4 k hk
    by_cases q : bc (T.2 1) side w (sc bs fs l) tp r k = 0
    · rw [if_pos q] at this ⊢; exact this.2
    · rw [if_neg q] at this ⊢; exact this.2.2
end BKA
