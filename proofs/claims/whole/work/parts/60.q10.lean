/-! ===== the mean of a block ===== -/
def cn (x : Int32) : Nat := x.toNatClampNeg
theorem cn_eq {x : Int32} (h : Cl x) : x = nI (cn x) ∧ cn x < 16777216 := by
  obtain ⟨c, hc, rfl⟩ := h
  unfold cn
  rw [nI_clamp (by omega)]
  exact ⟨rfl, hc⟩
def g0 (side m : Int32) : Nat := if m = side then 1 else 0
def gp (p : Nat) (side m c : Int32) : Nat := if m = side then prt p (cn c) else 0
def S2 (f : Nat → Nat → Nat) (y0 ny x0 nx : Nat) : Nat := sm (fun a => sm (fun b => f (y0 + a) (x0 + b)) nx) ny
theorem sm_le2 {f g : Nat → Nat} {c : Nat} (h : ∀ j, f j ≤ c * g j) : ∀ k, sm f k ≤ c * sm g k
  | 0 => Nat.zero_le _
  | k + 1 => by
    have h1 := sm_le2 h k
    have h2 := h k
    show sm f k + f k ≤ c * (sm g k + g k)
    rw [Nat.mul_add]
    omega
theorem S2_le2 {f g : Nat → Nat → Nat} {c : Nat} (h : ∀ y x, f y x ≤ c * g y x) (y0 ny x0 nx : Nat) : S2 f y0 ny x0 nx ≤ c * S2 g y0 ny x0 nx := sm_le2 (fun a => sm_le2 (fun b => h _ _) nx) ny
theorem sm_mono1 {f : Nat → Nat} {c : Nat} (h : ∀ j, f j ≤ c) : ∀ k, sm f k ≤ k * c
  | 0 => Nat.zero_le _
  | k + 1 => by
    have h1 := sm_mono1 h k
    have h2 := h k
    show sm f k + f k ≤ (k + 1) * c
    rw [Nat.add_mul]
    omega
theorem S2_b {f : Nat → Nat → Nat} (h : ∀ y x, f y x ≤ 1) (y0 ny x0 nx : Nat) (h1 : ny ≤ 8) (h2 : nx ≤ 8) : S2 f y0 ny x0 nx ≤ 64 := by
  unfold S2
  have q1 : ∀ a, sm (fun b => f (y0 + a) (x0 + b)) nx ≤ 8 := fun a => by
    have := sm_mono1 (f := fun b => f (y0 + a) (x0 + b)) (c := 1) (fun b => h _ _) nx
    omega
  have := sm_mono1 (f := fun a => sm (fun b => f (y0 + a) (x0 + b)) nx) q1 ny
  omega
theorem S2_congr {f g : Nat → Nat → Nat} {y0 ny x0 nx : Nat} (h : ∀ a b, a < ny → b < nx → f (y0 + a) (x0 + b) = g (y0 + a) (x0 + b)) : S2 f y0 ny x0 nx = S2 g y0 ny x0 nx :=
  sm_congr (fun a ha => sm_congr (fun b hb => h a b ha hb))
theorem sm_pos {f : Nat → Nat} {j : Nat} : ∀ {k}, j < k → 1 ≤ f j → 1 ≤ sm f k
  | k + 1, h, hf => by
    show 1 ≤ sm f k + f k
    by_cases q : j = k
    · rw [← q]; omega
    · have := sm_pos (k := k) (by omega) hf
      omega
def PB (w h : Nat) (c a : Nat → Int32) : Prop := PgR w h c a ∧ ∀ i, i < w * h → Bi (c i)
section MC
variable {n w h : Nat} {col msk bare : Nat → Int32} {L : LyS}
theorem side_eq {l : Nat} (hl : l = 0 ∨ l = 2) {side : Int32} (hside : side = if l = 2 then 1 else 0) : (if nI l = 2 then some (1 : Int32) else some 0) = some side := by
  rcases hl with rfl | rfl
  · rw [if_neg (show ¬ nI 0 = 2 by decide), hside]; rfl
  · rw [if_pos (show nI 2 = 2 from rfl), hside]; rfl
theorem mean_in (hcl : ∀ i, i < n → Cl (col i)) (hbi : ∀ i, i < n → Bi (msk i)) (hn : n ≤ 576) {l : Nat} (hl : l = 0 ∨ l = 2) (side : Int32) (hside : side = if l = 2 then 1 else 0) (v7 v8 : Int32) (hw0 : L.1 0 = nI w) (y x0 nx : Nat) (hi : y * w + (x0 + nx) ≤ n) (a r g b : Nat) (fu : Nat) (hfu : 7000 ≤ fu) :
    Maker_meanOfBlock_l94 n col msk bare L (nI l) v7 v8 (nI (x0 + nx)) (nI y) fu (nI a) (nI r) (nI g) (nI b) (nI x0) = some (0, nI (a + sm (fun j => g0 side (msk (y * w + (x0 + j)))) nx), nI (r + sm (fun j => gp 0 side (msk (y * w + (x0 + j))) (col (y * w + (x0 + j)))) nx), nI (g + sm (fun j => gp 1 side (msk (y * w + (x0 + j))) (col (y * w + (x0 + j)))) nx), nI (b + sm (fun j => gp 2 side (msk (y * w + (x0 + j))) (col (y * w + (x0 + j)))) nx)) := by
  let V : Nat → Int32 × Int32 × Int32 × Int32 := fun i => (nI (a + sm (fun j => g0 side (msk (y * w + (x0 + j)))) i), nI (r + sm (fun j => gp 0 side (msk (y * w + (x0 + j))) (col (y * w + (x0 + j)))) i), nI (g + sm (fun j => gp 1 side (msk (y * w + (x0 + j))) (col (y * w + (x0 + j)))) i), nI (b + sm (fun j => gp 2 side (msk (y * w + (x0 + j))) (col (y * w + (x0 + j)))) i))
  obtain ⟨s, g1, g2⟩ := loop1 (σ := Int32 × Int32 × Int32 × Int32) (fun k i s => Maker_meanOfBlock_l94 n col msk bare L (nI l) v7 v8 (nI (x0 + nx)) (nI y) k s.1 s.2.1 s.2.2.1 s.2.2.2 (nI (x0 + i))) (fun i s => s = V i) nx
    (by
      intro k i s hi' hs
      subst hs
      refine ⟨V (i + 1), ?_, rfl⟩
      obtain ⟨ec, hc⟩ := cn_eq (hcl (y * w + (x0 + i)) (by omega))
      have hc3 := hc
      have hb := hbi (y * w + (x0 + i)) (by omega)
      rw [Maker_meanOfBlock_l94, if_neg (nI_ge (by omega) (by omega)), hw0, pk_mul, nI_add, mkm_eq (by omega) (by omega), Option.bind_some, side_eq hl hside, Option.bind_some, mkc_eq (by omega) (by omega)]
      simp only [Option.bind_some]
      have e1 : nI (x0 + i) + 1 = nI (x0 + (i + 1)) := nI_add _ 1
      rw [e1]
      have hV : V (i + 1) = (nI (a + (sm (fun j => g0 side (msk (y * w + (x0 + j)))) i + g0 side (msk (y * w + (x0 + i))))), nI (r + (sm (fun j => gp 0 side (msk (y * w + (x0 + j))) (col (y * w + (x0 + j)))) i + gp 0 side (msk (y * w + (x0 + i))) (col (y * w + (x0 + i))))), nI (g + (sm (fun j => gp 1 side (msk (y * w + (x0 + j))) (col (y * w + (x0 + j)))) i + gp 1 side (msk (y * w + (x0 + i))) (col (y * w + (x0 + i))))), nI (b + (sm (fun j => gp 2 side (msk (y * w + (x0 + j))) (col (y * w + (x0 + j)))) i + gp 2 side (msk (y * w + (x0 + i))) (col (y * w + (x0 + i)))))) := rfl
      rw [hV]
      dsimp only [V]
      unfold gp g0
      have em : (if msk (y * w + (x0 + i)) = 1 then (1 : Int32) else 0) = msk (y * w + (x0 + i)) := by
        rcases hb with z | z <;> rw [z] <;> rfl
      rw [em]
      by_cases q : msk (y * w + (x0 + i)) = side
      · have r1 : ML_red (col (y * w + (x0 + i))) = some (nI (prt 0 (cn (col (y * w + (x0 + i)))))) := by
          conv => lhs; rw [ec]
          exact red_eq hc3
        have r2 : ML_green (col (y * w + (x0 + i))) = some (nI (prt 1 (cn (col (y * w + (x0 + i)))))) := by
          conv => lhs; rw [ec]
          exact green_eq hc3
        have r3 : ML_blue (col (y * w + (x0 + i))) = some (nI (prt 2 (cn (col (y * w + (x0 + i)))))) := by
          conv => lhs; rw [ec]
          exact blue_eq hc3
        simp only [if_pos q, r1, r2, r3, Option.bind_some]
        rw [ql1, nI_add, nI_add, nI_add, nI_add]
        simp only [Nat.add_assoc]
      · simp only [if_neg q, Nat.add_zero])
    nx (fu - nx) 0 (nI a, nI r, nI g, nI b) (by omega) rfl
  subst g2
  rw [show fu = fu - nx + nx by omega]
  dsimp only [Nat.add_zero] at g1
  rw [g1, show fu - nx = fu - nx - 1 + 1 by omega, Maker_meanOfBlock_l94, if_pos (nI_le (Nat.le_refl _) (by omega))]
theorem mean_out (hcl : ∀ i, i < n → Cl (col i)) (hbi : ∀ i, i < n → Bi (msk i)) (hn : n ≤ 576) (hwh : w * h ≤ n) (hw0 : L.1 0 = nI w) {l : Nat} (hl : l = 0 ∨ l = 2) (side : Int32) (hside : side = if l = 2 then 1 else 0) (y0 ny x0 nx : Nat) (hy : y0 + ny ≤ h) (hx : x0 + nx ≤ w) (hw : w ≤ 24) (hh : h ≤ 24) (hnx : 0 < nx) (fu : Nat) (hfu : 7000 ≤ fu) :
    Maker_meanOfBlock_l83 fu n col msk bare L (nI l) (nI (y0 + ny)) (nI x0) (nI (x0 + nx)) fu 0 0 0 0 (nI y0) = some (0, nI (S2 (fun y x => g0 side (msk (y * w + x))) y0 ny x0 nx), nI (S2 (fun y x => gp 0 side (msk (y * w + x)) (col (y * w + x))) y0 ny x0 nx), nI (S2 (fun y x => gp 1 side (msk (y * w + x)) (col (y * w + x))) y0 ny x0 nx), nI (S2 (fun y x => gp 2 side (msk (y * w + x)) (col (y * w + x))) y0 ny x0 nx)) := by
  let V : Nat → Int32 × Int32 × Int32 × Int32 := fun i => (nI (S2 (fun y x => g0 side (msk (y * w + x))) y0 i x0 nx), nI (S2 (fun y x => gp 0 side (msk (y * w + x)) (col (y * w + x))) y0 i x0 nx), nI (S2 (fun y x => gp 1 side (msk (y * w + x)) (col (y * w + x))) y0 i x0 nx), nI (S2 (fun y x => gp 2 side (msk (y * w + x)) (col (y * w + x))) y0 i x0 nx))
  obtain ⟨s, g1, g2⟩ := loop1 (σ := Int32 × Int32 × Int32 × Int32) (fun k i s => Maker_meanOfBlock_l83 fu n col msk bare L (nI l) (nI (y0 + ny)) (nI x0) (nI (x0 + nx)) k s.1 s.2.1 s.2.2.1 s.2.2.2 (nI (y0 + i))) (fun i s => s = V i) ny
    (by
      intro k i s hi' hs
      subst hs
      refine ⟨V (i + 1), ?_, rfl⟩
      have hb := ix_lt (w := w) (h := h) (x := x0 + nx - 1) (y := y0 + i) (by omega) (by omega)
      rw [Maker_meanOfBlock_l83, if_neg (nI_ge (by omega) (by omega))]
      have e := mean_in (bare := bare) (L := L) (msk := msk) hcl hbi hn hl side hside (nI (y0 + ny)) (nI x0) hw0 (y0 + i) x0 nx (by omega) (S2 (fun y x => g0 side (msk (y * w + x))) y0 i x0 nx) (S2 (fun y x => gp 0 side (msk (y * w + x)) (col (y * w + x))) y0 i x0 nx) (S2 (fun y x => gp 1 side (msk (y * w + x)) (col (y * w + x))) y0 i x0 nx) (S2 (fun y x => gp 2 side (msk (y * w + x)) (col (y * w + x))) y0 i x0 nx) fu hfu
      dsimp only [V]
      rw [e, Option.bind_some]
      have e1 : nI (y0 + i) + 1 = nI (y0 + (i + 1)) := nI_add _ 1
      rw [e1]
      rfl)
    ny (fu - ny) 0 (0, 0, 0, 0) (by omega) rfl
  subst g2
  rw [show fu = fu - ny + ny by omega]
  rw [show fu - ny + ny = fu by omega] at g1 ⊢
  dsimp only [Nat.add_zero] at g1
  rw [g1, show fu - ny = fu - ny - 1 + 1 by omega, Maker_meanOfBlock_l83, if_pos (nI_le (Nat.le_refl _) (by omega))]
end MC
section MR
variable {w tp r bs fs : Nat} {T : LyS}
theorem rmean_in (D : LD w tp r bs fs) (H : LayR w tp r bs fs T) {l p : Nat} (hl : l = 0 ∨ l = 2) (hp : p < 3) (side : Int32) (hside : side = if l = 2 then 1 else 0) (hcl : ∀ y x, y < tp + r → x < w → Cl (T.2 0 (24 * y + x))) (y0 y x0 : Nat) (hy : y < tp + r) (hx0 : x0 < w) (hy0 : y0 < 24) (a m : Nat) (nx : Nat) (hnx : nx = min (sc bs fs l) (w - x0)) (fu : Nat) (hfu : 7000 ≤ fu) :
    Mo_mean_l64 T (nI l) (nI p) (nI (24 * y0 + x0)) (nI y) fu (nI a) (nI m) (nI x0) = some (0, nI (a + sm (fun j => gp p side (T.2 1 (24 * y + (x0 + j))) (T.2 0 (24 * y + (x0 + j)))) nx), nI (m + sm (fun j => g0 side (T.2 1 (24 * y + (x0 + j)))) nx)) := by
  have hw := D.1
  have hr := D.2.1
  have hsc := sc_in (k := l) D.2.2.1 D.2.2.2
  have hrem : nI (24 * y0 + x0) - nI (24 * y0 + x0) / 24 * 24 = nI x0 := by
    rw [ql24, pk_rem (by omega) (by omega) (by omega)]
    exact congrArg nI (by omega)
  let V : Nat → Int32 × Int32 := fun i => (nI (a + sm (fun j => gp p side (T.2 1 (24 * y + (x0 + j))) (T.2 0 (24 * y + (x0 + j)))) i), nI (m + sm (fun j => g0 side (T.2 1 (24 * y + (x0 + j)))) i))
  obtain ⟨s, g1, g2⟩ := loop1 (σ := Int32 × Int32) (fun k i s => Mo_mean_l64 T (nI l) (nI p) (nI (24 * y0 + x0)) (nI y) k s.1 s.2 (nI (x0 + i))) (fun i s => s = V i) nx
    (by
      intro k i s hi' hs
      subst hs
      refine ⟨V (i + 1), ?_, rfl⟩
      rw [Mo_mean_l64, hrem, ql24, dz_nI (by omega) (by omega), scale_eq H (by omega), Option.bind_some, nI_add, if_neg (nI_ge (by omega) (by omega)), H.1, if_neg (nI_ge (by omega) (by omega)), pk_mul, nI_add, gd_nI (by omega) (by omega), nI_clamp (by omega)]
      have e1 : nI (x0 + i) + 1 = nI (x0 + (i + 1)) := nI_add _ 1
      rw [e1]
      have e2 : (if nI l = 2 then some (1 : Int32) else some 0) = some side := by
        rcases hl with rfl | rfl
        · rw [if_neg (show ¬ nI 0 = 2 by decide), hside]; rfl
        · rw [if_pos (show nI 2 = 2 from rfl), hside]; rfl
      rw [e2, Option.bind_some]
      obtain ⟨ec, hc⟩ := cn_eq (hcl y (x0 + i) hy (by omega))
      have hV : V (i + 1) = (nI (a + (sm (fun j => gp p side (T.2 1 (24 * y + (x0 + j))) (T.2 0 (24 * y + (x0 + j)))) i + gp p side (T.2 1 (24 * y + (x0 + i))) (T.2 0 (24 * y + (x0 + i))))), nI (m + (sm (fun j => g0 side (T.2 1 (24 * y + (x0 + j)))) i + g0 side (T.2 1 (24 * y + (x0 + i)))))) := rfl
      rw [hV]
      dsimp only [V]
      unfold gp g0
      by_cases q : T.2 1 (24 * y + (x0 + i)) = side
      · have r1 : Mo_part (T.2 0 (24 * y + (x0 + i))) (nI p) = some (nI (prt p (cn (T.2 0 (24 * y + (x0 + i)))))) := by
          conv => lhs; rw [ec]
          exact part_eq hc hp
        simp only [if_pos q]
        rw [gd_nI (by omega) (by omega), r1, Option.bind_some, ql1, nI_add, nI_add]
        simp only [Nat.add_assoc]
      · simp only [if_neg q, Nat.add_zero])
    nx (fu - nx) 0 (nI a, nI m) (by omega) rfl
  subst g2
  rw [show fu = fu - nx + nx by omega]
  dsimp only [Nat.add_zero] at g1
  rw [g1, show fu - nx = fu - nx - 1 + 1 by omega, Mo_mean_l64, hrem, ql24, dz_nI (by omega) (by omega), scale_eq H (by omega), Option.bind_some, nI_add, H.1]
  by_cases q : sc bs fs l ≤ w - x0
  · rw [if_pos (nI_le (by omega) (by omega))]
  · rw [if_neg (nI_ge (by omega) (by omega)), if_pos (nI_le (by omega) (by omega))]
theorem rmean_out (D : LD w tp r bs fs) (H : LayR w tp r bs fs T) {l p : Nat} (hl : l = 0 ∨ l = 2) (hp : p < 3) (side : Int32) (hside : side = if l = 2 then 1 else 0) (hcl : ∀ y x, y < tp + r → x < w → Cl (T.2 0 (24 * y + x))) (y0 x0 : Nat) (hy0 : y0 < tp + r) (hx0 : x0 < w) (nx ny : Nat) (hnx : nx = min (sc bs fs l) (w - x0)) (hny : ny = min (sc bs fs l) (tp + r - y0)) (fu : Nat) (hfu : 7000 ≤ fu) :
    Mo_mean_l27 fu T (nI l) (nI p) (nI (24 * y0 + x0)) fu 0 0 (nI y0) = some (0, nI (S2 (fun y x => gp p side (T.2 1 (24 * y + x)) (T.2 0 (24 * y + x))) y0 ny x0 nx), nI (S2 (fun y x => g0 side (T.2 1 (24 * y + x))) y0 ny x0 nx)) := by
  have hw := D.1
  have hr := D.2.1
  have hsc := sc_in (k := l) D.2.2.1 D.2.2.2
  have hrem : nI (24 * y0 + x0) - nI (24 * y0 + x0) / 24 * 24 = nI x0 := by
    rw [ql24, pk_rem (by omega) (by omega) (by omega)]
    exact congrArg nI (by omega)
  have hdiv : nI (24 * y0 + x0) / 24 = nI y0 := by
    rw [ql24, pk_div (by omega) (by omega) (by omega)]
    exact congrArg nI (by omega)
  let V : Nat → Int32 × Int32 := fun i => (nI (S2 (fun y x => gp p side (T.2 1 (24 * y + x)) (T.2 0 (24 * y + x))) y0 i x0 nx), nI (S2 (fun y x => g0 side (T.2 1 (24 * y + x))) y0 i x0 nx))
  obtain ⟨s, g1, g2⟩ := loop1 (σ := Int32 × Int32) (fun k i s => Mo_mean_l27 fu T (nI l) (nI p) (nI (24 * y0 + x0)) k s.1 s.2 (nI (y0 + i))) (fun i s => s = V i) ny
    (by
      intro k i s hi' hs
      subst hs
      refine ⟨V (i + 1), ?_, rfl⟩
      rw [Mo_mean_l27, hrem, hdiv, ql24, dz_nI (by omega) (by omega), scale_eq H (by omega), Option.bind_some, nI_add, if_neg (nI_ge (by omega) (by omega)), H.2.1, H.2.2.1, nI_add, if_neg (nI_ge (by omega) (by omega)), dz_nI (by omega) (by omega)]
      have e := rmean_in D H hl hp side hside hcl y0 (y0 + i) x0 (by omega) hx0 (by omega) (S2 (fun y x => gp p side (T.2 1 (24 * y + x)) (T.2 0 (24 * y + x))) y0 i x0 nx) (S2 (fun y x => g0 side (T.2 1 (24 * y + x))) y0 i x0 nx) nx hnx fu hfu
      rw [e, Option.bind_some]
      have e1 : nI (y0 + i) + 1 = nI (y0 + (i + 1)) := nI_add _ 1
      rw [e1]
      rfl)
    ny (fu - ny) 0 (0, 0) (by omega) rfl
  subst g2
  rw [show fu = fu - ny + ny by omega]
  rw [show fu - ny + ny = fu by omega] at g1 ⊢
  dsimp only [Nat.add_zero] at g1
  rw [g1, show fu - ny = fu - ny - 1 + 1 by omega, Mo_mean_l27, hdiv, ql24, dz_nI (by omega) (by omega), scale_eq H (by omega), Option.bind_some, nI_add, H.2.1, H.2.2.1, nI_add]
  by_cases q : sc bs fs l ≤ tp + r - y0
  · rw [if_pos (nI_le (by omega) (by omega))]
  · rw [if_neg (nI_ge (by omega) (by omega)), if_pos (nI_le (by omega) (by omega))]
end MR
