theorem kx_1 {w tp x y : Nat} : kx w 1 tp x y = (y - tp) * w + x := by unfold kx; rw [cd_1, Nat.div_one, Nat.div_one]
theorem sc_1 (bs fs : Nat) : sc bs fs 1 = 1 := rfl
theorem sc_3 (bs fs : Nat) : sc bs fs 3 = 1 := rfl
theorem ps_1 {w l tp x y : Nat} (hx : x < w) (hy : tp ≤ y) : ps w 1 l tp (kx w 1 tp x y) = 576 * l + 24 * y + x := by
  rw [ps_kx (by omega) hx, Nat.div_one, Nat.div_one, Nat.mul_one, Nat.mul_one]
  omega
/-- which layer a sample's colour is of -/
def jl (b1 : Nat) (m : Int32) : Nat := if b1 = 1 ∧ m = nI 1 then 2 else 0
theorem jl_or (b1 : Nat) (m : Int32) : jl b1 m = 0 ∨ jl b1 m = 2 := by unfold jl; split <;> omega
section JA
variable {n w h st bs fs : Nat} {L : LyS}
theorem joinedAt_eq (V : VL n w h st bs fs L) {x y t : Nat} (hx : x < w) (hy : y < h) (e : L.2 4 (y / st) = nI t) (ht : t < 16)
    (hc : ∀ l, l = 0 ∨ l = 2 → bit t l = 1 → Cl (L.2 l (y / st * st * w + kx w (sc bs fs l) (y / st * st) x y))) (l : Nat) (el : l = jl (bit t 1) (L.2 1 (y / st * st * w + kx w 1 (y / st * st) x y))) :
    Layers_joinedAt n L (nI x) (nI y) = some (if bit t l = 1 then L.2 l (y / st * st * w + kx w (sc bs fs l) (y / st * st) x y) else nI 0) := by
  have hb : ∀ l, l = 0 ∨ l = 2 → Layers_joinedAt_b17 n L (nI x) (nI y) (nI l) = some (if bit t l = 1 then L.2 l (y / st * st * w + kx w (sc bs fs l) (y / st * st) x y) else nI 0) := by
    intro l hl
    unfold Layers_joinedAt_b17
    rw [valueAt_eq V hx hy (by omega) e ht, Option.bind_some]
    rcases bit_le t l with q | q
    · rw [q, if_neg (show ¬ (0 : Nat) = 1 by decide), if_neg (show ¬ (0 : Nat) = 1 by decide), if_pos rfl]; rfl
    · rw [q, if_pos rfl, if_pos rfl, if_neg (Cl_ne (hc l hl q))]
  unfold Layers_joinedAt
  rw [show (1 : Int32) = nI 1 from rfl, valueAt_eq V hx hy (show 1 < 4 by decide) e ht, Option.bind_some, sc_1]
  by_cases q : bit t 1 = 1
  · rw [if_pos q]
    by_cases q2 : L.2 1 (y / st * st * w + kx w 1 (y / st * st) x y) = nI 1
    · have hl : l = 2 := by rw [el]; unfold jl; exact if_pos ⟨q, q2⟩
      rw [if_pos q2, hl]; exact hb 2 (Or.inr rfl)
    · have hl : l = 0 := by rw [el]; unfold jl; exact if_neg (fun z => q2 z.2)
      rw [if_neg q2, hl]; exact hb 0 (Or.inl rfl)
  · have hl : l = 0 := by rw [el]; unfold jl; exact if_neg (fun z => q z.1)
    rw [if_neg q, if_neg (show ¬ (-1 : Int32) = nI 1 by decide), hl]; exact hb 0 (Or.inl rfl)
end JA
theorem mjoined_eq {w tp r bs fs st i : Nat} {T : LyS} (D : LD w tp r bs fs) (H : LayR w tp r bs fs T) (e5 : T.1 5 = nI st) (hst : 1 ≤ st ∧ st ≤ 24) (etp : tp = i * st) (hi : i < 24) {x y b1 : Nat} (hx : x < w) (hy : tp ≤ y) (hy2 : y - tp < r) (eth : T.2 4 (4 * i + 1) = nI b1) (hb1 : b1 = 0 ∨ b1 = 1) (l : Nat) (el : l = jl b1 (T.2 2 (576 + 24 * y + x))) :
    Mo_joinedAt T (nI x) (nI y) = some (T.2 2 (ps w (sc bs fs l) l tp (kx w (sc bs fs l) tp x y))) := by
  have hw := D.1
  have hr := D.2.1
  have hm : Mo_masked0 T (nI x) (nI y) = some (if b1 = 1 ∧ T.2 2 (576 + 24 * y + x) = nI 1 then 1 else 0) := by
    unfold Mo_masked0
    have hd : i * st / st = i := Nat.mul_div_cancel i (by omega)
    rw [e5, H.2.1, dz_nI (by omega) (by omega), etp, pk_div (by omega) (by omega) (by omega), hd, ql4, ql1, pk_mul, nI_add, gd_nI (by omega) (by omega), nI_clamp (by omega), eth]
    rcases hb1 with rfl | rfl
    · rw [if_pos e00, if_neg (fun z => by omega)]; rfl
    · rw [if_neg n10, ql24, ql576, pk_mul, nI_add, nI_add, gd_nI (by omega) (by omega), nI_clamp (by omega)]
      by_cases q : T.2 2 (576 + 24 * y + x) = nI 1
      · rw [if_pos q, if_pos ⟨rfl, q⟩]; rfl
      · rw [if_neg q, if_neg (fun z => q z.2)]; rfl
  have hp : ∀ l, l = 0 ∨ l = 2 → ((Mo_placeAt T (nI l) (nI x) (nI y)).bind fun r2 => gd r2 2304 (some (T.2 2 r2.toNatClampNeg))) = some (T.2 2 (ps w (sc bs fs l) l tp (kx w (sc bs fs l) tp x y))) := by
    intro l hl
    have hsc := sc_in (k := l) D.2.2.1 D.2.2.2
    have hk := kx_lt (s := sc bs fs l) hsc.1 hx hy2
    have hpl := ps_lt (l := l) hsc.1 hw.2 hr.2 hk
    rw [placeAt_eq D H (by omega) (by omega) (by omega) hy, Option.bind_some, ← ps_kx hsc.1 hx, gd_nI (by omega) (by omega), nI_clamp (by omega)]
  unfold Mo_joinedAt
  rw [hm, Option.bind_some]
  by_cases q : b1 = 1 ∧ T.2 2 (576 + 24 * y + x) = nI 1
  · have hl : l = 2 := by rw [el]; unfold jl; exact if_pos q
    rw [if_pos q, if_neg ne10, hl]; exact hp 2 (Or.inr rfl)
  · have hl : l = 0 := by rw [el]; unfold jl; exact if_neg q
    rw [if_neg q, if_pos rfl, hl]; exact hp 0 (Or.inl rfl)
theorem op_joined (fu : Nat) : Op_joined Rel fu := by
  rintro n ⟨wd, ht, stp, col, msk, bare, M, F, Bw, Bf, pl, rf, hd⟩ S p1 p2 ⟨w, h, st, d, hn, e1, e2, e3, R⟩
  dsimp only at e1 e2 e3 R ⊢
  subst e1 e2 e3
  have ⟨A11, A12, A13⟩ := R.1
  have tR : ∀ v, Rel n (nI w, nI h, nI st, col, msk, bare, M, F, Bw, Bf, pl, rf, hd) (Lf S 0 v) := fun v => ⟨w, h, st, d, hn, rfl, rfl, rfl, RL_t v R⟩
  unfold Mo_joined ML_joined ML_joined_t
  rw [refusal_eq A11 A12]
  rcases R.2.2.2.1.2 with ⟨y1, y2⟩ | ⟨y1, st', bs, fs, cnt, V, hc, y2, y3, y5, y6, y7, hst⟩
  · rw [y1, y2]
    simp only [if_pos e00, Option.bind_some]
    rw [lf_s, if_neg (show ¬ (1 : Int32) ≤ 0 by decide)]
    exact ⟨_, rfl, Or.inr (Or.inl ⟨by trivial, lf_s, tR 1⟩)⟩
  · have hne : ¬ nI cnt = 0 := nI_ne0 (by omega) (by omega)
    have hL : Layers_hasSample n M p1 p2 = hsB (nI w) (nI h) p1 p2 := by rw [← V.2.2.2.2.2.2.1, ← V.2.2.2.2.2.2.2.1]; rfl
    rw [y1, y2, hL]
    simp only [if_neg hne, if_neg n10]
    have hd1 := d.1
    have hd2 := d.2.1
    rcases hsB_cases (w := w) (h := h) (by omega) (by omega) p1 p2 with c | ⟨x, y, hx, hy, rfl, rfl, c⟩
    · rw [c]
      simp only [Option.bind_some, if_pos]
      rw [lf_s, if_neg (show ¬ (2 : Int32) ≤ 0 by decide)]
      exact ⟨_, rfl, Or.inr (Or.inr ⟨by trivial, lf_s, tR 2⟩)⟩
    · rw [c]
      simp only [Option.bind_some, if_neg ne10]
      rw [lf_s, if_pos le00]
      have hV := V
      obtain ⟨hw, hh, hst', hb, hf, hnn, -⟩ := hV
      obtain ⟨T, u1, u2, u3, u4⟩ := layMade_eq (S := Lf S 0 0) (w := w) (h := h) (st := st') (bs := bs) (fs := fs) A11 A12 y5 y6 y7 hst' (by omega) hy
      have hi := div_lt_cd hst'.1 hy
      obtain ⟨t, ht, s1, s2, s3, s4, s5⟩ := hst (y / st') hi
      have hi24 := cd_24 hst'.1 hh.2
      have hyr := y_hs hst'.1 hy
      have hih := hs_h hi hst'.1
      have hD : LD w (y / st' * st') (hs h st' (y / st')) bs fs := ⟨hw, ⟨hih.2, by omega⟩, hb, hf⟩
      have hkl : ∀ l, kx w (sc bs fs l) (y / st' * st') x y < mny w (sc bs fs l) (hs h st' (y / st')) := fun l => kx_lt (sc_in (k := l) hb hf).1 hx hyr.1
      have hT2 : T.2 = S.2 := u3
      have hm1 : bit t 1 = 1 → M.2 1 (y / st' * st' * w + kx w 1 (y / st' * st') x y) = T.2 2 (576 + 24 * y + x) := by
        intro q
        rw [hT2]
        have := (s3 1 _ (by decide) q (hkl 1)).1
        rw [sc_1, ps_1 hx hyr.2] at this
        exact this
      have hjl : jl (bit t 1) (M.2 1 (y / st' * st' * w + kx w 1 (y / st' * st') x y)) = jl (bit t 1) (T.2 2 (576 + 24 * y + x)) := by
        rcases bit_le t 1 with q | q
        · unfold jl; rw [q, if_neg (fun z => by omega), if_neg (fun z => by omega)]
        · rw [hm1 q]
      have e5 : T.1 5 = nI st' := by rw [u4 5 (by decide)]; exact y5
      have eth : T.2 4 (4 * (y / st') + 1) = nI (bit t 1) := by rw [hT2]; exact s2 1 (by decide)
      have g1 := joinedAt_eq V hx hy s1 ht (fun l hl q => by
        have := (s3 l _ (by omega) q (hkl l)).2
        unfold Vl at this
        rw [if_neg (by omega)] at this
        exact this) _ rfl
      have g2 := mjoined_eq hD u2 e5 hst' rfl (by omega) hx hyr.2 hyr.1 eth (bit_le t 1) _ rfl
      rw [← hjl] at g2
      rw [u1, g1]
      simp only [Option.bind_some]
      rw [g2]
      have hbit : bit t (jl (bit t 1) (M.2 1 (y / st' * st' * w + kx w 1 (y / st' * st') x y))) = 1 := by
        have h5 := s5 (kx w 1 (y / st' * st') x y) (by have := hkl 1; rw [sc_1, mny_1] at this; exact this)
        unfold jl
        by_cases q : bit t 1 = 1 ∧ M.2 1 (y / st' * st' * w + kx w 1 (y / st' * st') x y) = nI 1
        · rw [if_pos q] at h5 ⊢; exact h5
        · rw [if_neg q] at h5 ⊢; exact h5
      rw [if_pos hbit]
      refine ⟨_, rfl, Or.inl ⟨_, rfl, ?_, ?_, w, h, st, d, hn, rfl, rfl, rfl, RL_fr (RL_t 0 R) (fun k h1 h2 _ _ => u4 k (by omega)) (fun k _ _ => by rw [u3])⟩⟩
      · show T.1 0 = 0
        rw [u4 0 (by decide)]; rfl
      · show T.2 2 _ = M.2 _ _
        rw [hT2]
        have := jl_or (bit t 1) (M.2 1 (y / st' * st' * w + kx w 1 (y / st' * st') x y))
        exact ((s3 _ _ (by omega) hbit (hkl _)).1).symm
