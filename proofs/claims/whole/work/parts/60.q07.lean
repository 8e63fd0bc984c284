theorem le00 : (0 : Int32) ≤ 0 := by decide
theorem n10 : ¬ nI 1 = 0 := by decide
theorem n01 : ¬ nI 0 = 1 := by decide
theorem n11 : nI 1 = 1 := rfl
/-- the reference's view of a stripe -/
def LayR (w tp r bs fs : Nat) (T : LyS) : Prop := T.1 15 = nI w ∧ T.1 16 = nI tp ∧ T.1 17 = nI r ∧ T.1 18 = nI fs ∧ T.1 19 = nI bs
def LD (w tp r bs fs : Nat) : Prop := (1 ≤ w ∧ w ≤ 24) ∧ (1 ≤ r ∧ tp + r ≤ 24) ∧ (1 ≤ bs ∧ bs ≤ 8) ∧ (1 ≤ fs ∧ fs ≤ 8)
section LAY
variable {w tp r bs fs : Nat} {T : LyS}
theorem scale_eq (H : LayR w tp r bs fs T) {l : Nat} (hl : l < 4) : Mo_scale T (nI l) = some (nI (sc bs fs l)) := by
  obtain ⟨h1, h2, h3, h4, h5⟩ := H
  unfold Mo_scale sc
  rw [h4, h5]
  simp (disch := omega) only [ql0, ql1, ql2, ql3, ql4, ql5, ql6, ql7, ql8, ql16, ql24, ql76, ql77, ql160, ql175, ql255, ql576, ql1728, ql2304, ql6400, ql16777215, nI_add, pk_mul, pk_sub, pk_div, pk_rem, nI_ltI, nI_leI, nI_eq, nI_clamp, gd_nI, dz_nI, zb_0, zb_1, Option.bind_some, mn_eq, mx_eq]
  by_cases q : l = 0
  · rw [if_pos q, if_pos q]
  · rw [if_neg q, if_neg q]
    by_cases q2 : l = 2
    · rw [if_pos q2, if_pos q2]
    · rw [if_neg q2, if_neg q2]
theorem across_eq (D : LD w tp r bs fs) (H : LayR w tp r bs fs T) {l : Nat} (hl : l < 4) : Mo_across T (nI l) = some (nI (cd w (sc bs fs l))) := by
  have hs := sc_in (k := l) D.2.2.1 D.2.2.2
  have h1 := D.1
  unfold Mo_across
  rw [scale_eq H hl]
  simp only [Option.bind_some]
  rw [H.1]
  simp (disch := omega) only [ql0, ql1, ql2, ql3, ql4, ql5, ql6, ql7, ql8, ql16, ql24, ql76, ql77, ql160, ql175, ql255, ql576, ql1728, ql2304, ql6400, ql16777215, nI_add, pk_mul, pk_sub, pk_div, pk_rem, nI_ltI, nI_leI, nI_eq, nI_clamp, gd_nI, dz_nI, zb_0, zb_1, Option.bind_some, mn_eq, mx_eq]
  rfl
theorem count_eq (D : LD w tp r bs fs) (H : LayR w tp r bs fs T) {l : Nat} (hl : l < 4) : Mo_count T (nI l) = some (nI (mny w (sc bs fs l) r)) := by
  have hs := sc_in (k := l) D.2.2.1 D.2.2.2
  have h1 := D.2.1
  unfold Mo_count
  rw [across_eq D H hl, scale_eq H hl]
  simp only [Option.bind_some]
  rw [H.2.2.1]
  simp (disch := omega) only [ql0, ql1, ql2, ql3, ql4, ql5, ql6, ql7, ql8, ql16, ql24, ql76, ql77, ql160, ql175, ql255, ql576, ql1728, ql2304, ql6400, ql16777215, nI_add, pk_mul, pk_sub, pk_div, pk_rem, nI_ltI, nI_leI, nI_eq, nI_clamp, gd_nI, dz_nI, zb_0, zb_1, Option.bind_some, mn_eq, mx_eq]
  rfl
theorem place_eq (D : LD w tp r bs fs) (H : LayR w tp r bs fs T) {l k : Nat} (hl : l < 4) (hk : k < 2 ^ 20) : Mo_place T (nI l) (nI k) = some (nI (ps w (sc bs fs l) l tp k)) := by
  have hs := sc_in (k := l) D.2.2.1 D.2.2.2
  have h1 := D.1
  have h2 : 1 ≤ cd w (sc bs fs l) := cd_pos (by omega) (by omega)
  have h3 : cd w (sc bs fs l) ≤ w := cd_le (by omega)
  unfold Mo_place
  rw [scale_eq H hl, across_eq D H hl]
  simp only [Option.bind_some]
  rw [H.2.1, pk_rem (a := k) (by omega) (by omega) (by omega)]
  simp (disch := omega) only [ql0, ql1, ql2, ql3, ql4, ql5, ql6, ql7, ql8, ql16, ql24, ql76, ql77, ql160, ql175, ql255, ql576, ql1728, ql2304, ql6400, ql16777215, nI_add, pk_mul, pk_sub, pk_div, pk_rem, nI_ltI, nI_leI, nI_eq, nI_clamp, gd_nI, dz_nI, zb_0, zb_1, Option.bind_some, mn_eq, mx_eq]
  rfl
theorem placeAt_eq (D : LD w tp r bs fs) (H : LayR w tp r bs fs T) {l x y : Nat} (hl : l < 4) (hx : x < 2 ^ 20) (hy : y < 2 ^ 20) (ht : tp ≤ y) : Mo_placeAt T (nI l) (nI x) (nI y) = some (nI (576 * l + 24 * (tp + (y - tp) / sc bs fs l * sc bs fs l) + x / sc bs fs l * sc bs fs l)) := by
  have hs := sc_in (k := l) D.2.2.1 D.2.2.2
  unfold Mo_placeAt
  rw [scale_eq H hl]
  simp only [Option.bind_some]
  rw [H.2.1]
  simp (disch := omega) only [ql0, ql1, ql2, ql3, ql4, ql5, ql6, ql7, ql8, ql16, ql24, ql76, ql77, ql160, ql175, ql255, ql576, ql1728, ql2304, ql6400, ql16777215, nI_add, pk_mul, pk_sub, pk_div, pk_rem, nI_ltI, nI_leI, nI_eq, nI_clamp, gd_nI, dz_nI, zb_0, zb_1, Option.bind_some, mn_eq, mx_eq]
theorem plain_eq (D : LD w tp r bs fs) (H : LayR w tp r bs fs T) {l : Nat} (hl : l < 4) : Mo_plainSize T (nI l) = some (nI (if l = 1 then (mny w (sc bs fs l) r + 7) / 8 else 3 * mny w (sc bs fs l) r)) := by
  have hm : mny w (sc bs fs l) r ≤ 576 := by
    have hs := sc_in (k := l) D.2.2.1 D.2.2.2
    unfold mny
    have h1 : cd w (sc bs fs l) ≤ w := cd_le (by omega)
    have h2 : cd r (sc bs fs l) ≤ r := cd_le (by omega)
    have := D.1
    have := D.2.1
    calc _ ≤ 24 * 24 := Nat.mul_le_mul (by omega) (by omega)
      _ = 576 := rfl
  unfold Mo_plainSize
  rw [count_eq D H hl]
  simp only [Option.bind_some]
  simp (disch := omega) only [ql0, ql1, ql2, ql3, ql4, ql5, ql6, ql7, ql8, ql16, ql24, ql76, ql77, ql160, ql175, ql255, ql576, ql1728, ql2304, ql6400, ql16777215, nI_add, pk_mul, pk_sub, pk_div, pk_rem, nI_ltI, nI_leI, nI_eq, nI_clamp, gd_nI, dz_nI, zb_0, zb_1, Option.bind_some, mn_eq, mx_eq]
  by_cases q : l = 1
  · rw [if_pos q, if_pos q]
  · rw [if_neg q, if_neg q]
end LAY
theorem mny_le {w s r : Nat} (hs : 1 ≤ s) : mny w s r ≤ w * r := Nat.mul_le_mul (cd_le hs) (cd_le hs)
theorem mny_1 {w r : Nat} : mny w 1 r = w * r := by unfold mny; rw [cd_1, cd_1]
/-- the place of a sample's value in its stripe -/
def kx (w s tp x y : Nat) : Nat := (y - tp) / s * cd w s + x / s
theorem kx_lt {w s r tp x y : Nat} (hs : 1 ≤ s) (hx : x < w) (hy : y - tp < r) : kx w s tp x y < mny w s r := by
  unfold kx mny
  exact ix_lt (cd_lt hs hx) (cd_lt hs hy)
theorem dm_c {a c q : Nat} (h : c < a) : (q * a + c) / a = q ∧ (q * a + c) % a = c := by
  have : (q * a + c) / a = q := by rw [Nat.mul_comm, Nat.mul_add_div (by omega), Nat.div_eq_of_lt h]; rfl
  refine ⟨this, ?_⟩
  rw [Nat.mul_comm, Nat.mul_add_mod, Nat.mod_eq_of_lt h]
theorem ps_kx {w s l tp x y : Nat} (hs : 1 ≤ s) (hx : x < w) : ps w s l tp (kx w s tp x y) = 576 * l + 24 * (tp + (y - tp) / s * s) + x / s * s := by
  unfold ps kx
  obtain ⟨h1, h2⟩ := dm_c (q := (y - tp) / s) (cd_lt hs hx)
  rw [h1, h2]
theorem ps_lt {w s l tp r k : Nat} (hs : 1 ≤ s) (hw : w ≤ 24) (hr : tp + r ≤ 24) (hk : k < mny w s r) : ps w s l tp k < 576 * l + 576 ∧ 576 * l ≤ ps w s l tp k ∧ k / cd w s * s < r ∧ k % cd w s * s < w := by
  unfold mny at hk
  have hc : 0 < cd w s := by
    rcases Nat.eq_zero_or_pos (cd w s) with q | q
    · rw [q, Nat.zero_mul] at hk; omega
    · exact q
  have h1 : k / cd w s < cd r s := by
    rw [Nat.mul_comm] at hk
    exact (Nat.div_lt_iff_lt_mul hc).mpr hk
  have h2 : k % cd w s < cd w s := Nat.mod_lt _ hc
  have h3 := cd_mul hs h1
  have h4 := cd_mul hs h2
  unfold ps
  omega
theorem bits_has : ∀ t : Fin 16, ∀ l : Fin 4, ((nI t.1 >>> (nI l.1 &&& 31)) &&& 1) = nI (bit t.1 l.1) := by decide +kernel
theorem bit_le (t l : Nat) : bit t l = 0 ∨ bit t l = 1 := by
  unfold bit
  have := Nat.mod_lt (t / 2 ^ l) (show 0 < 2 by decide)
  omega
theorem has_eq {n : Nat} {L : LyS} {i t l : Nat} (hi : i < 24) (e : L.2 4 i = nI t) (ht : t < 16) (hl : l < 4) : Layers_has n L (nI i) (nI l) = some (nI (bit t l)) := by
  unfold Layers_has
  rw [lyh_eq hi, Option.bind_some, if_neg (show ¬ (1 : Int32) = 0 by decide), gd_nI hi (by omega), nI_clamp (by omega), e, bits_has ⟨t, ht⟩ ⟨l, hl⟩]
  rcases bit_le t l with q | q
  · show (if nI (bit t l) = 1 then _ else _) = _
    rw [q, if_neg (by decide)]; rfl
  · show (if nI (bit t l) = 1 then _ else _) = _
    rw [q, if_pos (by decide)]; rfl
theorem div_lt_cd {h st y : Nat} (hst : 1 ≤ st) (hy : y < h) : y / st < cd h st := cd_lt hst hy
theorem cd_24 {h st : Nat} (hst : 1 ≤ st) (hh : h ≤ 24) : cd h st ≤ 24 := by have := cd_le (a := h) hst; omega
theorem y_hs {h st y : Nat} (hst : 1 ≤ st) (hy : y < h) : y - y / st * st < hs h st (y / st) ∧ y / st * st ≤ y := by
  have h1 : y / st * st ≤ y := Nat.div_mul_le_self y st
  have h2 : y < y / st * st + st := by
    have := Nat.lt_div_mul_add (a := y) (b := st) (by omega)
    omega
  unfold hs
  omega
theorem plc_lt {n w h st i k r : Nat} (hn : w * h ≤ n) (hr : i * st + r ≤ h) (hk : k < w * r) : i * st * w + k < n := by
  have h1 : (i * st + r) * w ≤ h * w := Nat.mul_le_mul_right w hr
  rw [Nat.add_mul, Nat.mul_comm h w, Nat.mul_comm r w] at h1
  omega
section VA
variable {n w h st bs fs : Nat} {L : LyS}
/-- a sample's value in a layer -/
theorem valueAt_eq (V : VL n w h st bs fs L) {x y l t : Nat} (hx : x < w) (hy : y < h) (hl : l < 4) (e : L.2 4 (y / st) = nI t) (ht : t < 16) : Layers_valueAt n L (nI l) (nI x) (nI y) = some (if bit t l = 1 then L.2 l (y / st * st * w + kx w (sc bs fs l) (y / st * st) x y) else -1) := by
  have V' := V
  obtain ⟨hw, hh, hst, hb, hf, hn, e0, e1, e2, e5, e6⟩ := V
  have hsc := sc_in (k := l) hb hf
  have hi := div_lt_cd hst.1 hy
  have hc := cd_24 hst.1 hh.2
  have hyr := y_hs hst.1 hy
  have hih := hs_h hi hst.1
  have hk := kx_lt (s := sc bs fs l) hsc.1 hx hyr.1
  have hm := mny_le (w := w) (s := sc bs fs l) (r := hs h st (y / st)) hsc.1
  have hp := plc_lt hn.1 hih.1 (k := kx w (sc bs fs l) (y / st * st) x y) (by omega)
  unfold Layers_valueAt
  rw [stripeOf_eq V' (by omega), Option.bind_some, has_eq (by omega) e ht hl, Option.bind_some]
  rcases bit_le t l with q | q
  · rw [q, if_pos e00, if_neg (by decide)]
  · rw [q, if_neg (by decide), if_pos rfl, placeOf_eq V' hl hx hy, Option.bind_some]
    have : y / st * st * w + (y - y / st * st) / sc bs fs l * cd w (sc bs fs l) + x / sc bs fs l = y / st * st * w + kx w (sc bs fs l) (y / st * st) x y := by
      unfold kx; omega
    rw [this, lyv_eq hl hp (by omega)]; rfl
end VA
theorem lay_eq {S : LyS} {w h st i : Nat} (hi : i * st ≤ h) (hst : st ≤ 24) (hh : h ≤ 24) : ∃ T, Mo_lay S (nI w) (nI h) (nI st) (nI i) = some T ∧ T.1 15 = nI w ∧ T.1 16 = nI (i * st) ∧ T.1 17 = nI (hs h st i) ∧ T.2 = S.2 ∧ ∀ k, k ≠ 15 → k ≠ 16 → k ≠ 17 → T.1 k = S.1 k := by
  unfold Mo_lay
  have e : (Lf (Lf S 15 (nI w)) 16 (nI st * nI i)).1 16 = nI (i * st) := by rw [lf_s, pk_mul, Nat.mul_comm]
  rw [e, pk_sub hi, pk_mul]
  by_cases q : st ≤ h - i * st
  · rw [if_pos (nI_le q (by omega))]
    refine ⟨_, rfl, rfl, by rw [Nat.mul_comm i]; rfl, by unfold hs; rw [Nat.min_eq_left q]; rfl, rfl, ?_⟩
    intro k h1 h2 h3
    rw [lf_n h3, lf_n h2, lf_n h1]
  · rw [if_neg (nI_ge (by omega) (by omega))]
    refine ⟨_, rfl, rfl, by rw [Nat.mul_comm i]; rfl, by unfold hs; rw [Nat.min_eq_right (by omega)]; rfl, rfl, ?_⟩
    intro k h1 h2 h3
    rw [lf_n h3, lf_n h2, lf_n h1]
theorem layMade_eq {S : LyS} {w h st bs fs y : Nat} (e1 : S.1 1 = nI w) (e2 : S.1 2 = nI h) (e5 : S.1 5 = nI st) (e6 : S.1 6 = nI fs) (e7 : S.1 7 = nI bs) (hst : 1 ≤ st ∧ st ≤ 24) (hh : h ≤ 24) (hy : y < h) : ∃ T, Mo_layMade S (nI y) = some (nI (y / st), T) ∧ LayR w (y / st * st) (hs h st (y / st)) bs fs T ∧ T.2 = S.2 ∧ ∀ k, k < 15 → T.1 k = S.1 k := by
  unfold Mo_layMade
  let S1 := Lf (Lf S 18 (S.1 6)) 19 ((Lf S 18 (S.1 6)).1 7)
  have hS1 : S1 = Lf (Lf S 18 (S.1 6)) 19 ((Lf S 18 (S.1 6)).1 7) := rfl
  rw [← hS1]
  have z1 : S1.1 1 = nI w := e1
  have z2 : S1.1 2 = nI h := e2
  have z5 : S1.1 5 = nI st := e5
  have hle : y / st * st ≤ y := Nat.div_mul_le_self y st
  obtain ⟨T, t1, t2, t3, t4, t5, t6⟩ := lay_eq (S := S1) (w := w) (h := h) (st := st) (i := y / st) (by omega) hst.2 hh
  refine ⟨T, ?_, ⟨t2, t3, t4, ?_, ?_⟩, t5, ?_⟩
  · rw [z1, z2, z5, dz_nI (by omega) (by omega), pk_div (by omega) (by omega) (by omega), t1, Option.bind_some, t6 5 (by decide) (by decide) (by decide), z5, dz_nI (by omega) (by omega), pk_div (by omega) (by omega) (by omega)]
  · rw [t6 18 (by decide) (by decide) (by decide)]; exact e6
  · rw [t6 19 (by decide) (by decide) (by decide)]; exact e7
  · intro k hk
    rw [t6 k (by omega) (by omega) (by omega), hS1, lf_n (by omega), lf_n (by omega)]
theorem refusal_eq {S : LyS} {w h : Nat} (e1 : S.1 1 = nI w) (e2 : S.1 2 = nI h) (p1 p2 : Int32) : Mo_refusal S p1 p2 = if S.1 4 = 0 then some 1 else (hsB (nI w) (nI h) p1 p2).bind fun r => if r = 0 then some 2 else some 0 := by
  unfold Mo_refusal
  rw [← e1, ← e2]; rfl
theorem op_layer (fu : Nat) : Op_layer Rel fu := by
  rintro n ⟨wd, ht, stp, col, msk, bare, M, F, Bw, Bf, pl, rf, hd⟩ S p1 p2 p3 ⟨w, h, st, d, hn, e1, e2, e3, R⟩
  dsimp only at e1 e2 e3 R ⊢
  subst e1 e2 e3
  have ⟨A11, A12, A13⟩ := R.1
  have tt : ∀ v : Int32, ¬ v ≤ 0 → Mo_layer_b33 S p1 p2 p3 v = some (0, Lf S 0 v) := by
    intro v hv; unfold Mo_layer_b33; rw [lf_s, if_neg hv]
  have tR : ∀ v, Rel n (nI w, nI h, nI st, col, msk, bare, M, F, Bw, Bf, pl, rf, hd) (Lf S 0 v) := fun v => ⟨w, h, st, d, hn, rfl, rfl, rfl, RL_t v R⟩
  unfold Mo_layer ML_layer ML_layer_t
  rw [refusal_eq A11 A12]
  rcases R.2.2.2.1.2 with ⟨y1, y2⟩ | ⟨y1, st', bs, fs, cnt, V, hc, y2, y3, y5, y6, y7, hst⟩
  · rw [y1, y2]
    simp only [if_pos e00, Option.bind_some]
    rw [if_neg (by decide), tt 1 (by decide)]
    exact ⟨_, rfl, Or.inr (Or.inl ⟨by trivial, lf_s, tR 1⟩)⟩
  · have hne : ¬ nI cnt = 0 := nI_ne0 (by omega) (by omega)
    have hn1 : ¬ nI 1 = 0 := by decide
    have hL : Layers_hasSample n M p2 p3 = hsB (nI w) (nI h) p2 p3 := by rw [← V.2.2.2.2.2.2.1, ← V.2.2.2.2.2.2.2.1]; rfl
    rw [y1, y2, hL]
    simp only [if_neg hne, if_neg hn1]
    have hd1 := d.1
    have hd2 := d.2.1
    rcases hsB_cases (w := w) (h := h) (by omega) (by omega) p2 p3 with c | ⟨x, y, hx, hy, rfl, rfl, c⟩
    · rw [c]
      simp only [Option.bind_some, if_pos, if_neg (show ¬ (2 : Int32) ≤ 0 by decide)]
      rw [tt 2 (by decide)]
      exact ⟨_, rfl, Or.inr (Or.inr (Or.inl ⟨by trivial, lf_s, tR 2⟩))⟩
    · rw [c]
      simp only [Option.bind_some, if_neg ne10, if_pos (show (0 : Int32) ≤ 0 by decide)]
      have t3 : Mo_layer_b28 S p1 (nI x) (nI y) = some (0, Lf S 0 3) := tt 3 (by decide)
      by_cases c1 : p1 < 0
      · simp only [if_pos c1]
        rw [t3]
        exact ⟨_, rfl, Or.inr (Or.inr (Or.inr ⟨by trivial, lf_s, tR 3⟩))⟩
      · simp only [if_neg c1]
        by_cases c2 : p1 ≤ 3
        · simp only [if_pos c2]
          obtain ⟨l, hl, rfl⟩ := nI_of2 (M := 3) (n := 3) (by decide) c1 c2
          have hV := V
          obtain ⟨hw, hh, hst', hb, hf, hnn, -⟩ := hV
          obtain ⟨T, u1, u2, u3, u4⟩ := layMade_eq (S := Lf S 0 0) (w := w) (h := h) (st := st') (bs := bs) (fs := fs) A11 A12 y5 y6 y7 hst' (by omega) hy
          have hi := div_lt_cd hst'.1 hy
          obtain ⟨t, ht, s1, s2, s3, s4, s5⟩ := hst (y / st') hi
          have hi24 := cd_24 hst'.1 hh.2
          have hyr := y_hs hst'.1 hy
          have hih := hs_h hi hst'.1
          have hsc := sc_in (k := l) hb hf
          rw [valueAt_eq V hx hy (show l < 4 by omega) s1 ht]
          have hth : T.2 4 (4 * (y / st') + l) = nI (bit t l) := by rw [u3]; exact s2 l (by omega)
          have hb33 : Mo_layer_b33 S (nI l) (nI x) (nI y) 0 = some (if bit t l = 1 then M.2 l (y / st' * st' * w + kx w (sc bs fs l) (y / st' * st') x y) else -1, T) := by
            unfold Mo_layer_b33
            rw [lf_s, if_pos (by decide), u1, Option.bind_some, ql4, pk_mul, nI_add, gd_nI (by omega) (by omega), nI_clamp (by omega), hth]
            rcases bit_le t l with q | q
            · rw [q, if_pos e00, if_neg (by decide)]
            · have hk := kx_lt (s := sc bs fs l) hsc.1 hx hyr.1
              have hD : LD w (y / st' * st') (hs h st' (y / st')) bs fs := ⟨hw, ⟨hih.2, by omega⟩, hb, hf⟩
              have hp := ps_lt (l := l) hsc.1 hw.2 (show y / st' * st' + hs h st' (y / st') ≤ 24 by omega) hk
              rw [q, if_neg (by decide), if_pos rfl, placeAt_eq hD u2 (by omega) (by omega) (by omega) hyr.2, Option.bind_some, ← ps_kx hsc.1 hx, gd_nI (by omega) (by omega), nI_clamp (by omega), u3, (s3 l _ (by omega) q hk).1]
              rfl
          rw [hb33]
          refine ⟨_, rfl, Or.inl ⟨_, rfl, ?_, rfl, w, h, st, d, hn, rfl, rfl, rfl, RL_fr (RL_t 0 R) ?_ ?_⟩⟩
          · show T.1 0 = 0
            rw [u4 0 (by decide)]; rfl
          · intro k h1 h2 _ _
            exact u4 k (by omega)
          · intro k _ _
            rw [u3]
        · simp only [if_neg c2]
          rw [t3]
          exact ⟨_, rfl, Or.inr (Or.inr (Or.inr ⟨by trivial, lf_s, tR 3⟩))⟩
theorem op_filled (fu : Nat) : Op_filled Rel fu := by
  rintro n ⟨wd, ht, stp, col, msk, bare, M, F, Bw, Bf, pl, rf, hd⟩ S p1 p2 p3 ⟨w, h, st, d, hn, e1, e2, e3, R⟩
  dsimp only at e1 e2 e3 R ⊢
  subst e1 e2 e3
  have ⟨A11, A12, A13⟩ := R.1
  have tt : ∀ v : Int32, ¬ v ≤ 0 → Mo_filled_b33 S p1 p2 p3 v = some (0, Lf S 0 v) := by
    intro v hv; unfold Mo_filled_b33; rw [lf_s, if_neg hv]; rfl
  have tR : ∀ v, Rel n (nI w, nI h, nI st, col, msk, bare, M, F, Bw, Bf, pl, rf, hd) (Lf S 0 v) := fun v => ⟨w, h, st, d, hn, rfl, rfl, rfl, RL_t v R⟩
  unfold Mo_filled ML_filled ML_filled_t
  rw [refusal_eq A11 A12]
  rcases R.2.2.2.1.2 with ⟨y1, y2⟩ | ⟨y1, st', bs, fs, cnt, V, hc, y2, y3, y5, y6, y7, hst⟩
  · rw [y1, y2]
    simp only [if_pos e00, Option.bind_some]
    rw [if_neg (by decide), tt 1 (by decide)]
    exact ⟨_, rfl, Or.inr (Or.inl ⟨by trivial, lf_s, tR 1⟩)⟩
  · have hne : ¬ nI cnt = 0 := nI_ne0 (by omega) (by omega)
    have hn1 : ¬ nI 1 = 0 := by decide
    have hL : Layers_hasSample n M p2 p3 = hsB (nI w) (nI h) p2 p3 := by rw [← V.2.2.2.2.2.2.1, ← V.2.2.2.2.2.2.2.1]; rfl
    rw [y1, y2, hL]
    simp only [if_neg hne, if_neg hn1]
    have hd1 := d.1
    have hd2 := d.2.1
    rcases hsB_cases (w := w) (h := h) (by omega) (by omega) p2 p3 with c | ⟨x, y, hx, hy, rfl, rfl, c⟩
    · rw [c]
      simp only [Option.bind_some, if_pos, if_neg (show ¬ (2 : Int32) ≤ 0 by decide)]
      rw [tt 2 (by decide)]
      exact ⟨_, rfl, Or.inr (Or.inr (Or.inl ⟨by trivial, lf_s, tR 2⟩))⟩
    · rw [c]
      simp only [Option.bind_some, if_neg ne10, if_pos (show (0 : Int32) ≤ 0 by decide)]
      have key : ∀ l, l = 0 ∨ l = 2 → p1 = nI l → ∃ b : Nat, (b = 0 ∨ b = 1) ∧ Maker_wasFilled n col msk bare M p1 (nI x) (nI y) = some (nI b) ∧ ∃ T, Mo_filled_b32 S p1 (nI x) (nI y) = some (nI b, T) ∧ T.1 0 = 0 ∧ Rel n (nI w, nI h, nI st, col, msk, bare, M, F, Bw, Bf, pl, rf, hd) T := by
        rintro l hl rfl
        have hl4 : l < 4 := by omega
        have hV := V
        obtain ⟨hw, hh, hst', hb, hf, hnn, -⟩ := hV
        obtain ⟨T, u1, u2, u3, u4⟩ := layMade_eq (S := Lf S 0 0) (w := w) (h := h) (st := st') (bs := bs) (fs := fs) A11 A12 y5 y6 y7 hst' (by omega) hy
        have hi := div_lt_cd hst'.1 hy
        obtain ⟨t, ht, s1, s2, s3, s4, s5⟩ := hst (y / st') hi
        have hi24 := cd_24 hst'.1 hh.2
        have hyr := y_hs hst'.1 hy
        have hih := hs_h hi hst'.1
        have hsc := sc_in (k := l) hb hf
        have hk := kx_lt (s := sc bs fs l) hsc.1 hx hyr.1
        have hm := mny_le (w := w) (s := sc bs fs l) (r := hs h st' (y / st')) hsc.1
        have hpl := plc_lt hnn.1 hih.1 (k := kx w (sc bs fs l) (y / st' * st') x y) (by omega)
        have hth : T.2 4 (4 * (y / st') + l) = nI (bit t l) := by rw [u3]; exact s2 l (by omega)
        have hrel : Rel n (nI w, nI h, nI st, col, msk, bare, M, F, Bw, Bf, pl, rf, hd) T := ⟨w, h, st, d, hn, rfl, rfl, rfl, RL_fr (RL_t 0 R) (fun k h1 h2 _ _ => u4 k (by omega)) (fun k _ _ => by rw [u3])⟩
        have hT0 : T.1 0 = 0 := by rw [u4 0 (by decide)]; rfl
        unfold Maker_wasFilled Mo_filled_b32 Mo_filled_b33
        rw [placeOf_eq V hl4 hx hy, Option.bind_some, stripeOf_eq V (by omega), Option.bind_some, has_eq (by omega) s1 ht hl4, Option.bind_some, lf_s, if_pos le00, u1, Option.bind_some, ql4, pk_mul, nI_add, gd_nI (k := 4 * (y / st') + l) (m := 96) (by omega) (by omega), nI_clamp (show 4 * (y / st') + l < 2 ^ 31 by omega), hth]
        rcases bit_le t l with q | q
        · rw [q, if_pos e00, if_pos e00]
          exact ⟨0, Or.inl rfl, rfl, T, rfl, hT0, hrel⟩
        · have hD : LD w (y / st' * st') (hs h st' (y / st')) bs fs := ⟨hw, ⟨hih.2, by omega⟩, hb, hf⟩
          have hp := ps_lt (l := l) hsc.1 hw.2 (show y / st' * st' + hs h st' (y / st') ≤ 24 by omega) hk
          obtain ⟨b, hb16, s41, s42⟩ := s4 l _ hl q hk
          have epl : y / st' * st' * w + (y - y / st' * st') / sc bs fs l * cd w (sc bs fs l) + x / sc bs fs l = y / st' * st' * w + kx w (sc bs fs l) (y / st' * st') x y := by
            unfold kx; omega
          rw [q, if_neg n10, if_neg n10, epl, mkh_eq hpl (by omega), Option.bind_some, if_neg (show ¬ (1 : Int32) = 0 by decide), gd_nI hpl (by omega), nI_clamp (by omega), s41, bits_has ⟨b, hb16⟩ ⟨l, hl4⟩, placeAt_eq hD u2 (by omega) (by omega) (by omega) hyr.2, Option.bind_some, ← ps_kx hsc.1 hx, gd_nI (by omega) (by omega), nI_clamp (by omega), u3]
          have s42' : (Lf S 0 0).2 3 (ps w (sc bs fs l) l (y / st' * st') (kx w (sc bs fs l) (y / st' * st') x y)) = nI (bit b l) := s42
          rw [s42']
          show ∃ b_1 : Nat, _ ∧ (if nI (bit b l) = 1 then _ else _) = _ ∧ _
          rcases bit_le b l with q2 | q2
          · rw [q2, if_neg n01, if_pos e00]
            exact ⟨0, Or.inl rfl, rfl, T, rfl, hT0, hrel⟩
          · rw [q2, if_pos n11, if_neg n10]
            exact ⟨1, Or.inr rfl, rfl, T, rfl, hT0, hrel⟩
      by_cases c1 : p1 = 0
      · simp only [if_pos c1]
        obtain ⟨b, hb, k1, T, k2, k3, k4⟩ := key 0 (Or.inl rfl) c1
        rw [k1, k2]
        refine ⟨_, rfl, Or.inl ⟨_, ?_, k3, rfl, k4⟩⟩
        rcases hb with rfl | rfl <;> rfl
      · simp only [if_neg c1]
        by_cases c2 : p1 = 2
        · simp only [if_pos c2]
          obtain ⟨b, hb, k1, T, k2, k3, k4⟩ := key 2 (Or.inr rfl) c2
          rw [k1, k2]
          refine ⟨_, rfl, Or.inl ⟨_, ?_, k3, rfl, k4⟩⟩
          rcases hb with rfl | rfl <;> rfl
        · simp only [if_neg c2]
          rw [tt 3 (by decide)]
          exact ⟨_, rfl, Or.inr (Or.inr (Or.inr ⟨by trivial, lf_s, tR 3⟩))⟩
