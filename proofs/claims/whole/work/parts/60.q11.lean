def bc (mk : Nat → Int32) (side : Int32) (w s tp r k : Nat) : Nat := S2 (fun y x => g0 side (mk (24 * y + x))) (tp + k / cd w s * s) (min s (tp + r - (tp + k / cd w s * s))) (k % cd w s * s) (min s (w - k % cd w s * s))
def bsm (p : Nat) (mk cl : Nat → Int32) (side : Int32) (w s tp r k : Nat) : Nat := S2 (fun y x => gp p side (mk (24 * y + x)) (cl (24 * y + x))) (tp + k / cd w s * s) (min s (tp + r - (tp + k / cd w s * s))) (k % cd w s * s) (min s (w - k % cd w s * s))
def mv (p : Nat) (mk cl : Nat → Int32) (side : Int32) (w s tp r k : Nat) : Nat := (2 * bsm p mk cl side w s tp r k + bc mk side w s tp r k) / (2 * bc mk side w s tp r k)
def bv (mk cl : Nat → Int32) (side : Int32) (w s tp r k : Nat) : Int32 := nI (mv 0 mk cl side w s tp r k * 65536 + mv 1 mk cl side w s tp r k * 256 + mv 2 mk cl side w s tp r k)
theorem bc_le (mk : Nat → Int32) (side : Int32) (w s tp r k : Nat) (hs : s ≤ 8) : bc mk side w s tp r k ≤ 64 :=
  S2_b (fun y x => by unfold g0; split <;> omega) _ _ _ _ (by omega) (by omega)
theorem bsm_le (p : Nat) (mk cl : Nat → Int32) (side : Int32) (w s tp r k : Nat) : bsm p mk cl side w s tp r k ≤ 255 * bc mk side w s tp r k :=
  S2_le2 (fun y x => by
    unfold gp g0
    have := prt_lt p (cn (cl (24 * y + x)))
    split <;> omega) _ _ _ _
theorem mv_lt {p : Nat} {mk cl : Nat → Int32} {side : Int32} {w s tp r k : Nat} (h : bc mk side w s tp r k ≠ 0) : mv p mk cl side w s tp r k < 256 := mean_lt (by omega) (bsm_le p mk cl side w s tp r k)
theorem bv_cl {mk cl : Nat → Int32} {side : Int32} {w s tp r k : Nat} (h : bc mk side w s tp r k ≠ 0) : Cl (bv mk cl side w s tp r k) := Cl_3 (mv_lt h) (mv_lt h) (mv_lt h)
theorem ps_inj {w s l tp r k k' : Nat} (hs : 1 ≤ s) (hw : w ≤ 24) (hr : tp + r ≤ 24) (hk : k < mny w s r) (hk' : k' < mny w s r) (e : ps w s l tp k = ps w s l tp k') : k = k' := by
  have h1 := ps_lt (l := l) hs hw hr hk
  have h2 := ps_lt (l := l) hs hw hr hk'
  unfold ps at e
  have a1 : k / cd w s * s = k' / cd w s * s := by omega
  have a2 : k % cd w s * s = k' % cd w s * s := by omega
  have b1 : k / cd w s = k' / cd w s := Nat.eq_of_mul_eq_mul_right (by omega) a1
  have b2 : k % cd w s = k' % cd w s := Nat.eq_of_mul_eq_mul_right (by omega) a2
  rw [← Nat.div_add_mod k (cd w s), ← Nat.div_add_mod k' (cd w s), b1, b2]
section BM
variable {w tp r bs fs : Nat} {T : LyS}
theorem rmean_eq (D : LD w tp r bs fs) (H : LayR w tp r bs fs T) {l p : Nat} (hl : l = 0 ∨ l = 2) (hp : p < 3) (side : Int32) (hside : side = if l = 2 then 1 else 0) (hcl : ∀ y x, y < tp + r → x < w → Cl (T.2 0 (24 * y + x))) {k : Nat} (hk : k < mny w (sc bs fs l) r) (fu : Nat) (hfu : 7000 ≤ fu) :
    Mo_mean fu T (nI l) (nI k) (nI p) = some (if bc (T.2 1) side w (sc bs fs l) tp r k = 0 then -1 else nI (mv p (T.2 1) (T.2 0) side w (sc bs fs l) tp r k)) := by
  have hw := D.1
  have hr := D.2.1
  have hsc := sc_in (k := l) D.2.2.1 D.2.2.2
  have hpl := ps_lt (l := l) hsc.1 hw.2 hr.2 hk
  have hm := mny_le (w := w) (s := sc bs fs l) (r := r) hsc.1
  have hwr : w * r ≤ 24 * 24 := Nat.mul_le_mul (by omega) (by omega)
  have ecell : ps w (sc bs fs l) l tp k - 576 * l = 24 * (tp + k / cd w (sc bs fs l) * sc bs fs l) + k % cd w (sc bs fs l) * sc bs fs l := by unfold ps; omega
  unfold Mo_mean
  rw [place_eq D H (by omega) (by omega), Option.bind_some, ql576, pk_mul, pk_sub hpl.2.1, ecell, ql24, dz_nI (by omega) (by omega), pk_div (by omega) (by omega) (by omega)]
  have ey : (24 * (tp + k / cd w (sc bs fs l) * sc bs fs l) + k % cd w (sc bs fs l) * sc bs fs l) / 24 = tp + k / cd w (sc bs fs l) * sc bs fs l := by omega
  rw [ey, rmean_out D H hl hp side hside hcl _ _ (by omega) hpl.2.2.2 _ _ rfl rfl fu hfu, Option.bind_some]
  unfold Mo_mean_b152
  dsimp only
  have hb := bc_le (T.2 1) side w (sc bs fs l) tp r k hsc.2
  have hb2 := bsm_le p (T.2 1) (T.2 0) side w (sc bs fs l) tp r k
  show (if nI (bc (T.2 1) side w (sc bs fs l) tp r k) = 0 then _ else dz (2 * nI (bc (T.2 1) side w (sc bs fs l) tp r k)) (some ((2 * nI (bsm p (T.2 1) (T.2 0) side w (sc bs fs l) tp r k) + nI (bc (T.2 1) side w (sc bs fs l) tp r k)) / (2 * nI (bc (T.2 1) side w (sc bs fs l) tp r k))))) = _
  by_cases q : bc (T.2 1) side w (sc bs fs l) tp r k = 0
  · rw [if_pos q, q, if_pos e00]
  · rw [if_neg q, if_neg (nI_ne0 (by omega) (by omega)), ql2, pk_mul, pk_mul, nI_add, dz_nI (by omega) (by omega), pk_div (by omega) (by omega) (by omega)]; rfl
variable {n h st i : Nat} {col msk bare : Nat → Int32} {L : LyS}
theorem cmean_eq (D : LD w tp r bs fs) (V : VL n w h st bs fs L) (etp : tp = i * st) (er : r = hs h st i) (hi : i < cd h st) {l : Nat} (hl : l = 0 ∨ l = 2) (side : Int32) (hside : side = if l = 2 then 1 else 0) (hC : RC w h col (T.2 0)) (hM : PB w h msk (T.2 1)) (hn : n = w * h) {k : Nat} (hk : k < mny w (sc bs fs l) r) (fu : Nat) (hfu : 7000 ≤ fu) :
    Maker_meanOfBlock fu n col msk bare L (nI i) (nI l) (nI (k % cd w (sc bs fs l))) (nI (k / cd w (sc bs fs l))) = some (if bc (T.2 1) side w (sc bs fs l) tp r k = 0 then -1 else bv (T.2 1) (T.2 0) side w (sc bs fs l) tp r k) := by
  have hw := D.1
  have hr := D.2.1
  have hsc := sc_in (k := l) D.2.2.1 D.2.2.2
  have hpl := ps_lt (l := l) hsc.1 hw.2 hr.2 hk
  obtain ⟨-, hh, hst, hb, hf, hnn, v0, v1, v2, v5, v6⟩ := id V
  have hih := hs_h hi hst.1
  have hcm := cd_mul hst.1 hi
  have ebot : min (i * st + st) h = tp + r := by rw [etp, er]; unfold hs; omega
  have a1 : min (tp + k / cd w (sc bs fs l) * sc bs fs l + sc bs fs l) (tp + r) = tp + k / cd w (sc bs fs l) * sc bs fs l + min (sc bs fs l) (tp + r - (tp + k / cd w (sc bs fs l) * sc bs fs l)) := by omega
  have a2 : min (k % cd w (sc bs fs l) * sc bs fs l + sc bs fs l) w = k % cd w (sc bs fs l) * sc bs fs l + min (sc bs fs l) (w - k % cd w (sc bs fs l) * sc bs fs l) := by omega
  have hcl : ∀ i, i < n → Cl (col i) := by rw [hn]; exact hC.2
  have hbi : ∀ i, i < n → Bi (msk i) := by rw [hn]; exact hM.2
  unfold Maker_meanOfBlock
  rw [scaleOf_eq V (by omega), topOf_eq V, bottomOf_eq V (by omega)]
  simp only [Option.bind_some]
  rw [v0, ebot, pk_mul, pk_mul, nI_add, nI_add, nI_add, ← etp, mn_eq (by omega) (by omega), mn_eq (by omega) (by omega), a1, a2]
  rw [mean_out (L := L) (bare := bare) (msk := msk) (h := h) hcl hbi hnn.2 hnn.1 v0 hl side hside _ _ _ _ (by omega) (by omega) hw.2 hh.2 (by omega) fu hfu, Option.bind_some]
  dsimp only
  have c0 : S2 (fun y x => g0 side (msk (y * w + x))) (tp + k / cd w (sc bs fs l) * sc bs fs l) (min (sc bs fs l) (tp + r - (tp + k / cd w (sc bs fs l) * sc bs fs l))) (k % cd w (sc bs fs l) * sc bs fs l) (min (sc bs fs l) (w - k % cd w (sc bs fs l) * sc bs fs l)) = bc (T.2 1) side w (sc bs fs l) tp r k := by
    apply S2_congr
    intro a b ha hb
    rw [hM.1 _ _ (by omega) (by omega)]
  have cp : ∀ p, S2 (fun y x => gp p side (msk (y * w + x)) (col (y * w + x))) (tp + k / cd w (sc bs fs l) * sc bs fs l) (min (sc bs fs l) (tp + r - (tp + k / cd w (sc bs fs l) * sc bs fs l))) (k % cd w (sc bs fs l) * sc bs fs l) (min (sc bs fs l) (w - k % cd w (sc bs fs l) * sc bs fs l)) = bsm p (T.2 1) (T.2 0) side w (sc bs fs l) tp r k := by
    intro p
    apply S2_congr
    intro a b ha hb
    rw [hM.1 _ _ (by omega) (by omega), hC.1 _ _ (by omega) (by omega)]
  rw [c0, cp 0, cp 1, cp 2]
  have hbc := bc_le (T.2 1) side w (sc bs fs l) tp r k hsc.2
  have hb0 := bsm_le 0 (T.2 1) (T.2 0) side w (sc bs fs l) tp r k
  have hb1 := bsm_le 1 (T.2 1) (T.2 0) side w (sc bs fs l) tp r k
  have hb2 := bsm_le 2 (T.2 1) (T.2 0) side w (sc bs fs l) tp r k
  by_cases q : bc (T.2 1) side w (sc bs fs l) tp r k = 0
  · rw [if_pos q, q, if_pos e00]
  · rw [if_neg q, if_neg (nI_ne0 (by omega) (by omega)), mean_eq (by omega) (by omega) (by omega), mean_eq (by omega) (by omega) (by omega), mean_eq (by omega) (by omega) (by omega)]
    simp only [Option.bind_some]
    show (ML_colourOf (nI (mv 0 (T.2 1) (T.2 0) side w (sc bs fs l) tp r k)) (nI (mv 1 (T.2 1) (T.2 0) side w (sc bs fs l) tp r k)) (nI (mv 2 (T.2 1) (T.2 0) side w (sc bs fs l) tp r k))).bind _ = _
    rw [colourOf_eq (mv_lt q) (mv_lt q) (mv_lt q)]; rfl
end BM
/-- rows of steps of a flat loop beside an outer loop -/
theorem loop2N {σ τ ρ ρ' : Type} (F : Nat → Nat → σ → Option ρ) (G : Nat → Nat → τ → Option ρ') (I : Nat → σ → τ → Prop) (a e : Nat)
    (step : ∀ k k' i s t, i < e → I (i * a) s t → ∃ s' t', F (k + 1) i s = F k (i + 1) s' ∧ G (k' + a) (i * a) t = G k' (i * a + a) t' ∧ I (i * a + a) s' t') :
    ∀ m k k' i s t, i + m = e → I (i * a) s t → ∃ s' t', F (k + m) i s = F k e s' ∧ G (k' + m * a) (i * a) t = G k' (e * a) t' ∧ I (e * a) s' t' := by
  intro m
  induction m with
  | zero => intro k k' i s t h hI; subst h; exact ⟨s, t, rfl, by rw [Nat.zero_mul]; rfl, hI⟩
  | succ m ih =>
    intro k k' i s t h hI
    obtain ⟨s', t', h1, h2, h3⟩ := step (k + m) (k' + m * a) i s t (by omega) hI
    have e1 : i * a + a = (i + 1) * a := by rw [Nat.add_mul, Nat.one_mul]
    rw [e1] at h2 h3
    obtain ⟨s2, t2, g1, g2, g3⟩ := ih k k' (i + 1) s' t' (by omega) h3
    refine ⟨s2, t2, (by rw [← g1, ← h1]; rfl), ?_, g3⟩
    rw [← g2, ← h2, Nat.add_mul, Nat.one_mul, Nat.add_assoc]
