/-! ===== colours ===== -/
def prt (p c : Nat) : Nat := c / 2 ^ (16 - 8 * p) % 256
theorem prt_lt (p c : Nat) : prt p c < 256 := Nat.mod_lt _ (by decide)
theorem or_eq {a b : Nat} (i : Nat) (hb : b < 2 ^ i) (h : 2 ^ i * a + b < 2 ^ 31) : nI (2 ^ i * a) ||| nI b = nI (2 ^ i * a + b) := by
  apply Int32.toBitVec_inj.mp
  apply BitVec.eq_of_toNat_eq
  rw [Int32.toBitVec_or, BitVec.toNat_or, pk_tn (by omega), pk_tn (by omega), pk_tn (by omega), ← Nat.two_pow_add_eq_or_of_lt hb]
theorem s16 : ((((16 : Int32) &&& 31).toBitVec).smod 32).toNat = 16 := by decide
theorem s8 : ((((8 : Int32) &&& 31).toBitVec).smod 32).toNat = 8 := by decide
theorem s1 : ((((1 : Int32) &&& 31).toBitVec).smod 32).toNat = 1 := by decide
theorem m255 : (255 : Int32).toBitVec.toNat = 2 ^ 8 - 1 := by decide
theorem red_eq {c : Nat} (h : c < 16777216) : ML_red (nI c) = some (nI (prt 0 c)) := by
  unfold ML_red prt
  rw [pk_shrN (by omega) _ 16 s16, pk_andN (by omega) 8 m255]
theorem green_eq {c : Nat} (h : c < 16777216) : ML_green (nI c) = some (nI (prt 1 c)) := by
  unfold ML_green prt
  rw [pk_shrN (by omega) _ 8 s8, pk_andN (by omega) 8 m255]
theorem blue_eq {c : Nat} (h : c < 16777216) : ML_blue (nI c) = some (nI (prt 2 c)) := by
  unfold ML_blue prt
  rw [pk_andN (by omega) 8 m255]
  simp
theorem sh_0 : ((16 : Int32) - 8 * nI 0) &&& 31 = (16 : Int32) &&& 31 := by decide
theorem sh_1 : ((16 : Int32) - 8 * nI 1) &&& 31 = (8 : Int32) &&& 31 := by decide
theorem sh_2 : ((16 : Int32) - 8 * nI 2) &&& 31 = 0 := by decide
theorem sz : (((0 : Int32).toBitVec).smod 32).toNat = 0 := by decide
theorem part_eq {c p : Nat} (h : c < 16777216) (hp : p < 3) : Mo_part (nI c) (nI p) = some (nI (prt p c)) := by
  unfold Mo_part prt
  have : p = 0 ∨ p = 1 ∨ p = 2 := by omega
  rcases this with rfl | rfl | rfl
  · rw [sh_0, pk_shrN (by omega) _ 16 s16, pk_andN (by omega) 8 m255]
  · rw [sh_1, pk_shrN (by omega) _ 8 s8, pk_andN (by omega) 8 m255]
  · rw [sh_2, pk_shrN (by omega) _ 0 sz, pk_andN (by omega) 8 m255]
theorem and255 {a : Nat} (h : a < 256) : nI a &&& 255 = nI a := by
  rw [pk_andN (by omega) 8 m255, Nat.mod_eq_of_lt (by omega)]
theorem or3 {a b c : Nat} (ha : a < 256) (hb : b < 256) (hc : c < 256) : ((nI a <<< ((16 : Int32) &&& 31)) ||| (nI b <<< ((8 : Int32) &&& 31))) ||| nI c = nI (a * 65536 + b * 256 + c) := by
  rw [pk_shlN _ 16 s16 (by omega), pk_shlN _ 8 s8 (by omega)]
  have h1 := or_eq (a := a) (b := b * 256) 16 (by omega) (by omega)
  have h2 := or_eq (a := a * 256 + b) (b := c) 8 (by omega) (by omega)
  have e1 : 2 ^ 16 * a = a * 2 ^ 16 := Nat.mul_comm _ _
  have e2 : (2 : Nat) ^ 8 * (a * 256 + b) = a * 65536 + b * 256 := by omega
  rw [e1] at h1
  rw [e2] at h2
  rw [h1]
  exact h2
theorem fold3 {a b c : Nat} (ha : a < 256) (hb : b < 256) (hc : c < 256) : ((((((0 : Int32) <<< ((8 : Int32) &&& 31)) ||| nI a) <<< ((8 : Int32) &&& 31)) ||| nI b) <<< ((8 : Int32) &&& 31)) ||| nI c = nI (a * 65536 + b * 256 + c) := by
  have e0 : (0 : Int32) <<< ((8 : Int32) &&& 31) = nI (2 ^ 8 * 0) := by decide
  rw [e0, or_eq (a := 0) 8 (by omega) (by omega), pk_shlN _ 8 s8 (by omega)]
  have h1 := or_eq (a := 2 ^ 8 * 0 + a) (b := b) 8 (by omega) (by omega)
  rw [Nat.mul_comm (2 ^ 8) (2 ^ 8 * 0 + a)] at h1
  rw [h1, pk_shlN _ 8 s8 (by omega)]
  have h2 := or_eq (a := (2 ^ 8 * 0 + a) * 2 ^ 8 + b) (b := c) 8 (by omega) (by omega)
  rw [Nat.mul_comm (2 ^ 8) ((2 ^ 8 * 0 + a) * 2 ^ 8 + b)] at h2
  rw [h2]
  exact congrArg nI (by omega)
theorem colourOf_eq {a b c : Nat} (ha : a < 256) (hb : b < 256) (hc : c < 256) : ML_colourOf (nI a) (nI b) (nI c) = some (nI (a * 65536 + b * 256 + c)) := by
  unfold ML_colourOf
  rw [and255 ha, and255 hb, and255 hc, or3 ha hb hc]
theorem Cl_3 {a b c : Nat} (ha : a < 256) (hb : b < 256) (hc : c < 256) : Cl (nI (a * 65536 + b * 256 + c)) := ⟨_, by omega, rfl⟩
theorem and_255 (x : Int32) : ∃ j : Nat, j < 256 ∧ x &&& 255 = nI j := ⟨_, Nat.mod_lt _ (by decide), pk_and x 8 m255⟩
theorem more_eq (a b : Int32) (fu : Nat) (hfu : 7000 ≤ fu) : ∃ v, Cl v ∧ ML_difference a b = some v ∧ Mo_more fu a b = some v := by
  obtain ⟨x, hx, ex⟩ := and_255 (((a >>> ((16 : Int32) &&& 31)) &&& 255) - ((b >>> ((16 : Int32) &&& 31)) &&& 255))
  obtain ⟨y, hy, ey⟩ := and_255 (((a >>> ((8 : Int32) &&& 31)) &&& 255) - ((b >>> ((8 : Int32) &&& 31)) &&& 255))
  obtain ⟨z, hz, ez⟩ := and_255 ((a &&& 255) - (b &&& 255))
  refine ⟨nI (x * 65536 + y * 256 + z), Cl_3 hx hy hz, ?_, ?_⟩
  · unfold ML_difference ML_red ML_green ML_blue ML_colourOf
    simp only [Option.bind_some]
    rw [ex, ey, ez, or3 hx hy hz]
  · have e2 : ∀ q : Int32, q >>> (0 : Int32) = q := fun q => by
      apply Int32.toBitVec_inj.mp
      simp
    obtain ⟨k, rfl⟩ : ∃ k, fu = k + 4 := ⟨fu - 4, by omega⟩
    unfold Mo_more
    show (Mo_more_l4 a b (k + 3 + 1) 0 (nI 0)).bind _ = _
    rw [Mo_more_l4, if_neg (by decide)]
    unfold Mo_part
    simp only [Option.bind_some]
    rw [sh_0, ex]
    show (Mo_more_l4 a b (k + 2 + 1) _ (nI 1)).bind _ = _
    rw [Mo_more_l4, if_neg (by decide)]
    unfold Mo_part
    simp only [Option.bind_some]
    rw [sh_1, ey]
    show (Mo_more_l4 a b (k + 1 + 1) _ (nI 2)).bind _ = _
    rw [Mo_more_l4, if_neg (by decide)]
    unfold Mo_part
    simp only [Option.bind_some]
    rw [sh_2, e2, e2, ez]
    show (Mo_more_l4 a b (k + 1) _ (nI 3)).bind _ = _
    rw [Mo_more_l4, if_pos (by decide), Option.bind_some]
    dsimp only
    rw [fold3 hx hy hz]
theorem together_eq (a b : Int32) (fu : Nat) (hfu : 7000 ≤ fu) : ∃ v, Cl v ∧ ML_sum a b = some v ∧ Mo_together fu a b = some v := by
  obtain ⟨x, hx, ex⟩ := and_255 (((a >>> ((16 : Int32) &&& 31)) &&& 255) + ((b >>> ((16 : Int32) &&& 31)) &&& 255))
  obtain ⟨y, hy, ey⟩ := and_255 (((a >>> ((8 : Int32) &&& 31)) &&& 255) + ((b >>> ((8 : Int32) &&& 31)) &&& 255))
  obtain ⟨z, hz, ez⟩ := and_255 ((a &&& 255) + (b &&& 255))
  refine ⟨nI (x * 65536 + y * 256 + z), Cl_3 hx hy hz, ?_, ?_⟩
  · unfold ML_sum ML_red ML_green ML_blue ML_colourOf
    simp only [Option.bind_some]
    rw [ex, ey, ez, or3 hx hy hz]
  · have e2 : ∀ q : Int32, q >>> (0 : Int32) = q := fun q => by
      apply Int32.toBitVec_inj.mp
      simp
    obtain ⟨k, rfl⟩ : ∃ k, fu = k + 4 := ⟨fu - 4, by omega⟩
    unfold Mo_together
    show (Mo_together_l4 a b (k + 3 + 1) 0 (nI 0)).bind _ = _
    rw [Mo_together_l4, if_neg (by decide)]
    unfold Mo_part
    simp only [Option.bind_some]
    rw [sh_0, ex]
    show (Mo_together_l4 a b (k + 2 + 1) _ (nI 1)).bind _ = _
    rw [Mo_together_l4, if_neg (by decide)]
    unfold Mo_part
    simp only [Option.bind_some]
    rw [sh_1, ey]
    show (Mo_together_l4 a b (k + 1 + 1) _ (nI 2)).bind _ = _
    rw [Mo_together_l4, if_neg (by decide)]
    unfold Mo_part
    simp only [Option.bind_some]
    rw [sh_2, e2, e2, ez]
    show (Mo_together_l4 a b (k + 1) _ (nI 3)).bind _ = _
    rw [Mo_together_l4, if_pos (by decide), Option.bind_some]
    dsimp only
    rw [fold3 hx hy hz]
theorem middle_eq {a b : Int32} (ha : Cl a) (hb : Cl b) (S : LyS) (v1 v2 v3 v4 v5 : Int32) (fu : Nat) (hfu : 7000 ≤ fu) : ∃ v, Cl v ∧ ML_middle a b = some v ∧ Mo_makeBlocks_l270 S v1 v2 v3 v4 v5 a b fu 0 0 = some (0, v) := by
  obtain ⟨a, ha, rfl⟩ := ha
  obtain ⟨b, hb, rfl⟩ := hb
  have p0 := prt_lt 0 a
  have p1 := prt_lt 1 a
  have p2 := prt_lt 2 a
  have q0 := prt_lt 0 b
  have q1 := prt_lt 1 b
  have q2 := prt_lt 2 b
  have h0 : (prt 0 a + prt 0 b) / 2 < 256 := by omega
  have h1 : (prt 1 a + prt 1 b) / 2 < 256 := by omega
  have h2 : (prt 2 a + prt 2 b) / 2 < 256 := by omega
  refine ⟨nI ((prt 0 a + prt 0 b) / 2 * 65536 + (prt 1 a + prt 1 b) / 2 * 256 + (prt 2 a + prt 2 b) / 2), Cl_3 h0 h1 h2, ?_, ?_⟩
  · unfold ML_middle
    rw [red_eq ha, red_eq hb, green_eq ha, green_eq hb, blue_eq ha, blue_eq hb]
    simp only [Option.bind_some]
    rw [ql2, dz_nI (by omega) (by omega), dz_nI (by omega) (by omega), dz_nI (by omega) (by omega), nI_add, nI_add, nI_add, pk_div (by omega) (by omega) (by omega), pk_div (by omega) (by omega) (by omega), pk_div (by omega) (by omega) (by omega), colourOf_eq h0 h1 h2]
    rfl
  · obtain ⟨k, rfl⟩ : ∃ k, fu = k + 4 := ⟨fu - 4, by omega⟩
    have st : ∀ (k p : Nat) (v : Int32), p < 3 → Mo_makeBlocks_l270 S v1 v2 v3 v4 v5 (nI a) (nI b) (k + 1) v (nI p) = Mo_makeBlocks_l270 S v1 v2 v3 v4 v5 (nI a) (nI b) k ((v <<< ((8 : Int32) &&& 31)) ||| nI ((prt p a + prt p b) / 2)) (nI (p + 1)) := by
      intro k p v hp
      have z1 := prt_lt p a
      have z2 := prt_lt p b
      rw [Mo_makeBlocks_l270, if_neg (show ¬ (3 : Int32) ≤ nI p from nI_ge (b := 3) hp (by omega)), part_eq ha hp, part_eq hb hp]
      simp only [Option.bind_some]
      rw [ql2, dz_nI (by omega) (by omega), nI_add, pk_div (by omega) (by omega) (by omega), ql1, nI_add]
    show Mo_makeBlocks_l270 S v1 v2 v3 v4 v5 (nI a) (nI b) (k + 3 + 1) 0 (nI 0) = _
    rw [st _ 0 _ (by decide), st _ 1 _ (by decide), st _ 2 _ (by decide), Mo_makeBlocks_l270, if_pos (by decide), fold3 h0 h1 h2]
theorem mean_eq {s m : Nat} (hs : s < 2 ^ 20) (hm : 1 ≤ m) (hm2 : m < 2 ^ 20) : ML_mean (nI s) (nI m) = some (nI ((2 * s + m) / (2 * m))) := by
  unfold ML_mean
  simp (disch := omega) only [ql0, ql1, ql2, ql3, ql4, ql5, ql6, ql7, ql8, ql16, ql24, ql76, ql77, ql160, ql175, ql255, ql576, ql1728, ql2304, ql6400, ql16777215, nI_add, pk_mul, pk_sub, pk_div, pk_rem, nI_ltI, nI_leI, nI_eq, nI_clamp, gd_nI, dz_nI, zb_0, zb_1, Option.bind_some, mn_eq, mx_eq]
  rw [if_pos hm]
theorem mean_lt {s m : Nat} (hm : 1 ≤ m) (h : s ≤ 255 * m) : (2 * s + m) / (2 * m) < 256 := by
  rw [Nat.div_lt_iff_lt_mul (by omega)]
  omega
