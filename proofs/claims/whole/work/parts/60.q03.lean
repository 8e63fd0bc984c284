theorem ne10 : ¬ ((1 : Int32) = 0) := by decide
section PUT
variable {n w h st : Nat} {wd ht stp : Int32} {col msk bare : Nat → Int32} {M F : LyS} {Bw Bf : ByS} {pl rf : Int32} {hd : Nat → Int32} {S : LyS}
theorem put_loop (d : DM w h st) (hn : n = w * h) (v : Int32) (hv : Cl v) {x y N : Nat} (hx : x < w) (hy : y < h) (hN : N < 2 ^ 31) (e1 : S.1 1 = nI w) (H : RC w h col (S.2 0)) (fu : Nat) (hfu : 100 ≤ fu) :
    ∃ c col' S', ML_change_col_l33 n wd ht stp msk bare M F Bw Bf pl rf hd v (nI (y * w + x + min N (w - x))) fu 0 (nI (y * w + x)) col = some (0, c, col') ∧ Mo_put_l54 (nI x) (nI y) (nI N) v fu 0 (nI x) S = some (0, c, S') ∧ RC w h col' (S'.2 0) ∧ S'.1 = S.1 ∧ ∀ k, k ≠ 0 → S'.2 k = S.2 k := by
  have hwh := DM_n d
  have hxy := ix_lt hx hy
  obtain ⟨hw, hh, -⟩ := d
  let m := min N (w - x)
  have hm : m = min N (w - x) := rfl
  obtain ⟨s', t', g1, g2, g3, g4, g5, g6⟩ := loop2 (σ := Int32 × (Nat → Int32)) (τ := Int32 × LyS)
    (fun k i s => ML_change_col_l33 n wd ht stp msk bare M F Bw Bf pl rf hd v (nI (y * w + x + m)) k s.1 (nI (y * w + x + i)) s.2)
    (fun k i t => Mo_put_l54 (nI x) (nI y) (nI N) v k t.1 (nI (x + i)) t.2)
    (fun i s t => s.1 = t.1 ∧ RC w h s.2 (t.2.2 0) ∧ t.2.1 = S.1 ∧ ∀ k, k ≠ 0 → t.2.2 k = S.2 k) m
    (by
      rintro k k' i ⟨c, cl⟩ ⟨c', T⟩ hi ⟨h1, ⟨h2, h2c⟩, h3, h4⟩
      dsimp only at h1 h2 h2c h3 h4 ⊢
      subst h1
      have hi2 : x + i < w := by omega
      have hj := ix_lt hi2 hy
      have hT : T.1 1 = nI w := by rw [h3, e1]
      have hE : Mo_end T (nI x) (nI N) = some (nI (x + m)) := end_eq hT (by omega) hx hN
      have hF1 : ML_change_col_l33 n wd ht stp msk bare M F Bw Bf pl rf hd v (nI (y * w + x + m)) (k + 1) c (nI (y * w + x + i)) cl = ML_change_col_l33 n wd ht stp msk bare M F Bw Bf pl rf hd v (nI (y * w + x + m)) k (c + if cl (y * w + x + i) = v then 0 else 1) (nI (y * w + x + (i + 1))) (upd cl (y * w + x + i) v) := by
        rw [ML_change_col_l33, if_neg (nI_ge (by omega) (by omega)), gd_nI (by omega) (by omega), nI_clamp (by omega), gd_nI (by omega) (by omega)]
        have e2 : nI (y * w + x + i) + 1 = nI (y * w + x + (i + 1)) := nI_add _ 1
        rw [e2]
        by_cases q : cl (y * w + x + i) = v
        · rw [if_pos q, if_pos q]
          have q2 : upd cl (y * w + x + i) v = cl := by rw [← q]; exact upd_same _ _
          rw [q2, show c + 0 = c from Int32.add_zero c]
        · rw [if_neg q, if_neg q]
      have hc : cl (y * w + x + i) = T.2 0 (24 * y + (x + i)) := by
        have := h2 y (x + i) hy hi2
        rw [← this, Nat.add_assoc]
      have hF2 : Mo_put_l54 (nI x) (nI y) (nI N) v (k' + 1) c (nI (x + i)) T = Mo_put_l54 (nI x) (nI y) (nI N) v k' (c + if cl (y * w + x + i) = v then 0 else 1) (nI (x + (i + 1))) (Ls T 0 (24 * y + (x + i)) v) := by
        rw [Mo_put_l54, hE]
        have e3 : (24 : Int32) * nI y + nI (x + i) = nI (24 * y + (x + i)) := by rw [ql24, pk_mul, nI_add]
        have e2 : nI (x + i) + 1 = nI (x + (i + 1)) := nI_add _ 1
        rw [Option.bind_some, if_neg (nI_ge (by omega) (by omega)), e3, e2, gd_nI (by omega) (by omega), nI_clamp (by omega), ← hc]
        by_cases q : cl (y * w + x + i) = v
        · rw [if_pos q, if_pos q, Option.bind_some, gd_nI (by omega) (by omega)]
        · rw [if_neg q, if_neg q, Option.bind_some, gd_nI (by omega) (by omega)]
      refine ⟨(c + if cl (y * w + x + i) = v then 0 else 1, upd cl (y * w + x + i) v), (c + if cl (y * w + x + i) = v then 0 else 1, Ls T 0 (24 * y + (x + i)) v), hF1, hF2, rfl, ⟨?_, ?_⟩, h3, ?_⟩
      · dsimp only
        rw [ls_s, Nat.add_assoc]
        exact PgR_upd h2 hi2 (by omega) v
      · intro j hj'
        dsimp only
        by_cases q : j = y * w + x + i
        · rw [q, pk_us]; exact hv
        · rw [pk_un q]; exact h2c j hj'
      · intro k hk
        dsimp only
        rw [ls_n hk]; exact h4 k hk)
    m (fu - m) (fu - m) 0 (0, col) (0, S) (by omega) ⟨rfl, H, rfl, fun _ _ => rfl⟩
  dsimp only at g1 g2
  have hk : fu - m + m = fu := by omega
  rw [hk] at g1 g2
  obtain ⟨c, col'⟩ := s'
  obtain ⟨c', S'⟩ := t'
  dsimp only at g1 g2 g3 g4 g5 g6
  subst g3
  have hz : fu - m = (fu - m - 1) + 1 := by omega
  refine ⟨c, col', S', ?_, ?_, g4, g5, g6⟩
  · rw [Nat.add_zero] at g1
    rw [g1, hz, ML_change_col_l33, if_pos (nI_le (by omega) (by omega))]
  · rw [Nat.add_zero] at g2
    have hE : Mo_end S' (nI x) (nI N) = some (nI (x + m)) := end_eq (by rw [g5, e1]) (by omega) hx hN
    rw [g2, hz, Mo_put_l54, hE, Option.bind_some, if_pos (nI_le (by omega) (by omega))]
theorem mask_loop (d : DM w h st) (hn : n = w * h) (v : Int32) (hv : Bi v) {x y N : Nat} (hx : x < w) (hy : y < h) (hN : N < 2 ^ 31) (e1 : S.1 1 = nI w) (H : RM w h msk (S.2 1)) (fu : Nat) (hfu : 100 ≤ fu) :
    ∃ c msk' S', ML_change_msk_l33 n wd ht stp col bare M F Bw Bf pl rf hd v (nI (y * w + x + min N (w - x))) fu 0 (nI (y * w + x)) msk = some (0, c, msk') ∧ Mo_mask_l42 (nI x) (nI y) (nI N) v fu 0 (nI x) S = some (0, c, S') ∧ RM w h msk' (S'.2 1) ∧ S'.1 = S.1 ∧ ∀ k, k ≠ 1 → S'.2 k = S.2 k := by
  have hwh := DM_n d
  have hxy := ix_lt hx hy
  obtain ⟨hw, hh, -⟩ := d
  let m := min N (w - x)
  have hm : m = min N (w - x) := rfl
  obtain ⟨s', t', g1, g2, g3, g4, g5, g6⟩ := loop2 (σ := Int32 × (Nat → Int32)) (τ := Int32 × LyS)
    (fun k i s => ML_change_msk_l33 n wd ht stp col bare M F Bw Bf pl rf hd v (nI (y * w + x + m)) k s.1 (nI (y * w + x + i)) s.2)
    (fun k i t => Mo_mask_l42 (nI x) (nI y) (nI N) v k t.1 (nI (x + i)) t.2)
    (fun i s t => s.1 = t.1 ∧ RM w h s.2 (t.2.2 1) ∧ t.2.1 = S.1 ∧ ∀ k, k ≠ 1 → t.2.2 k = S.2 k) m
    (by
      rintro k k' i ⟨c, cl⟩ ⟨c', T⟩ hi ⟨h1, ⟨h2, h2c, h2z⟩, h3, h4⟩
      dsimp only at h1 h2 h2c h2z h3 h4 ⊢
      subst h1
      have hi2 : x + i < w := by omega
      have hj := ix_lt hi2 hy
      have hT : T.1 1 = nI w := by rw [h3, e1]
      have hE : Mo_end T (nI x) (nI N) = some (nI (x + m)) := end_eq hT (by omega) hx hN
      have hF1 : ML_change_msk_l33 n wd ht stp col bare M F Bw Bf pl rf hd v (nI (y * w + x + m)) (k + 1) c (nI (y * w + x + i)) cl = ML_change_msk_l33 n wd ht stp col bare M F Bw Bf pl rf hd v (nI (y * w + x + m)) k (c + if cl (y * w + x + i) = v then 0 else 1) (nI (y * w + x + (i + 1))) (upd cl (y * w + x + i) v) := by
        rw [ML_change_msk_l33, if_neg (nI_ge (by omega) (by omega)), gd_nI (by omega) (by omega), nI_clamp (by omega), gd_nI (by omega) (by omega)]
        have e2 : nI (y * w + x + i) + 1 = nI (y * w + x + (i + 1)) := nI_add _ 1
        rw [e2]
        by_cases q : cl (y * w + x + i) = v
        · rw [if_pos q, if_pos q]
          have q2 : upd cl (y * w + x + i) v = cl := by rw [← q]; exact upd_same _ _
          rw [q2, show c + 0 = c from Int32.add_zero c]
        · rw [if_neg q, if_neg q]
      have hc : cl (y * w + x + i) = T.2 1 (24 * y + (x + i)) := by
        have := h2 y (x + i) hy hi2
        rw [← this, Nat.add_assoc]
      have hF2 : Mo_mask_l42 (nI x) (nI y) (nI N) v (k' + 1) c (nI (x + i)) T = Mo_mask_l42 (nI x) (nI y) (nI N) v k' (c + if cl (y * w + x + i) = v then 0 else 1) (nI (x + (i + 1))) (Ls T 1 (24 * y + (x + i)) v) := by
        rw [Mo_mask_l42, hE]
        have e3 : (24 : Int32) * nI y + nI (x + i) = nI (24 * y + (x + i)) := by rw [ql24, pk_mul, nI_add]
        have e2 : nI (x + i) + 1 = nI (x + (i + 1)) := nI_add _ 1
        rw [Option.bind_some, if_neg (nI_ge (by omega) (by omega)), e3, e2, gd_nI (by omega) (by omega), nI_clamp (by omega), ← hc]
        by_cases q : cl (y * w + x + i) = v
        · rw [if_pos q, if_pos q, Option.bind_some, gd_nI (by omega) (by omega), zb_in hv]
        · rw [if_neg q, if_neg q, Option.bind_some, gd_nI (by omega) (by omega), zb_in hv]
      refine ⟨(c + if cl (y * w + x + i) = v then 0 else 1, upd cl (y * w + x + i) v), (c + if cl (y * w + x + i) = v then 0 else 1, Ls T 1 (24 * y + (x + i)) v), hF1, hF2, rfl, ⟨?_, ?_, ?_⟩, h3, ?_⟩
      · dsimp only
        rw [ls_s, Nat.add_assoc]
        exact PgR_upd h2 hi2 (by omega) v
      · intro j hj'
        dsimp only
        by_cases q : j = y * w + x + i
        · rw [q, pk_us]; exact hv
        · rw [pk_un q]; exact h2c j hj'
      · intro j hj' hq
        dsimp only
        rw [ls_s, pk_un (show j ≠ 24 * y + (x + i) by omega)]
        exact h2z j hj' hq
      · intro k hk
        dsimp only
        rw [ls_n hk]; exact h4 k hk)
    m (fu - m) (fu - m) 0 (0, msk) (0, S) (by omega) ⟨rfl, H, rfl, fun _ _ => rfl⟩
  dsimp only at g1 g2
  have hk : fu - m + m = fu := by omega
  rw [hk] at g1 g2
  obtain ⟨c, msk'⟩ := s'
  obtain ⟨c', S'⟩ := t'
  dsimp only at g1 g2 g3 g4 g5 g6
  subst g3
  have hz : fu - m = (fu - m - 1) + 1 := by omega
  refine ⟨c, msk', S', ?_, ?_, g4, g5, g6⟩
  · rw [Nat.add_zero] at g1
    rw [g1, hz, ML_change_msk_l33, if_pos (nI_le (by omega) (by omega))]
  · rw [Nat.add_zero] at g2
    have hE : Mo_end S' (nI x) (nI N) = some (nI (x + m)) := end_eq (by rw [g5, e1]) (by omega) hx hN
    rw [g2, hz, Mo_mask_l42, hE, Option.bind_some, if_pos (nI_le (by omega) (by omega))]
end PUT
theorem col_of {p : Int32} (h0 : ¬ p < 0) (h1 : p ≤ 16777215) : Cl p := by
  obtain ⟨j, hj, rfl⟩ := nI_of2 (M := 16777215) (n := 16777215) (by decide) h0 h1
  exact ⟨j, by omega, rfl⟩
theorem nI_ge1 {p : Int32} (h : ¬ p < 1) : ∃ N, 1 ≤ N ∧ N < 2 ^ 31 ∧ p = nI N := by
  have h0 : ¬ p < 0 := by
    intro q
    apply h
    rw [Int32.lt_iff_toInt_lt] at q ⊢
    have e0 : (0 : Int32).toInt = 0 := by decide
    have e1 : (1 : Int32).toInt = 1 := by decide
    omega
  obtain ⟨N, hN, rfl⟩ := nI_of h0
  refine ⟨N, ?_, hN, rfl⟩
  apply Classical.byContradiction
  intro q
  exact h (nI_lt (a := N) (b := 1) (by omega) (by omega))
theorem op_put (fu : Nat) (hfu : 7000 ≤ fu) : Op_put Rel fu := by
  rintro n ⟨wd, ht, stp, col, msk, bare, M, F, Bw, Bf, pl, rf, hd⟩ S p1 p2 p3 p4 ⟨w, h, st, d, hn, e1, e2, e3, R⟩
  dsimp only at e1 e2 e3 R ⊢
  subst e1 e2 e3
  have R1 := R.1
  have hI : ∀ q1 q2, Mo_isSample S q1 q2 = hsB (nI w) (nI h) q1 q2 := by
    intro q1 q2; rw [← R1.1, ← R1.2.1]; rfl
  have tt : ∀ v, Mo_put_b31 fu S p1 p2 p3 v = some (0, Lf S 0 2) := fun v => by
    unfold Mo_put_b31 Mo_put_b36; rw [lf_s, if_neg (by decide)]
  rcases hsB_cases (w := w) (h := h) (by have := d.1; omega) (by have := d.2.1; omega) p1 p2 with c | ⟨x, y, hx, hy, rfl, rfl, c⟩
  · refine ⟨(0, Lf S 0 1), ?_, Or.inr (Or.inl ⟨?_, lf_s, w, h, st, d, hn, rfl, rfl, rfl, RL_t 1 R⟩)⟩
    · unfold Mo_put; rw [hI, c, Option.bind_some, if_pos rfl]; unfold Mo_put_b36; rw [lf_s, if_neg (by decide)]
    · unfold ML_put_t; rw [show ML_hasSample n (nI w) (nI h) (nI st) col msk bare M F Bw Bf pl rf hd p1 p2 = hsB (nI w) (nI h) p1 p2 from rfl, c, Option.bind_some, if_pos rfl]
  · have hH : ML_hasSample n (nI w) (nI h) (nI st) col msk bare M F Bw Bf pl rf hd (nI x) (nI y) = some 1 := c
    unfold Mo_put ML_put_t ML_put
    rw [hI, c, hH]
    simp only [Option.bind_some]
    simp only [if_neg ne10]
    by_cases c3 : p3 < 1
    · simp only [if_pos c3, tt]
      exact ⟨_, rfl, Or.inr (Or.inr ⟨by trivial, lf_s, w, h, st, d, hn, rfl, rfl, rfl, RL_t 2 R⟩)⟩
    · simp only [if_neg c3]
      by_cases c4 : p4 < 0
      · simp only [if_pos c4, tt]
        exact ⟨_, rfl, Or.inr (Or.inr ⟨by trivial, lf_s, w, h, st, d, hn, rfl, rfl, rfl, RL_t 2 R⟩)⟩
      · simp only [if_neg c4]
        by_cases c5 : p4 ≤ 16777215
        · simp only [if_pos c5]
          obtain ⟨N, hN1, hN, rfl⟩ := nI_ge1 c3
          obtain ⟨cc, col', S', g1, g2, g3, g4, g5⟩ := put_loop (stp := nI st) (wd := nI w) (ht := nI h) (msk := msk) (bare := bare) (M := M) (F := F) (Bw := Bw) (Bf := Bf) (pl := pl) (rf := rf) (hd := hd) d hn p4 (col_of c4 c5) hx hy hN (S := Lf S 0 0) (show (Lf S 0 0).1 1 = nI w from R1.1) (col := col) (show RC w h col ((Lf S 0 0).2 0) from R.2.1) fu (by omega)
          refine ⟨(cc, S'), ?_, Or.inl ⟨(cc, col'), ?_, ?_, rfl, w, h, st, d, hn, rfl, rfl, rfl, ?_⟩⟩
          · unfold Mo_put_b36; rw [lf_s, if_pos (by decide), g2]; rfl
          · unfold ML_change_col
            rw [pk_mul, nI_add, pk_sub (by omega), mn_eq (by omega) (by have := d.1; omega), nI_add, g1]; rfl
          · show S'.1 0 = 0
            rw [g4]; exact lf_s
          · obtain ⟨A1, A2, A3, A4, A5, A6, A7⟩ := R
            have f1 : ∀ k, k ≠ 0 → S'.1 k = S.1 k := fun k hk => by rw [g4]; exact lf_n hk
            have f2 : ∀ k, k ≠ 0 → S'.2 k = S.2 k := fun k hk => g5 k hk
            refine ⟨?_, g3, ?_, ?_, ?_, ?_, ?_⟩
            · unfold RS; rw [f1 1 (by decide), f1 2 (by decide), f1 3 (by decide)]; exact A1
            · rw [f2 1 (by decide)]; exact A3
            · rw [f1 4 (by decide), f1 5 (by decide), f1 6 (by decide), f1 7 (by decide), f1 8 (by decide), f2 2 (by decide), f2 3 (by decide), f2 4 (by decide)]; exact A4
            · rw [f1 9 (by decide), f2 5 (by decide)]; exact A5
            · rw [f1 10 (by decide), f2 6 (by decide)]; exact A6
            · rw [f1 13 (by decide), f1 14 (by decide), f2 9 (by decide)]; exact A7
        · simp only [if_neg c5, tt]
          exact ⟨_, rfl, Or.inr (Or.inr ⟨by trivial, lf_s, w, h, st, d, hn, rfl, rfl, rfl, RL_t 2 R⟩)⟩
