theorem e00 : nI 0 = 0 := rfl
section FR
variable {n w h st : Nat} {col msk bare : Nat → Int32} {M F : LyS} {Bw Bf : ByS} {S S' : LyS}
theorem RL_fr (H : RL n w h st col msk bare M F Bw Bf S) (f1 : ∀ k, 1 ≤ k → k ≤ 14 → k ≠ 11 → k ≠ 12 → S'.1 k = S.1 k) (f2 : ∀ k, k ≠ 7 → k ≠ 8 → S'.2 k = S.2 k) : RL n w h st col msk bare M F Bw Bf S' := by
  unfold RL RS
  rw [f1 1 (by decide) (by decide) (by decide) (by decide), f1 2 (by decide) (by decide) (by decide) (by decide), f1 3 (by decide) (by decide) (by decide) (by decide), f1 4 (by decide) (by decide) (by decide) (by decide), f1 5 (by decide) (by decide) (by decide) (by decide), f1 6 (by decide) (by decide) (by decide) (by decide), f1 7 (by decide) (by decide) (by decide) (by decide), f1 8 (by decide) (by decide) (by decide) (by decide), f1 9 (by decide) (by decide) (by decide) (by decide), f1 10 (by decide) (by decide) (by decide) (by decide), f1 13 (by decide) (by decide) (by decide) (by decide), f1 14 (by decide) (by decide) (by decide) (by decide), f2 0 (by decide) (by decide), f2 1 (by decide) (by decide), f2 2 (by decide) (by decide), f2 3 (by decide) (by decide), f2 4 (by decide) (by decide), f2 5 (by decide) (by decide), f2 6 (by decide) (by decide), f2 9 (by decide) (by decide)]
  exact H
end FR
theorem op_mask (fu : Nat) (hfu : 7000 ≤ fu) : Op_mask Rel fu := by
  rintro n ⟨wd, ht, stp, col, msk, bare, M, F, Bw, Bf, pl, rf, hd⟩ S p1 p2 p3 p4 ⟨w, h, st, d, hn, e1, e2, e3, R⟩ hp4
  dsimp only at e1 e2 e3 R ⊢
  subst e1 e2 e3
  have R1 := R.1
  have hI : ∀ q1 q2, Mo_isSample S q1 q2 = hsB (nI w) (nI h) q1 q2 := by
    intro q1 q2; rw [← R1.1, ← R1.2.1]; rfl
  rcases hsB_cases (w := w) (h := h) (by have := d.1; omega) (by have := d.2.1; omega) p1 p2 with c | ⟨x, y, hx, hy, rfl, rfl, c⟩
  · refine ⟨(0, Lf S 0 1), ?_, Or.inr (Or.inl ⟨?_, lf_s, w, h, st, d, hn, rfl, rfl, rfl, RL_t 1 R⟩)⟩
    · unfold Mo_mask; rw [hI, c, Option.bind_some, if_pos rfl]; unfold Mo_mask_b24; rw [lf_s, if_neg (by decide)]
    · unfold ML_mask_t; rw [show ML_hasSample n (nI w) (nI h) (nI st) col msk bare M F Bw Bf pl rf hd p1 p2 = hsB (nI w) (nI h) p1 p2 from rfl, c, Option.bind_some, if_pos rfl]
  · have hH : ML_hasSample n (nI w) (nI h) (nI st) col msk bare M F Bw Bf pl rf hd (nI x) (nI y) = some 1 := c
    unfold Mo_mask ML_mask_t ML_mask
    rw [hI, c, hH]
    simp only [Option.bind_some]
    simp only [if_neg ne10]
    by_cases c3 : 1 ≤ p3
    · simp only [if_pos c3]
      have c3' : ¬ p3 < 1 := by rw [Int32.not_lt]; exact c3
      obtain ⟨N, hN1, hN, rfl⟩ := nI_ge1 c3'
      obtain ⟨cc, msk', S', g1, g2, g3, g4, g5⟩ := mask_loop (stp := nI st) (wd := nI w) (ht := nI h) (col := col) (bare := bare) (M := M) (F := F) (Bw := Bw) (Bf := Bf) (pl := pl) (rf := rf) (hd := hd) d hn p4 hp4 hx hy hN (S := Lf S 0 0) (show (Lf S 0 0).1 1 = nI w from R1.1) (msk := msk) (show RM w h msk ((Lf S 0 0).2 1) from R.2.2.1) fu (by omega)
      have hc : ML_change_msk fu n (nI w) (nI h) (nI st) col msk bare M F Bw Bf pl rf hd (nI x) (nI y) (nI N) p4 = some (cc, msk') := by
        unfold ML_change_msk
        rw [pk_mul, nI_add, pk_sub (by omega), mn_eq (by omega) (by have := d.1; omega), nI_add, g1]; rfl
      refine ⟨(cc, S'), ?_, Or.inl ⟨(cc, msk'), ?_, ?_, rfl, w, h, st, d, hn, rfl, rfl, rfl, ?_⟩⟩
      · unfold Mo_mask_b24; rw [lf_s, if_pos (by decide), g2]; rfl
      · rcases hp4 with rfl | rfl
        · rw [if_pos rfl, hc]; rfl
        · rw [if_neg (by decide), hc]; rfl
      · show S'.1 0 = 0
        rw [g4]; exact lf_s
      · obtain ⟨A1, A2, A3, A4, A5, A6, A7⟩ := R
        have f1 : ∀ k, k ≠ 0 → S'.1 k = S.1 k := fun k hk => by rw [g4]; exact lf_n hk
        have f2 : ∀ k, k ≠ 1 → S'.2 k = S.2 k := fun k hk => g5 k hk
        refine ⟨?_, ?_, g3, ?_, ?_, ?_, ?_⟩
        · unfold RS; rw [f1 1 (by decide), f1 2 (by decide), f1 3 (by decide)]; exact A1
        · rw [f2 0 (by decide)]; exact A2
        · rw [f1 4 (by decide), f1 5 (by decide), f1 6 (by decide), f1 7 (by decide), f1 8 (by decide), f2 2 (by decide), f2 3 (by decide), f2 4 (by decide)]; exact A4
        · rw [f1 9 (by decide), f2 5 (by decide)]; exact A5
        · rw [f1 10 (by decide), f2 6 (by decide)]; exact A6
        · rw [f1 13 (by decide), f1 14 (by decide), f2 9 (by decide)]; exact A7
    · simp only [if_neg c3]
      refine ⟨(0, Lf S 0 2), ?_, Or.inr (Or.inr ⟨by trivial, lf_s, w, h, st, d, hn, rfl, rfl, rfl, RL_t 2 R⟩)⟩
      unfold Mo_mask_b24; rw [lf_s, if_neg (by decide)]
theorem op_stripe (fu : Nat) : Op_stripe Rel fu := by
  rintro n ⟨wd, ht, stp, col, msk, bare, M, F, Bw, Bf, pl, rf, hd⟩ S p1 ⟨w, h, st, d, hn, e1, e2, e3, R⟩
  dsimp only at e1 e2 e3 R ⊢
  subst e1 e2 e3
  unfold Mo_stripe ML_stripe ML_stripe_t
  have tt : Mo_stripe_b12 S p1 = some (0, Lf S 0 1) := by
    unfold Mo_stripe_b12 Mo_stripe_b17; rw [lf_s, if_neg (by decide)]
  by_cases c1 : p1 < 1
  · simp only [if_pos c1, tt]
    exact ⟨_, rfl, Or.inr ⟨by trivial, lf_s, w, h, st, d, hn, rfl, rfl, rfl, RL_t 1 R⟩⟩
  · simp only [if_neg c1]
    by_cases c2 : p1 ≤ 24
    · simp only [if_pos c2]
      obtain ⟨N, hN1, hN, rfl⟩ := nI_ge1 c1
      have hN24 : N ≤ 24 := (nI_leI (a := N) (b := 24) hN (by omega)).mp c2
      have hh := d.2.1
      have q1 : Mo_stripe_b17 S (nI N) 0 = some (nI (cd h N), Lf (Lf S 0 0) 3 (nI N)) := by
        unfold Mo_stripe_b17
        rw [lf_s, if_pos (by decide)]
        have z1 : (Lf (Lf S 0 0) 3 (nI N)).1 2 = nI h := R.1.2.1
        have z2 : (Lf (Lf S 0 0) 3 (nI N)).1 3 = nI N := lf_s
        rw [z1, z2, stripesOf_eq (by omega) (by omega) (by omega)]; rfl
      rw [q1, parts_eq (by omega) (by omega) (by omega)]
      exact ⟨_, rfl, Or.inl ⟨_, rfl, rfl, rfl, w, h, N, ⟨d.1, d.2.1, hN1, hN24⟩, hn, rfl, rfl, rfl, ⟨⟨R.1.1, R.1.2.1, rfl⟩, R.2⟩⟩⟩
    · simp only [if_neg c2, tt]
      exact ⟨_, rfl, Or.inr ⟨by trivial, lf_s, w, h, st, d, hn, rfl, rfl, rfl, RL_t 1 R⟩⟩
theorem cap_le : ∀ i, cap i ≤ 6400
  | 0 => by decide
  | i + 1 => by unfold cap; omega
/-- whether a row holds a byte -/
theorem holds_cases {B : ByS} {m : Nat} (e : B.1 = nI m) (hm : m < 2 ^ 31) (p : Int32) : (ByteRow_holds B p = some 0 ∧ (p < 0 ∨ ¬ p < nI m)) ∨ ∃ j, j < m ∧ p = nI j ∧ ByteRow_holds B p = some 1 := by
  unfold ByteRow_holds
  rw [e]
  rcases pk_ix p hm with h1 | h1 | ⟨j, hj, rfl⟩
  · left; rw [if_pos h1]; exact ⟨rfl, Or.inl h1⟩
  · left
    refine ⟨?_, Or.inr (by rw [Int32.not_lt]; exact h1)⟩
    by_cases h0 : p < 0
    · rw [if_pos h0]; rfl
    · rw [if_neg h0, if_pos h1]; rfl
  · right
    refine ⟨j, hj, rfl, ?_⟩
    rw [if_neg (nI_pos (by omega)), if_neg (nI_ge hj hm)]; rfl
theorem op_byteAt (fu : Nat) : Op_byteAt Rel fu := by
  rintro n ⟨wd, ht, stp, col, msk, bare, M, F, Bw, Bf, pl, rf, hd⟩ S p1 ⟨w, h, st, d, hn, e1, e2, e3, R⟩
  dsimp only at e1 e2 e3 R ⊢
  subst e1 e2 e3
  obtain ⟨m, i, hi, b1, b2, b3, b4, b5⟩ := R.2.2.2.2.1
  have hcap := cap_le i
  unfold Mo_byteAt ML_byteAt ML_byteAt_t
  have tt : Mo_byteAt_b13 S p1 = some (0, Lf S 0 1) := by
    unfold Mo_byteAt_b13 Mo_byteAt_b18; rw [lf_s, if_neg (by decide)]
  rcases holds_cases b1 (by omega) p1 with ⟨c, c'⟩ | ⟨j, hj, rfl, c⟩
  · have q : (if p1 < 0 then Mo_byteAt_b13 S p1 else if p1 < S.1 9 then Mo_byteAt_b18 S p1 0 else Mo_byteAt_b13 S p1) = some (0, Lf S 0 1) := by
      rw [b2]
      rcases c' with c' | c'
      · rw [if_pos c', tt]
      · by_cases c0 : p1 < 0
        · rw [if_pos c0, tt]
        · rw [if_neg c0, if_neg c', tt]
    rw [q, c]
    exact ⟨_, rfl, Or.inr ⟨by trivial, lf_s, w, h, st, d, hn, rfl, rfl, rfl, RL_t 1 R⟩⟩
  · have q : (if nI j < 0 then Mo_byteAt_b13 S (nI j) else if nI j < S.1 9 then Mo_byteAt_b18 S (nI j) 0 else Mo_byteAt_b13 S (nI j)) = some (S.2 5 j, Lf S 0 0) := by
      rw [b2, if_neg (nI_pos (by omega)), if_pos (nI_lt hj (by omega))]
      unfold Mo_byteAt_b18
      rw [lf_s, if_pos (by decide), gd_nI (by omega) (by omega), nI_clamp (by omega)]; rfl
    rw [q, c]
    refine ⟨_, rfl, Or.inl ⟨Bw.2.2 j, ?_, rfl, (b5 j hj).1.symm, w, h, st, d, hn, rfl, rfl, rfl, RL_t 0 R⟩⟩
    rw [Option.bind_some, if_neg (by decide)]
    unfold ByteRow_valueAt
    rw [c, Option.bind_some, if_neg (by decide), b3, gd_nI (by omega) (by omega), nI_clamp (by omega)]; rfl
theorem isByte_cases (p : Int32) : (ML_isByte p = some 0 ∧ (p < 0 ∨ ¬ p ≤ 255)) ∨ ∃ b, b < 256 ∧ p = nI b ∧ ML_isByte p = some 1 := by
  unfold ML_isByte
  by_cases h0 : p < 0
  · left; rw [if_pos h0]; exact ⟨rfl, Or.inl h0⟩
  · rw [if_neg h0]
    by_cases h1 : 255 < p
    · left; rw [if_pos h1]; exact ⟨rfl, Or.inr (by rw [Int32.not_le]; exact h1)⟩
    · right
      rw [if_neg h1]
      obtain ⟨j, hj, rfl⟩ := nI_of2 (M := 255) (n := 255) (by decide) h0 (by rw [Int32.not_lt] at h1; exact h1)
      exact ⟨j, by omega, rfl, rfl⟩
theorem op_alter (fu : Nat) : Op_alter Rel fu := by
  rintro n ⟨wd, ht, stp, col, msk, bare, M, F, Bw, Bf, pl, rf, hd⟩ S p1 p2 ⟨w, h, st, d, hn, e1, e2, e3, R⟩
  dsimp only at e1 e2 e3 R ⊢
  subst e1 e2 e3
  obtain ⟨m, i, hi, b1, b2, b3, b4, b5⟩ := R.2.2.2.2.2.1
  have hcap := cap_le i
  unfold Mo_alter ML_alter ML_alter_t
  have t1 : Mo_alter_b13 S p1 p2 = some (0, Lf S 0 1) := by
    unfold Mo_alter_b13 Mo_alter_b33; rw [lf_s, if_neg (by decide)]
  rcases holds_cases b1 (by omega) p1 with ⟨c, c'⟩ | ⟨j, hj, rfl, c⟩
  · have q : (if p1 < 0 then Mo_alter_b13 S p1 p2 else if p1 < S.1 10 then (if p2 < 0 then Mo_alter_b28 S p1 p2 else if p2 ≤ 255 then Mo_alter_b33 S p1 p2 0 else Mo_alter_b28 S p1 p2) else Mo_alter_b13 S p1 p2) = some (0, Lf S 0 1) := by
      rw [b2]
      rcases c' with c' | c'
      · rw [if_pos c', t1]
      · by_cases c0 : p1 < 0
        · rw [if_pos c0, t1]
        · rw [if_neg c0, if_neg c', t1]
    rw [q, c]
    exact ⟨_, rfl, Or.inr (Or.inl ⟨by trivial, lf_s, w, h, st, d, hn, rfl, rfl, rfl, RL_t 1 R⟩)⟩
  · have t2 : Mo_alter_b28 S (nI j) p2 = some (0, Lf S 0 2) := by
      unfold Mo_alter_b28 Mo_alter_b33; rw [lf_s, if_neg (by decide)]
    rw [b2, if_neg (nI_pos (by omega)), if_pos (nI_lt hj (by omega)), c]
    simp only [Option.bind_some]
    simp only [if_neg ne10]
    rcases isByte_cases p2 with ⟨c2, c2'⟩ | ⟨b, hb, rfl, c2⟩
    · have q : (if p2 < 0 then Mo_alter_b28 S (nI j) p2 else if p2 ≤ 255 then Mo_alter_b33 S (nI j) p2 0 else Mo_alter_b28 S (nI j) p2) = some (0, Lf S 0 2) := by
        rcases c2' with c' | c'
        · rw [if_pos c', t2]
        · by_cases c0 : p2 < 0
          · rw [if_pos c0, t2]
          · rw [if_neg c0, if_neg c', t2]
      rw [q, c2]
      exact ⟨_, rfl, Or.inr (Or.inr ⟨by trivial, lf_s, w, h, st, d, hn, rfl, rfl, rfl, RL_t 2 R⟩)⟩
    · have q : (if nI b < 0 then Mo_alter_b28 S (nI j) (nI b) else if nI b ≤ 255 then Mo_alter_b33 S (nI j) (nI b) 0 else Mo_alter_b28 S (nI j) (nI b)) = some (S.2 6 j, Ls (Lf S 0 0) 6 j (nI b)) := by
        rw [if_neg (nI_pos (by omega)), if_pos (show nI b ≤ (255 : Int32) from nI_le (b := 255) (by omega) (by omega))]
        unfold Mo_alter_b33
        rw [lf_s, if_pos (by decide), gd_nI (by omega) (by omega), gd_nI (by omega) (by omega), nI_clamp (by omega)]; rfl
      rw [q, c2]
      have hv : ByteRow_valueAt Bf (nI j) = some (Bf.2.2 j) := by
        unfold ByteRow_valueAt
        rw [c, Option.bind_some, if_neg (by decide), b3, gd_nI (by omega) (by omega), nI_clamp (by omega)]
      refine ⟨_, rfl, Or.inl ⟨(Bf.2.2 j, (Bf.1, Bf.2.1, upd Bf.2.2 j (nI b))), ?_, rfl, (b5 j hj).1.symm, w, h, st, d, hn, rfl, rfl, rfl, ?_⟩⟩
      · rw [Option.bind_some, if_neg (by decide)]
        unfold ByteRow_replace
        rw [hv, c, Option.bind_some, Option.bind_some, if_neg (by decide), b3, gd_nI (by omega) (by omega), nI_clamp (by omega)]; rfl
      · refine ⟨R.1, R.2.1, R.2.2.1, R.2.2.2.1, R.2.2.2.2.1, ⟨m, i, hi, b1, b2, b3, b4, ?_⟩, R.2.2.2.2.2.2⟩
        intro k hk
        dsimp only
        rw [ls_s]
        by_cases q : k = j
        · rw [q, pk_us, pk_us]; exact ⟨rfl, b, hb, rfl⟩
        · rw [pk_un q, pk_un q]; exact b5 k hk
theorem op_at (fu : Nat) : Op_at Rel fu := by
  rintro n ⟨wd, ht, stp, col, msk, bare, M, F, Bw, Bf, pl, rf, hd⟩ S p1 p2 ⟨w, h, st, d, hn, e1, e2, e3, R⟩
  dsimp only at e1 e2 e3 R ⊢
  subst e1 e2 e3
  unfold Mo_at ML_at ML_at_t
  rcases R.2.2.2.2.2.2.2 with ⟨c1, c2, c3⟩ | ⟨rw', rh, cnt, hrw, hrh, hcnt, f3, f0, f1, a13, a14, hpg⟩
  · rw [c1, c3]
    simp only [if_pos e00]
    refine ⟨(0, Lf S 0 1), ?_, Or.inr (Or.inl ⟨by trivial, lf_s, w, h, st, d, hn, rfl, rfl, rfl, RL_t 1 R⟩)⟩
    unfold Mo_at_b41; rw [lf_s, if_neg (by decide)]
  · have hne : ¬ nI cnt = 0 := nI_ne0 (by omega) (by omega)
    have hnw : ¬ nI rw' = 0 := nI_ne0 (by omega) (by omega)
    rw [a13, a14, f3]
    simp only [if_neg hne, if_neg hnw]
    have hL : Layers_hasSample 576 F p1 p2 = hsB (nI rw') (nI rh) p1 p2 := by rw [← f0, ← f1]; rfl
    have t2 : Mo_at_b36 S p1 p2 = some (0, Lf S 0 2) := by
      unfold Mo_at_b36 Mo_at_b41; rw [lf_s, if_neg (by decide)]
    rw [hL]
    rcases pk_ix p1 (n := rw') (by omega) with q | q | ⟨x, hx, rfl⟩
    · refine ⟨(0, Lf S 0 2), ?_, Or.inr (Or.inr ⟨?_, lf_s, w, h, st, d, hn, rfl, rfl, rfl, RL_t 2 R⟩)⟩
      · rw [if_pos q, t2]
      · unfold hsB; rw [if_pos q]; rfl
    · refine ⟨(0, Lf S 0 2), ?_, Or.inr (Or.inr ⟨?_, lf_s, w, h, st, d, hn, rfl, rfl, rfl, RL_t 2 R⟩)⟩
      · rw [if_pos q, t2]; split
        · rfl
        · split <;> rfl
      · unfold hsB; rw [if_pos q]; split <;> rfl
    · rw [if_neg (nI_pos (by omega)), if_neg (nI_ge hx (by omega))]
      rcases pk_ix p2 (n := rh) (by omega) with q | q | ⟨y, hy, rfl⟩
      · refine ⟨(0, Lf S 0 2), ?_, Or.inr (Or.inr ⟨?_, lf_s, w, h, st, d, hn, rfl, rfl, rfl, RL_t 2 R⟩)⟩
        · rw [if_pos q, t2]
        · unfold hsB; rw [if_neg (nI_pos (by omega)), if_neg (nI_ge hx (by omega)), if_pos q]; rfl
      · have q' : ¬ p2 < nI rh := by rw [Int32.not_lt]; exact q
        refine ⟨(0, Lf S 0 2), ?_, Or.inr (Or.inr ⟨?_, lf_s, w, h, st, d, hn, rfl, rfl, rfl, RL_t 2 R⟩)⟩
        · rw [if_neg q', t2]; split <;> rfl
        · unfold hsB; rw [if_neg (nI_pos (by omega)), if_neg (nI_ge hx (by omega)), if_pos q]; split <;> rfl
      · rw [if_neg (nI_pos (by omega)), if_pos (nI_lt hy (by omega)), hsB_in (by omega) (by omega) hx hy]
        refine ⟨(S.2 9 (24 * y + x), Lf S 0 0), ?_, Or.inl ⟨S.2 9 (24 * y + x), ?_, rfl, rfl, w, h, st, d, hn, rfl, rfl, rfl, RL_t 0 R⟩⟩
        · unfold Mo_at_b41
          have e3 : (24 : Int32) * nI y + nI x = nI (24 * y + x) := by rw [ql24, pk_mul, nI_add]
          rw [lf_s, if_pos (by decide), e3, gd_nI (by omega) (by omega), nI_clamp (by omega)]; rfl
        · rw [Option.bind_some, if_neg (by decide), hpg y x hy hx]; rfl
