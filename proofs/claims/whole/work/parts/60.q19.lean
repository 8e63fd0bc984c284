/-! ===== run ===== -/
theorem run_cnt1 {S : LyS} {i j b c : Nat} (v3 : Int32) (k : Nat) (hi : i < 24) (hj : j < 4) (hb : b = 0 ∨ b = 1) (e : S.2 4 (4 * i + j) = nI b) (ec : S.1 8 = nI c) : Mo_run_l107 v3 (nI i) (k + 1) (nI j) S = Mo_run_l107 v3 (nI i) k (nI (j + 1)) (Lf S 8 (nI (c + b))) := by
  rw [Mo_run_l107, if_neg (show ¬ (4 : Int32) ≤ nI j from nI_ge (b := 4) hj (by omega)), show (4 : Int32) * nI i = nI (4 * i) from pk_mul 4 i, nI_add, gd_nI (by omega) (by omega), nI_clamp (by omega), e, ec, nI_p1, nI_p1]
  rcases hb with rfl | rfl
  · rw [if_pos e00]
    show Mo_run_l107 v3 (nI i) k (nI (j + 1)) (Lf S 8 (nI c + nI 0)) = _
    rw [nI_add]
  · rw [if_neg n10]
theorem run_cnt {S : LyS} {i c t : Nat} (v3 : Int32) (fu : Nat) (hfu : 7000 ≤ fu) (hi : i < 24) (e : ∀ l, l < 4 → S.2 4 (4 * i + l) = nI (bit t l)) (ec : S.1 8 = nI c) : ∃ T, Mo_run_l107 v3 (nI i) fu 0 S = some (0, T) ∧ T.1 8 = nI (c + bit t 0 + bit t 1 + bit t 2 + bit t 3) ∧ (∀ k, k ≠ 8 → T.1 k = S.1 k) ∧ T.2 = S.2 := by
  obtain ⟨k, rfl⟩ : ∃ k, fu = k + 1 + 1 + 1 + 1 + 1 := ⟨fu - 5, by omega⟩
  refine ⟨Lf (Lf (Lf (Lf S 8 (nI (c + bit t 0))) 8 (nI (c + bit t 0 + bit t 1))) 8 (nI (c + bit t 0 + bit t 1 + bit t 2))) 8 (nI (c + bit t 0 + bit t 1 + bit t 2 + bit t 3)), ?_, lf_s, fun k hk => by rw [lf_n hk, lf_n hk, lf_n hk, lf_n hk], rfl⟩
  show Mo_run_l107 v3 (nI i) (k + 1 + 1 + 1 + 1 + 1) (nI 0) S = _
  rw [run_cnt1 v3 _ hi (by decide) (bit_le t 0) (e 0 (by decide)) ec, run_cnt1 (S := Lf S 8 (nI (c + bit t 0))) (c := c + bit t 0) (j := 0 + 1) v3 _ hi (by decide) (bit_le t 1) (e 1 (by decide)) lf_s, run_cnt1 (S := Lf (Lf S 8 (nI (c + bit t 0))) 8 (nI (c + bit t 0 + bit t 1))) (c := c + bit t 0 + bit t 1) (j := 0 + 1 + 1) v3 _ hi (by decide) (bit_le t 2) (e 2 (by decide)) lf_s, run_cnt1 (S := Lf (Lf (Lf S 8 (nI (c + bit t 0))) 8 (nI (c + bit t 0 + bit t 1))) 8 (nI (c + bit t 0 + bit t 1 + bit t 2))) (c := c + bit t 0 + bit t 1 + bit t 2) (j := 0 + 1 + 1 + 1) v3 _ hi (by decide) (bit_le t 3) (e 3 (by decide)) lf_s, Mo_run_l107, if_pos (by decide)]
theorem shape_eq {n w h st bs fs : Nat} {M : LyS} (hw : 1 ≤ w ∧ w ≤ 24) (hh : 1 ≤ h ∧ h ≤ 24) (hst : 1 ≤ st ∧ st ≤ 24) (hb : 1 ≤ bs ∧ bs ≤ 8) (hf : 1 ≤ fs ∧ fs ≤ 8) (hn : w * h ≤ n ∧ n ≤ 576) :
    ∃ L', Layers_shape n M (nI w) (nI h) (nI st) (nI fs) (nI bs) = some L' ∧ VL n w h st bs fs L' ∧ L'.1 3 = M.1 3 ∧ (∀ q, q ≠ 5 → q ≠ 6 → L'.2 q = M.2 q) :=
  ⟨_, rfl, ⟨hw, hh, hst, hb, hf, hn, rfl, rfl, rfl, rfl, rfl⟩, rfl, fun _ _ _ => rfl⟩
/-- a stripe stays as it is where others change -/
theorem StR_fr {w h st bs fs i i' : Nat} {M M' : LyS} {bare bare' md md' fi fi' th th' : Nat → Int32} (hw : w ≤ 24) (hh : h ≤ 24) (hst : 1 ≤ st) (hb : 1 ≤ bs ∧ bs ≤ 8) (hf : 1 ≤ fs ∧ fs ≤ 8) (hlt : i' < i) (hi : i < cd h st) (H : StR w h st bs fs i' M bare md fi th)
    (h4 : M'.2 4 i' = M.2 4 i') (hl : ∀ l j, l < 4 → j < i * st * w → M'.2 l j = M.2 l j) (hbr : ∀ j, j < i * st * w → bare' j = bare j) (hth : ∀ j, j < 4 * i → th' j = th j) (hmd : ∀ P, (∀ l, l < 4 → ¬ InR l (i * st) (hs h st i) P) → md' P = md P ∧ fi' P = fi P) : StR w h st bs fs i' M' bare' md' fi' th' := by
  obtain ⟨t, a1, a2, a3, a4, a5, a6⟩ := H
  have hi' : i' < cd h st := by omega
  have hih := hs_h hi hst
  have hih' := hs_h hi' hst
  have hle : i' * st + hs h st i' ≤ i * st := by
    have h1 : (i' + 1) * st ≤ i * st := Nat.mul_le_mul_right st hlt
    have h2 := hs_le (h := h) (st := st) (i := i')
    rw [Nat.add_mul, Nat.one_mul] at h1
    omega
  have hst0 : i' * st * w + w * hs h st i' ≤ i * st * w := by
    have h1 : (i' * st + hs h st i') * w ≤ i * st * w := Nat.mul_le_mul_right w hle
    rw [Nat.add_mul, Nat.mul_comm (hs h st i') w] at h1
    exact h1
  have hpl : ∀ l k, l < 4 → k < mny w (sc bs fs l) (hs h st i') → ∀ l', l' < 4 → ¬ InR l' (i * st) (hs h st i) (ps w (sc bs fs l) l (i' * st) k) := by
    intro l k hl4 hk l' hl'
    have hsc := sc_in (k := l) hb hf
    have hin := ps_in (l := l) hsc.1 hw (show i' * st + hs h st i' ≤ 24 by omega) hk
    unfold InR at hin ⊢
    omega
  refine ⟨t, a1, by rw [h4]; exact a2, ?_, ?_, ?_, ?_⟩
  · intro l hl4
    rw [hth _ (by omega)]; exact a3 l hl4
  · intro l k hl4 hbit hk
    have hsc := sc_in (k := l) hb hf
    have hm := mny_le (w := w) (s := sc bs fs l) (r := hs h st i') hsc.1
    rw [hl l _ hl4 (by omega), (hmd _ (hpl l k hl4 hk)).1]
    exact a4 l k hl4 hbit hk
  · intro l k hl4 hbit hk
    have hsc := sc_in (k := l) hb hf
    have hm := mny_le (w := w) (s := sc bs fs l) (r := hs h st i') hsc.1
    obtain ⟨b, b1, b2, b3⟩ := a5 l k hl4 hbit hk
    refine ⟨b, b1, ?_, ?_⟩
    · rw [hbr _ (by omega)]; exact b2
    · rw [(hmd _ (hpl l k (by omega) hk)).2]; exact b3
  · intro k hk
    rw [hl 1 _ (by decide) (by omega)]
    exact a6 k hk
theorem run_all {n w h st bs fs : Nat} {col msk bare : Nat → Int32} {L S : LyS} (V : VL n w h st bs fs L) (hn : n = w * h) (e3 : L.1 3 = nI 0) (e4 : ∀ j, j < 24 → L.2 4 j = nI 0) (hbare : ∀ j, j < n → bare j = nI 0)
    (s1 : S.1 1 = nI w) (s2 : S.1 2 = nI h) (s3 : S.1 3 = nI st) (s5 : S.1 5 = nI st) (s8 : S.1 8 = nI 0) (s18 : S.1 18 = nI fs) (s19 : S.1 19 = nI bs) (hC : RC w h col (S.2 0)) (hM : RM w h msk (S.2 1)) (ex : Nat) (hex : ex = 0 ∨ ex = 1) (fu : Nat) (hfu : 7000 ≤ fu) :
    ∃ cnt L' bare' S', Maker_makeAll_l17 fu n col msk (nI ex) fu 0 bare L = some (0, bare', L') ∧ Mo_run_l81 fu (nI ex) fu 0 S = some (0, S') ∧ (1 ≤ cnt ∧ cnt ≤ 96) ∧ L'.1 3 = nI cnt ∧ S'.1 8 = nI cnt ∧ VL n w h st bs fs L' ∧ (∀ i, i < cd h st → StR w h st bs fs i L' bare' (S'.2 2) (S'.2 3) (S'.2 4)) ∧ L'.2 5 = L.2 5 ∧ (∀ k, k < 15 → k ≠ 8 → S'.1 k = S.1 k) ∧ ∀ q, q ≠ 2 → q ≠ 3 → q ≠ 4 → S'.2 q = S.2 q := by
  obtain ⟨hw, hh, hst, hb, hf, hnn, -⟩ := id V
  have h24 := cd_24 hst.1 hh.2
  have hpos := cd_pos hst.1 hh.1
  obtain ⟨s', t', g1, g2, cnt, g3, g4, g5, g6, g7, g8, g9, g10, g11, g12⟩ := loop2 (σ := (Nat → Int32) × LyS) (τ := LyS)
    (fun k i s => Maker_makeAll_l17 fu n col msk (nI ex) k (nI i) s.1 s.2)
    (fun k i t => Mo_run_l81 fu (nI ex) k (nI i) t)
    (fun i s t => ∃ cnt, (i ≤ cnt ∧ cnt ≤ 4 * i) ∧ s.2.1 3 = nI cnt ∧ t.1 8 = nI cnt ∧ VL n w h st bs fs s.2 ∧ (∀ i', i' < i → StR w h st bs fs i' s.2 s.1 (t.2 2) (t.2 3) (t.2 4)) ∧ (∀ j, i ≤ j → j < 24 → s.2.2 4 j = nI 0) ∧ (∀ j, i * st * w ≤ j → j < n → s.1 j = nI 0) ∧ s.2.2 5 = L.2 5 ∧ (∀ k, (k < 15 ∨ 18 ≤ k) → k ≠ 8 → t.1 k = S.1 k) ∧ ∀ q, q ≠ 2 → q ≠ 3 → q ≠ 4 → t.2 q = S.2 q) (cd h st)
    (by
      rintro k k' i ⟨br, Lc⟩ T hi ⟨cnt, h1, h2, h3, h4, h5, h6, h7, h8, h9, h10⟩
      dsimp only at h1 h2 h3 h4 h5 h6 h7 h8 h9 h10
      have hih := hs_h hi hst.1
      have hst0 : i * st * w + w * hs h st i ≤ n := by
        have h1 : (i * st + hs h st i) * w ≤ h * w := Nat.mul_le_mul_right w hih.1
        rw [Nat.add_mul, Nat.mul_comm h w, Nat.mul_comm (hs h st i) w] at h1
        omega
      have q1 : T.1 1 = nI w := by rw [h9 1 (by omega) (by decide)]; exact s1
      have q2 : T.1 2 = nI h := by rw [h9 2 (by omega) (by decide)]; exact s2
      have q3 : T.1 3 = nI st := by rw [h9 3 (by omega) (by decide)]; exact s3
      have q5 : T.1 5 = nI st := by rw [h9 5 (by omega) (by decide)]; exact s5
      have q18 : T.1 18 = nI fs := by rw [h9 18 (by omega) (by decide)]; exact s18
      have q19 : T.1 19 = nI bs := by rw [h9 19 (by omega) (by decide)]; exact s19
      obtain ⟨t, L', br', S', c1, c2, c3, c4, c5, c6, c7, c8, c9, c10, c11, c12, c13, c14, c15⟩ := ms_all (col := col) (msk := msk) (bare := br) h4 hi hn (h6 i (Nat.le_refl _) (by omega)) h2 (fun k hk => h7 _ (by omega) (by omega)) q1 q2 q5 q18 q19 (by rw [h10 0 (by decide) (by decide) (by decide)]; exact hC) (by rw [h10 1 (by decide) (by decide) (by decide)]; exact hM) ex hex fu hfu
      obtain ⟨S2, d1, d2, d3, d4⟩ := run_cnt (nI ex) fu hfu (show i < 24 by omega) c3.2.2.1 (show S'.1 8 = nI cnt by rw [c12 8 (by omega)]; exact h3)
      have b0 := bit_le t 0
      have b1 := bit_le t 1
      have b2 := bit_le t 2
      have b3 := bit_le t 3
      refine ⟨(br', L'), S2, ?_, ?_, cnt + bit t 0 + bit t 1 + bit t 2 + bit t 3, ⟨by omega, by omega⟩, c5, d2, VL_fr h4 (fun k hk => c6 k (by omega)) c7 c8, ?_, ?_, ?_, by rw [← h8]; exact c7, ?_, ?_⟩
      · show Maker_makeAll_l17 fu n col msk (nI ex) (k + 1) (nI i) br Lc = _
        rw [Maker_makeAll_l17, stripes_eq h4, Option.bind_some, if_neg (nI_ge hi (by omega)), c1, Option.bind_some, nI_p1]
      · rw [Mo_run_l81, q2, q3, stripesOf_eq (by omega) (by omega) (by omega), Option.bind_some, if_neg (nI_ge hi (by omega)), c2, Option.bind_some, d1, Option.bind_some, nI_p1]
      · intro i' hi'
        dsimp only
        rw [d4]
        by_cases q : i' = i
        · rw [q]; exact ⟨t, c3⟩
        · exact StR_fr hw.2 hh.2 hst.1 hb hf (show i' < i by omega) hi (h5 i' (by omega)) (c9 i' q) (fun l j hl hj => c10 l j hl (by omega)) (fun j hj => c11 j (by omega)) (fun j hj => c14 j (by omega)) c15
      · intro j hj hj2
        dsimp only
        rw [c9 j (by omega)]; exact h6 j (by omega) hj2
      · intro j hj hj2
        dsimp only
        have h1 : (i + 1) * st * w = i * st * w + st * w := by rw [Nat.add_mul, Nat.one_mul, Nat.add_mul]
        have h2 : w * hs h st i ≤ st * w := by rw [Nat.mul_comm st w]; exact Nat.mul_le_mul_left w hs_le
        rw [c11 j (by omega)]; exact h7 j (by omega) hj2
      · intro k hk hk8
        rw [d3 k hk8, c12 k hk]; exact h9 k hk hk8
      · intro q z2 z3 z4
        rw [d4, c13 q z2 z3 z4]; exact h10 q z2 z3 z4)
    (cd h st) (fu - cd h st) (fu - cd h st) 0 (bare, L) S (by omega) ⟨0, ⟨by omega, by omega⟩, e3, s8, V, fun i' hi' => by omega, fun j _ hj => e4 j hj, fun j _ hj => hbare j hj, rfl, fun _ _ _ => rfl, fun _ _ _ _ => rfl⟩
  obtain ⟨br', L'⟩ := s'
  dsimp only at g1 g2 g3 g4 g5 g6 g7 g8 g9 g10 g11 g12
  rw [show fu - cd h st + cd h st = fu by omega, show fu - cd h st = fu - cd h st - 1 + 1 by omega] at g1 g2
  rw [Maker_makeAll_l17, stripes_eq g6, Option.bind_some, if_pos (nI_le (Nat.le_refl _) (by omega))] at g1
  rw [Mo_run_l81, show t'.1 2 = nI h by rw [g11 2 (by omega) (by decide)]; exact s2, show t'.1 3 = nI st by rw [g11 3 (by omega) (by decide)]; exact s3, stripesOf_eq (by omega) (by omega) (by omega), Option.bind_some, if_pos (nI_le (Nat.le_refl _) (by omega))] at g2
  exact ⟨cnt, L', br', t', g1, g2, ⟨by omega, by omega⟩, g4, g5, g6, g7, g10, fun k hk hk8 => g11 k (Or.inl hk) hk8, g12⟩
theorem op_run (fu : Nat) (hfu : 7000 ≤ fu) : Op_run Rel fu := by
  rintro n ⟨wd, ht, stp, col, msk, bare, M, F, Bw, Bf, pl, rf, hd⟩ S p1 p2 p3 ⟨w, h, st, d, hn, e1, e2, e3, R⟩ hp3
  dsimp only at e1 e2 e3 R ⊢
  subst e1 e2 e3
  have tt : Mo_run_b23 fu S p1 p2 p3 = some (0, Lf S 0 1) := by
    unfold Mo_run_b23 Mo_run_b28; rw [lf_s, if_neg (by decide)]
  have tR : Rel n (nI w, nI h, nI st, col, msk, bare, M, F, Bw, Bf, pl, rf, hd) (Lf S 0 1) := ⟨w, h, st, d, hn, rfl, rfl, rfl, RL_t 1 R⟩
  unfold Mo_run ML_run ML_run_t
  by_cases c1 : p1 < 1
  · simp only [if_pos c1]; rw [tt]
    exact ⟨_, rfl, Or.inr ⟨by trivial, lf_s, tR⟩⟩
  simp only [if_neg c1]
  by_cases c2 : 8 < p1
  · simp only [if_pos c2]; rw [tt]
    exact ⟨_, rfl, Or.inr ⟨by trivial, lf_s, tR⟩⟩
  simp only [if_neg c2]
  by_cases c3 : p2 < 1
  · simp only [if_pos c3]; rw [tt]
    exact ⟨_, rfl, Or.inr ⟨by trivial, lf_s, tR⟩⟩
  simp only [if_neg c3]
  by_cases c4 : p2 ≤ 8
  · simp only [if_pos c4]
    obtain ⟨fs, hf1, hf2, rfl⟩ := nI_ge1 c1
    obtain ⟨bs, hb1, hb2, rfl⟩ := nI_ge1 c3
    have hf8 : fs ≤ 8 := by
      rw [Int32.not_lt] at c2
      exact (nI_leI (a := fs) (b := 8) hf2 (by omega)).mp c2
    have hb8 : bs ≤ 8 := (nI_leI (a := bs) (b := 8) hb2 (by omega)).mp c4
    obtain ⟨ex, hex, rfl⟩ : ∃ ex, (ex = 0 ∨ ex = 1) ∧ p3 = nI ex := by
      rcases hp3 with rfl | rfl
      · exact ⟨0, Or.inl rfl, rfl⟩
      · exact ⟨1, Or.inr rfl, rfl⟩
    have hn576 := DM_n d
    obtain ⟨L0, a1, a2, a3, a4⟩ := shape_eq (n := n) (M := M) (bs := bs) (fs := fs) d.1 d.2.1 d.2.2 ⟨hb1, hb8⟩ ⟨hf1, hf8⟩ ⟨by omega, by omega⟩
    obtain ⟨L1, b1, b2, b3, b4, b5⟩ := forget_eq (n := n) L0 fu hfu
    obtain ⟨br, o1, o2⟩ := fill_eq (n := n) bare 0 fu (by omega) hfu
    have V1 : VL n w h st bs fs L1 := VL_fr a2 (fun k hk => b3 k (by omega)) (b4 5 (by decide)) (b4 6 (by decide))
    generalize hS0 : Lf (Lf (Lf (Lf (Lf (Lf (Lf (Lf S 0 0) 4 1) 5 ((Lf (Lf S 0 0) 4 1).1 3)) 6 (nI fs)) 7 (nI bs)) 18 (nI fs)) 19 (nI bs)) 8 0 = S0
    obtain ⟨A11, A12, A13⟩ := R.1
    have z5 : (Lf (Lf S 0 0) 4 1).1 3 = nI st := A13
    have f1 : ∀ k, k ≠ 0 → k ≠ 4 → k ≠ 5 → k ≠ 6 → k ≠ 7 → k ≠ 18 → k ≠ 19 → k ≠ 8 → S0.1 k = S.1 k := by
      intro k h0 h4 h5 h6 h7 h18 h19 h8
      rw [← hS0, lf_n h8, lf_n h19, lf_n h18, lf_n h7, lf_n h6, lf_n h5, lf_n h4, lf_n h0]
    have f2 : S0.2 = S.2 := by rw [← hS0]; rfl
    have x5 : S0.1 5 = nI st := by
      rw [← hS0, lf_n (by decide), lf_n (by decide), lf_n (by decide), lf_n (by decide), lf_n (by decide), lf_s]; exact z5
    have x18 : S0.1 18 = nI fs := by rw [← hS0, lf_n (by decide), lf_n (by decide), lf_s]
    have x19 : S0.1 19 = nI bs := by rw [← hS0, lf_n (by decide), lf_s]
    have x8 : S0.1 8 = nI 0 := by rw [← hS0, lf_s]; rfl
    have x6 : S0.1 6 = nI fs := by rw [← hS0, lf_n (by decide), lf_n (by decide), lf_n (by decide), lf_n (by decide), lf_s]
    have x7 : S0.1 7 = nI bs := by rw [← hS0, lf_n (by decide), lf_n (by decide), lf_n (by decide), lf_s]
    have x4 : S0.1 4 = nI 1 := by rw [← hS0, lf_n (by decide), lf_n (by decide), lf_n (by decide), lf_n (by decide), lf_n (by decide), lf_n (by decide), lf_s]; rfl
    have x0 : S0.1 0 = 0 := by rw [← hS0, lf_n (by decide), lf_n (by decide), lf_n (by decide), lf_n (by decide), lf_n (by decide), lf_n (by decide), lf_n (by decide), lf_s]
    obtain ⟨cnt, L', br', S', g1, g2, g3, g4, g5, g6, g7, g8, g9, g10⟩ := run_all (col := col) (msk := msk) (bare := br) (L := L1) (S := S0) V1 hn b2 b5 (fun j hj => by rw [o2 j, if_pos hj]; rfl) (by rw [f1 1 (by decide) (by decide) (by decide) (by decide) (by decide) (by decide) (by decide) (by decide)]; exact A11) (by rw [f1 2 (by decide) (by decide) (by decide) (by decide) (by decide) (by decide) (by decide) (by decide)]; exact A12) (by rw [f1 3 (by decide) (by decide) (by decide) (by decide) (by decide) (by decide) (by decide) (by decide)]; exact A13) x5 x8 x18 x19 (by rw [f2]; exact R.2.1) (by rw [f2]; exact R.2.2.1) ex hex fu hfu
    have h1 : ∀ k, k < 15 → k ≠ 0 → k ≠ 4 → k ≠ 5 → k ≠ 6 → k ≠ 7 → k ≠ 8 → S'.1 k = S.1 k := by
      intro k hk h0 h4 h5 h6 h7 h8
      rw [g9 k hk h8, f1 k h0 h4 h5 h6 h7 (by omega) (by omega) h8]
    have h2 : ∀ q, q ≠ 2 → q ≠ 3 → q ≠ 4 → S'.2 q = S.2 q := by
      intro q z2 z3 z4
      rw [g10 q z2 z3 z4, f2]
    refine ⟨(nI cnt, S'), ?_, Or.inl ⟨(nI cnt, br', L'), ?_, ?_, rfl, w, h, st, d, hn, rfl, rfl, rfl, ?_⟩⟩
    · unfold Mo_run_b28
      rw [lf_s, if_pos le00, zb_in (Or.inr rfl), hS0, g2, Option.bind_some]
      show some (S'.1 8, S') = _
      rw [g5]
    · rw [a1, Option.bind_some]
      unfold Maker_makeAll
      rw [b1, Option.bind_some, o1, Option.bind_some, g1, Option.bind_some, Option.bind_some]
      show some (L'.1 3, br', L') = _
      rw [g4]
    · show S'.1 0 = 0
      rw [g9 0 (by decide) (by decide)]; exact x0
    · obtain ⟨-, A2, A3, A4, A5, A6, A7⟩ := R
      refine ⟨⟨?_, ?_, ?_⟩, ?_, ?_, ⟨?_, Or.inr ⟨?_, st, bs, fs, cnt, g6, g3, g4, g5, ?_, ?_, ?_, g7⟩⟩, ?_, ?_, ?_⟩
      · show S'.1 1 = _
        rw [h1 1 (by decide) (by decide) (by decide) (by decide) (by decide) (by decide) (by decide)]; exact A11
      · show S'.1 2 = _
        rw [h1 2 (by decide) (by decide) (by decide) (by decide) (by decide) (by decide) (by decide)]; exact A12
      · show S'.1 3 = _
        rw [h1 3 (by decide) (by decide) (by decide) (by decide) (by decide) (by decide) (by decide)]; exact A13
      · show RC w h col (S'.2 0)
        rw [h2 0 (by decide) (by decide) (by decide)]; exact A2
      · show RM w h msk (S'.2 1)
        rw [h2 1 (by decide) (by decide) (by decide)]; exact A3
      · exact trivial
      · show S'.1 4 = _
        rw [g9 4 (by decide) (by decide)]; exact x4
      · show S'.1 5 = _
        rw [g9 5 (by decide) (by decide)]; exact x5
      · show S'.1 6 = _
        rw [g9 6 (by decide) (by decide)]; exact x6
      · show S'.1 7 = _
        rw [g9 7 (by decide) (by decide)]; exact x7
      · show BtR Bw (S'.1 9) (S'.2 5)
        rw [h1 9 (by decide) (by decide) (by decide) (by decide) (by decide) (by decide) (by decide), h2 5 (by decide) (by decide) (by decide)]; exact A5
      · show BtR Bf (S'.1 10) (S'.2 6)
        rw [h1 10 (by decide) (by decide) (by decide) (by decide) (by decide) (by decide) (by decide), h2 6 (by decide) (by decide) (by decide)]; exact A6
      · show FoR F (S'.1 13) (S'.1 14) (S'.2 9)
        rw [h1 13 (by decide) (by decide) (by decide) (by decide) (by decide) (by decide) (by decide), h1 14 (by decide) (by decide) (by decide) (by decide) (by decide) (by decide) (by decide), h2 9 (by decide) (by decide) (by decide)]; exact A7
  · simp only [if_neg c4]; rw [tt]
    exact ⟨_, rfl, Or.inr ⟨by trivial, lf_s, tR⟩⟩
