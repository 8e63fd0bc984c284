theorem op_read (fu : Nat) (hfu : 7000 ≤ fu) : Op_read Rel fu := by
  rintro n ⟨wd, ht, stp, col, msk, bare, M, F, Bw, Bf, pl, rf, hd⟩ S ⟨w, h, st, d, hn, e1, e2, e3, R⟩
  dsimp only at e1 e2 e3 R ⊢
  subst e1 e2 e3
  obtain ⟨m, ci, hci, b1, b2, b3, b4, b5⟩ := R.2.2.2.2.2.1
  have hcap := cap_le ci
  have hRB : RB Bf m (S.2 6) := ⟨⟨ci, b3, b4⟩, b1, b5⟩
  obtain ⟨L1, f1, f2, f3, f4, f5⟩ := forget_eq (n := 576) F fu hfu
  have hF5 := R.2.2.2.2.2.2.1
  generalize hS0 : Lf (Lf (Lf (Lf (Lf S 0 0) 11 0) 12 ((-1))) 13 0) 14 0 = S0
  have s0 : ∀ k, k ≠ 0 → k ≠ 11 → k ≠ 12 → k ≠ 13 → k ≠ 14 → S0.1 k = S.1 k := by
    intro k k0 k11 k12 k13 k14
    rw [← hS0, lf_n k14, lf_n k13, lf_n k12, lf_n k11, lf_n k0]
  have s2 : S0.2 = S.2 := by rw [← hS0]; rfl
  have sz : S0.1 0 = 0 ∧ S0.1 13 = nI 0 ∧ S0.1 14 = nI 0 := by rw [← hS0]; exact ⟨rfl, rfl, rfl⟩
  have hTS : TS m (S.2 6) 0 S0 := by
    refine ⟨by rw [s0 10 (by decide) (by decide) (by decide) (by decide) (by decide)]; exact b2, by rw [s2], ?_, ?_, Nat.zero_le _, by omega⟩
    · rw [← hS0]; rfl
    · rw [← hS0]; rfl
  -- what is left of the state
  have rel : ∀ (L' : LyS) (T' : LyS) (pl' rf' : Int32) (hd' : Nat → Int32), (∀ k, k < 13 → k ≠ 11 → k ≠ 12 → T'.1 k = S0.1 k) → (∀ q, q ≠ 7 → q ≠ 8 → q ≠ 9 → T'.2 q = S.2 q) → FoR L' (T'.1 13) (T'.1 14) (T'.2 9) → Rel n (nI w, nI h, nI st, col, msk, bare, M, L', Bw, Bf, pl', rf', hd') T' := by
    intro L' T' pl' rf' hd' h1 h2 h3
    obtain ⟨⟨A11, A12, A13⟩, A2, A3, A4, A5, A6, A7⟩ := R
    have g1 : ∀ k, k < 13 → k ≠ 0 → k ≠ 11 → k ≠ 12 → T'.1 k = S.1 k := fun k hk h0 h11 h12 => by rw [h1 k hk h11 h12, s0 k h0 h11 h12 (by omega) (by omega)]
    refine ⟨w, h, st, d, hn, rfl, rfl, rfl, ⟨?_, ?_, ?_⟩, ?_, ?_, ?_, ?_, ?_, h3⟩
    · show T'.1 1 = _; rw [g1 1 (by decide) (by decide) (by decide) (by decide)]; exact A11
    · show T'.1 2 = _; rw [g1 2 (by decide) (by decide) (by decide) (by decide)]; exact A12
    · show T'.1 3 = _; rw [g1 3 (by decide) (by decide) (by decide) (by decide)]; exact A13
    · show RC w h col (T'.2 0); rw [h2 0 (by decide) (by decide) (by decide)]; exact A2
    · show RM w h msk (T'.2 1); rw [h2 1 (by decide) (by decide) (by decide)]; exact A3
    · show MdR n w h bare M (T'.1 4) (T'.1 5) (T'.1 6) (T'.1 7) (T'.1 8) (T'.2 2) (T'.2 3) (T'.2 4)
      rw [g1 4 (by decide) (by decide) (by decide) (by decide), g1 5 (by decide) (by decide) (by decide) (by decide), g1 6 (by decide) (by decide) (by decide) (by decide), g1 7 (by decide) (by decide) (by decide) (by decide), g1 8 (by decide) (by decide) (by decide) (by decide), h2 2 (by decide) (by decide) (by decide), h2 3 (by decide) (by decide) (by decide), h2 4 (by decide) (by decide) (by decide)]; exact A4
    · show BtR Bw (T'.1 9) (T'.2 5)
      rw [g1 9 (by decide) (by decide) (by decide) (by decide), h2 5 (by decide) (by decide) (by decide)]; exact A5
    · show BtR Bf (T'.1 10) (T'.2 6)
      rw [g1 10 (by decide) (by decide) (by decide) (by decide), h2 6 (by decide) (by decide) (by decide)]; exact A6
  -- a refusal, on both sides
  have refr : ∀ (q : Nat) (T' : LyS) (a b c : Int32), q ≤ 6400 → T'.1 12 = nI q → Mo_read_b147 fu T' a b c = some (-1 - nI q, T') := by
    intro q T' a b c hq hT'
    unfold Mo_read_b147 Mo_read_b173
    rw [hT', if_pos (nI_pos' (show q < 2 ^ 31 by omega)), if_neg (nI_pos (show q < 2 ^ 31 by omega))]
  have refc : ∀ (q : Nat) (pl' : Int32) (hd' : Nat → Int32) (L' : LyS), ∃ L'', Reader_readAll_b73 fu 576 Bf pl' (nI q) hd' L' 0 = some (-1 - nI q, pl', nI q, hd', L'') ∧ ∀ pg, FoR L'' (nI 0) (nI 0) pg := by
    intro q pl' hd' L'
    obtain ⟨L'', g1, g2, g3, g4, g5⟩ := forget_eq (n := 576) L' fu hfu
    refine ⟨L'', ?_, fun pg => ⟨trivial, Or.inl ⟨rfl, rfl, g2⟩⟩⟩
    unfold Reader_readAll_b73
    rw [if_pos rfl, g1]; rfl
  rw [read_RH, hS0]
  unfold ML_read Reader_readAll Reader_readHead
  rw [f1, Option.bind_some]
  rcases head2 (n := 576) (L := L1) hRB hTS rf hd fu hfu with ⟨rw', rh, rst, fs, bs, hd', T', hw, hh, hst, hfs, hbs, c1, c2, c3, c4, c5, c6, c7, c8, c9, c10, c11, c12⟩ | ⟨q, hd', a, b, c, T', hq, c1, c2, c3, c4, c5⟩
  · have hwh : rw' * rh ≤ 24 * 24 := Nat.mul_le_mul hw.2 hh.2
    obtain ⟨L2, g1, g2, g3, g4⟩ := shape_eq (n := 576) (M := L1) (bs := bs) (fs := fs) hw hh hst hbs hfs ⟨by omega, by omega⟩
    have hG : ∀ k, k < 7 → ∀ x : Option (Int32 × Int32 × Int32 × (Nat → Int32) × LyS), gd (nI k) 7 x = x := fun k hk x => gd_nI hk (by omega)
    have hHd : ((Reader_readHead_l2 576 Bf L1 fu 0 0 rf hd).bind fun r8 => (if r8.1 = 0 then gd 2 7 (gd 3 7 (gd 4 7 (gd 5 7 (gd 6 7 ((Layers_shape 576 L1 (r8.2.2.2 ((2 : Int32).toNatClampNeg)) (r8.2.2.2 ((3 : Int32).toNatClampNeg)) (r8.2.2.2 ((4 : Int32).toNatClampNeg)) (r8.2.2.2 ((5 : Int32).toNatClampNeg)) (r8.2.2.2 ((6 : Int32).toNatClampNeg))).bind fun r14 => zb 1 (some ((1 : Int32), r8.2.1, r8.2.2.1, r8.2.2.2, r14))))))) else zb 0 (some (0, r8.2.1, r8.2.2.1, r8.2.2.2, L1)))) = some (1, nI 7, rf, hd', L2) := by
      rw [c1, Option.bind_some, if_pos rfl]
      rw [show gd (2 : Int32) 7 = fun x : Option (Int32 × Int32 × Int32 × (Nat → Int32) × LyS) => x from funext (hG 2 (by decide)), show gd (3 : Int32) 7 = fun x : Option (Int32 × Int32 × Int32 × (Nat → Int32) × LyS) => x from funext (hG 3 (by decide)), show gd (4 : Int32) 7 = fun x : Option (Int32 × Int32 × Int32 × (Nat → Int32) × LyS) => x from funext (hG 4 (by decide)), show gd (5 : Int32) 7 = fun x : Option (Int32 × Int32 × Int32 × (Nat → Int32) × LyS) => x from funext (hG 5 (by decide)), show gd (6 : Int32) 7 = fun x : Option (Int32 × Int32 × Int32 × (Nat → Int32) × LyS) => x from funext (hG 6 (by decide))]
      show (Layers_shape 576 L1 (hd' 2) (hd' 3) (hd' 4) (hd' 5) (hd' 6)).bind _ = _
      rw [c2, c3, c4, c5, c6, g1]; rfl
    rw [hHd, c7, Option.bind_some, Option.bind_some]
    dsimp only
    have hAI : AI m rw' rh rst bs fs 0 0 7 (S.2 6) S0 L2 T' := by
      refine ⟨g2, by rw [g3]; exact f2, ⟨by omega, by omega⟩, c8, fun i' hi' => by omega, fun i' _ hi' => by rw [g4 4 (by decide) (by decide)]; exact f5 i' hi', fun y x hy => by omega, ⟨c11, fun q _ _ _ => by rw [c12]⟩, c9, c10⟩
    have h24 := cd_24 hst.1 hh.2
    rcases rd_all (hd := hd') hRB rf fu hfu (cd rh rst) 0 0 7 L2 T' fu fu (by omega) hAI (by omega) (by omega) with ⟨cnt, p', L', T'', k1, k2, k3⟩ | ⟨pl', q, L', x, T'', k1, k2, k3, k4, k5, k6⟩
    · obtain ⟨V', a2, a3, a4, a5, a6, a7, a8, a9, a10⟩ := k3
      have hpos := cd_pos hst.1 hh.1
      have hp6 := a4.2.2.2.2
      have k1' : Reader_readAll_l19 fu 576 Bf hd' fu 1 0 (nI 7) rf L2 = some (0, 1, nI p', rf, L') := k1
      have k2' : Mo_read_l95 fu (nI rw') (nI rh) (nI rst) fu 0 0 T' = some (0, nI cnt, T'') := k2
      rw [k1', k2', Option.bind_some, Option.bind_some]
      dsimp only
      unfold Reader_readAll_b46 Mo_read_b147
      rw [if_neg ne10, b1, a4.2.2.2.1, if_neg m1_ge0, a4.1, a4.2.2.1]
      by_cases hend : m ≤ p'
      · rw [if_pos (nI_le hend (by omega)), if_pos (nI_le hend (by omega))]
        unfold Reader_readAll_b73 Mo_read_b173
        rw [if_neg ne10, a4.2.2.2.1, if_pos m1_lt0, a2, Option.bind_some]
        refine ⟨_, rfl, _, rfl, rfl, ?_⟩
        apply rel
        · intro k hk h11 h12
          rw [lf_n (by omega), lf_n (by omega), a8.1 k (by omega) h11 h12]
        · intro q h7 h8 h9
          show T''.2 q = _
          rw [a8.2 q h7 h8 h9, s2]
        · refine ⟨trivial, Or.inr ⟨rw', rh, cnt, hw, hh, ⟨by omega, by omega⟩, a2, V'.2.2.2.2.2.2.1, V'.2.2.2.2.2.2.2.1, ?_, lf_s, ?_⟩⟩
          · rw [lf_n (by decide), lf_s]
          · intro y x hy hx
            have hyE : y < cd rh rst * rst := by
              have q1 := div_lt_cd hst.1 hy
              have q2 : (y / rst + 1) * rst ≤ cd rh rst * rst := Nat.mul_le_mul_right rst q1
              have q3 := Nat.lt_div_mul_add (a := y) (b := rst) (by omega)
              rw [Nat.add_mul, Nat.one_mul] at q2
              omega
            exact a7 y x hyE hy hx
      · rw [if_neg (nI_ge (by omega) (by omega)), if_neg (nI_ge (by omega) (by omega)), refuse_TS a4, Option.bind_some]
        unfold Reader_refuse
        rw [zb_in (Or.inl rfl), Option.bind_some]
        obtain ⟨L'', y1, y2⟩ := refc p' (nI p') hd' L'
        have y3 : Mo_read_b173 fu (Lf T'' 12 (nI p')) (nI rw') (nI rh) (nI cnt) = some (-1 - nI p', Lf T'' 12 (nI p')) := by
          unfold Mo_read_b173
          rw [lf_s, if_neg (nI_pos (by omega))]
        dsimp only
        rw [y1, y3, Option.bind_some]
        refine ⟨_, rfl, _, rfl, rfl, ?_⟩
        apply rel
        · intro k hk h11 h12
          rw [lf_n h12, a8.1 k (by omega) h11 h12]
        · intro q h7 h8 h9
          show T''.2 q = _
          rw [a8.2 q h7 h8 h9, s2]
        · rw [lf_n (by decide), lf_n (by decide), a8.1 13 (by decide) (by decide) (by decide), a8.1 14 (by decide) (by decide) (by decide), sz.2.1, sz.2.2]
          exact y2 _
    · have k1' : Reader_readAll_l19 fu 576 Bf hd' fu 1 0 (nI 7) rf L2 = some (0, 0, pl', nI q, L') := k1
      have k2' : Mo_read_l95 fu (nI rw') (nI rh) (nI rst) fu 0 0 T' = some (0, x, T'') := k2
      rw [k1', k2', Option.bind_some, Option.bind_some]
      dsimp only
      obtain ⟨L'', y1, y2⟩ := refc q pl' hd' L'
      unfold Reader_readAll_b46
      rw [if_pos rfl, y1, refr q T'' _ _ _ k4 k3, Option.bind_some]
      refine ⟨_, rfl, _, rfl, rfl, ?_⟩
      apply rel
      · intro k hk h11 h12
        exact k6.1 k (by omega) h11 h12
      · intro q h7 h8 h9
        rw [k6.2 q h7 h8 h9, s2]
      · rw [k6.1 13 (by decide) (by decide) (by decide), k6.1 14 (by decide) (by decide) (by decide), sz.2.1, sz.2.2]
        exact y2 _
  · obtain ⟨f', hf'⟩ : ∃ f', fu = f' + 1 := ⟨fu - 1, by omega⟩
    have hl95 : Mo_read_l95 fu a b c fu 0 0 T' = some (0, 0, T') := by
      conv => lhs; arg 5; rw [hf']
      rw [Mo_read_l95, c3, if_pos (nI_pos' (show q < 2 ^ 31 by omega))]
    have hl19 : Reader_readAll_l19 fu 576 Bf hd' fu 0 0 (nI q) (nI q) L1 = some (0, 0, nI q, nI q, L1) := by
      conv => lhs; arg 5; rw [hf']
      rw [Reader_readAll_l19, if_pos rfl]
    rw [c1, c2, Option.bind_some, Option.bind_some, if_neg (show ¬ (1 : Nat) = 0 by decide), zb_in (Or.inl rfl), Option.bind_some]
    dsimp only
    rw [hl95, hl19, Option.bind_some, Option.bind_some]
    dsimp only
    obtain ⟨L'', y1, y2⟩ := refc q (nI q) hd' L1
    unfold Reader_readAll_b46
    rw [if_pos rfl, y1, refr q T' _ _ _ hq c3, Option.bind_some]
    refine ⟨_, rfl, _, rfl, rfl, ?_⟩
    apply rel
    · intro k hk h11 h12
      exact c4 k (by omega) h11 h12
    · intro q _ _ _
      rw [c5, s2]
    · rw [c4 13 (by decide) (by decide) (by decide), c4 14 (by decide) (by decide) (by decide), sz.2.1, sz.2.2]
      exact y2 _
