theorem ad_ad {α : Type} (a b c d : Nat) (k : Option (α × Nat × Nat)) : ad a b (ad c d k) = ad (a + c) (b + d) k := by
  cases k with
  | none => rfl
  | some z => unfold ad; simp only [Option.map_some, Nat.add_assoc]
theorem ad_0 {α : Type} (k : Option (α × Nat × Nat)) : ad 0 0 k = k := by
  cases k with
  | none => rfl
  | some z => unfold ad; simp only [Option.map_some, Nat.zero_add]
theorem ad_some {α : Type} (a b c d : Nat) (z : α) : ad a b (some (z, c, d)) = some (z, a + c, b + d) := rfl
/-- what the rows up to the i-th take together -/
def ph : Nat → Nat
  | 0 => 0
  | i + 1 => ph i + cap (i + 1)
theorem ph_mono {i j : Nat} (h : i ≤ j) : ph i ≤ ph j := by
  induction j with
  | zero => have : i = 0 := by omega
            subst this; exact Nat.le_refl _
  | succ j ih =>
    by_cases q : i = j + 1
    · rw [q]; exact Nat.le_refl _
    · have := ih (by omega)
      show ph i ≤ ph j + cap (j + 1)
      omega
theorem cap_7 : cap 7 = 6400 := by decide
theorem ph_7 : ph 7 = 14080 := by decide
theorem cap_up {i : Nat} (h : cap i < 6400) : cap i < cap (i + 1) := by
  show cap i < min 6400 (2 * cap i + 64)
  omega
theorem b47 {c f : _} {m : Nat} (b : Int32) (h : m < c) (hc : c ≤ 6400) : ByteRow_append_b47 (nI m, c, f) b = some ((nI (m + 1), c, upd f m b), 0, 0) := by
  unfold ByteRow_append_b47
  dsimp only
  rw [gd_nI h (by omega), nI_clamp (by omega), ql1, nI_add]
theorem append_eq {B : ByS} {m i : Nat} (e : B.1 = nI m) (ec : B.2.1 = cap i) (hm : m ≤ cap i) (hi : i ≤ 7) (h64 : m < 6400) (b : Int32) :
    ∃ i' f', i ≤ i' ∧ i' ≤ 7 ∧ m + 1 ≤ cap i' ∧ ByteRow_append B b = some ((nI (m + 1), cap i', f'), i' - i, ph i' - ph i) ∧ f' m = b ∧ ∀ j, j < m → f' j = B.2.2 j := by
  obtain ⟨b1, bc, f⟩ := B
  dsimp only at e ec ⊢
  subst e ec
  have hcap := cap_le i
  have hr : ByteRow_room (nI m, cap i, f) = some (nI (6400 - m)) := by
    unfold ByteRow_room
    dsimp only
    rw [ql6400, pk_sub (by omega)]
  unfold ByteRow_append
  rw [hr, Option.bind_some, if_pos (show (1 : Int32) ≤ nI (6400 - m) from nI_le (a := 1) (by omega) (by omega))]
  dsimp only
  by_cases q : m = cap i
  · have hi7 : i < 7 := by
      apply Classical.byContradiction
      intro z
      have : i = 7 := by omega
      subst this
      rw [cap_7] at q
      omega
    have hup := cap_up (i := i) (by omega)
    have hc' := cap_le (i + 1)
    have e1 : mn 6400 (2 * nI m + 64) = nI (cap (i + 1)) := by
      rw [ql2, ql6400, show (64 : Int32) = nI 64 from rfl, pk_mul, nI_add, mn_eq (by omega) (by omega), q]; rfl
    rw [if_pos (by rw [q]), e1, nI_clamp (by omega)]
    unfold gN
    rw [nI_clamp (by omega), if_pos ⟨by omega, nI_pos (by omega), by omega, by omega⟩, b47 _ (by omega) (by omega), ad_some]
    refine ⟨i + 1, upd (cpO f (cap i) (cap (i + 1))) m b, by omega, by omega, by omega, ?_, pk_us, ?_⟩
    · rw [show i + 1 - i = 1 by omega, show ph (i + 1) - ph i = cap (i + 1) by show ph i + cap (i + 1) - ph i = _; omega]; rfl
    · intro j hj
      rw [pk_un (by omega)]
      unfold cpO
      rw [mn_eq (by omega) (by omega), nI_clamp (by omega), pk_cpy_in (by omega) (by omega)]
      simp
  · rw [if_neg (by intro z; exact q ((nI_eq (by omega) (by omega)).mp z)), b47 _ (by omega) (by omega)]
    exact ⟨i, upd f m b, by omega, hi, by omega, by rw [Nat.sub_self, Nat.sub_self], pk_us, fun j hj => pk_un (by omega)⟩
/-- two loops side by side, the first with its costs -/
theorem loop2A {σ τ ρ ρ' : Type} (F : Nat → Nat → σ → Option (ρ × Nat × Nat)) (G : Nat → Nat → τ → Option ρ') (p : σ → Nat) (I : Nat → σ → τ → Prop) (e : Nat)
    (step : ∀ k k' i s t, i < e → I i s t → ∃ s' t', F (k + 1) i s = ad (p s' - p s) (ph (p s') - ph (p s)) (F k (i + 1) s') ∧ p s ≤ p s' ∧ G (k' + 1) i t = G k' (i + 1) t' ∧ I (i + 1) s' t') :
    ∀ m k k' i s t, i + m = e → I i s t → ∃ s' t', F (k + m) i s = ad (p s' - p s) (ph (p s') - ph (p s)) (F k e s') ∧ p s ≤ p s' ∧ G (k' + m) i t = G k' e t' ∧ I e s' t' := by
  intro m
  induction m with
  | zero => intro k k' i s t h hI; subst h; exact ⟨s, t, by rw [Nat.sub_self, Nat.sub_self, ad_0]; rfl, Nat.le_refl _, rfl, hI⟩
  | succ m ih =>
    intro k k' i s t h hI
    obtain ⟨s', t', h1, hp, h2, h3⟩ := step (k + m) (k' + m) i s t (by omega) hI
    obtain ⟨s2, t2, g1, gp, g2, g3⟩ := ih k k' (i + 1) s' t' (by omega) h3
    have m1 := ph_mono hp
    have m2 := ph_mono gp
    refine ⟨s2, t2, ?_, by omega, (by rw [← g2, ← h2]; rfl), g3⟩
    show F (k + m + 1) i s = _
    rw [h1, g1, ad_ad]
    congr 1 <;> omega
theorem op_feed (fu : Nat) : Op_feed Rel fu := by
  rintro n ⟨wd, ht, stp, col, msk, bare, M, F, Bw, Bf, pl, rf, hd⟩ S p1 ⟨w, h, st, d, hn, e1, e2, e3, R⟩
  dsimp only at e1 e2 e3 R ⊢
  subst e1 e2 e3
  obtain ⟨m, i, hi, b1, b2, b3, b4, b5⟩ := R.2.2.2.2.2.1
  have hcap := cap_le i
  have hr : ByteRow_room Bf = some (nI (6400 - m)) := by
    unfold ByteRow_room
    rw [b1, ql6400, pk_sub (by omega)]
  unfold Mo_feed ML_feed ML_feed_t
  have t1 : Mo_feed_b12 S p1 = some (0, Lf S 0 1) := by
    unfold Mo_feed_b12 Mo_feed_b31; rw [lf_s, if_neg (by decide)]
  rcases isByte_cases p1 with ⟨c, c'⟩ | ⟨b, hb, rfl, c⟩
  · have q : (if p1 < 0 then Mo_feed_b12 S p1 else if p1 ≤ 255 then (if S.1 10 = 6400 then Mo_feed_b31 S p1 2 else Mo_feed_b31 S p1 0) else Mo_feed_b12 S p1) = some (0, Lf S 0 1) := by
      rcases c' with c' | c'
      · rw [if_pos c', t1]
      · by_cases c0 : p1 < 0
        · rw [if_pos c0, t1]
        · rw [if_neg c0, if_neg c', t1]
    rw [q, c]
    exact ⟨_, rfl, Or.inr (Or.inl ⟨by trivial, lf_s, w, h, st, d, hn, rfl, rfl, rfl, RL_t 1 R⟩)⟩
  · rw [if_neg (nI_pos (by omega)), if_pos (show nI b ≤ (255 : Int32) from nI_le (b := 255) (by omega) (by omega)), c, hr, b2]
    simp only [Option.bind_some, if_neg ne10]
    by_cases q : m = 6400
    · subst q
      have q1 : nI 6400 = 6400 := rfl
      have q2 : ¬ (1 : Int32) ≤ nI (6400 - 6400) := by decide
      simp only [if_pos q1, if_neg q2]
      refine ⟨(0, Lf S 0 2), ?_, Or.inr (Or.inr ⟨by trivial, lf_s, w, h, st, d, hn, rfl, rfl, rfl, RL_t 2 R⟩)⟩
      unfold Mo_feed_b31; rw [lf_s, if_neg (by decide)]
    · have q1 : ¬ nI m = 6400 := by intro z; exact q ((nI_eq (a := m) (b := 6400) (by omega) (by omega)).mp z)
      have q2 : (1 : Int32) ≤ nI (6400 - m) := nI_le (a := 1) (by omega) (by omega)
      simp only [if_neg q1, if_pos q2]
      obtain ⟨i', f', hi1, hi2, hi3, ha, hf1, hf2⟩ := append_eq b1 b3 b4 hi (by omega) (nI b)
      have z10 : (Lf S 0 0).1 10 = nI m := b2
      refine ⟨(nI (m + 1), Lf (Ls (Lf S 0 0) 6 m (nI b)) 10 (nI (m + 1))), ?_, Or.inl ⟨((nI (m + 1), (nI (m + 1), cap i', f')), i' - i, ph i' - ph i), ?_, rfl, rfl, ⟨w, h, st, d, hn, rfl, rfl, rfl, ?_⟩, ?_, ?_⟩⟩
      · unfold Mo_feed_b31
        rw [lf_s, if_pos (by decide), z10, gd_nI (by omega) (by omega), nI_clamp (by omega)]
        have z11 : (Ls (Lf S 0 0) 6 m (nI b)).1 10 = nI m := b2
        rw [z11, ql1, nI_add, lf_s]
      · rw [ha, Option.bind_some, ad_some]; rfl
      · refine ⟨R.1, R.2.1, R.2.2.1, R.2.2.2.1, R.2.2.2.2.1, ⟨m + 1, i', hi2, rfl, rfl, rfl, hi3, ?_⟩, R.2.2.2.2.2.2⟩
        intro k hk
        show f' k = (Ls (Lf S 0 0) 6 m (nI b)).2 6 k ∧ Bt ((Ls (Lf S 0 0) 6 m (nI b)).2 6 k)
        rw [ls_s]
        by_cases qk : k = m
        · rw [qk, pk_us, hf1]; exact ⟨rfl, b, hb, rfl⟩
        · rw [pk_un qk, hf2 k (by omega)]; exact b5 k (by omega)
      · show i' - i ≤ 7; omega
      · show ph i' - ph i ≤ 14080
        have := ph_mono hi2
        rw [ph_7] at this
        omega
theorem op_pass (fu : Nat) (hfu : 7000 ≤ fu) : Op_pass Rel fu := by
  rintro n ⟨wd, ht, stp, col, msk, bare, M, F, Bw, Bf, pl, rf, hd⟩ S p1 p2 ⟨w, h, st, d, hn, e1, e2, e3, R⟩
  dsimp only at e1 e2 e3 R ⊢
  subst e1 e2 e3
  obtain ⟨mw, iw, hiw, bw1, bw2, bw3, bw4, bw5⟩ := R.2.2.2.2.1
  obtain ⟨m, i, hi, b1, b2, b3, b4, b5⟩ := R.2.2.2.2.2.1
  have hcap := cap_le i
  have hcapw := cap_le iw
  have hr : ByteRow_room Bf = some (nI (6400 - m)) := by
    unfold ByteRow_room
    rw [b1, ql6400, pk_sub (by omega)]
  unfold Mo_pass ML_pass ML_pass_t
  have t1 : Mo_pass_b13 fu S p1 p2 = some (0, Lf S 0 1) := by
    unfold Mo_pass_b13 Mo_pass_b26; rw [lf_s, if_neg (by decide)]
  rcases holds_cases bw1 (by omega) p1 with ⟨c, c'⟩ | ⟨fr, hfr, rfl, c⟩
  · have q : (if p1 < 0 then Mo_pass_b13 fu S p1 p2 else if p1 < S.1 9 then (if 0 ≤ p2 then Mo_pass_b26 fu S p1 p2 0 else Mo_pass_b26 fu S p1 p2 2) else Mo_pass_b13 fu S p1 p2) = some (0, Lf S 0 1) := by
      rw [bw2]
      rcases c' with c' | c'
      · rw [if_pos c', t1]
      · by_cases c0 : p1 < 0
        · rw [if_pos c0, t1]
        · rw [if_neg c0, if_neg c', t1]
    rw [q, c]
    exact ⟨_, rfl, Or.inr (Or.inl ⟨by trivial, lf_s, w, h, st, d, hn, rfl, rfl, rfl, RL_t 1 R⟩)⟩
  · rw [bw2, if_neg (nI_pos (by omega)), if_pos (nI_lt hfr (by omega)), c, hr]
    simp only [Option.bind_some, if_neg ne10]
    by_cases c2 : 0 ≤ p2
    · simp only [if_pos c2]
      obtain ⟨N, hN, rfl⟩ := nI_of (x := p2) (by rw [Int32.not_lt]; exact c2)
      have hmn : mn (nI N) (Bw.1 - nI fr) = nI (min N (mw - fr)) := by
        rw [bw1, pk_sub (by omega), mn_eq (by omega) (by omega)]
      rw [hmn]
      let k0 := min N (mw - fr)
      have hk0 : k0 = min N (mw - fr) := rfl
      rw [← hk0]
      have hb26 : Mo_pass_b26 fu S (nI fr) (nI N) 0 = Mo_pass_b58 fu (Lf S 0 0) (nI fr) (nI k0) := by
        unfold Mo_pass_b26
        have z9 : (Lf S 0 0).1 9 = nI mw := bw2
        rw [lf_s, if_pos (by decide), z9, pk_sub (by omega)]
        by_cases q : mw - fr ≤ N
        · rw [if_pos (nI_le q hN), hk0, Nat.min_eq_right q]
        · rw [if_neg (nI_ge (by omega) (by omega)), hk0, Nat.min_eq_left (by omega)]
      rw [hb26]
      unfold Mo_pass_b58
      have z10 : (Lf S 0 0).1 10 = nI m := b2
      rw [z10, nI_add]
      by_cases q : m + k0 ≤ 6400
      · have q1 : nI (m + k0) ≤ 6400 := nI_le (b := 6400) q (by omega)
        have q2 : nI k0 ≤ nI (6400 - m) := nI_le (by omega) (by omega)
        simp only [if_pos q1, if_pos q2]
        obtain ⟨s', t', g1, gp, g2, g3, g4, g5, g6, g6b, g7, g8⟩ := loop2A (σ := ByS × Nat) (τ := LyS)
          (fun k j s => ML_pass_l73 n (nI w) (nI h) (nI st) col msk bare M F Bw pl rf hd (nI fr) (nI k0) k (nI j) s.1)
          (fun k j t => Mo_pass_l92 (nI fr) (nI k0) k (nI j) t) (fun s => s.2)
          (fun j s t => s.2 ≤ 7 ∧ s.1.1 = nI (m + j) ∧ s.1.2.1 = cap s.2 ∧ m + j ≤ cap s.2 ∧ (∀ x, x < m + j → s.1.2.2 x = t.2 6 x ∧ Bt (t.2 6 x)) ∧ t.1 = upd (Lf S 0 0).1 10 (nI (m + j)) ∧ ∀ x, x ≠ 6 → t.2 x = S.2 x) k0
          (by
            rintro k k' j ⟨B, ci⟩ T hj ⟨h1, h2, h3, h4, h5, h6, h7⟩
            dsimp only at h1 h2 h3 h4 h5 h6 h7 ⊢
            obtain ⟨i', f', hi1, hi2, hi3, ha, hf1, hf2⟩ := append_eq h2 h3 h4 h1 (by omega) (Bw.2.2 (fr + j))
            have z : fr + j < mw := by omega
            obtain ⟨y1, y2⟩ := bw5 (fr + j) z
            have hT10 : T.1 10 = nI (m + j) := by rw [h6, pk_us]
            refine ⟨((nI (m + j + 1), cap i', f'), i'), Lf (Ls T 6 (m + j) (T.2 5 (fr + j))) 10 (nI (m + j + 1)), ?_, hi1, ?_, ?_⟩
            · rw [ML_pass_l73, if_neg (nI_ge hj (by omega)), nI_add]
              have hv : ByteRow_valueAt Bw (nI (fr + j)) = some (Bw.2.2 (fr + j)) := by
                rcases holds_cases bw1 (by omega) (nI (fr + j)) with ⟨-, o⟩ | ⟨jj, -, -, o⟩
                · rcases o with o | o
                  · exact absurd o (nI_pos (by omega))
                  · exact absurd (nI_lt z (by omega)) o
                · unfold ByteRow_valueAt
                  rw [o, Option.bind_some, if_neg (by decide), bw3, gd_nI (by omega) (by omega), nI_clamp (by omega)]
              rw [hv, Option.bind_some, ha, Option.bind_some, ql1, nI_add]
            · rw [Mo_pass_l92, if_neg (nI_ge hj (by omega)), nI_add, gd_nI (by omega) (by omega), hT10, gd_nI (by omega) (by omega), nI_clamp (by omega), nI_clamp (by omega)]
              have z11 : (Ls T 6 (m + j) (T.2 5 (fr + j))).1 10 = nI (m + j) := hT10
              rw [z11, ql1, nI_add, nI_add]
            · refine ⟨hi2, by rw [Nat.add_assoc], rfl, by omega, ?_, ?_, ?_⟩
              · intro x hx
                show f' x = (Ls T 6 (m + j) (T.2 5 (fr + j))).2 6 x ∧ Bt ((Ls T 6 (m + j) (T.2 5 (fr + j))).2 6 x)
                rw [ls_s]
                have h75 := h7 5 (by decide)
                by_cases qx : x = m + j
                · rw [qx, pk_us, hf1, h75]; exact ⟨y1, y2⟩
                · rw [pk_un qx, hf2 x (by omega)]; exact h5 x (by omega)
              · show upd T.1 10 _ = _
                rw [h6]
                funext x
                by_cases qx : x = 10
                · rw [qx, pk_us, pk_us, Nat.add_assoc]
                · rw [pk_un qx, pk_un qx, pk_un qx]
              · intro x hx
                show (Ls T 6 (m + j) (T.2 5 (fr + j))).2 x = _
                rw [ls_n hx]; exact h7 x hx)
          k0 (fu - k0) (fu - k0) 0 (Bf, i) (Lf S 0 0) (by omega) ⟨hi, b1, b3, b4, b5, by
              funext x
              by_cases qx : x = 10
              · rw [qx, pk_us]; exact z10
              · rw [pk_un qx], fun _ _ => rfl⟩
        obtain ⟨B', ci⟩ := s'
        dsimp only at g1 gp g2 g3 g4 g5 g6 g6b g7 g8
        have hk : fu - k0 + k0 = fu := by omega
        have hz : fu - k0 = (fu - k0 - 1) + 1 := by omega
        rw [hk] at g1 g2
        rw [hz, ML_pass_l73, if_pos (nI_le (Nat.le_refl _) (by omega))] at g1
        rw [hz, Mo_pass_l92, if_pos (nI_le (Nat.le_refl _) (by omega))] at g2
        refine ⟨(nI k0, t'), ?_, Or.inl ⟨((nI k0, B'), ci - i, ph ci - ph i), ?_, ?_, rfl, ⟨w, h, st, d, hn, rfl, rfl, rfl, ?_⟩, ?_, ?_⟩⟩
        · unfold Mo_pass_b77
          rw [lf_s, if_pos (by decide), show Lf (Lf S 0 0) 0 0 = Lf S 0 0 from by
            unfold Lf; refine Prod.ext ?_ rfl; funext x
            by_cases qx : x = 0
            · show upd (upd S.1 0 0) 0 0 x = upd S.1 0 0 x; rw [qx, pk_us, pk_us]
            · show upd (upd S.1 0 0) 0 0 x = upd S.1 0 0 x; rw [pk_un qx]]
          show (Mo_pass_l92 (nI fr) (nI k0) fu (nI 0) (Lf S 0 0)).bind _ = _
          rw [g2]; rfl
        · show (ML_pass_l73 n (nI w) (nI h) (nI st) col msk bare M F Bw pl rf hd (nI fr) (nI k0) fu (nI 0) Bf).bind _ = _
          rw [g1, ad_some]; rfl
        · show t'.1 0 = 0
          rw [g7]; rfl
        · obtain ⟨A1, A2, A3, A4, A5, A6, A7⟩ := R
          have f1 : ∀ k, k ≠ 0 → k ≠ 10 → t'.1 k = S.1 k := fun k hk hk2 => by rw [g7, pk_un hk2]; exact lf_n hk
          have f2 : ∀ k, k ≠ 6 → t'.2 k = S.2 k := fun k hk => g8 k hk
          refine ⟨?_, ?_, ?_, ?_, ?_, ?_, ?_⟩
          · show t'.1 1 = _ ∧ t'.1 2 = _ ∧ t'.1 3 = _
            rw [f1 1 (by decide) (by decide), f1 2 (by decide) (by decide), f1 3 (by decide) (by decide)]; exact A1
          · show RC w h col (t'.2 0); rw [f2 0 (by decide)]; exact A2
          · show RM w h msk (t'.2 1); rw [f2 1 (by decide)]; exact A3
          · show MdR n w h bare M (t'.1 4) (t'.1 5) (t'.1 6) (t'.1 7) (t'.1 8) (t'.2 2) (t'.2 3) (t'.2 4)
            rw [f1 4 (by decide) (by decide), f1 5 (by decide) (by decide), f1 6 (by decide) (by decide), f1 7 (by decide) (by decide), f1 8 (by decide) (by decide), f2 2 (by decide), f2 3 (by decide), f2 4 (by decide)]; exact A4
          · show BtR Bw (t'.1 9) (t'.2 5)
            rw [f1 9 (by decide) (by decide), f2 5 (by decide)]; exact A5
          · exact ⟨m + k0, ci, g3, g4, by show t'.1 10 = _; rw [g7, pk_us], g5, g6, g6b⟩
          · show FoR F (t'.1 13) (t'.1 14) (t'.2 9)
            rw [f1 13 (by decide) (by decide), f1 14 (by decide) (by decide), f2 9 (by decide)]; exact A7
        · show ci - i ≤ 7; omega
        · show ph ci - ph i ≤ 14080
          have := ph_mono g3
          rw [ph_7] at this
          omega
      · have q1 : ¬ nI (m + k0) ≤ 6400 := nI_ge (a := 6400) (by omega) (by omega)
        have q2 : ¬ nI k0 ≤ nI (6400 - m) := nI_ge (by omega) (by omega)
        simp only [if_neg q1, if_neg q2]
        refine ⟨(0, Lf (Lf S 0 0) 0 3), ?_, Or.inr (Or.inr (Or.inr ⟨by trivial, lf_s, w, h, st, d, hn, rfl, rfl, rfl, RL_t 3 (RL_t 0 R)⟩))⟩
        unfold Mo_pass_b77; rw [lf_s, if_neg (by decide)]
    · simp only [if_neg c2]
      refine ⟨(0, Lf S 0 2), ?_, Or.inr (Or.inr (Or.inl ⟨by trivial, lf_s, w, h, st, d, hn, rfl, rfl, rfl, RL_t 2 R⟩))⟩
      unfold Mo_pass_b26; rw [lf_s, if_neg (by decide)]
