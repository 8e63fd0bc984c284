/-- sums -/
def sm (f : Nat → Nat) : Nat → Nat
  | 0 => 0
  | k + 1 => sm f k + f k
theorem sm_congr {f g : Nat → Nat} : ∀ {k : Nat}, (∀ j, j < k → f j = g j) → sm f k = sm g k
  | 0, _ => rfl
  | k + 1, h => by
    show sm f k + f k = sm g k + g k
    rw [sm_congr (k := k) (fun j hj => h j (by omega)), h k (by omega)]
theorem sm_add (f : Nat → Nat) (a : Nat) : ∀ b, sm f (a + b) = sm f a + sm (fun x => f (a + x)) b
  | 0 => rfl
  | b + 1 => by
    show sm f (a + b) + f (a + b) = sm f a + (sm (fun x => f (a + x)) b + f (a + b))
    rw [sm_add f a b, Nat.add_assoc]
theorem sm_blk (f : Nat → Nat) (w : Nat) : ∀ h, sm f (h * w) = sm (fun y => sm (fun x => f (y * w + x)) w) h
  | 0 => by rw [Nat.zero_mul]; rfl
  | h + 1 => by
    rw [Nat.add_mul, Nat.one_mul, sm_add, sm_blk f w h]; rfl
theorem sm_cut {f : Nat → Nat} {k : Nat} : ∀ {m}, k ≤ m → (∀ j, k ≤ j → j < m → f j = 0) → sm f m = sm f k
  | 0, h, _ => by have : k = 0 := by omega
                  subst this; rfl
  | m + 1, h, H => by
    by_cases q : k = m + 1
    · rw [q]
    · show sm f m + f m = _
      rw [H m (by omega) (by omega), sm_cut (m := m) (by omega) (fun j a b => H j a (by omega))]; rfl
theorem sm_le {f : Nat → Nat} (h : ∀ j, f j ≤ 1) : ∀ k, sm f k ≤ k
  | 0 => Nat.le_refl _
  | k + 1 => by have := sm_le h k
                have := h k
                show sm f k + f k ≤ k + 1
                omega
def one (x : Int32) : Nat := if x = nI 0 then 0 else 1
theorem one_le (x : Int32) : one x ≤ 1 := by unfold one; split <;> omega
theorem one_bi {x : Int32} (h : Bi x) : nI (one x) = x := by
  rcases h with rfl | rfl <;> rfl
theorem masked_eq {w h : Nat} {msk a : Nat → Int32} (hw : w ≤ 24) (hh : h ≤ 24) (H : RM w h msk a) : sm (fun j => one (msk j)) (w * h) = sm (fun j => one (a j)) 576 := by
  obtain ⟨h1, h2, h3⟩ := H
  rw [Nat.mul_comm w h, sm_blk, show (576 : Nat) = 24 * 24 from rfl, sm_blk (fun j => one (a j)) 24 24]
  rw [sm_cut (k := h) (m := 24) hh]
  · apply sm_congr
    intro y hy
    rw [sm_cut (k := w) (m := 24) hw]
    · apply sm_congr
      intro x hx
      rw [h1 y x hy hx, Nat.mul_comm y 24]
    · intro x hx hx2
      rw [h3 (y * 24 + x) (by omega) (by omega)]; rfl
  · intro y hy hy2
    have : ∀ k, k ≤ 24 → sm (fun x => one (a (y * 24 + x))) k = 0 := by
      intro k
      induction k with
      | zero => intro _; rfl
      | succ k ih =>
        intro hk
        show sm (fun x => one (a (y * 24 + x))) k + one (a (y * 24 + k)) = 0
        rw [ih (by omega), h3 (y * 24 + k) (by omega) (by omega)]; rfl
    exact this 24 (by omega)
theorem told_ml {n : Nat} {wd ht stp : Int32} {col msk bare : Nat → Int32} {M F : LyS} {Bw Bf : ByS} {pl rf : Int32} {hd : Nat → Int32} (hn : n ≤ 576) (hb : ∀ i, i < n → Bi (msk i)) (fu : Nat) (hfu : 600 ≤ fu) : ML_maskedSamples fu n wd ht stp col msk bare M F Bw Bf pl rf hd = some (nI (sm (fun j => one (msk j)) n)) := by
  obtain ⟨s, g1, g2⟩ := loop1 (σ := Int32) (fun k i s => ML_maskedSamples_l4 n wd ht stp col msk bare M F Bw Bf pl rf hd k s (nI i)) (fun i s => s = nI (sm (fun j => one (msk j)) i)) n
    (by
      intro k i s hi hs
      subst hs
      refine ⟨nI (sm (fun j => one (msk j)) (i + 1)), ?_, rfl⟩
      show ML_maskedSamples_l4 n wd ht stp col msk bare M F Bw Bf pl rf hd (k + 1) (nI (sm (fun j => one (msk j)) i)) (nI i) = _
      rw [ML_maskedSamples_l4, if_neg (nI_ge hi (by omega)), gd_nI hi (by omega), nI_clamp (by omega), ql1, nI_add]
      have : nI (sm (fun j => one (msk j)) i) + msk i = nI (sm (fun j => one (msk j)) (i + 1)) := by
        have e := one_bi (hb i hi)
        have e2 := nI_add (sm (fun j => one (msk j)) i) (one (msk i))
        rw [e] at e2
        exact e2
      rw [this])
    n (fu - n) 0 (nI 0) (by omega) rfl
  subst g2
  unfold ML_maskedSamples
  show (ML_maskedSamples_l4 n wd ht stp col msk bare M F Bw Bf pl rf hd fu (nI 0) (nI 0)).bind _ = _
  rw [show fu = fu - n + n by omega, g1]
  rw [show fu - n = fu - n - 1 + 1 by omega, ML_maskedSamples_l4, if_pos (nI_le (Nat.le_refl _) (by omega))]; rfl
theorem told_mo {S : LyS} (v : Int32) (fu : Nat) (hfu : 600 ≤ fu) : Mo_told_l9 S v fu 0 0 = some (0, nI (sm (fun j => one (S.2 1 j)) 576)) := by
  obtain ⟨s, g1, g2⟩ := loop1 (σ := Int32) (fun k i s => Mo_told_l9 S v k s (nI i)) (fun i s => s = nI (sm (fun j => one (S.2 1 j)) i)) 576
    (by
      intro k i s hi hs
      subst hs
      refine ⟨nI (sm (fun j => one (S.2 1 j)) (i + 1)), ?_, rfl⟩
      show Mo_told_l9 S v (k + 1) (nI (sm (fun j => one (S.2 1 j)) i)) (nI i) = _
      rw [Mo_told_l9, if_neg (show ¬ (576 : Int32) ≤ nI i from nI_ge (b := 576) hi (by omega)), gd_nI hi (by omega), nI_clamp (by omega), ql1, nI_add, ql0, nI_add, nI_add]
      show _ = Mo_told_l9 S v k (nI (sm (fun j => one (S.2 1 j)) i + one (S.2 1 i))) (nI (i + 1))
      unfold one
      by_cases q : S.2 1 i = nI 0
      · rw [if_pos q, if_pos q]
      · rw [if_neg q, if_neg q])
    576 (fu - 576) 0 (nI 0) (by omega) rfl
  subst g2
  show Mo_told_l9 S v fu (nI 0) (nI 0) = _
  rw [show fu = fu - 576 + 576 by omega, g1, show fu - 576 = fu - 576 - 1 + 1 by omega, Mo_told_l9, if_pos (show (576 : Int32) ≤ nI 576 from nI_le (a := 576) (Nat.le_refl _) (by omega))]
theorem op_told (fu : Nat) (hfu : 7000 ≤ fu) : Op_told Rel fu := by
  rintro n ⟨wd, ht, stp, col, msk, bare, M, F, Bw, Bf, pl, rf, hd⟩ S p1 ⟨w, h, st, d, hn, e1, e2, e3, R⟩
  dsimp only at e1 e2 e3 R ⊢
  subst e1 e2 e3
  have hR : Rel n (nI w, nI h, nI st, col, msk, bare, M, F, Bw, Bf, pl, rf, hd) (Lf S 0 0) := ⟨w, h, st, d, hn, rfl, rfl, rfl, RL_t 0 R⟩
  have hwh := DM_n d
  obtain ⟨hw, hh, hst⟩ := d
  obtain ⟨⟨A11, A12, A13⟩, A2, A3, A4, A5, A6, A7⟩ := R
  unfold Mo_told ML_told
  rw [told_mo p1 fu (by omega), Option.bind_some]
  have z1 : (Lf S 0 0).1 1 = nI w := A11
  have z2 : (Lf S 0 0).1 2 = nI h := A12
  have z3 : (Lf S 0 0).1 3 = nI st := A13
  by_cases c0 : p1 = 0
  · simp only [if_pos c0]; exact ⟨_, rfl, _, rfl, z1, hR⟩
  · simp only [if_neg c0]
    by_cases c1 : p1 = 1
    · simp only [if_pos c1]; exact ⟨_, rfl, _, rfl, z2, hR⟩
    · simp only [if_neg c1]
      by_cases c2 : p1 = 2
      · simp only [if_pos c2]
        rw [z2, z3, stripesOf_eq (by omega) (by omega) (by omega), parts_eq (by omega) (by omega) (by omega)]
        exact ⟨_, rfl, _, rfl, rfl, hR⟩
      · simp only [if_neg c2]
        by_cases c3 : p1 = 3
        · simp only [if_pos c3]
          rw [told_ml (by omega) (by rw [hn]; exact A3.2.1) fu (by omega), hn, masked_eq (by omega) (by omega) A3]
          subst hn
          exact ⟨_, rfl, _, rfl, rfl, hR⟩
        · simp only [if_neg c3]
          by_cases c4 : p1 = 4
          · simp only [if_pos c4]
            obtain ⟨m, i, hi, b1, b2, -⟩ := A5
            exact ⟨_, rfl, _, rfl, by show S.1 9 = Bw.1; rw [b1, b2], hR⟩
          · simp only [if_neg c4]
            by_cases c5 : p1 = 5
            · simp only [if_pos c5]
              obtain ⟨m, i, hi, b1, b2, -⟩ := A6
              exact ⟨_, rfl, _, rfl, by show S.1 10 = Bf.1; rw [b1, b2], hR⟩
            · simp only [if_neg c5]
              by_cases c6 : p1 = 6
              · simp only [if_pos c6]
                rcases A7.2 with ⟨y1, y2, y3⟩ | ⟨rw', rh, cnt, hrw, hrh, hcnt, f3, f0, f1, a13, a14, -⟩
                · rw [y3, if_pos e00]; exact ⟨_, rfl, _, rfl, y1, hR⟩
                · rw [f3, if_neg (nI_ne0 (by omega) (by omega))]; exact ⟨_, rfl, _, rfl, by show S.1 13 = F.1 0; rw [a13, f0], hR⟩
              · simp only [if_neg c6]
                by_cases c7 : p1 = 7
                · simp only [if_pos c7]
                  rcases A7.2 with ⟨y1, y2, y3⟩ | ⟨rw', rh, cnt, hrw, hrh, hcnt, f3, f0, f1, a13, a14, -⟩
                  · rw [y3, if_pos e00]; exact ⟨_, rfl, _, rfl, y2, hR⟩
                  · rw [f3, if_neg (nI_ne0 (by omega) (by omega))]; exact ⟨_, rfl, _, rfl, by show S.1 14 = F.1 1; rw [a14, f1], hR⟩
                · simp only [if_neg c7]
                  by_cases c8 : p1 = 8
                  · simp only [if_pos c8]
                    have z4 : (Lf S 0 0).1 4 = S.1 4 := rfl
                    rcases A4.2 with ⟨y1, y2⟩ | ⟨y1, st', bs, fs, cnt, V, hc, y2, y3, -⟩
                    · rw [z4, y1, if_pos e00]; exact ⟨_, rfl, _, rfl, by rw [y2]; rfl, hR⟩
                    · rw [z4, y1, if_neg (by decide)]; exact ⟨_, rfl, _, rfl, by show S.1 8 = _; rw [y2, y3], hR⟩
                  · simp only [if_neg c8]
                    exact ⟨_, rfl, _, rfl, rfl, hR⟩
theorem fill_eq {n : Nat} (v : Nat → Int32) (x : Int32) (fu : Nat) (hn : n ≤ 6400) (hfu : 7000 ≤ fu) : ∃ r, Arrays_fill fu n v x = some r ∧ ∀ j, r j = if j < n then x else v j := by
  obtain ⟨s, g1, g2⟩ := loop1 (σ := Nat → Int32) (fun k i s => Arrays_fill_l5 n x (nI n) k (nI i) s) (fun i s => ∀ j, s j = if j < i then x else v j) n
    (by
      intro k i s hi hs
      refine ⟨upd s i x, ?_, ?_⟩
      · show Arrays_fill_l5 n x (nI n) (k + 1) (nI i) s = _
        rw [Arrays_fill_l5, if_neg (nI_ge hi (by omega)), gd_nI hi (by omega), nI_clamp (by omega), ql1, nI_add]
      · intro j
        by_cases q : j = i
        · rw [q, pk_us, if_pos (by omega)]
        · rw [pk_un q, hs j]
          by_cases q2 : j < i
          · rw [if_pos q2, if_pos (by omega)]
          · rw [if_neg q2, if_neg (by omega)])
    n (fu - n) 0 v (by omega) (fun j => by rw [if_neg (by omega)])
  refine ⟨s, ?_, g2⟩
  unfold Arrays_fill
  show (Arrays_fill_l5 n x (nI n) fu (nI 0) v).bind _ = _
  rw [show fu = fu - n + n by omega, g1, show fu - n = fu - n - 1 + 1 by omega, Arrays_fill_l5, if_pos (nI_le (Nat.le_refl _) (by omega))]; rfl
theorem forget_eq {n : Nat} (L : LyS) (fu : Nat) (hfu : 7000 ≤ fu) : ∃ L', Layers_forget fu n L = some L' ∧ L'.1 3 = nI 0 ∧ (∀ k, k ≠ 3 → L'.1 k = L.1 k) ∧ (∀ k, k ≠ 4 → L'.2 k = L.2 k) ∧ ∀ j, j < 24 → L'.2 4 j = nI 0 := by
  obtain ⟨r, h1, h2⟩ := fill_eq (n := 24) (L.2 4) 0 fu (by omega) hfu
  refine ⟨Lf (La L 4 r) 3 0, ?_, lf_s, fun k hk => lf_n hk, fun k hk => va_up_ne _ _ hk, ?_⟩
  · unfold Layers_forget; rw [h1]; rfl
  · intro j hj
    show va_up L.2 4 r 4 j = _
    rw [va_up_self, h2 j, if_pos hj]; rfl
theorem clear_mo (S : LyS) (fu : Nat) (hfu : 7000 ≤ fu) : ∃ T, Mo_clear_l7 fu 0 S = some (0, T) ∧ T.1 = S.1 ∧ (∀ k, k ≠ 0 → k ≠ 1 → T.2 k = S.2 k) ∧ ∀ j, j < 576 → T.2 0 j = nI 0 ∧ T.2 1 j = nI 0 := by
  obtain ⟨s, g1, g2, g3, g4⟩ := loop1 (σ := LyS) (fun k i s => Mo_clear_l7 k (nI i) s) (fun i T => T.1 = S.1 ∧ (∀ k, k ≠ 0 → k ≠ 1 → T.2 k = S.2 k) ∧ ∀ j, j < i → T.2 0 j = nI 0 ∧ T.2 1 j = nI 0) 576
    (by
      intro k i s hi ⟨h1, h2, h3⟩
      refine ⟨Ls (Ls s 0 i 0) 1 i 0, ?_, h1, ?_, ?_⟩
      · show Mo_clear_l7 (k + 1) (nI i) s = _
        rw [Mo_clear_l7, if_neg (show ¬ (576 : Int32) ≤ nI i from nI_ge (b := 576) hi (by omega)), gd_nI hi (by omega), gd_nI hi (by omega), nI_clamp (by omega), zb_in (Or.inl rfl), ql1, nI_add]
      · intro k h0 h1'
        rw [ls_n h1', ls_n h0]; exact h2 k h0 h1'
      · intro j hj
        rw [ls_s, ls_n (show (0 : Nat) ≠ 1 by decide), ls_s, ls_n (show (1 : Nat) ≠ 0 by decide)]
        by_cases q : j = i
        · rw [q, pk_us, pk_us]; exact ⟨rfl, rfl⟩
        · rw [pk_un q, pk_un q]; exact h3 j (by omega))
    576 (fu - 576) 0 S (by omega) ⟨rfl, fun _ _ _ => rfl, fun j hj => by omega⟩
  refine ⟨s, ?_, g2, g3, g4⟩
  show Mo_clear_l7 fu (nI 0) S = _
  rw [show fu = fu - 576 + 576 by omega, g1, show fu - 576 = fu - 576 - 1 + 1 by omega, Mo_clear_l7, if_pos (show (576 : Int32) ≤ nI 576 from nI_le (a := 576) (Nat.le_refl _) (by omega))]
theorem op_clear (fu : Nat) (hfu : 7000 ≤ fu) : Op_clear Rel fu := by
  rintro n ⟨wd, ht, stp, col, msk, bare, M, F, Bw, Bf, pl, rf, hd⟩ S ⟨w, h, st, d, hn, e1, e2, e3, R⟩
  dsimp only at e1 e2 e3 R ⊢
  subst e1 e2 e3
  have hwh := DM_n d
  obtain ⟨T, t1, t2, t3, t4⟩ := clear_mo (Lf S 0 0) fu hfu
  obtain ⟨c1, c2, c3⟩ := fill_eq (n := n) col 0 fu (by omega) hfu
  obtain ⟨m1, m2, m3⟩ := fill_eq (n := n) msk 0 fu (by omega) hfu
  obtain ⟨M', f1, f2, f3, f4, f5⟩ := forget_eq (n := n) M fu hfu
  obtain ⟨F', o1, o2, o3, o4, o5⟩ := forget_eq (n := 576) F fu hfu
  obtain ⟨⟨A11, A12, A13⟩, A2, A3, A4, A5, A6, A7⟩ := R
  refine ⟨_, by unfold Mo_clear; rw [t1, Option.bind_some, zb_in (Or.inl rfl)], (24, c1, m1, M', F', (0, Bw.2), (0, Bf.2)), ?_, w, h, 24, ⟨d.1, d.2.1, by omega⟩, hn, rfl, rfl, rfl, ?_⟩
  · unfold ML_clear; rw [c2, m2, f1, o1]; rfl
  · dsimp only
    have g1 : T.1 1 = nI w := by rw [t2]; exact A11
    have g2 : T.1 2 = nI h := by rw [t2]; exact A12
    refine ⟨⟨g1, g2, rfl⟩, ⟨?_, ?_⟩, ⟨?_, ?_, ?_⟩, ⟨?_, Or.inl ⟨rfl, f2⟩⟩, ?_, ?_, ⟨?_, Or.inl ⟨rfl, rfl, o2⟩⟩⟩
    · intro y x hy hx
      have := ix_lt hx hy
      show c1 (y * w + x) = T.2 0 (24 * y + x)
      rw [c3, if_pos (by omega), (t4 (24 * y + x) (by have := d.1; have := d.2.1; omega)).1]; rfl
    · intro i hi
      rw [c3, if_pos (by omega)]; exact ⟨0, by omega, rfl⟩
    · intro y x hy hx
      have := ix_lt hx hy
      show m1 (y * w + x) = T.2 1 (24 * y + x)
      rw [m3, if_pos (by omega), (t4 (24 * y + x) (by have := d.1; have := d.2.1; omega)).2]; rfl
    · intro i hi
      rw [m3, if_pos (by omega)]; exact Or.inl rfl
    · intro i hi _
      exact (t4 i hi).2
    · exact trivial
    · obtain ⟨m, i, hi, b1, b2, b3, b4, b5⟩ := A5
      exact ⟨0, i, hi, rfl, rfl, b3, by omega, fun j hj => by omega⟩
    · obtain ⟨m, i, hi, b1, b2, b3, b4, b5⟩ := A6
      exact ⟨0, i, hi, rfl, rfl, b3, by omega, fun j hj => by omega⟩
    · exact trivial
