/-! ===== write: runs ===== -/
def rlf (v : Nat → Int32) (mn0 k : Nat) : Nat → Nat → Nat
  | 0, m => m
  | f + 1, m => if m < 255 ∧ k + m < mn0 ∧ v (k + m) = v k then rlf v mn0 k f (m + 1) else m
theorem rlf_spec {v : Nat → Int32} {mn0 k : Nat} : ∀ (f m : Nat), 1 ≤ m → m ≤ 255 → k + m ≤ mn0 → (∀ j, j < m → v (k + j) = v k) → 255 < f + m →
    m ≤ rlf v mn0 k f m ∧ rlf v mn0 k f m ≤ 255 ∧ k + rlf v mn0 k f m ≤ mn0 ∧ (∀ j, j < rlf v mn0 k f m → v (k + j) = v k) ∧ (rlf v mn0 k f m = 255 ∨ k + rlf v mn0 k f m = mn0 ∨ (k + rlf v mn0 k f m < mn0 ∧ v (k + rlf v mn0 k f m) ≠ v k)) := by
  intro f
  induction f with
  | zero => intro m h1 h2 h3 h4 h5; omega
  | succ f ih =>
    intro m h1 h2 h3 h4 h5
    unfold rlf
    by_cases q : m < 255 ∧ k + m < mn0 ∧ v (k + m) = v k
    · rw [if_pos q]
      obtain ⟨a1, a2, a3, a4, a5⟩ := ih (m + 1) (by omega) (by omega) (by omega) (fun j hj => by
        by_cases z : j = m
        · rw [z]; exact q.2.2
        · exact h4 j (by omega)) (by omega)
      exact ⟨by omega, a2, a3, a4, a5⟩
    · rw [if_neg q]
      refine ⟨Nat.le_refl _, h2, h3, h4, ?_⟩
      by_cases z1 : m = 255
      · exact Or.inl z1
      · by_cases z2 : k + m = mn0
        · exact Or.inr (Or.inl z2)
        · exact Or.inr (Or.inr ⟨by omega, fun z => q ⟨by omega, by omega, z⟩⟩)
section RN
variable {n w tp r bs fs st0 l : Nat} {L : LyS}
theorem same_eq {S : LyS} (H : WL n w tp r bs fs st0 l L S) {k : Nat} (hk : k < mny w (sc bs fs l) r) : ∀ (f m : Nat), 1 ≤ m → m ≤ 255 → 255 < f + m → k + m ≤ mny w (sc bs fs l) r →
    Mo_same_l2 S (nI l) (nI k) f (nI m) = some (0, nI (rlf (fun j => L.2 l (st0 + j)) (mny w (sc bs fs l) r) k f m)) := by
  obtain ⟨p1, p2, p3⟩ := WL_p H hk
  obtain ⟨h1, h2, h3, h4, h5, h6⟩ := id H
  intro f
  induction f with
  | zero => intro m g1 g2 g3; omega
  | succ f ih =>
    intro m g1 g2 g3 g4
    unfold rlf
    rw [Mo_same_l2]
    by_cases z1 : m < 255
    · rw [if_neg (show ¬ (255 : Int32) ≤ nI m from nI_ge (b := 255) z1 (by omega)), count_eq h1 h2 h3, Option.bind_some, nI_add]
      by_cases z2 : k + m < mny w (sc bs fs l) r
      · obtain ⟨q1, q2, q3⟩ := WL_p H z2
        rw [if_neg (nI_ge z2 (by omega)), q1, Option.bind_some, gd_nI q2 (by omega), p1, Option.bind_some, gd_nI p2 (by omega), nI_clamp (by omega), nI_clamp (by omega), ← (h6 _ z2).1, ← (h6 _ hk).1, nI_p1]
        by_cases z3 : L.2 l (st0 + (k + m)) = L.2 l (st0 + k)
        · rw [if_pos z3, if_pos ⟨z1, z2, z3⟩]
          exact ih (m + 1) (by omega) (by omega) (by omega) (by omega)
        · rw [if_neg z3, if_neg (fun z => z3 z.2.2)]
      · rw [if_pos (nI_le (by omega) (by omega)), if_neg (fun z => z2 z.2.1)]
    · rw [if_pos (show (255 : Int32) ≤ nI m from nI_le (a := 255) (by omega) (by omega)), if_neg (fun z => z1 z.1)]
/-- the length of the run that begins at k -/
def rl (st0 l mn0 : Nat) (L : LyS) (k fu : Nat) : Nat := rlf (fun j => L.2 l (st0 + j)) mn0 k fu 1
theorem same_rl {S : LyS} (H : WL n w tp r bs fs st0 l L S) {k : Nat} (hk : k < mny w (sc bs fs l) r) (fu : Nat) (hfu : 7000 ≤ fu) : Mo_same fu S (nI l) (nI k) = some (nI (rl st0 l (mny w (sc bs fs l) r) L k fu)) := by
  unfold Mo_same
  show (Mo_same_l2 S (nI l) (nI k) fu (nI 1)).bind _ = _
  rw [same_eq H hk fu 1 (by omega) (by omega) (by omega) (by omega)]; rfl
theorem rl_spec {mn0 k fu : Nat} (hk : k < mn0) (hfu : 7000 ≤ fu) : 1 ≤ rl st0 l mn0 L k fu ∧ rl st0 l mn0 L k fu ≤ 255 ∧ k + rl st0 l mn0 L k fu ≤ mn0 ∧ (∀ j, j < rl st0 l mn0 L k fu → L.2 l (st0 + (k + j)) = L.2 l (st0 + k)) ∧ (rl st0 l mn0 L k fu = 255 ∨ k + rl st0 l mn0 L k fu = mn0 ∨ (k + rl st0 l mn0 L k fu < mn0 ∧ L.2 l (st0 + (k + rl st0 l mn0 L k fu)) ≠ L.2 l (st0 + k))) := by
  exact rlf_spec (v := fun j => L.2 l (st0 + j)) fu 1 (by omega) (by omega) (by omega) (fun j hj => by rw [show j = 0 by omega]; rfl) (by omega)
/-- whether a run ends, within the run that begins at k -/
theorem ends_eq (hn : n ≤ 576) (hl : l < 4) (B : ByS) {mn0 k fu j : Nat} (hst : st0 + mn0 ≤ n) (hk : k < mn0) (hfu : 7000 ≤ fu) (hj : j < rl st0 l mn0 L k fu) : Writer_runEnds n L B (nI l) (nI (st0 + (k + j))) (nI (st0 + mn0)) (nI (j + 1)) = some (if j + 1 = rl st0 l mn0 L k fu then 1 else 0) := by
  obtain ⟨a1, a2, a3, a4, a5⟩ := rl_spec (st0 := st0) (l := l) (L := L) hk hfu
  generalize rl st0 l mn0 L k fu = m at *
  unfold Writer_runEnds
  rw [nI_p1]
  by_cases z1 : mn0 ≤ k + j + 1
  · rw [if_pos (nI_le (by omega) (by omega)), if_pos (by omega)]; rfl
  · rw [if_neg (nI_ge (by omega) (by omega))]
    by_cases z2 : 255 ≤ j + 1
    · rw [if_pos (show (255 : Int32) ≤ nI (j + 1) from nI_le (a := 255) z2 (by omega)), if_pos (by omega)]; rfl
    · rw [if_neg (show ¬ (255 : Int32) ≤ nI (j + 1) from nI_ge (b := 255) (by omega) (by omega)), lyv_eq hl (show st0 + (k + j) + 1 < n by omega) (by omega), Option.bind_some, lyv_eq hl (show st0 + (k + j) < n by omega) (by omega), Option.bind_some]
      rw [a4 j hj]
      by_cases z3 : j + 1 = m
      · have hne : L.2 l (st0 + (k + j) + 1) ≠ L.2 l (st0 + k) := by
          rcases a5 with y | y | y
          · omega
          · omega
          · rw [show st0 + (k + j) + 1 = st0 + (k + m) by omega]; exact y.2
        rw [if_neg hne, if_pos z3]; rfl
      · have := a4 (j + 1) (by omega)
        rw [show st0 + (k + j) + 1 = st0 + (k + (j + 1)) by omega, if_pos this, if_neg z3]; rfl
theorem runs_count1 (hn : n ≤ 576) (hl : l < 4) (B : ByS) {mn0 k fu : Nat} (hst : st0 + mn0 ≤ n) (hk : k < mn0) (hfu : 7000 ≤ fu) (R : Nat) : ∀ (d j f : Nat), j + d + 1 = rl st0 l mn0 L k fu →
    Writer_countRuns_l9 n L B (nI l) (nI (st0 + mn0)) (f + d + 1) (nI R) (nI j) (nI (st0 + (k + j))) = Writer_countRuns_l9 n L B (nI l) (nI (st0 + mn0)) f (nI (R + 1)) 0 (nI (st0 + (k + rl st0 l mn0 L k fu))) := by
  have hsp := rl_spec (st0 := st0) (l := l) (L := L) hk hfu
  intro d
  induction d with
  | zero =>
    intro j f hj
    have he := ends_eq (l := l) (L := L) hn hl B hst hk hfu (j := j) (by omega)
    rw [if_pos (show j + 1 = rl st0 l mn0 L k fu by omega)] at he
    rw [Writer_countRuns_l9, if_neg (nI_ge (by omega) (by omega)), nI_p1, he, Option.bind_some, if_neg ne10, nI_p1, nI_p1, show st0 + (k + j) + 1 = st0 + (k + rl st0 l mn0 L k fu) by omega, Nat.add_zero]
  | succ d ih =>
    intro j f hj
    have he := ends_eq (l := l) (L := L) hn hl B hst hk hfu (j := j) (by omega)
    rw [if_neg (show ¬ j + 1 = rl st0 l mn0 L k fu by omega)] at he
    rw [Writer_countRuns_l9, if_neg (nI_ge (by omega) (by omega)), nI_p1, he, Option.bind_some, if_pos rfl, nI_p1, show st0 + (k + j) + 1 = st0 + (k + (j + 1)) by omega]
    exact ih (j + 1) f (by omega)
theorem runs_write1 (hn : n ≤ 576) (hl : l < 4) {mn0 k fu : Nat} (hst : st0 + mn0 ≤ n) (hk : k < mn0) (hfu : 7000 ≤ fu) (B : ByS) : ∀ (d j f : Nat), j + d + 1 = rl st0 l mn0 L k fu →
    Writer_writeRuns_l6 n L (nI l) (nI (st0 + mn0)) (f + d + 1) (nI j) (nI (st0 + (k + j))) B = (ByteRow_append B (nI (rl st0 l mn0 L k fu))).bind fun r3 => ad r3.2.1 r3.2.2 ((Writer_writeValue n L r3.1 (nI l) (L.2 l (st0 + k))).bind fun r5 => ad r5.2.1 r5.2.2 (Writer_writeRuns_l6 n L (nI l) (nI (st0 + mn0)) f 0 (nI (st0 + (k + rl st0 l mn0 L k fu))) r5.1)) := by
  have hsp := rl_spec (st0 := st0) (l := l) (L := L) hk hfu
  intro d
  induction d with
  | zero =>
    intro j f hj
    have he := ends_eq (l := l) (L := L) hn hl B hst hk hfu (j := j) (by omega)
    rw [if_pos (show j + 1 = rl st0 l mn0 L k fu by omega)] at he
    rw [Writer_writeRuns_l6, if_neg (nI_ge (by omega) (by omega)), nI_p1, he, Option.bind_some, if_neg ne10, nI_p1, show st0 + (k + j) + 1 = st0 + (k + rl st0 l mn0 L k fu) by omega, lyv_eq hl (show st0 + (k + j) < n by omega) (by omega), hsp.2.2.2.1 j (by omega), show j + 1 = rl st0 l mn0 L k fu by omega]
    simp only [Option.bind_some]
  | succ d ih =>
    intro j f hj
    have he := ends_eq (l := l) (L := L) hn hl B hst hk hfu (j := j) (by omega)
    rw [if_neg (show ¬ j + 1 = rl st0 l mn0 L k fu by omega)] at he
    rw [Writer_writeRuns_l6, if_neg (nI_ge (by omega) (by omega)), nI_p1, he, Option.bind_some, if_pos rfl, nI_p1, show st0 + (k + j) + 1 = st0 + (k + (j + 1)) by omega]
    exact ih (j + 1) f (by omega)
def ru (l : Nat) : Nat := if l = 1 then 2 else 4
/-- from place k on: the number of runs, counted by both, written by both -/
theorem runs_all {S : LyS} (H : WL n w tp r bs fs st0 l L S) (fu : Nat) (hfu : 7000 ≤ fu) : ∀ (N k : Nat), mny w (sc bs fs l) r - k ≤ N → k ≤ mny w (sc bs fs l) r → ∃ R, R ≤ mny w (sc bs fs l) r - k ∧
    (∀ B f R0, mny w (sc bs fs l) r - k < f → Writer_countRuns_l9 n L B (nI l) (nI (st0 + mny w (sc bs fs l) r)) f (nI R0) 0 (nI (st0 + k)) = some (0, nI (R0 + R))) ∧
    (∀ f a, mny w (sc bs fs l) r - k < f → Mo_outLayer_l11 fu S (nI l) (nI (mny w (sc bs fs l) r)) f (nI a) (nI k) = some (0, nI (a + R * ru l))) ∧
    (∀ f f' i c B S', Fr S S' → BB c i B S' → c + R * ru l ≤ 6400 → mny w (sc bs fs l) r - k < f → mny w (sc bs fs l) r - k < f' → OW (fun B => ((0 : Nat), B)) (fun S => ((0 : Nat), S)) (Writer_writeRuns_l6 n L (nI l) (nI (st0 + mny w (sc bs fs l) r)) f 0 (nI (st0 + k)) B) (Mo_outLayer_l124 fu (nI l) (nI (mny w (sc bs fs l) r)) f' (nI k) S') i c (R * ru l) S') := by
  obtain ⟨h1, h2, h3, h4, h5, h6⟩ := id H
  have hbase : ∀ k, k = mny w (sc bs fs l) r → ∃ R, R ≤ mny w (sc bs fs l) r - k ∧
    (∀ B f R0, mny w (sc bs fs l) r - k < f → Writer_countRuns_l9 n L B (nI l) (nI (st0 + mny w (sc bs fs l) r)) f (nI R0) 0 (nI (st0 + k)) = some (0, nI (R0 + R))) ∧
    (∀ f a, mny w (sc bs fs l) r - k < f → Mo_outLayer_l11 fu S (nI l) (nI (mny w (sc bs fs l) r)) f (nI a) (nI k) = some (0, nI (a + R * ru l))) ∧
    (∀ f f' i c B S', Fr S S' → BB c i B S' → c + R * ru l ≤ 6400 → mny w (sc bs fs l) r - k < f → mny w (sc bs fs l) r - k < f' → OW (fun B => ((0 : Nat), B)) (fun S => ((0 : Nat), S)) (Writer_writeRuns_l6 n L (nI l) (nI (st0 + mny w (sc bs fs l) r)) f 0 (nI (st0 + k)) B) (Mo_outLayer_l124 fu (nI l) (nI (mny w (sc bs fs l) r)) f' (nI k) S') i c (R * ru l) S') := by
    intro k hk
    subst hk
    refine ⟨0, by omega, ?_, ?_, ?_⟩
    · intro B f R0 hf
      obtain ⟨g, rfl⟩ : ∃ g, f = g + 1 := ⟨f - 1, by omega⟩
      rw [Writer_countRuns_l9, if_pos (nI_le (Nat.le_refl _) (by omega))]; rfl
    · intro f a hf
      obtain ⟨g, rfl⟩ : ∃ g, f = g + 1 := ⟨f - 1, by omega⟩
      rw [Mo_outLayer_l11, if_pos (nI_le (Nat.le_refl _) (by omega)), Nat.zero_mul]; rfl
    · intro f f' i c B S' hF hB hc hf hf'
      obtain ⟨g, rfl⟩ : ∃ g, f = g + 1 := ⟨f - 1, by omega⟩
      obtain ⟨g', rfl⟩ : ∃ g, f' = g + 1 := ⟨f' - 1, by omega⟩
      rw [Writer_writeRuns_l6, if_pos (nI_le (Nat.le_refl _) (by omega)), Mo_outLayer_l124, if_pos (nI_le (Nat.le_refl _) (by omega)), Nat.zero_mul]
      exact ow_end (fa := fun B => ((0 : Nat), B)) (fb := fun S => ((0 : Nat), S)) hB
  intro N
  induction N with
  | zero => intro k hN hk; exact hbase k (by omega)
  | succ N ih =>
    intro k hN hk
    by_cases q : k = mny w (sc bs fs l) r
    · exact hbase k q
    · have hkm : k < mny w (sc bs fs l) r := by omega
      obtain ⟨a1, a2, a3, a4, a5⟩ := rl_spec (st0 := st0) (l := l) (L := L) hkm hfu
      have hrc := fun B => runs_count1 (l := l) (L := L) h4 h3 B h5 hkm hfu
      have hrw := runs_write1 (l := l) (L := L) h4 h3 h5 hkm hfu
      have hsame : ∀ S', Fr S S' → Mo_same fu S' (nI l) (nI k) = some (nI (rl st0 l (mny w (sc bs fs l) r) L k fu)) := fun S' hF => same_rl (WL_fr hF H) hkm fu hfu
      obtain ⟨p1, p2, p3⟩ := WL_p H hkm
      generalize rl st0 l (mny w (sc bs fs l) r) L k fu = m at *
      obtain ⟨R, b1, b2, b3, b4⟩ := ih (k + m) (by omega) (by omega)
      have hru : (R + 1) * ru l = ru l + R * ru l := by rw [Nat.add_mul, Nat.one_mul, Nat.add_comm]
      have hru4 : ru l = 1 + vb l := by unfold ru vb; split <;> rfl
      refine ⟨R + 1, by omega, ?_, ?_, ?_⟩
      · intro B f R0 hf
        have := hrc B R0 (m - 1) 0 (f - m) (by omega)
        rw [show f - m + (m - 1) + 1 = f by omega] at this
        rw [Nat.add_zero] at this
        show Writer_countRuns_l9 n L B (nI l) (nI (st0 + mny w (sc bs fs l) r)) f (nI R0) (nI 0) (nI (st0 + k)) = _
        rw [this, b2 B (f - m) (R0 + 1) (by omega)]
        rw [Nat.add_assoc, Nat.add_comm 1 R]
      · intro f a hf
        obtain ⟨g, rfl⟩ : ∃ g, f = g + 1 := ⟨f - 1, by omega⟩
        have hu : (if nI l = 1 then some (2 : Int32) else some 4) = some (nI (ru l)) := by
          unfold ru
          by_cases z : l = 1
          · rw [if_pos z, z, if_pos n11]; rfl
          · rw [if_neg z, if_neg (show ¬ nI l = 1 from fun y => z ((nI_eq (b := 1) (by omega) (by omega)).mp y))]; rfl
        rw [Mo_outLayer_l11, if_neg (nI_ge hkm (by omega)), hu, Option.bind_some, hsame S (Fr_r S), Option.bind_some, nI_add, nI_add, b3 g (a + ru l) (by omega), hru, Nat.add_assoc]
      · intro f f' i c B S' hF hB hc hf hf'
        obtain ⟨g', rfl⟩ : ∃ g, f' = g + 1 := ⟨f' - 1, by omega⟩
        have := hrw B (m - 1) 0 (f - m) (by omega)
        rw [show f - m + (m - 1) + 1 = f by omega] at this
        rw [Nat.add_zero] at this
        show OW _ _ (Writer_writeRuns_l6 n L (nI l) (nI (st0 + mny w (sc bs fs l) r)) f (nI 0) (nI (st0 + k)) B) _ _ _ _ _
        rw [this, Mo_outLayer_l124, if_neg (nI_ge hkm (by omega)), hsame S' hF, Option.bind_some]
        refine ow_cons (f := fun B => (Writer_writeValue n L B (nI l) (L.2 l (st0 + k))).bind fun r5 => ad r5.2.1 r5.2.2 (Writer_writeRuns_l6 n L (nI l) (nI (st0 + mny w (sc bs fs l) r)) (f - m) 0 (nI (st0 + (k + m))) r5.1)) (g := fun S1 => (Mo_place S1 (nI l) (nI k)).bind fun r32 => gd r32 2304 ((Mo_outValue S1 (nI l) (S1.2 2 r32.toNatClampNeg)).bind fun r34 => Mo_outLayer_l124 fu (nI l) (nI (mny w (sc bs fs l) r)) g' (nI k + nI m) r34)) hB (by omega) ⟨m, by omega, rfl⟩ (d := vb l + R * ru l) (by omega) ?_
        intro i1 B1 S1 _ hB1 hF1
        have hF2 := Fr_t hF hF1
        obtain ⟨y1, y2, y3⟩ := WL_p (WL_fr hF2 H) hkm
        rw [y1, Option.bind_some, gd_nI y2 (by omega), nI_clamp (by omega), hF2.2 2 (by decide), ← (h6 k hkm).1, nI_add]
        refine ow_bind (f := fun B => Writer_writeRuns_l6 n L (nI l) (nI (st0 + mny w (sc bs fs l) r)) (f - m) 0 (nI (st0 + (k + m))) B) (g := fun S => Mo_outLayer_l124 fu (nI l) (nI (mny w (sc bs fs l) r)) g' (nI (k + m)) S) (ow_value (n := n) (L := L) hB1 h3 (h6 k hkm).2 (by omega)) (d' := R * ru l) rfl ?_
        intro i2 B2 S2 _ hB2 hF3
        exact b4 (f - m) g' i2 _ B2 S2 (Fr_t hF2 hF3) hB2 (by omega) (by omega) (by omega)
end RN
