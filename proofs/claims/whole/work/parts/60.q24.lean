/-! ===== read: a byte ===== -/
def RB (B : ByS) (m : Nat) (fd : Nat → Int32) : Prop := (∃ ci, B.2.1 = cap ci ∧ m ≤ cap ci) ∧ B.1 = nI m ∧ ∀ j, j < m → B.2.2 j = fd j ∧ Bt (fd j)
/-- the reference reads on, at p -/
def TS (m : Nat) (fd : Nat → Int32) (p : Nat) (T : LyS) : Prop := T.1 10 = nI m ∧ T.2 6 = fd ∧ T.1 11 = nI p ∧ T.1 12 = -1 ∧ p ≤ m ∧ m ≤ 6400
/-- the reference has refused, at q -/
def TB (T T' : LyS) (q : Nat) : Prop := T'.1 12 = nI q ∧ q ≤ 6400 ∧ (∀ k, k ≠ 11 → k ≠ 12 → T'.1 k = T.1 k) ∧ T'.2 = T.2
theorem lf_id (T : LyS) (k : Nat) : Lf T k (T.1 k) = T := by unfold Lf; rw [upd_same]
theorem RB_m {B : ByS} {m : Nat} {fd : Nat → Int32} (h : RB B m fd) : m ≤ 6400 := by
  obtain ⟨⟨ci, h1, h2⟩, -⟩ := h
  have := cap_le ci
  omega
theorem m1_lt0 : (-1 : Int32) < 0 := by decide
theorem m1_nI {k : Nat} (h : k < 2 ^ 31) : (-1 : Int32) < nI k := by
  have h1 := nI_toInt h
  rw [Int32.lt_iff_toInt_lt, h1]
  have : (-1 : Int32).toInt = -1 := by decide
  omega
theorem m1_ge0 : ¬ (0 : Int32) ≤ -1 := by decide
theorem nI_ne_m1 {k : Nat} (h : k < 2 ^ 31) : ¬ nI k = -1 := by
  intro z
  have := m1_nI h
  rw [z] at this
  exact absurd this (by decide)
section TK
variable {n m p : Nat} {B : ByS} {fd : Nat → Int32} {T L : LyS} {rf : Int32} {hd : Nat → Int32}
theorem take_in (hB : RB B m fd) {lo hi b : Nat} (hp : p < m) (e : fd p = nI b) (hb : b < 256) (h1 : lo ≤ b) (h2 : b ≤ hi) (hhi : hi < 2 ^ 31) : Reader_take n B (nI p) rf hd L (nI lo) (nI hi) = some (nI b, nI (p + 1), rf) := by
  have hm := RB_m hB
  obtain ⟨⟨ci, c1, c2⟩, b1, b2⟩ := hB
  have := cap_le ci
  unfold Reader_take Reader_take_b30
  rw [b1, if_neg (nI_ge hp (by omega)), c1, gd_nI (by omega) (by omega), nI_clamp (by omega), (b2 p hp).1, e, if_neg (nI_nlt h1 (by omega)), if_pos (nI_le h2 hhi), nI_p1]
theorem take_out (hB : RB B m fd) {lo hi b : Nat} (hp : p < m) (e : fd p = nI b) (hb : b < 256) (h1 : b < lo ∨ hi < b) (hlo : lo < 2 ^ 31) : Reader_take n B (nI p) rf hd L (nI lo) (nI hi) = some (-1, nI p, nI p) := by
  have hm := RB_m hB
  obtain ⟨⟨ci, c1, c2⟩, b1, b2⟩ := hB
  have := cap_le ci
  unfold Reader_take Reader_take_b30
  rw [b1, if_neg (nI_ge hp (by omega)), c1, gd_nI (by omega) (by omega), nI_clamp (by omega), (b2 p hp).1, e]
  by_cases z : b < lo
  · rw [if_pos (nI_lt z hlo)]
  · rw [if_neg (nI_nlt (by omega) (by omega)), if_neg (nI_ge (by omega) (by omega))]
theorem take_lack (hB : RB B m fd) {lo : Nat} {hi : Int32} (hp : p = m) (hlo : lo < 2 ^ 31) : Reader_take n B (nI p) rf hd L (nI lo) hi = some (-1, nI p, nI p) := by
  have hm := RB_m hB
  unfold Reader_take Reader_take_b30
  rw [hB.2.1, hp, if_pos (nI_le (Nat.le_refl _) (by omega)), if_pos (m1_nI hlo)]
theorem mtake_in (hT : TS m fd p T) (hp : p < m) : Mo_take T = some (fd p, Lf T 11 (nI (p + 1))) := by
  obtain ⟨h1, h2, h3, h4, h5, h6⟩ := hT
  unfold Mo_take
  rw [h4, if_neg m1_ge0, h3, h1, if_neg (fun z => by have := (nI_eq (by omega) (by omega)).mp z; omega)]
  unfold Mo_take_b26
  rw [h4, if_pos m1_lt0, h3, nI_p1, lf_s]
  have e : nI (p + 1) - 1 = nI p := pk_sub (b := 1) (by omega)
  rw [e, gd_nI (by omega) (by omega), nI_clamp (by omega)]
  show some (T.2 6 p, _) = _
  rw [h2]
theorem mtake_lack (hT : TS m fd p T) (hp : p = m) : Mo_take T = some (0, Lf T 12 (nI p)) := by
  obtain ⟨h1, h2, h3, h4, h5, h6⟩ := hT
  unfold Mo_take Mo_refuse Mo_take_b26
  rw [h4, if_neg m1_ge0, h3, h1, hp, if_pos rfl, if_neg m1_ge0, Option.bind_some, lf_s, if_neg (nI_pos (by omega))]
theorem mtake_ref {q : Nat} (hq : q < 2 ^ 31) (h : T.1 12 = nI q) : Mo_take T = some (0, T) := by
  unfold Mo_take Mo_take_b26
  rw [h, if_pos (nI_pos' hq), if_neg (nI_pos hq)]
theorem refuse_ref {q : Nat} (hq : q < 2 ^ 31) (h : T.1 12 = nI q) (x : Int32) : Mo_refuse T x = some T := by
  unfold Mo_refuse
  rw [h, if_pos (nI_pos' hq), ← h, lf_id]
theorem mtakeIn_ref {q : Nat} (hq : q < 2 ^ 31) (h : T.1 12 = nI q) (lo hi : Int32) : Mo_takeIn T lo hi = some (0, T) := by
  unfold Mo_takeIn
  rw [mtake_ref hq h, Option.bind_some]
  dsimp only
  rw [refuse_ref hq h]
  split
  · rfl
  · split <;> rfl
/-- both take a byte, in bounds or not -/
theorem take2 (hB : RB B m fd) (hT : TS m fd p T) (lo hi : Nat) (hlo : lo < 2 ^ 31) (hhi : hi < 2 ^ 31) :
    (∃ b, b < 256 ∧ lo ≤ b ∧ b ≤ hi ∧ p < m ∧ Reader_take n B (nI p) rf hd L (nI lo) (nI hi) = some (nI b, nI (p + 1), rf) ∧ Mo_takeIn T (nI lo) (nI hi) = some (nI b, Lf T 11 (nI (p + 1)))) ∨
    (Reader_take n B (nI p) rf hd L (nI lo) (nI hi) = some (-1, nI p, nI p) ∧ ∃ u T', u < 256 ∧ Mo_takeIn T (nI lo) (nI hi) = some (nI u, T') ∧ TB T T' p) := by
  have hm := RB_m hB
  by_cases hp : p < m
  · obtain ⟨b, hb, eb⟩ := (hB.2.2 p hp).2
    have hmt := mtake_in hT hp
    rw [eb] at hmt
    by_cases hr : lo ≤ b ∧ b ≤ hi
    · left
      refine ⟨b, hb, hr.1, hr.2, hp, take_in hB hp eb hb hr.1 hr.2 hhi, ?_⟩
      unfold Mo_takeIn
      rw [hmt, Option.bind_some]
      dsimp only
      rw [if_neg (nI_nlt hr.1 (by omega)), if_pos (nI_le hr.2 hhi)]
    · right
      refine ⟨take_out hB hp eb hb (by omega) hlo, b, Lf (Lf T 11 (nI (p + 1))) 12 (nI p), hb, ?_, lf_s, by omega, fun k h1 h2 => by rw [lf_n h2, lf_n h1], rfl⟩
      have hrf : Mo_refuse (Lf T 11 (nI (p + 1))) ((Lf T 11 (nI (p + 1))).1 11 - 1) = some (Lf (Lf T 11 (nI (p + 1))) 12 (nI p)) := by
        unfold Mo_refuse
        have z : (Lf T 11 (nI (p + 1))).1 12 = -1 := hT.2.2.2.1
        have e : nI (p + 1) - 1 = nI p := pk_sub (b := 1) (by omega)
        rw [z, if_neg m1_ge0, lf_s, e]
      unfold Mo_takeIn
      rw [hmt, Option.bind_some]
      dsimp only
      rw [hrf]
      by_cases z : b < lo
      · rw [if_pos (nI_lt z hlo)]; rfl
      · rw [if_neg (nI_nlt (by omega) (by omega)), if_neg (nI_ge (by omega) (by omega))]; rfl
  · right
    have hpm : p = m := by have := hT.2.2.2.2.1; omega
    refine ⟨take_lack hB hpm hlo, 0, Lf T 12 (nI p), by omega, ?_, lf_s, by omega, fun k h1 h2 => lf_n h2, rfl⟩
    unfold Mo_takeIn
    rw [mtake_lack hT hpm, Option.bind_some]
    dsimp only
    have hr : ∀ x, Mo_refuse (Lf T 12 (nI p)) x = some (Lf T 12 (nI p)) := fun x => refuse_ref (q := p) (by omega) lf_s x
    rw [hr]
    split
    · rfl
    · split <;> rfl
theorem take1 (hB : RB B m fd) (hT : TS m fd p T) :
    (∃ b, b < 256 ∧ p < m ∧ Reader_take n B (nI p) rf hd L 0 255 = some (nI b, nI (p + 1), rf) ∧ Mo_take T = some (nI b, Lf T 11 (nI (p + 1)))) ∨
    (Reader_take n B (nI p) rf hd L 0 255 = some (-1, nI p, nI p) ∧ Mo_take T = some (0, Lf T 12 (nI p))) := by
  by_cases hp : p < m
  · obtain ⟨b, hb, eb⟩ := (hB.2.2 p hp).2
    have hmt := mtake_in hT hp
    rw [eb] at hmt
    exact Or.inl ⟨b, hb, hp, take_in (lo := 0) (hi := 255) hB hp eb hb (by omega) (by omega) (by omega), hmt⟩
  · have hpm : p = m := by have := hT.2.2.2.2.1; omega
    exact Or.inr ⟨take_lack (lo := 0) hB hpm (by omega), mtake_lack hT hpm⟩
theorem TS_p {p' : Nat} (hT : TS m fd p T) (h : p' ≤ m) : TS m fd p' (Lf T 11 (nI p')) := by
  obtain ⟨h1, h2, h3, h4, h5, h6⟩ := hT
  exact ⟨h1, h2, lf_s, h4, h, h6⟩
/-- a step of the reference that has taken bytes alone -/
def TA (T T' : LyS) (p' : Nat) : Prop := T'.1 11 = nI p' ∧ (∀ k, k ≠ 11 → T'.1 k = T.1 k) ∧ T'.2 = T.2
theorem TA_s {p' : Nat} {T' : LyS} (hT : TS m fd p T) (h : TA T T' p') (hp : p' ≤ m) : TS m fd p' T' := by
  obtain ⟨h1, h2, h3, h4, h5, h6⟩ := hT
  obtain ⟨a1, a2, a3⟩ := h
  exact ⟨by rw [a2 10 (by decide)]; exact h1, by rw [a3]; exact h2, a1, by rw [a2 12 (by decide)]; exact h4, hp, h6⟩
theorem lt_256 {a b c : Nat} (ha : a < 256) (hb : b < 256) (hc : c < 256) : a * 65536 + b * 256 + c < 16777216 := by omega
/-- both take a value -/
theorem value2 (hB : RB B m fd) (hT : TS m fd p T) {l : Nat} (hl : l < 4) :
    (∃ v T', Vl l v ∧ Reader_takeValue n B (nI p) rf hd L (nI l) = some (v, nI (p + vb l), rf) ∧ Mo_takeValue T (nI l) = some (v, T') ∧ TA T T' (p + vb l) ∧ p + vb l ≤ m) ∨
    (∃ q u T', Reader_takeValue n B (nI p) rf hd L (nI l) = some (-1, nI q, nI q) ∧ Mo_takeValue T (nI l) = some (u, T') ∧ TB T T' q) := by
  have hm := RB_m hB
  have hpm := hT.2.2.2.2.1
  unfold Reader_takeValue Mo_takeValue
  by_cases z : l = 1
  · have hvb : vb l = 1 := by unfold vb; rw [if_pos z]
    rw [if_pos (show nI l = 1 by rw [z]; rfl), if_pos (show nI l = 1 by rw [z]; rfl)]
    rcases take2 (n := n) (rf := rf) (hd := hd) (L := L) hB hT 0 1 (by omega) (by omega) with ⟨b, hb, h1, h2, h3, h4, h5⟩ | ⟨h4, u, T', hu, h5, h6⟩
    · left
      refine ⟨nI b, Lf T 11 (nI (p + 1)), ?_, ?_, ?_, ?_, by omega⟩
      · unfold Vl; rw [if_pos z]
        have : b = 0 ∨ b = 1 := by omega
        rcases this with rfl | rfl
        · exact Or.inl rfl
        · exact Or.inr rfl
      · rw [show (0 : Int32) = nI 0 from rfl, show (1 : Int32) = nI 1 from rfl, h4, hvb]; rfl
      · rw [show (0 : Int32) = nI 0 from rfl, show (1 : Int32) = nI 1 from rfl, h5]; rfl
      · rw [hvb]; exact ⟨lf_s, fun k hk => lf_n hk, rfl⟩
    · right
      refine ⟨p, nI u, T', ?_, ?_, h6⟩
      · show (Reader_take n B (nI p) rf hd L (nI 0) (nI 1)).bind _ = _
        rw [h4]; rfl
      · show (Mo_takeIn T (nI 0) (nI 1)).bind _ = _
        rw [h5]; rfl
  · have hvb : vb l = 3 := by unfold vb; rw [if_neg z]
    have q1 : ¬ nI l = 1 := fun y => z ((nI_eq (b := 1) (by omega) (by omega)).mp y)
    rw [if_neg q1, if_neg q1]
    rcases take1 (n := n) (rf := rf) (hd := hd) (L := L) hB hT with ⟨b0, hb0, h3, h4, h5⟩ | ⟨h4, h5⟩
    · have hT1 := TS_p hT (p' := p + 1) (by omega)
      rw [h4, h5, Option.bind_some, Option.bind_some]
      dsimp only
      rw [if_neg (nI_ne_m1 (by omega))]
      rcases take1 (n := n) (rf := rf) (hd := hd) (L := L) hB hT1 with ⟨b1, hb1, g3, g4, g5⟩ | ⟨g4, g5⟩
      · have hT2 := TS_p hT1 (p' := p + 1 + 1) (by omega)
        rw [g4, g5, Option.bind_some, Option.bind_some]
        dsimp only
        unfold Reader_takeValue_b38
        rw [if_neg (nI_ne_m1 (by omega))]
        rcases take1 (n := n) (rf := rf) (hd := hd) (L := L) hB hT2 with ⟨b2, hb2, f3, f4, f5⟩ | ⟨f4, f5⟩
        · left
          rw [f4, f5, Option.bind_some, Option.bind_some]
          dsimp only
          unfold Reader_takeValue_b56
          rw [if_neg (nI_ne_m1 (by omega)), colourOf_eq hb0 hb1 hb2, or3 hb0 hb1 hb2]
          refine ⟨nI (b0 * 65536 + b1 * 256 + b2), _, ?_, ?_, rfl, ?_, by omega⟩
          · unfold Vl; rw [if_neg z]; exact Cl_3 hb0 hb1 hb2
          · rw [hvb]; rfl
          · rw [hvb]
            exact ⟨lf_s, fun k hk => by rw [lf_n hk, lf_n hk, lf_n hk], rfl⟩
        · right
          rw [f4, f5, Option.bind_some, Option.bind_some]
          dsimp only
          unfold Reader_takeValue_b56
          rw [if_pos rfl]
          exact ⟨p + 1 + 1, _, _, rfl, rfl, lf_s, by omega, fun k h11 h12 => by rw [lf_n h12, lf_n h11, lf_n h11], rfl⟩
      · right
        rw [g4, g5, Option.bind_some, Option.bind_some]
        dsimp only
        unfold Reader_takeValue_b38 Reader_takeValue_b56
        rw [if_pos rfl, if_pos rfl, mtake_ref (q := p + 1) (by omega) lf_s]
        exact ⟨p + 1, _, _, rfl, rfl, lf_s, by omega, fun k h11 h12 => by rw [lf_n h12, lf_n h11], rfl⟩
    · right
      rw [h4, h5, Option.bind_some, Option.bind_some]
      dsimp only
      rw [if_pos rfl]
      unfold Reader_takeValue_b38 Reader_takeValue_b56
      rw [if_pos rfl, if_pos rfl, mtake_ref (q := p) (by omega) lf_s, Option.bind_some]
      dsimp only
      rw [mtake_ref (q := p) (by omega) lf_s]
      exact ⟨p, _, _, rfl, rfl, lf_s, by omega, fun k h11 h12 => lf_n h12, rfl⟩
theorem value_ref {q : Nat} (hq : q < 2 ^ 31) (h : T.1 12 = nI q) (l : Int32) : ∃ u, Mo_takeValue T l = some (u, T) := by
  unfold Mo_takeValue
  rw [mtakeIn_ref hq h]
  by_cases z : l = 1
  · rw [if_pos z]; exact ⟨_, rfl⟩
  · rw [if_neg z, mtake_ref hq h, Option.bind_some]
    dsimp only
    rw [mtake_ref hq h, Option.bind_some]
    dsimp only
    rw [mtake_ref hq h]
    exact ⟨_, rfl⟩
end TK
