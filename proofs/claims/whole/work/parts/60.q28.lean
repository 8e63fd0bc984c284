/-! ===== read: a stripe ===== -/
def bef (e : Nat) : Int32 := if e = 0 then -1 else nI (e - 1)
theorem bef_le {l e : Nat} (hl : l < 2 ^ 20) (he : e < 2 ^ 20) : nI l ≤ bef e ↔ l < e := by
  unfold bef
  by_cases z : e = 0
  · rw [if_pos z, z]
    constructor
    · intro y
      have := m1_nI (k := l) (by omega)
      rw [← Int32.not_lt] at y
      exact absurd this y
    · intro y; omega
  · rw [if_neg z, nI_leI (by omega) (by omega)]; omega
def clr (t : Nat) : Nat := if bit t 0 = 1 ∨ bit t 2 = 1 then 1 else 0
theorem clr_or (t : Nat) : clr t = 0 ∨ clr t = 1 := by unfold clr; split <;> omega
/-- whether layer l may come where those of t have, the last one below e -/
abbrev okl (l t e : Nat) : Prop := e ≤ l ∧ l ≤ 3 ∧ (l = 2 → bit t 1 = 1) ∧ (l = 3 → clr t = 1)
abbrev oke (t : Nat) : Prop := bit t 2 = 1 ∨ (bit t 0 = 1 ∧ bit t 1 = 0)
section SR
variable {n m w h st i tp r bs fs st0 : Nat} {B : ByS} {fd hd : Nat → Int32}
theorem follow_eq {L : LyS} {l t : Nat} (pl rf : Int32) (hi : i < 24) (e4 : L.2 4 i = nI t) (ht : t < 16) (hl : l ≤ 15) : ∃ x, (x = 0 ∨ x = 1) ∧ Reader_mayFollow n B pl rf hd L (nI i) (nI l) = some (nI x) ∧ (x = 1 ↔ (l ≤ 3 ∧ (l = 2 → bit t 1 = 1) ∧ (l = 3 → clr t = 1))) := by
  have hh : ∀ l, l < 4 → Layers_has n L (nI i) (nI l) = some (nI (bit t l)) := fun l hl => has_eq hi e4 ht hl
  have hz : ∀ (y : Nat) (x : Option Int32), (y = 0 ∨ y = 1) → zb (nI y) x = x := fun y x hy => zb_in (bi_zb hy)
  have hne : ∀ k, k < 2 ^ 20 → l ≠ k → ¬ nI l = nI k := fun k hk z y => z ((nI_eq (by omega) (by omega)).mp y)
  unfold Reader_mayFollow
  by_cases z2 : l = 2
  · refine ⟨bit t 1, bit_le t 1, ?_, ?_⟩
    · rw [if_pos (show nI l = 2 by rw [z2]; rfl), show (1 : Int32) = nI 1 from rfl, hh 1 (by decide), Option.bind_some, hz _ _ (bit_le t 1)]
    · constructor
      · intro y; exact ⟨by omega, fun _ => y, fun y3 => by omega⟩
      · intro y; exact y.2.1 z2
  · rw [if_neg (show ¬ nI l = 2 from hne 2 (by omega) z2)]
    by_cases z3 : l = 3
    · refine ⟨clr t, clr_or t, ?_, ?_⟩
      · rw [if_pos (show nI l = 3 by rw [z3]; rfl), show Layers_has n L (nI i) 0 = some (nI (bit t 0)) from hh 0 (by decide), show Layers_has n L (nI i) 2 = some (nI (bit t 2)) from hh 2 (by decide), Option.bind_some]
        unfold clr
        rcases bit_le t 0 with y | y
        · rw [y, if_pos e00, Option.bind_some]
          rcases bit_le t 2 with y2 | y2
          · rw [y2, if_pos e00, if_neg (by omega)]; rfl
          · rw [y2, if_neg n10, if_pos (Or.inr rfl)]; rfl
        · rw [y, if_neg n10, if_pos (Or.inl rfl)]; rfl
      · constructor
        · intro y; exact ⟨by omega, fun y3 => by omega, fun _ => y⟩
        · intro y; exact y.2.2 z3
    · rw [if_neg (show ¬ nI l = 3 from hne 3 (by omega) z3)]
      by_cases z0 : l = 0
      · refine ⟨1, Or.inr rfl, ?_, ⟨fun _ => ⟨by omega, fun y => by omega, fun y => by omega⟩, fun _ => rfl⟩⟩
        rw [if_pos (show nI l = 0 by rw [z0]; rfl)]; rfl
      · rw [if_neg (show ¬ nI l = 0 from hne 0 (by omega) z0)]
        by_cases z1 : l = 1
        · refine ⟨1, Or.inr rfl, ?_, ⟨fun _ => ⟨by omega, fun y => by omega, fun y => by omega⟩, fun _ => rfl⟩⟩
          rw [if_pos (show nI l = 1 by rw [z1]; rfl)]; rfl
        · refine ⟨0, Or.inl rfl, ?_, ⟨fun y => by omega, fun y => by omega⟩⟩
          rw [if_neg (show ¬ nI l = 1 from hne 1 (by omega) z1)]; rfl
theorem end_eq2 {L : LyS} {t : Nat} (pl rf : Int32) (hi : i < 24) (e4 : L.2 4 i = nI t) (ht : t < 16) : ∃ x, (x = 0 ∨ x = 1) ∧ Reader_mayEnd n B pl rf hd L (nI i) = some (nI x) ∧ (x = 1 ↔ oke t) := by
  have hh : ∀ l, l < 4 → Layers_has n L (nI i) (nI l) = some (nI (bit t l)) := fun l hl => has_eq hi e4 ht hl
  unfold Reader_mayEnd oke
  rw [show Layers_has n L (nI i) 0 = some (nI (bit t 0)) from hh 0 (by decide), show Layers_has n L (nI i) 1 = some (nI (bit t 1)) from hh 1 (by decide), show Layers_has n L (nI i) 2 = some (nI (bit t 2)) from hh 2 (by decide), Option.bind_some]
  rcases bit_le t 2 with y2 | y2
  · rw [y2, if_pos e00, Option.bind_some]
    rcases bit_le t 0 with y0 | y0
    · rw [y0, if_pos e00]
      exact ⟨0, Or.inl rfl, rfl, ⟨fun z => by omega, fun z => by omega⟩⟩
    · rw [y0, if_neg n10, Option.bind_some]
      rcases bit_le t 1 with y1 | y1
      · rw [y1, if_pos e00]
        exact ⟨1, Or.inr rfl, rfl, ⟨fun _ => Or.inr ⟨rfl, rfl⟩, fun _ => rfl⟩⟩
      · rw [y1, if_neg n10]
        exact ⟨0, Or.inl rfl, rfl, ⟨fun z => by omega, fun z => by omega⟩⟩
  · rw [y2, if_neg n10]
    exact ⟨1, Or.inr rfl, rfl, ⟨fun _ => Or.inl rfl, fun _ => rfl⟩⟩
theorem refuse_TS {T : LyS} {p x : Nat} (hT : TS m fd p T) : Mo_refuse T (nI x) = some (Lf T 12 (nI x)) := by
  unfold Mo_refuse
  rw [hT.2.2.2.1, if_neg m1_ge0]
/-- a step of the reference in a stripe, at a byte -/
theorem l26_step {T : LyS} {t p b e : Nat} (fu f : Nat) (c : Int32) (hT : TS m fd p T) (hp : p < m) (eb : fd p = nI b) (hb : b < 256) (h8 : ∀ l, l < 4 → T.2 8 l = nI (bit t l)) (he : e ≤ 4) :
    Mo_takeStripe_l26 fu (f + 1) (bef e) c 1 T =
      if b = 175 then (if oke t then Mo_takeStripe_l26 fu f (bef e) c 0 (Lf T 11 (nI (p + 1))) else Mo_takeStripe_l26 fu f (bef e) c 0 (Lf (Lf T 11 (nI (p + 1))) 12 (nI p)))
      else if 160 ≤ b ∧ okl (b - 160) t e then (Mo_takeLayer fu (Lf T 11 (nI (p + 1))) (nI (b - 160))).bind fun r => Mo_takeStripe_l26 fu f (nI (b - 160)) (c + 1) 1 r
      else Mo_takeStripe_l26 fu f (bef e) c 1 (Lf (Lf T 11 (nI (p + 1))) 12 (nI p)) := by
  have hm64 := hT.2.2.2.2
  have hT1 := TS_p hT (p' := p + 1) (by omega)
  have e11 : (Lf T 11 (nI (p + 1))).1 11 - 1 = nI p := by rw [lf_s]; exact pk_sub (b := 1) (by omega)
  have hrf : Mo_refuse (Lf T 11 (nI (p + 1))) ((Lf T 11 (nI (p + 1))).1 11 - 1) = some (Lf (Lf T 11 (nI (p + 1))) 12 (nI p)) := by rw [e11]; exact refuse_TS hT1
  have h80 : (Lf T 11 (nI (p + 1))).2 8 ((0 : Int32).toNatClampNeg) = nI (bit t 0) := h8 0 (by decide)
  have h81 : (Lf T 11 (nI (p + 1))).2 8 ((1 : Int32).toNatClampNeg) = nI (bit t 1) := h8 1 (by decide)
  have h82 : (Lf T 11 (nI (p + 1))).2 8 ((2 : Int32).toNatClampNeg) = nI (bit t 2) := h8 2 (by decide)
  have hg0 : ∀ (α : Type) (x : Option α), gd (0 : Int32) 4 x = x := fun α x => gd_nI (k := 0) (by omega) (by omega)
  have hg1 : ∀ (α : Type) (x : Option α), gd (1 : Int32) 4 x = x := fun α x => gd_nI (k := 1) (by omega) (by omega)
  have hg2 : ∀ (α : Type) (x : Option α), gd (2 : Int32) 4 x = x := fun α x => gd_nI (k := 2) (by omega) (by omega)
  have hcl : (if nI (bit t 0) = 0 then (if nI (bit t 2) = 0 then some (0 : Int32) else some 1) else some 1) = some (nI (clr t)) := by
    unfold clr
    rcases bit_le t 0 with y | y
    · rw [y, if_pos e00]
      rcases bit_le t 2 with y2 | y2
      · rw [y2, if_pos e00, if_neg (by omega)]; rfl
      · rw [y2, if_neg n10, if_pos (Or.inr rfl)]; rfl
    · rw [y, if_neg n10, if_pos (Or.inl rfl)]; rfl
  rw [Mo_takeStripe_l26, if_neg ne10, hT.2.2.2.1, if_neg m1_ge0, mtake_in hT hp, Option.bind_some]
  dsimp only
  rw [hT1.2.2.2.1, if_pos m1_lt0, h80, h81, h82, eb, hrf]
  simp only [hg0, hg1, hg2]
  rw [hcl]
  simp only [Option.bind_some]
  by_cases z175 : b = 175
  · rw [if_pos (show nI b = 175 by rw [z175]; rfl), if_pos z175]
    unfold oke clr
    rcases bit_le t 0 with y0 | y0 <;> rcases bit_le t 1 with y1 | y1 <;> rcases bit_le t 2 with y2 | y2 <;> simp [y0, y1, y2, e00, n10]
  · rw [if_neg (show ¬ nI b = 175 from fun y => z175 ((nI_eq (b := 175) (by omega) (by omega)).mp y)), if_neg z175]
    by_cases z160 : 160 ≤ b
    · have hsub : nI b - 160 = nI (b - 160) := pk_sub (b := 160) z160
      rw [hsub, if_neg (nI_pos (by omega))]
      by_cases z3 : 3 < b - 160
      · rw [if_pos (show (3 : Int32) < nI (b - 160) from nI_lt (a := 3) z3 (by omega)), if_neg (fun y => by have := y.2.2.1; omega)]
      · rw [if_neg (show ¬ (3 : Int32) < nI (b - 160) from nI_nlt (b := b - 160) (a := 3) (by omega) (by omega))]
        by_cases ze : b - 160 < e
        · rw [if_pos ((bef_le (by omega) (by omega)).mpr ze), if_neg (fun y => by have := y.2.1; omega)]
        · rw [if_neg (fun y => ze ((bef_le (by omega) (by omega)).mp y))]
          have hne : ∀ k, k < 2 ^ 20 → b - 160 ≠ k → ¬ nI (b - 160) = nI k := fun k hk z y => z ((nI_eq (by omega) (by omega)).mp y)
          by_cases z2 : b - 160 = 2
          · rw [if_pos (show nI (b - 160) = 2 by rw [z2]; rfl)]
            rcases bit_le t 1 with y1 | y1
            · rw [if_pos (show nI (bit t 1) = 0 by rw [y1]; rfl), if_neg (fun y => by have := y.2.2.2.1 z2; omega)]
            · rw [if_neg (show ¬ nI (bit t 1) = 0 by rw [y1]; exact n10), if_neg (show ¬ nI (b - 160) = 3 from hne 3 (by omega) (by omega)), if_pos ⟨z160, by omega, by omega, fun _ => y1, fun y => by omega⟩]
          · rw [if_neg (show ¬ nI (b - 160) = 2 from hne 2 (by omega) z2)]
            by_cases z33 : b - 160 = 3
            · rw [if_pos (show nI (b - 160) = 3 by rw [z33]; rfl)]
              rcases clr_or t with y1 | y1
              · rw [if_pos (show nI (clr t) = 0 by rw [y1]; rfl), if_neg (fun y => by have := y.2.2.2.2 z33; omega)]
              · rw [if_neg (show ¬ nI (clr t) = 0 by rw [y1]; exact n10), if_pos ⟨z160, by omega, by omega, fun y => by omega, fun _ => y1⟩]
            · rw [if_neg (show ¬ nI (b - 160) = 3 from hne 3 (by omega) z33), if_pos ⟨z160, by omega, by omega, fun y => by omega, fun y => by omega⟩]
    · have hneg : nI b - 160 < 0 := by
        have h1 : (nI b - 160).toInt = (b : Int) - 160 := by
          have hi1 := nI_toInt (n := b) (by omega)
          rw [Int32.toInt_sub, hi1]
          have : (160 : Int32).toInt = 160 := by decide
          rw [this, Int.bmod_eq_of_le (by omega) (by omega)]
        rw [Int32.lt_iff_toInt_lt, h1]
        have : (0 : Int32).toInt = 0 := by decide
        omega
      rw [if_pos hneg, if_neg (fun y => z160 y.1)]
end SR
