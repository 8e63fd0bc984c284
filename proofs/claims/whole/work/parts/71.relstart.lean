/-! ===== the start: both objects are new ===== -/
theorem clp_eq (p : Int32) : ∃ w : Nat, (1 ≤ w ∧ w ≤ 24) ∧ mx 1 (mn 24 p) = nI w ∧ clp p = nI w := by
  unfold clp mx mn
  by_cases h1 : 1 ≤ p
  · rw [if_pos h1]
    have h0 : ¬ p < 1 := by rw [Int32.not_lt]; exact h1
    obtain ⟨N, hN1, hN, rfl⟩ := nI_ge1 h0
    by_cases h2 : nI N ≤ 24
    · have hN24 : N ≤ 24 := (nI_leI (a := N) (b := 24) hN (by omega)).mp h2
      refine ⟨N, ⟨hN1, hN24⟩, ?_, if_pos h2⟩
      have e : (if nI N < (24 : Int32) then nI N else 24) = nI N := by
        by_cases q : N < 24
        · exact if_pos (nI_lt (b := 24) q (by omega))
        · have : N = 24 := by omega
          subst this
          rfl
      rw [e]
      by_cases q : 1 < N
      · exact if_pos (nI_lt (a := 1) q (by omega))
      · have : N = 1 := by omega
        subst this
        rfl
    · have hN24 : 24 < N := by
        apply Classical.byContradiction
        intro q
        exact h2 (nI_le (b := 24) (by omega) (by omega))
      refine ⟨24, by omega, ?_, if_neg h2⟩
      rw [if_neg (show ¬ nI N < 24 from nI_nlt (b := 24) (by omega) hN)]
      rfl
  · rw [if_neg h1]
    have h0 : p < 1 := by rw [Int32.not_le] at h1; exact h1
    have h24 : p < 24 := by
      rw [Int32.lt_iff_toInt_lt] at h0 ⊢
      have e1 : (1 : Int32).toInt = 1 := by decide
      have e24 : (24 : Int32).toInt = 24 := by decide
      omega
    refine ⟨1, by omega, ?_, rfl⟩
    rw [if_pos h24, if_neg (show ¬ (1 : Int32) < p from fun y => by
      rw [Int32.lt_iff_toInt_lt] at y h0
      omega)]
    rfl
theorem rel_start {w h : Nat} (hw : 1 ≤ w ∧ w ≤ 24) (hh : 1 ≤ h ∧ h ≤ 24) : Rel (w * h) (nI w, nI h, 24, (fun _ => 0), (fun _ => 0), (fun _ => 0), Ly0, Ly0, (0, 0, fun _ => 0), (0, 0, fun _ => 0), 0, 0, (fun _ => 0)) (Mo0 (nI w) (nI h)) := by
  refine ⟨w, h, 24, ⟨hw, hh, by omega⟩, rfl, rfl, rfl, rfl, ⟨rfl, rfl, rfl⟩, ⟨fun _ _ _ _ => rfl, fun i _ => ⟨0, by omega, rfl⟩⟩, ⟨fun _ _ _ _ => rfl, fun i _ => Or.inl rfl, fun i _ _ => rfl⟩, ⟨trivial, Or.inl ⟨rfl, rfl⟩⟩, ⟨0, 0, by omega, rfl, rfl, rfl, Nat.le_refl _, fun j hj => by omega⟩, ⟨0, 0, by omega, rfl, rfl, rfl, Nat.le_refl _, fun j hj => by omega⟩, ⟨trivial, Or.inl ⟨rfl, rfl, rfl⟩⟩⟩
