theorem bi_zb {b : Nat} (h : b = 0 ∨ b = 1) : nI b = 0 ∨ nI b = 1 := by
  rcases h with rfl | rfl
  · exact Or.inl rfl
  · exact Or.inr rfl
/-! ===== a stripe, whole ===== -/
def StT (w h st bs fs i : Nat) (M : LyS) (bare md fi th : Nat → Int32) (t : Nat) : Prop :=
  t < 16 ∧ M.2 4 i = nI t ∧ (∀ l, l < 4 → th (4 * i + l) = nI (bit t l)) ∧
  (∀ l k, l < 4 → bit t l = 1 → k < mny w (sc bs fs l) (hs h st i) → M.2 l (i * st * w + k) = md (ps w (sc bs fs l) l (i * st) k) ∧ Vl l (M.2 l (i * st * w + k))) ∧
  (∀ l k, l = 0 ∨ l = 2 → bit t l = 1 → k < mny w (sc bs fs l) (hs h st i) → ∃ b, b < 16 ∧ bare (i * st * w + k) = nI b ∧ fi (ps w (sc bs fs l) l (i * st) k) = nI (bit b l)) ∧
  (∀ k, k < w * hs h st i → if bit t 1 = 1 ∧ M.2 1 (i * st * w + k) = nI 1 then bit t 2 = 1 else bit t 0 = 1)
theorem bits_t : ∀ b0 b1 b3 : Fin 2, b0.1 + 6 * b1.1 + 8 * b3.1 < 16 ∧ bit (b0.1 + 6 * b1.1 + 8 * b3.1) 0 = b0.1 ∧ bit (b0.1 + 6 * b1.1 + 8 * b3.1) 1 = b1.1 ∧ bit (b0.1 + 6 * b1.1 + 8 * b3.1) 2 = b1.1 ∧ bit (b0.1 + 6 * b1.1 + 8 * b3.1) 3 = b3.1 := by decide +kernel
theorem t_bits {b0 b1 b3 : Nat} (h0 : b0 = 0 ∨ b0 = 1) (h1 : b1 = 0 ∨ b1 = 1) (h3 : b3 = 0 ∨ b3 = 1) : b0 + 6 * b1 + 8 * b3 < 16 ∧ bit (b0 + 6 * b1 + 8 * b3) 0 = b0 ∧ bit (b0 + 6 * b1 + 8 * b3) 1 = b1 ∧ bit (b0 + 6 * b1 + 8 * b3) 2 = b1 ∧ bit (b0 + 6 * b1 + 8 * b3) 3 = b3 :=
  bits_t ⟨b0, by omega⟩ ⟨b1, by omega⟩ ⟨b3, by omega⟩
theorem sm_lt_ex {f : Nat → Int32} (hf : ∀ j, Bi (f j) ∨ True) : ∀ {k}, sm (fun j => one (f j)) k < k → ∃ j, j < k ∧ f j = nI 0
  | 0, h => by omega
  | k + 1, h => by
    by_cases q : f k = nI 0
    · exact ⟨k, by omega, q⟩
    · have : one (f k) = 1 := by unfold one; rw [if_neg q]
      have h' : sm (fun j => one (f j)) k + one (f k) < k + 1 := h
      obtain ⟨j, h1, h2⟩ := sm_lt_ex hf (k := k) (by omega)
      exact ⟨j, by omega, h2⟩
theorem sm_pos_ex {f : Nat → Int32} : ∀ {k}, 0 < sm (fun j => one (f j)) k → ∃ j, j < k ∧ f j ≠ nI 0
  | 0, h => absurd h (Nat.lt_irrefl _)
  | k + 1, h => by
    by_cases q : f k = nI 0
    · have : one (f k) = 0 := by unfold one; rw [if_pos q]
      have h' : 0 < sm (fun j => one (f j)) k + one (f k) := h
      obtain ⟨j, h1, h2⟩ := sm_pos_ex (f := f) (k := k) (by omega)
      exact ⟨j, by omega, h2⟩
    · exact ⟨k, by omega, q⟩
theorem sm_all0 {f : Nat → Int32} : ∀ {k}, sm (fun j => one (f j)) k = 0 → ∀ j, j < k → f j = nI 0
  | k + 1, h, j, hj => by
    have h' : sm (fun j => one (f j)) k + one (f k) = 0 := h
    by_cases q : j = k
    · subst q
      apply Classical.byContradiction
      intro z
      have : one (f j) = 1 := by unfold one; rw [if_neg z]
      omega
    · exact sm_all0 (k := k) (by omega) j (by omega)
theorem sm_all1 {f : Nat → Int32} : ∀ {k}, sm (fun j => one (f j)) k = k → ∀ j, j < k → f j ≠ nI 0
  | k + 1, h, j, hj => by
    have h' : sm (fun j => one (f j)) k + one (f k) = k + 1 := h
    have := sm_le (f := fun j => one (f j)) (fun j => one_le _) k
    have := one_le (f k)
    by_cases q : j = k
    · subst q
      intro z
      have : one (f j) = 0 := by unfold one; rw [if_pos z]
      omega
    · exact sm_all1 (k := k) (by omega) j (by omega)
section MS
variable {n w h st i bs fs cnt : Nat} {col msk bare : Nat → Int32} {L S : LyS}
set_option maxHeartbeats 600000 in
theorem ms_all (V : VL n w h st bs fs L) (hi : i < cd h st) (hn : n = w * h) (e4 : L.2 4 i = nI 0) (e3 : L.1 3 = nI cnt) (hbare : ∀ k, k < w * hs h st i → bare (i * st * w + k) = nI 0)
    (s1 : S.1 1 = nI w) (s2 : S.1 2 = nI h) (s5 : S.1 5 = nI st) (s18 : S.1 18 = nI fs) (s19 : S.1 19 = nI bs) (hC : RC w h col (S.2 0)) (hM : RM w h msk (S.2 1)) (ex : Nat) (hex : ex = 0 ∨ ex = 1) (fu : Nat) (hfu : 7000 ≤ fu) :
    ∃ t L' bare' S', Maker_makeStripe fu n col msk bare L (nI i) (nI ex) = some (bare', L') ∧ Mo_makeStripe fu S (nI i) (nI ex) = some S' ∧ StT w h st bs fs i L' bare' (S'.2 2) (S'.2 3) (S'.2 4) t ∧ 1 ≤ bit t 0 + bit t 1 ∧ L'.1 3 = nI (cnt + bit t 0 + bit t 1 + bit t 2 + bit t 3) ∧
      (∀ k, k ≠ 3 → L'.1 k = L.1 k) ∧ L'.2 5 = L.2 5 ∧ L'.2 6 = L.2 6 ∧ (∀ j, j ≠ i → L'.2 4 j = L.2 4 j) ∧ (∀ l j, l < 4 → j < i * st * w ∨ i * st * w + w * hs h st i ≤ j → L'.2 l j = L.2 l j) ∧ (∀ j, j < i * st * w ∨ i * st * w + w * hs h st i ≤ j → bare' j = bare j) ∧
      (∀ k, k < 15 ∨ 18 ≤ k → S'.1 k = S.1 k) ∧ (∀ q, q ≠ 2 → q ≠ 3 → q ≠ 4 → S'.2 q = S.2 q) ∧ (∀ j, j < 4 * i ∨ 4 * i + 4 ≤ j → S'.2 4 j = S.2 4 j) ∧ ∀ P, (∀ l, l < 4 → ¬ InR l (i * st) (hs h st i) P) → S'.2 2 P = S.2 2 P ∧ S'.2 3 P = S.2 3 P := by
  obtain ⟨hw, hh, hst, hb, hf, hnn, v0, v1, v2, v5, v6⟩ := id V
  have hih := hs_h hi hst.1
  have h24 := cd_24 hst.1 hh.2
  generalize er : hs h st i = r at *
  generalize etp : i * st = tp at *
  generalize est0 : tp * w = st0 at *
  have est0' : st0 = i * st * w := by rw [etp, est0]
  have hD : LD w tp r bs fs := ⟨hw, ⟨hih.2, by omega⟩, hb, hf⟩
  have hwr : w * r ≤ 24 * 24 := Nat.mul_le_mul (by omega) (by omega)
  have hwr1 : 1 ≤ w * r := Nat.mul_pos hw.1 hih.2
  have hst0 : st0 + w * r ≤ n := by
    have h1 : (tp + r) * w ≤ h * w := Nat.mul_le_mul_right w hih.1
    rw [Nat.add_mul, Nat.mul_comm h w, Nat.mul_comm r w, est0] at h1
    omega
  obtain ⟨Ta, l1, l2, l3, l4, l5, l6⟩ := lay_eq (S := S) (w := w) (h := h) (st := st) (i := i) (by omega) hst.2 hh.2
  rw [etp] at l3
  rw [er] at l4
  have hTa : LayR w tp r bs fs Ta := ⟨l2, l3, l4, by rw [l6 18 (by decide) (by decide) (by decide)]; exact s18, by rw [l6 19 (by decide) (by decide) (by decide)]; exact s19⟩
  obtain ⟨L1, T1, a1, a2, a3, a4, a5, a6, a7, a8, a9⟩ := tm_all (col := col) (bare := bare) hD hTa V etp.symm er.symm hi (by rw [l5]; exact hM) (by rw [l6 1 (by decide) (by decide) (by decide)]; exact s1) hn (nI i) (nI ex) 0 fu hfu st0 est0'
  generalize hQ : sm (fun j => one (msk (st0 + j))) (w * r) = Q at *
  have hQle : Q ≤ w * r := by rw [← hQ]; exact sm_le (fun j => one_le _) _
  -- what the mask says
  have hmk : ∀ k, k < w * r → msk (st0 + k) = S.2 1 (24 * (tp + k / w) + k % w) ∧ Bi (msk (st0 + k)) := by
    intro k hk
    obtain ⟨k1, k2⟩ := k_in hw.1 hk
    have hyh : tp + k / w < h := Nat.lt_of_lt_of_le (Nat.add_lt_add_left k1 tp) hih.1
    have := hM.1 (tp + k / w) (k % w) hyh k2
    rw [← st_k, est0] at this
    exact ⟨this, hM.2.1 _ (by omega)⟩
  have hb0v : nz (w * r - Q) = 0 ∨ nz (w * r - Q) = 1 := nz_or _
  have hb1v : nz Q = 0 ∨ nz Q = 1 := nz_or _
  generalize eb0 : nz (w * r - Q) = b0 at *
  generalize eb1 : nz Q = b1 at *
  have hone : 1 ≤ b0 + b1 := by
    unfold nz at eb0 eb1
    by_cases q : Q = 0
    · rw [if_neg (by omega)] at eb0; omega
    · rw [if_neg q] at eb1; omega
  have hm1 : ∀ k, k < w * r → msk (st0 + k) = nI 1 → b1 = 1 := by
    intro k hk z
    rcases hb1v with q | q
    · exfalso
      have : Q = 0 := by
        rw [← eb1] at q; unfold nz at q
        apply Classical.byContradiction; intro y; rw [if_neg y] at q; omega
      rw [this] at hQ
      have := sm_all0 (f := fun j => msk (st0 + j)) hQ k hk
      rw [z] at this
      exact absurd this (by decide)
    · exact q
  have hm0 : ∀ k, k < w * r → msk (st0 + k) = nI 0 → b0 = 1 := by
    intro k hk z
    rcases hb0v with q | q
    · exfalso
      have : Q = w * r := by
        rw [← eb0] at q; unfold nz at q
        apply Classical.byContradiction; intro y; rw [if_neg (by omega)] at q; omega
      rw [this] at hQ
      exact sm_all1 (f := fun j => msk (st0 + j)) hQ k hk z
    · exact q
  have hex0 : b0 = 1 → ∃ y x, tp ≤ y ∧ y < tp + r ∧ x < w ∧ S.2 1 (24 * y + x) = 0 := by
    intro z
    have hlt : Q < w * r := by
      apply Classical.byContradiction; intro y
      rw [← eb0, show w * r - Q = 0 by omega] at z
      exact absurd z (by decide)
    rw [← hQ] at hlt
    obtain ⟨k, hk, hz⟩ := sm_lt_ex (f := fun j => msk (st0 + j)) (fun _ => Or.inr trivial) hlt
    obtain ⟨k1, k2⟩ := k_in hw.1 hk
    refine ⟨tp + k / w, k % w, Nat.le_add_right _ _, Nat.add_lt_add_left k1 tp, k2, ?_⟩
    rw [← (hmk k hk).1]; exact hz
  have hex1 : b1 = 1 → ∃ y x, tp ≤ y ∧ y < tp + r ∧ x < w ∧ S.2 1 (24 * y + x) = 1 := by
    intro z
    have hlt : 0 < Q := by
      apply Classical.byContradiction; intro y
      rw [← eb1, show Q = 0 by omega] at z
      exact absurd z (by decide)
    rw [← hQ] at hlt
    obtain ⟨k, hk, hz⟩ := sm_pos_ex (f := fun j => msk (st0 + j)) hlt
    obtain ⟨k1, k2⟩ := k_in hw.1 hk
    refine ⟨tp + k / w, k % w, Nat.le_add_right _ _, Nat.add_lt_add_left k1 tp, k2, ?_⟩
    rw [← (hmk k hk).1]
    rcases (hmk k hk).2 with y | y
    · exact absurd y hz
    · exact y
  -- the marks of what is there
  generalize hT0 : Ls (Ls (Ls T1 4 (4 * i) (nI b0)) 4 (4 * i + 1) (nI b1)) 4 (4 * i + 2) (nI b1) = T0
  have t01 : T0.1 = Ta.1 := by rw [← hT0, ← a7]; rfl
  have t02 : ∀ q, q ≠ 4 → T0.2 q = T1.2 q := by
    intro q hq; rw [← hT0, ls_n hq, ls_n hq, ls_n hq]
  have t04 : T0.2 4 (4 * i) = nI b0 ∧ T0.2 4 (4 * i + 1) = nI b1 ∧ T0.2 4 (4 * i + 2) = nI b1 ∧ ∀ j, j < 4 * i ∨ 4 * i + 3 ≤ j → T0.2 4 j = S.2 4 j := by
    rw [← hT0, ls_s, ls_s, ls_s]
    refine ⟨?_, ?_, pk_us, ?_⟩
    · rw [pk_un (by omega), pk_un (by omega), pk_us]
    · rw [pk_un (by omega), pk_us]
    · intro j hj
      rw [pk_un (by omega), pk_un (by omega), pk_un (by omega), a8 4 (by decide), l5]
  have hS0 : S.2 0 = T0.2 0 := by rw [t02 0 (by decide), a8 0 (by decide), l5]
  have hS1 : S.2 1 = T0.2 1 := by rw [t02 1 (by decide), a8 1 (by decide), l5]
  have hV1 : VL n w h st bs fs L1 := VL_fr V (fun k _ => by rw [a3]) (a4 5 (by decide)) (a4 6 (by decide))
  have hL0 : LayR w tp r bs fs T0 := LayR_fr hTa t01
  have e41 : L1.2 4 i = nI 0 := by rw [a4 4 (by decide)]; exact e4
  have sg00 : SG w st0 tp r bs fs i 0 0 cnt L1 T0 bare L1 bare T0 := by
    refine ⟨fun _ _ => rfl, by rw [a3]; exact e3, ?_, fun _ _ _ _ => rfl, fun _ _ _ _ => rfl, fun _ _ => rfl, ⟨fun _ => 0, fun k hk => ⟨(show (0 : Nat) < 16 by decide), hbare k hk, fun _ => (show bit 0 0 = 0 by decide), fun _ => (show bit 0 2 = 0 by decide)⟩, ?_⟩, ?_, rfl, fun _ _ _ => rfl, fun _ _ _ => ⟨rfl, rfl⟩⟩
    · show L1.2 4 = upd (L1.2 4) i (nI 0)
      rw [← e41, upd_same]
    · intro l k hl hp
      exfalso; unfold pr at hp; rcases hl with rfl | rfl <;> exact absurd hp (by decide)
    · intro l k hl hp
      exfalso; unfold pr at hp; rcases hl with rfl | rfl <;> exact absurd hp (by decide)
  -- the layer behind
  obtain ⟨bareB, LB, TB, u1, u2, u3⟩ : ∃ bareB LB TB, Maker_makeStripe fu n col msk bare L (nI i) (nI ex) = Maker_makeStripe_b49 fu n col msk bareB LB (nI i) (nI ex) (nI Q) ∧ Mo_makeStripe fu S (nI i) (nI ex) = Mo_makeStripe_b183 fu TB (nI i) (nI ex) (nI b1) 0 ∧ SG w st0 tp r bs fs i b0 0 cnt L1 T0 bare LB bareB TB := by
    have hcl : Maker_makeStripe fu n col msk bare L (nI i) (nI ex) = if nI (w * r) ≤ nI Q then Maker_makeStripe_b49 fu n col msk bare L1 (nI i) (nI ex) (nI Q) else (Maker_makeBlocks fu n col msk bare L1 (nI i) 0).bind fun r13 => (Maker_fillBlocks fu n col msk bare r13.2 (nI i) 0 r13.1).bind fun r14 => (Layers_add n r14.2 (nI i) 0).bind fun r15 => Maker_makeStripe_b49 fu n col msk r14.1 r15 (nI i) (nI ex) (nI Q) := by
      unfold Maker_makeStripe
      rw [a1, Option.bind_some]
      dsimp only
      rw [show (1 : Int32) = nI 1 from rfl, endOf_eq hV1 (by omega) (by decide), Option.bind_some, startOf_eq hV1, Option.bind_some, sc_1, cd_1, cd_1, er, pk_sub (by omega), Nat.add_sub_cancel_left]
    have hrf : Mo_makeStripe fu S (nI i) (nI ex) = if nI b0 = 0 then Mo_makeStripe_b183 fu T0 (nI i) (nI ex) (nI b1) 0 else (Mo_makeBlocks fu T0 0).bind fun r44 => Mo_makeStripe_b183 fu r44 (nI i) (nI ex) (nI b1) 0 := by
      unfold Mo_makeStripe
      rw [s1, s2, s5, l1, Option.bind_some]
      rw [a2, Option.bind_some]
      dsimp only
      have z0 : ∀ x : Option LyS, zb (nI b0) x = x := fun x => zb_in (bi_zb hb0v)
      have z1 : ∀ x : Option LyS, zb (nI b1) x = x := fun x => zb_in (bi_zb hb1v)
      rw [show (4 : Int32) * nI i = nI (4 * i) from pk_mul 4 i, show nI (4 * i) + 1 = nI (4 * i + 1) from nI_add _ 1, show nI (4 * i) + 2 = nI (4 * i + 2) from nI_add _ 2, gd_nI (by omega) (by omega), gd_nI (by omega) (by omega), gd_nI (by omega) (by omega), z0, z1, z1, nI_clamp (by omega), nI_clamp (by omega), nI_clamp (by omega), hT0]
    rw [hcl, hrf]
    rcases hb0v with q | q
    · subst q
      have : w * r ≤ Q := by
        unfold nz at eb0
        apply Classical.byContradiction; intro y; rw [if_neg (by omega)] at eb0; omega
      rw [if_pos (nI_le this (by omega)), if_pos e00]
      exact ⟨_, _, _, rfl, rfl, sg00⟩
    · subst q
      have : Q < w * r := by
        apply Classical.byContradiction; intro y
        rw [show w * r - Q = 0 by omega] at eb0
        exact absurd eb0 (by decide)
      rw [if_neg (nI_ge this (by omega)), if_neg n10]
      obtain ⟨f, La1, bareB, La2, LB, TB, c1, c2, c3, c4, c5⟩ := sg_0 (col := col) (msk := msk) (bare0 := bare) hD hL0 hV1 etp.symm er.symm hi (by rw [← hS0]; exact hC) (by rw [← hS1]; exact ⟨hM.1, hM.2.1⟩) hn fu hfu est0' (by rw [← hS1]; exact hex0 rfl) sg00
      refine ⟨bareB, LB, TB, ?_, ?_, c5⟩
      · rw [c1, Option.bind_some]
        dsimp only
        rw [c2, Option.bind_some]
        dsimp only
        rw [c3, Option.bind_some]
      · rw [c4, Option.bind_some]
  -- the layer in front
  obtain ⟨bareC, LC, TC, w1, w2, w3⟩ : ∃ bareC LC TC, Maker_makeStripe_b49 fu n col msk bareB LB (nI i) (nI ex) (nI Q) = Maker_makeStripe_b83 fu n col msk bareC LC (nI i) (nI ex) ∧ Mo_makeStripe_b183 fu TB (nI i) (nI ex) (nI b1) 0 = Mo_makeStripe_b192 fu TC (nI i) (nI ex) 0 ∧ SG w st0 tp r bs fs i b0 b1 cnt L1 T0 bare LC bareC TC := by
    unfold Maker_makeStripe_b49 Mo_makeStripe_b183
    rcases hb1v with q | q
    · subst q
      have hq0 : Q = 0 := by
        unfold nz at eb1
        apply Classical.byContradiction; intro y; rw [if_neg y] at eb1; omega
      rw [hq0, if_pos (by decide), if_pos e00]
      exact ⟨_, _, _, rfl, rfl, u3⟩
    · subst q
      have hq0 : 0 < Q := by
        apply Classical.byContradiction; intro y
        rw [show Q = 0 by omega] at eb1
        exact absurd eb1 (by decide)
      rw [if_neg (show ¬ nI Q ≤ 0 from nI_ge (a := 0) hq0 (by omega)), if_neg n10]
      obtain ⟨La0, f, La1, bareC, La2, LC, TC, c0, c1, c2, c3, c4, c5⟩ := sg_2 (col := col) (msk := msk) (bare0 := bare) hD hL0 hV1 etp.symm er.symm hi (by rw [← hS0]; exact hC) (by rw [← hS1]; exact ⟨hM.1, hM.2.1⟩) hn fu hfu est0' (by rw [← hS1]; exact hex1 rfl) hb0v u3
      refine ⟨bareC, LC, TC, ?_, ?_, c5⟩
      · rw [c0, Option.bind_some, c1, Option.bind_some]
        dsimp only
        rw [c2, Option.bind_some]
        dsimp only
        rw [c3, Option.bind_some]
      · rw [c4, Option.bind_some]
  obtain ⟨q1, q2, q3, q4, q5, q6, ⟨bf, q7, q8⟩, q9, q10, q11, q12⟩ := w3
  have hVC : VL n w h st bs fs LC := VL_fr hV1 (fun k hk => q1 k (by omega)) (q4 5 (by decide) (by decide) (by decide)) (q4 6 (by decide) (by decide) (by decide))
  have hin1 : ∀ k, k < w * r → InR 1 tp r (ps w 1 1 tp k) := fun k hk => ps_in (by omega) hw.2 hD.2.1.2 (by rw [mny_1]; exact hk)
  have hTC1 : ∀ k, k < w * r → TC.2 2 (ps w 1 1 tp k) = msk (st0 + k) := by
    intro k hk
    have hin := hin1 k hk
    have := hD.2.1
    rw [(q12 _ (by unfold InR at hin ⊢; omega) (by unfold InR at hin ⊢; omega)).1, t02 2 (by decide)]
    exact (a6 k hk).2
  -- the rest
  obtain ⟨dd, LR, TR, g1, g2, g3⟩ := rp_all (col := col) (msk := msk) (bare := bareC) (b0 := b0) (b1 := b1) hD (LayR_fr hL0 q10) hVC etp.symm er.symm hi (by rw [q11 0 (by decide) (by decide), ← hS0]; exact hC) hn (by rw [q10, t01, l6 1 (by decide) (by decide) (by decide)]; exact s1) (by rw [q10, t01, l6 5 (by decide) (by decide) (by decide)]; exact s5) (by rw [q11 4 (by decide) (by decide)]; exact t04.2.1) hb1v fu hfu est0' (fun k hk => ⟨(hmk k hk).2, hTC1 k hk, hm1 k hk, hm0 k hk⟩) (fun l k hl hp hk => (q9 l k hl hp hk).1) (nI i) (nI ex)
  obtain ⟨g30, g31, g32, g33, g34, g35, g36, g37⟩ := g3
  have hgd3 : ∀ x : Option LyS, gd (nI (4 * i) + 3) 96 x = x := fun x => by
    rw [show nI (4 * i) + 3 = nI (4 * i + 3) from nI_add _ 3]; exact gd_nI (by omega) (by omega)
  have hcl3 : (nI (4 * i) + 3).toNatClampNeg = 4 * i + 3 := by
    rw [show nI (4 * i) + 3 = nI (4 * i + 3) from nI_add _ 3, nI_clamp (by omega)]
  -- all together
  have fin : ∀ (b3 : Nat) (L' : LyS), (b3 = 0 ∨ b3 = 1) → (∀ k, k ≠ 3 → L'.1 k = LC.1 k) → L'.1 3 = nI (cnt + b0 + 2 * b1 + b3) → L'.2 4 = upd (LC.2 4) i (nI (b0 + 6 * b1 + 8 * b3)) → (∀ q, q ≠ 3 → q ≠ 4 → L'.2 q = LC.2 q) → (∀ j, j < st0 ∨ st0 + w * r ≤ j → L'.2 3 j = LC.2 3 j) → (b3 = 1 → L'.2 3 = LR.2 3) →
      StT w h st bs fs i L' bareC ((Ls TR 4 (4 * i + 3) (nI b3)).2 2) ((Ls TR 4 (4 * i + 3) (nI b3)).2 3) ((Ls TR 4 (4 * i + 3) (nI b3)).2 4) (b0 + 6 * b1 + 8 * b3) ∧ 1 ≤ bit (b0 + 6 * b1 + 8 * b3) 0 + bit (b0 + 6 * b1 + 8 * b3) 1 ∧ L'.1 3 = nI (cnt + bit (b0 + 6 * b1 + 8 * b3) 0 + bit (b0 + 6 * b1 + 8 * b3) 1 + bit (b0 + 6 * b1 + 8 * b3) 2 + bit (b0 + 6 * b1 + 8 * b3) 3) ∧
      (∀ k, k ≠ 3 → L'.1 k = L.1 k) ∧ L'.2 5 = L.2 5 ∧ L'.2 6 = L.2 6 ∧ (∀ j, j ≠ i → L'.2 4 j = L.2 4 j) ∧ (∀ l j, l < 4 → j < st0 ∨ st0 + w * r ≤ j → L'.2 l j = L.2 l j) ∧ (∀ j, j < st0 ∨ st0 + w * r ≤ j → bareC j = bare j) ∧
      (∀ k, k < 15 ∨ 18 ≤ k → (Ls TR 4 (4 * i + 3) (nI b3)).1 k = S.1 k) ∧ (∀ q, q ≠ 2 → q ≠ 3 → q ≠ 4 → (Ls TR 4 (4 * i + 3) (nI b3)).2 q = S.2 q) ∧ (∀ j, j < 4 * i ∨ 4 * i + 4 ≤ j → (Ls TR 4 (4 * i + 3) (nI b3)).2 4 j = S.2 4 j) ∧ ∀ P, (∀ l, l < 4 → ¬ InR l tp r P) → (Ls TR 4 (4 * i + 3) (nI b3)).2 2 P = S.2 2 P ∧ (Ls TR 4 (4 * i + 3) (nI b3)).2 3 P = S.2 3 P := by
    intro b3 L' hb3 x1 x2 x3 x4 x5 x6
    obtain ⟨bt, bt0, bt1, bt2, bt3⟩ := t_bits hb0v hb1v hb3
    have hth : TR.2 4 = T0.2 4 := by rw [g36 4 (by decide), q11 4 (by decide) (by decide)]
    have hL1 : ∀ k, k < w * r → L'.2 1 (st0 + k) = msk (st0 + k) := by
      intro k hk
      rw [x4 1 (by decide) (by decide), q4 1 (by decide) (by decide) (by decide)]
      exact (a6 k hk).1
    refine ⟨⟨bt, by rw [x3, pk_us], ?_, ?_, ?_, ?_⟩, by rw [bt0, bt1]; exact hone, by rw [x2, bt0, bt1, bt2, bt3]; exact congrArg nI (by omega), ?_, ?_, ?_, ?_, ?_, ?_, ?_, ?_, ?_, ?_⟩
    · intro l hl
      rw [ls_s]
      have : l = 0 ∨ l = 1 ∨ l = 2 ∨ l = 3 := by omega
      rcases this with rfl | rfl | rfl | rfl
      · rw [pk_un (by omega), hth, bt0]; exact t04.1
      · rw [pk_un (by omega), hth, bt1]; exact t04.2.1
      · rw [pk_un (by omega), hth, bt2]; exact t04.2.2.1
      · rw [pk_us, bt3]
    · intro l k hl hbit hk
      rw [etp, est0, ls_n (by decide)]
      rw [er] at hk
      have hsc := sc_in (k := l) hb hf
      have hin := ps_in (l := l) hsc.1 hw.2 hD.2.1.2 hk
      have hm := mny_le (w := w) (s := sc bs fs l) (r := r) hsc.1
      have h4 : l = 0 ∨ l = 1 ∨ l = 2 ∨ l = 3 := by omega
      have hb2 : ∀ l, l = 0 ∨ l = 2 → pr b0 b1 l = 1 → ∀ k, k < mny w (sc bs fs l) r → L'.2 l (st0 + k) = TR.2 2 (ps w (sc bs fs l) l tp k) ∧ Vl l (L'.2 l (st0 + k)) := by
        intro l hl hp k hk
        have hsc := sc_in (k := l) hb hf
        have hin := ps_in (l := l) hsc.1 hw.2 hD.2.1.2 hk
        have := hD.2.1
        rw [x4 l (by omega) (by omega), g37 _ (by unfold InR at hin ⊢; omega)]
        obtain ⟨y1, y2⟩ := q9 l k hl hp hk
        refine ⟨y1, ?_⟩
        unfold Vl; rw [if_neg (by omega)]; exact y2
      rcases h4 with rfl | rfl | rfl | rfl
      · exact hb2 0 (Or.inl rfl) (by rw [bt0] at hbit; exact hbit) k hk
      · rw [sc_1] at hk hin ⊢
        rw [mny_1] at hk
        have := hD.2.1
        rw [hL1 k hk, g37 _ (by unfold InR at hin ⊢; omega), hTC1 k hk]
        exact ⟨rfl, by unfold Vl; rw [if_pos rfl]; exact (hmk k hk).2⟩
      · exact hb2 2 (Or.inr rfl) (by rw [bt2] at hbit; exact hbit) k hk
      · rw [bt3] at hbit
        rw [sc_3] at hk ⊢
        rw [mny_1] at hk
        rw [x6 hbit]
        obtain ⟨y1, y2⟩ := g34 k hk
        exact ⟨y1, by unfold Vl; rw [if_neg (by decide)]; exact y2⟩
    · intro l k hl hbit hk
      rw [etp, est0, ls_n (by decide)]
      rw [er] at hk
      have hsc := sc_in (k := l) hb hf
      have hm := mny_le (w := w) (s := sc bs fs l) (r := r) hsc.1
      obtain ⟨y1, y2, -⟩ := q7 k (by omega)
      refine ⟨bf k, y1, y2, ?_⟩
      rw [g36 3 (by decide)]
      apply q8 l k hl _ hk
      unfold pr
      rcases hl with rfl | rfl
      · rw [if_pos rfl]; rw [bt0] at hbit; exact hbit
      · rw [if_neg (by decide)]; rw [bt2] at hbit; exact hbit
    · intro k hk
      rw [etp, est0]
      rw [er] at hk
      rw [hL1 k hk, bt0, bt1, bt2]
      rcases (hmk k hk).2 with z | z
      · rw [z, if_neg (fun y => absurd y.2 (by decide))]; exact hm0 k hk z
      · rw [z, if_pos ⟨hm1 k hk z, rfl⟩]; exact hm1 k hk z
    · intro k hk
      rw [x1 k hk, q1 k hk, a3]
    · rw [x4 5 (by decide) (by decide), q4 5 (by decide) (by decide) (by decide), a4 5 (by decide)]
    · rw [x4 6 (by decide) (by decide), q4 6 (by decide) (by decide) (by decide), a4 6 (by decide)]
    · intro j hj
      rw [x3, pk_un hj, q3, pk_un hj, a4 4 (by decide)]
    · intro l j hl hj
      have : l = 0 ∨ l = 1 ∨ l = 2 ∨ l = 3 := by omega
      rcases this with rfl | rfl | rfl | rfl
      · rw [x4 0 (by decide) (by decide), q5 0 j (Or.inl rfl) hj, a4 0 (by decide)]
      · rw [x4 1 (by decide) (by decide), q4 1 (by decide) (by decide) (by decide), a5 j hj]
      · rw [x4 2 (by decide) (by decide), q5 2 j (Or.inr rfl) hj, a4 2 (by decide)]
      · rw [x5 j hj, q4 3 (by decide) (by decide) (by decide), a4 3 (by decide)]
    · exact q6
    · intro k hk
      show TR.1 k = _
      rw [g35, q10, t01, l6 k (by omega) (by omega) (by omega)]
    · intro q h2 h3 h4
      rw [ls_n h4, g36 q h2, q11 q h2 h3, t02 q h4, a8 q h2, l5]
    · intro j hj
      rw [ls_s, pk_un (by omega), hth]; exact t04.2.2.2 j (by omega)
    · intro P hP
      rw [ls_n (by decide), ls_n (by decide)]
      obtain ⟨y1, y2⟩ := q12 P (hP 0 (by decide)) (hP 2 (by decide))
      rw [g37 P (hP 3 (by decide)), g36 3 (by decide), y1, y2, t02 2 (by decide), t02 3 (by decide), a9 P (hP 1 (by decide)), a8 3 (by decide), l5]
      exact ⟨rfl, rfl⟩
  rw [u1, u2, w1, w2]
  unfold Maker_makeStripe_b83 Mo_makeStripe_b192
  rw [g2, Option.bind_some]
  dsimp only
  rw [show (4 : Int32) * nI i = nI (4 * i) from pk_mul 4 i]
  simp only [hgd3, hcl3]
  have q3i : LC.2 4 = upd (LC.2 4) i (nI (b0 + 6 * b1 + 8 * 0)) := by
    have : LC.2 4 i = nI (b0 + 6 * b1) := by rw [q3, pk_us]
    rw [Nat.mul_zero, Nat.add_zero, ← this, upd_same]
  rcases hex with rfl | rfl
  · rw [if_pos e00, if_pos e00]
    obtain ⟨y1, y2, y3⟩ := fin 0 LC (Or.inl rfl) (fun _ _ => rfl) q2 q3i (fun _ _ _ => rfl) (fun _ _ => rfl) (fun z => absurd z (by decide))
    exact ⟨_, LC, bareC, _, rfl, zb_in (Or.inl rfl), y1, y2, y3⟩
  · rw [if_neg n10, if_neg n10, g1, Option.bind_some]
    dsimp only
    rcases g30 with rfl | rfl
    · rw [if_pos e00, if_pos e00]
      have e4r : LR.2 4 = LC.2 4 := g32 4 (by decide)
      obtain ⟨y1, y2, y3⟩ := fin 0 LR (Or.inl rfl) (fun k _ => by rw [g31]) (by rw [g31]; exact q2) (by rw [e4r]; exact q3i) (fun q h3 _ => g32 q h3) (fun j hj => g33 j hj) (fun z => absurd z (by decide))
      exact ⟨_, LR, bareC, _, rfl, zb_in (Or.inl rfl), y1, y2, y3⟩
    · rw [if_neg n10, if_neg n10]
      have e4r : LR.2 4 = LC.2 4 := g32 4 (by decide)
      have e4i : LR.2 4 i = nI (b0 + 6 * b1) := by rw [e4r, q3, pk_us]
      have hi24 : i < 24 := Nat.lt_of_lt_of_le hi h24
      have hlt16 : b0 + 6 * b1 < 16 := by rcases hb0v with z | z <;> rcases hb1v with y | y <;> rw [z, y] <;> decide
      obtain ⟨L', d1, d2, d3, d4, d5⟩ := add_eq (n := n) (L := LR) (i := i) (t := b0 + 6 * b1) (l := 3) (cnt := cnt + b0 + 2 * b1) hi24 e4i hlt16 (by decide) (by rw [g31]; exact q2)
      rw [show (3 : Int32) = nI 3 from rfl, d1, Option.bind_some]
      have eor : (b0 + 6 * b1) ||| 2 ^ 3 = b0 + 6 * b1 + 8 * 1 := by
        rcases hb0v with rfl | rfl <;> rcases hb1v with rfl | rfl <;> rfl
      obtain ⟨y1, y2, y3⟩ := fin 1 L' (Or.inr rfl) (fun k hk => by rw [d3 k hk, g31]) d2 (by rw [d5, eor, e4r]) (fun q h3 h4 => by rw [d4 q h4, g32 q h3]) (fun j hj => by rw [d4 3 (by decide)]; exact g33 j hj) (fun _ => d4 3 (by decide))
      exact ⟨_, L', bareC, _, rfl, zb_in (Or.inr rfl), y1, y2, y3⟩
end MS
