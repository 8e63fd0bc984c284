/-! ===== write: a layer, a stripe, all ===== -/
def pb (l m : Nat) : Nat := if l = 1 then (m + 7) / 8 else 3 * m
theorem Bt_of {x : Nat} (h : x < 256) : Bt (nI x) := ⟨x, h, rfl⟩
theorem bind_id (Y : Option (Nat × LyS)) : ((Y.bind fun r => some r.2).bind fun r => some r) = Y.bind fun r => some r.2 := by
  cases Y with
  | none => rfl
  | some p => rfl
theorem kind_bt (p : Prop) [Decidable p] : Bt (if p then (0 : Int32) else 1) := by
  split
  · exact ⟨0, by omega, rfl⟩
  · exact ⟨1, by omega, rfl⟩
section WLA
variable {n w h st i tp r bs fs st0 l : Nat} {L : LyS}
theorem ow_layer {c ci : Nat} {B : ByS} {S : LyS} (V : VL n w h st bs fs L) (hi : i < cd h st) (etp : tp = i * st) (er : r = hs h st i) (est0 : st0 = i * st * w) (H : WL n w tp r bs fs st0 l L S) (hB : BB c ci B S) (hm1 : 1 ≤ mny w (sc bs fs l) r) (hc : c + (4 + pb l (mny w (sc bs fs l) r)) ≤ 6400) (fu : Nat) (hfu : 7000 ≤ fu) :
    ∃ d, d ≤ 4 + pb l (mny w (sc bs fs l) r) ∧ OW (fun B => B) (fun S => S) (Writer_writeLayer fu n L B (nI i) (nI l)) (Mo_outLayer fu S (nI l)) ci c d S := by
  obtain ⟨h1, h2, h3, h4, h5, h6⟩ := id H
  have hih := hs_h hi V.2.2.1.1
  obtain ⟨R, b1, b2, b3, b4⟩ := runs_all H fu hfu (mny w (sc bs fs l) r) 0 (by omega) (by omega)
  have hend : Layers_endOf n L (nI i) (nI l) = some (nI (st0 + mny w (sc bs fs l) r)) := by
    rw [endOf_eq V (by omega) h3, ← er, est0]; rfl
  have hstart : Layers_startOf n L (nI i) = some (nI st0) := by rw [startOf_eq V, est0]
  have hcount := count_eq h1 h2 h3
  have hplainS := plain_eq h1 h2 h3
  generalize hmm : mny w (sc bs fs l) r = m at *
  have hplain : ML_plainBytes (nI l) (nI m) = some (nI (pb l m)) := by
    unfold ML_plainBytes pb
    by_cases z : l = 1
    · rw [if_pos z, z, if_pos n11, show (8 : Int32) = nI 8 from rfl, parts_eq (by omega) (by omega) (by omega)]; rfl
    · rw [if_neg z, if_neg (show ¬ nI l = 1 from fun y => z ((nI_eq (b := 1) (by omega) (by omega)).mp y)), show (3 : Int32) * nI m = nI (3 * m) from pk_mul 3 m]
  have hplainS' : Mo_plainSize S (nI l) = some (nI (pb l m)) := hplainS
  have hru : ru l ≤ 4 := by unfold ru; split <;> omega
  have hR : R * ru l ≤ 576 * 4 := Nat.mul_le_mul (by omega) hru
  have hpb : pb l m ≤ 1728 := by unfold pb; split <;> omega
  have hcr : Writer_countRuns fu n L B (nI l) (nI st0) (nI (st0 + m)) = some (nI R) := by
    unfold Writer_countRuns
    have := b2 B fu 0 (by omega)
    rw [Nat.add_zero, Nat.zero_add] at this
    rw [show (0 : Int32) = nI 0 from rfl]
    show (Writer_countRuns_l9 n L B (nI l) (nI (st0 + m)) fu (nI 0) 0 (nI st0)).bind _ = _
    rw [this]; rfl
  have hrb : Mo_outLayer_l11 fu S (nI l) (nI m) fu 0 0 = some (0, nI (R * ru l)) := by
    have := b3 fu 0 (by omega)
    rw [Nat.zero_add] at this
    exact this
  -- the shapes of both
  have hX : Writer_writeLayer fu n L B (nI i) (nI l) = (ByteRow_append B (nI (160 + l))).bind fun r6 => ad r6.2.1 r6.2.2 (Writer_writeLayer_b79 fu n L r6.1 (nI l) (nI st0) (nI (st0 + m)) (nI (pb l m)) (nI (R * ru l)) (if pb l m ≤ R * ru l then 0 else 1)) := by
    unfold Writer_writeLayer
    rw [hstart, Option.bind_some, hend, Option.bind_some, pk_sub (by omega), Nat.add_sub_cancel_left, hplain, Option.bind_some, hcr, Option.bind_some]
    have hb : ∀ u : Nat, u = ru l → Writer_writeLayer_b48 fu n L B (nI l) (nI st0) (nI (st0 + m)) (nI (pb l m)) (nI u) (nI R) = (ByteRow_append B (nI (160 + l))).bind fun r6 => ad r6.2.1 r6.2.2 (Writer_writeLayer_b79 fu n L r6.1 (nI l) (nI st0) (nI (st0 + m)) (nI (pb l m)) (nI (R * ru l)) (if pb l m ≤ R * ru l then 0 else 1)) := by
      rintro u rfl
      unfold Writer_writeLayer_b48
      rw [show (160 : Int32) + nI l = nI (160 + l) from nI_add 160 l, pk_mul]
      by_cases z : pb l m ≤ R * ru l
      · simp only [if_pos (nI_le z (show R * ru l < 2 ^ 31 by omega)), if_pos z]
      · simp only [if_neg (nI_ge (show R * ru l < pb l m by omega) (show pb l m < 2 ^ 31 by omega)), if_neg z]
    by_cases z : l = 1
    · rw [if_pos (show nI l = 1 by rw [z]; rfl)]
      exact hb 2 (by unfold ru; rw [if_pos z])
    · rw [if_neg (show ¬ nI l = 1 from fun y => z ((nI_eq (b := 1) (by omega) (by omega)).mp y))]
      exact hb 4 (by unfold ru; rw [if_neg z])
  have hY : Mo_outLayer fu S (nI l) = (Mo_out S (nI (160 + l))).bind fun r9 => Mo_outLayer_b96 fu r9 (nI l) (nI m) (nI (min (R * ru l) (pb l m))) (if pb l m ≤ R * ru l then 0 else 1) (if pb l m ≤ R * ru l then 0 else 1) := by
    unfold Mo_outLayer
    rw [hcount, Option.bind_some, hrb, Option.bind_some, hplainS', Option.bind_some]
    dsimp only
    by_cases z : pb l m ≤ R * ru l
    · rw [if_pos (nI_le z (by omega)), if_pos z]
      unfold Mo_outLayer_b59 Mo_outLayer_b75
      rw [if_pos rfl, hplainS', Option.bind_some, show (160 : Int32) + nI l = nI (160 + l) from nI_add 160 l]
      simp only [if_pos]
      rw [Nat.min_eq_right z]
    · rw [if_neg (nI_ge (by omega) (by omega)), if_neg z]
      unfold Mo_outLayer_b59 Mo_outLayer_b75
      rw [if_neg ne10, show (160 : Int32) + nI l = nI (160 + l) from nI_add 160 l]
      simp only [if_neg ne10]
      rw [Nat.min_eq_left (by omega)]
  refine ⟨4 + min (R * ru l) (pb l m), by omega, ?_⟩
  rw [hX, hY]
  refine ow_cons (f := fun B => Writer_writeLayer_b79 fu n L B (nI l) (nI st0) (nI (st0 + m)) (nI (pb l m)) (nI (R * ru l)) (if pb l m ≤ R * ru l then 0 else 1)) (g := fun S => Mo_outLayer_b96 fu S (nI l) (nI m) (nI (min (R * ru l) (pb l m))) (if pb l m ≤ R * ru l then 0 else 1) (if pb l m ≤ R * ru l then 0 else 1)) hB (by omega) (Bt_of (by omega)) (d := 3 + min (R * ru l) (pb l m)) (by omega) ?_
  intro i1 B1 S1 _ hB1 hF1
  unfold Writer_writeLayer_b79 Mo_outLayer_b96
  rw [mn_eq (by omega) (by omega), pk_andN (by omega) 8 m255, pk_shrN (by omega) _ 8 s8]
  generalize hq : min (R * ru l) (pb l m) = q at *
  refine ow_cons (f := fun B => (ByteRow_append B (nI (q % 2 ^ 8))).bind fun r8 => ad r8.2.1 r8.2.2 ((ByteRow_append r8.1 (nI (q / 2 ^ 8))).bind fun r9 => ad r9.2.1 r9.2.2 (if nI (pb l m) ≤ nI (R * ru l) then (if nI l = 1 then (Writer_writeBits fu n L r9.1 (nI st0) (nI (st0 + m))).bind fun r11 => ad r11.2.1 r11.2.2 (some (r11.1, 0, 0)) else (Writer_writeValues fu n L r9.1 (nI l) (nI st0) (nI (st0 + m))).bind fun r10 => ad r10.2.1 r10.2.2 (some (r10.1, 0, 0))) else (Writer_writeRuns fu n L r9.1 (nI l) (nI st0) (nI (st0 + m))).bind fun r13 => ad r13.2.1 r13.2.2 (some (r13.1, 0, 0)))))
    (g := fun S => (Mo_out S (nI (q % 2 ^ 8))).bind fun r11 => (Mo_out r11 (nI (q / 2 ^ 8))).bind fun r12 => if (if pb l m ≤ R * ru l then (0 : Int32) else 1) = 0 then (if nI l = 1 then (Mo_outLayer_l183 fu (nI l) (nI m) fu 0 r12).bind fun r27 => some r27.2 else (Mo_outLayer_l261 (nI l) (nI m) fu 0 r12).bind fun r17 => some r17.2) else (Mo_outLayer_l124 fu (nI l) (nI m) fu 0 r12).bind fun r36 => some r36.2) hB1 (by omega) (kind_bt _) (d := 2 + q) (by omega) ?_
  intro i2 B2 S2 _ hB2 hF2
  refine ow_cons (f := fun B => (ByteRow_append B (nI (q / 2 ^ 8))).bind fun r9 => ad r9.2.1 r9.2.2 (if nI (pb l m) ≤ nI (R * ru l) then (if nI l = 1 then (Writer_writeBits fu n L r9.1 (nI st0) (nI (st0 + m))).bind fun r11 => ad r11.2.1 r11.2.2 (some (r11.1, 0, 0)) else (Writer_writeValues fu n L r9.1 (nI l) (nI st0) (nI (st0 + m))).bind fun r10 => ad r10.2.1 r10.2.2 (some (r10.1, 0, 0))) else (Writer_writeRuns fu n L r9.1 (nI l) (nI st0) (nI (st0 + m))).bind fun r13 => ad r13.2.1 r13.2.2 (some (r13.1, 0, 0))))
    (g := fun S => (Mo_out S (nI (q / 2 ^ 8))).bind fun r12 => if (if pb l m ≤ R * ru l then (0 : Int32) else 1) = 0 then (if nI l = 1 then (Mo_outLayer_l183 fu (nI l) (nI m) fu 0 r12).bind fun r27 => some r27.2 else (Mo_outLayer_l261 (nI l) (nI m) fu 0 r12).bind fun r17 => some r17.2) else (Mo_outLayer_l124 fu (nI l) (nI m) fu 0 r12).bind fun r36 => some r36.2) hB2 (by omega) (Bt_of (by omega)) (d := 1 + q) (by omega) ?_
  intro i3 B3 S3 _ hB3 hF3
  refine ow_cons (f := fun B => if nI (pb l m) ≤ nI (R * ru l) then (if nI l = 1 then (Writer_writeBits fu n L B (nI st0) (nI (st0 + m))).bind fun r11 => ad r11.2.1 r11.2.2 (some (r11.1, 0, 0)) else (Writer_writeValues fu n L B (nI l) (nI st0) (nI (st0 + m))).bind fun r10 => ad r10.2.1 r10.2.2 (some (r10.1, 0, 0))) else (Writer_writeRuns fu n L B (nI l) (nI st0) (nI (st0 + m))).bind fun r13 => ad r13.2.1 r13.2.2 (some (r13.1, 0, 0)))
    (g := fun S => if (if pb l m ≤ R * ru l then (0 : Int32) else 1) = 0 then (if nI l = 1 then (Mo_outLayer_l183 fu (nI l) (nI m) fu 0 S).bind fun r27 => some r27.2 else (Mo_outLayer_l261 (nI l) (nI m) fu 0 S).bind fun r17 => some r17.2) else (Mo_outLayer_l124 fu (nI l) (nI m) fu 0 S).bind fun r36 => some r36.2) hB3 (by omega) (Bt_of (by omega)) (d := q) (by omega) ?_
  intro i4 B4 S4 _ hB4 hF4
  have hFF := Fr_t hF1 (Fr_t hF2 (Fr_t hF3 hF4))
  have hW4 := WL_fr hFF H
  by_cases z : pb l m ≤ R * ru l
  · have eq : q = pb l m := by rw [← hq]; exact Nat.min_eq_right z
    rw [if_pos (nI_le z (by omega)), if_pos z, if_pos rfl]
    by_cases z1 : l = 1
    · subst z1
      rw [if_pos n11, if_pos n11]
      have hpm : pb 1 m = (m + 7) / 8 := by unfold pb; rw [if_pos rfl]
      have ow := ow_bits (n := n) (w := w) (tp := tp) (r := r) (bs := bs) (fs := fs) (st0 := st0) (L := L) q 0 fu fu fu hfu hW4 (by rw [hmm]; omega) (by rw [hmm]; omega) (by omega) hB4 (by omega) (by omega) (by omega)
      rw [hmm, Nat.add_zero] at ow
      have hX2 : Writer_writeBits fu n L B4 (nI st0) (nI (st0 + m)) = (Writer_writeBits_l2 fu n L (nI (st0 + m)) fu (nI st0) B4).bind fun r9 => ad r9.2.1 r9.2.2 (some (r9.1.2, 0, 0)) := rfl
      rw [hX2]
      have o1 := ow_map (ga := fun p : Nat × ByS => p.2) (gb := fun p : Nat × LyS => p.2) ow
      have o2 := ow_map (ga := fun p : ByS => p) (gb := fun p : LyS => p) o1
      exact ow_eq o2 rfl (bind_id (Mo_outLayer_l183 fu 1 (nI m) fu (nI 0) S4)).symm rfl
    · have q1 : ¬ nI l = 1 := fun y => z1 ((nI_eq (b := 1) (by omega) (by omega)).mp y)
      rw [if_neg q1, if_neg q1]
      have hpm : pb l m = 3 * m := by unfold pb; rw [if_neg z1]
      have ow := ow_values (n := n) (w := w) (tp := tp) (r := r) (bs := bs) (fs := fs) (st0 := st0) (l := l) (L := L) m 0 fu fu hW4 z1 (by rw [hmm]; omega) hB4 (by omega) (by omega) (by omega)
      rw [hmm, Nat.add_zero] at ow
      have hX2 : Writer_writeValues fu n L B4 (nI l) (nI st0) (nI (st0 + m)) = (Writer_writeValues_l3 n L (nI l) (nI (st0 + m)) fu (nI st0) B4).bind fun r9 => ad r9.2.1 r9.2.2 (some (r9.1.2, 0, 0)) := rfl
      rw [hX2]
      have o1 := ow_map (ga := fun p : Nat × ByS => p.2) (gb := fun p : Nat × LyS => p.2) ow
      have o2 := ow_map (ga := fun p : ByS => p) (gb := fun p : LyS => p) o1
      exact ow_eq o2 rfl (bind_id (Mo_outLayer_l261 (nI l) (nI m) fu (nI 0) S4)).symm (by omega)
  · have eq : q = R * ru l := by rw [← hq]; exact Nat.min_eq_left (by omega)
    rw [if_neg (nI_ge (by omega) (by omega)), if_neg z, if_neg ne10]
    have ow := b4 fu fu i4 (c + 1 + 1 + 1 + 1) B4 S4 hFF hB4 (by omega) (by omega) (by omega)
    rw [Nat.add_zero] at ow
    have hX2 : Writer_writeRuns fu n L B4 (nI l) (nI st0) (nI (st0 + m)) = (Writer_writeRuns_l6 n L (nI l) (nI (st0 + m)) fu 0 (nI st0) B4).bind fun r9 => ad r9.2.1 r9.2.2 (some (r9.1.2, 0, 0)) := rfl
    rw [hX2]
    have o1 := ow_map (ga := fun p : Nat × ByS => p.2) (gb := fun p : Nat × LyS => p.2) ow
    have o2 := ow_map (ga := fun p : ByS => p) (gb := fun p : LyS => p) o1
    exact ow_eq o2 rfl (bind_id (Mo_outLayer_l124 fu (nI l) (nI m) fu (nI 0) S4)).symm (by omega)
end WLA
