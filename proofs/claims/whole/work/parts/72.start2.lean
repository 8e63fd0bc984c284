set_option maxRecDepth 100000 in
set_option maxHeartbeats 4000000 in
/-- the law's beginning: both objects are made, the long row too -/
theorem lw_pro {p : Program} {l : Launch} {e : Env} {s : State} {m : MethodId} {below : List Frame} {meth : Method} {c : Code} {D : va_G} {cI cR cZ cJ : ClassId} {t1 t2 b L : Nat} {xs : Nat → Int32} (C : Cx p s m #[Value.ref b] meth c D (tyG cI cR cZ) code 7 "MaskLayersLaw") (hl : l.stackTraces = false) (hA : ∀ q, s.heap.size ≤ q → lwA s q) (hX : HX D cJ t1 t2 (lwA s) s s.heap) (hT : va_T .int b L (fun j => .int (xs j)) (lwA s) s s.heap) (hL2 : L ≤ 2562) (hr : meth.sig.returnType = ret) (hlocks : meth.locks = false) :
    J p l e room_1 s m #[Value.ref b] below meth c D (lwA s) (va_D (lwA s)) 7 (lw_Z below #[Value.ref b] s) 0 0 [] [(0, .ref b)] [] 0 := by
  obtain ⟨w, hw, hw1, hw2⟩ := clp_eq (if 0 < L then xs 0 else 0)
  obtain ⟨h, hh, hh1, hh2⟩ := clp_eq (if 1 < L then xs 1 else 0)
  have hwh : w * h ≤ 24 * 24 := Nat.mul_le_mul hw.2 hh.2
  refine nw_Law_8 C hA (by show _ ≤ 601024; omega) (by show _ ≤ 7293000; omega) d_Law_law_0 (fun o0 => ?_)
  refine j_ws (ws' := [(o0, .inr (5, [.int 0, .int 0, .null, .null, .null, .null, .null, .null, .null, .null, .null, .int 0]))]) rfl ?_
  refine j_dup C d_Law_law_3 rfl ?_
  refine j_aload_n C 0 d_Law_law_4 rfl ?_
  refine j_iconst C (v := nI 0) d_Law_law_5 (by decide) ?_
  refine j_CS C [.ref b, .int (nI 0)] hT (c_Law_cell l D cI cR cZ b L xs 0 (by omega) (by omega)) (cw_Law_64 C ⟨Nat.le_of_ble_eq_true rfl, Nat.le_of_ble_eq_true rfl⟩) rfl rfl (Nat.le_of_ble_eq_true rfl) d_Law_law_6 ⟨by show _ ≤ 601024; omega, by show _ ≤ 7293000; omega⟩ ?_
  refine j_aload_n C 0 d_Law_law_9 rfl ?_
  refine j_iconst C (v := nI 1) d_Law_law_10 (by decide) ?_
  refine j_CS C [.ref b, .int (nI 1)] hT (c_Law_cell l D cI cR cZ b L xs 1 (by omega) (by omega)) (cw_Law_64 C ⟨Nat.le_of_ble_eq_true rfl, Nat.le_of_ble_eq_true rfl⟩) rfl rfl (Nat.le_of_ble_eq_true rfl) d_Law_law_11 ⟨by show _ ≤ 601024; omega, by show _ ≤ 7293000; omega⟩ ?_
  generalize hp1 : (if 0 < L then xs 0 else 0) = p1 at hw1 hw2 ⊢
  generalize hp2 : (if 1 < L then xs 1 else 0) = p2 at hh1 hh2 ⊢
  refine j_VIw C [.int p1, .int p2] hA hX.1 hX.2.1 (c_ML_init l D cI cR cZ t1 t2 o0 w h p1 p2 hw1 hh1 (by omega)) (cw_Law_70 C ⟨Nat.le_of_ble_eq_true rfl, Nat.le_of_ble_eq_true rfl⟩) [0] [] rfl rfl (by decide) (by decide) (by decide) rfl rfl (Nat.le_of_ble_eq_true rfl) d_Law_law_14 ⟨by show _ ≤ 601024; omega, by show _ ≤ 7293000; omega⟩ (fun u => ?_)
  refine j_ws (ws' := wML cI cR o0 (u.1 0) (u.1 1) (u.1 2) (u.1 3) (u.1 4) (u.1 5) (u.1 6) u.2.1 u.2.2 (u.1 7) (u.1 8) (u.1 9) (u.1 10) (w * h) (nI w) (nI h) 24 (fun _ => 0) (fun _ => 0) (fun _ => 0) Ly0 Ly0 (0, 0, fun _ => 0) (0, 0, fun _ => 0) 0 0 (fun _ => 0)) rfl ?_
  refine j_astore_n C [(1, .ref o0), (0, .ref b)] d_Law_law_17 (by decide) rfl ?_
  refine nw_Law_73 C hA (by show _ ≤ 601024; omega) (by show _ ≤ 7293000; omega) d_Law_law_18 (fun o1 => ?_)
  refine j_dup C d_Law_law_21 rfl ?_
  refine j_aload_n C 1 d_Law_law_22 rfl ?_
  refine j_iconst C (v := nI 0) d_Law_law_23 (by decide) ?_
  refine j_CS C [.ref b, .int (nI 0)] hT (c_Law_cell l D cI cR cZ b L xs 0 (by omega) (by omega)) (cw_Law_64 C ⟨Nat.le_of_ble_eq_true rfl, Nat.le_of_ble_eq_true rfl⟩) rfl rfl (Nat.le_of_ble_eq_true rfl) d_Law_law_24 ⟨by show _ ≤ 601024; omega, by show _ ≤ 7293000; omega⟩ ?_
  refine j_aload_n C 1 d_Law_law_27 rfl ?_
  refine j_iconst C (v := nI 1) d_Law_law_28 (by decide) ?_
  refine j_CS C [.ref b, .int (nI 1)] hT (c_Law_cell l D cI cR cZ b L xs 1 (by omega) (by omega)) (cw_Law_64 C ⟨Nat.le_of_ble_eq_true rfl, Nat.le_of_ble_eq_true rfl⟩) rfl rfl (Nat.le_of_ble_eq_true rfl) d_Law_law_29 ⟨by show _ ≤ 601024; omega, by show _ ≤ 7293000; omega⟩ ?_
  rw [hp1, hp2]
  refine j_VIw C [.int p1, .int p2] hA hX.1 hX.2.1 (c_Mo_init l D cI cR cZ t1 t2 o1 p1 p2) (cw_Law_75 C ⟨Nat.le_of_ble_eq_true rfl, Nat.le_of_ble_eq_true rfl⟩) [26] [0, 1, 2, 3, 4, 5, 6, 7, 8, 9, 10, 11, 12, 13, 14, 15, 16, 17, 18, 19, 20, 21, 22, 23, 24, 25] rfl rfl (by decide) (by decide) (by decide) rfl rfl (Nat.le_of_ble_eq_true rfl) d_Law_law_32 ⟨by show _ ≤ 601024; omega, by show _ ≤ 7293000; omega⟩ (fun v => ?_)
  refine j_ws (ws' := wML cI cR o0 (u.1 0) (u.1 1) (u.1 2) (u.1 3) (u.1 4) (u.1 5) (u.1 6) u.2.1 u.2.2 (u.1 7) (u.1 8) (u.1 9) (u.1 10) (w * h) (nI w) (nI h) 24 (fun _ => 0) (fun _ => 0) (fun _ => 0) Ly0 Ly0 (0, 0, fun _ => 0) (0, 0, fun _ => 0) 0 0 (fun _ => 0) ++ wMo cI cZ (adr o1 v) (Mo0 (clp p1) (clp p2))) rfl ?_
  refine j_astore_n C [(2, .ref o1), (1, .ref o0), (0, .ref b)] d_Law_law_35 (by decide) rfl ?_
  refine j_iconst C (v := nI 1) d_Law_law_36 (by decide) ?_
  refine j_newl C hA (N := 1) hX.2.2.2.2.2 (mb (List.mem_of_getElem? (i := 1135) (by decide +kernel)) rfl) (nI_pos (by omega)) (nI_clamp (by omega)) (by omega) (by show _ ≤ 601024; omega) (by show _ ≤ 7293000; omega) d_Law_law_37 (fun go => ?_)
  refine j_ws (ws' := wML cI cR o0 (u.1 0) (u.1 1) (u.1 2) (u.1 3) (u.1 4) (u.1 5) (u.1 6) u.2.1 u.2.2 (u.1 7) (u.1 8) (u.1 9) (u.1 10) (w * h) (nI w) (nI h) 24 (fun _ => 0) (fun _ => 0) (fun _ => 0) Ly0 Ly0 (0, 0, fun _ => 0) (0, 0, fun _ => 0) 0 0 (fun _ => 0) ++ (wMo cI cZ (adr o1 v) (Mo0 (clp p1) (clp p2)) ++ [(go, .inl (cJ, 1, .inr (.inl (fun _ => 0))))])) (List.append_assoc _ _ _) ?_
  refine j_astore_n C [(3, .ref go), (2, .ref o1), (1, .ref o0), (0, .ref b)] d_Law_law_39 (by decide) rfl ?_
  refine j_iconst C (v := nI 2) d_Law_law_40 (by decide) ?_
  refine j_istore C [(4, .int (nI 2)), (3, .ref go), (2, .ref o1), (1, .ref o0), (0, .ref b)] d_Law_law_41 (by decide) rfl ?_
  rw [hw2, hh2]
  have hfu : 7000 ≤ 20000 := by omega
  refine lp_law (Rel := Rel) (fu := 20000) C hl hA hX hT (by omega) hL2 (op_put _ hfu) (op_mask _ hfu) (op_stripe _) (op_run _ hfu) (op_layer _) (op_filled _) (op_joined _) (op_write _ hfu) (op_byteAt _) (op_feed _) (op_pass _ hfu) (op_alter _) (op_read _ hfu) (op_at _) (op_told _ hfu) (op_clear _ hfu) (o0 := o0) (hc := u.1 0) (hm := u.1 1) (om := u.1 2) (hb := u.1 3) (ow := u.1 4) (or_ := u.1 5) (hh := u.1 6) (aM := u.2.1) (aF := u.2.2) (bw := u.1 7) (bf := u.1 9) (n := w * h) (a := adr o1 v) (go := go) ?_ 512 2 (nI w, nI h, 24, (fun _ => 0), (fun _ => 0), (fun _ => 0), Ly0, Ly0, (0, 0, fun _ => 0), (0, 0, fun _ => 0), 0, 0, (fun _ => 0)) (Mo0 (nI w) (nI h)) (u.1 8) (u.1 10) (fun _ => 0) _ _ (by omega) (by omega) (by omega) (rel_start hw hh)
  intro x S qw qf Fo j
  refine j_iconst C (v := 1) d_Law_law_1138 (by decide) ?_
  exact fun H locs ls hP hD hS hlv => w_forget (fun y hy => hS.2.2 y hy) (lw_ret C.1.1 C.1.2.1 hr hlocks d_Law_law_1139)
