def Mo_refuse (S : LyS) (p1 : Int32) : Option (LyS) :=
  (if 0 ≤ (S.1 12) then some (Lf S 12 (S.1 12))
  else some (Lf S 12 p1))
set_option maxRecDepth 100000 in
set_option maxHeartbeats 4000000 in
theorem c_Mo_refuse (l : Launch) (D : va_G) (cI cR cZ : ClassId) (a : (Nat → Nat)) (S : LyS) (p1 : Int32) {res : (LyS)} (h : Mo_refuse S p1 = some res) (sz : Nat) : Met l y_Mo_refuse (Cond.code y_Mo_refuse b_Mo_refuse 2 none :: BIG) rm_Mo_refuse (PcI [.ref (a 0), .int p1] D (tyG cI cR cZ) (wMo cI cZ a S) sz) (QcV D (fun _ : Nat => wMo cI cZ a res) (va_A (wMo cI cZ a S) sz)) 0 0 (va_A (wMo cI cZ a S) sz) := by
  refine met_V (by decide) (Nat.le_of_ble_eq_true rfl) (fun p e s m args below meth c A hA C hr => ?_)
  have C : Cx p s m args meth c D (tyG cI cR cZ) b_Mo_refuse 2 "MaskLayersModel" := C
  have hr : meth.sig.returnType = none := hr
  show J p l e rm_Mo_refuse s m args below meth c D A (va_D A) 2 (MQ below (QcV D (fun _ : Nat => wMo cI cZ a res) A) args s 0 0 A) 0 0 (wMo cI cZ a S) [(0, .ref (a 0)), (1, .int p1)] [] 0
  unfold Mo_refuse at h
  refine j_aload_n C 0 d_Mo_refuse_0 rfl ?_
  refine j_aload_n C 0 d_Mo_refuse_1 rfl ?_
  refine gf_Mo_169 C 0 (v := .int (S.1 12)) mo_h rfl d_Mo_refuse_2 ?_
  refine j_if_ge C 12 d_Mo_refuse_5 (by decide) (fun c1 => ?_) (fun c1 => ?_)
  · replace h := (if_pos c1).symm.trans h
    refine j_aload_n C 0 d_Mo_refuse_12 rfl ?_
    refine gf_Mo_169 C 0 (v := .int (S.1 12)) mo_h rfl d_Mo_refuse_13 ?_
    refine pf_Mo_169 C 0 (wMo cI cZ a (Lf S 12 (S.1 12))) mo_h rfl mo_f12 d_Mo_refuse_16 ?_
    obtain rfl := Option.some.inj h
    exact j_vret C hr d_Mo_refuse_19 0 rfl
  · replace h := (if_neg c1).symm.trans h
    refine j_iload_n C 1 d_Mo_refuse_8 rfl ?_
    refine j_goto C 16 d_Mo_refuse_9 (by decide) ?_
    refine pf_Mo_169 C 0 (wMo cI cZ a (Lf S 12 p1)) mo_h rfl mo_f12 d_Mo_refuse_16 ?_
    obtain rfl := Option.some.inj h
    exact j_vret C hr d_Mo_refuse_19 0 rfl
def Mo_take_b26 (S : LyS) : Option (Int32 × LyS) :=
  (if (S.1 12) < 0 then gd (((Lf S 11 ((S.1 11) + 1)).1 11) - 1) 6400 (some ((Lf S 11 ((S.1 11) + 1)).2 6 ((((Lf S 11 ((S.1 11) + 1)).1 11) - 1).toNatClampNeg), Lf S 11 ((S.1 11) + 1)))
  else some (0, S))
def Mo_take (S : LyS) : Option (Int32 × LyS) :=
  (if 0 ≤ (S.1 12) then Mo_take_b26 S
  else (if (S.1 11) = (S.1 10) then (Mo_refuse S (S.1 11)).bind fun r3 =>
  Mo_take_b26 r3
  else Mo_take_b26 S))
set_option maxRecDepth 100000 in
set_option maxHeartbeats 4000000 in
theorem t_Mo_take_b26 {p : Program} {l : Launch} {e : Env} {s : State} {m : MethodId} {args : Array Value} {below : List Frame} {meth : Method} {c : Code} {D : va_G} {cI cR cZ : ClassId} {A : Nat → Prop} (C : Cx p s m args meth c D (tyG cI cR cZ) b_Mo_take 1 "MaskLayersModel") (hr : meth.sig.returnType = some .int) (hA : ∀ q : Nat, s.heap.size ≤ q → A q) {a : (Nat → Nat)} {S : LyS} {res : (Int32 × LyS)} (h : Mo_take_b26 S = some res) : J p l e rm_Mo_take s m args below meth c D A (va_D A) 1 (MQ below (QcI D res.1 (fun _ : Nat => wMo cI cZ a res.2) A) args s 0 0 A) 0 0 (wMo cI cZ a S) [(0, .ref (a 0))] [] 26 := by
  unfold Mo_take_b26 at h
  refine j_aload_n C 0 d_Mo_take_26 rfl ?_
  refine gf_Mo_169 C 0 (v := .int (S.1 12)) mo_h rfl d_Mo_take_27 ?_
  refine j_if_lt C 35 d_Mo_take_30 (by decide) (fun c2 => ?_) (fun c2 => ?_)
  · replace h := (if_pos c2).symm.trans h
    refine j_aload_n C 0 d_Mo_take_35 rfl ?_
    refine j_dup C d_Mo_take_36 rfl ?_
    refine gf_Mo_172 C 0 (v := .int (S.1 11)) mo_h rfl d_Mo_take_37 ?_
    refine j_iconst C (v := 1) d_Mo_take_40 (by decide) ?_
    refine j_iadd C d_Mo_take_41 ?_
    refine pf_Mo_172 C 0 (wMo cI cZ a (Lf S 11 ((S.1 11) + 1))) mo_h rfl mo_f11 d_Mo_take_42 ?_
    refine j_aload_n C 0 d_Mo_take_45 rfl ?_
    refine gf_Mo_33 C 0 (v := .ref (a 7)) mo_h rfl d_Mo_take_46 ?_
    refine j_aload_n C 0 d_Mo_take_49 rfl ?_
    refine gf_Mo_172 C 0 (v := .int ((Lf S 11 ((S.1 11) + 1)).1 11)) mo_h rfl d_Mo_take_50 ?_
    refine j_iconst C (v := 1) d_Mo_take_53 (by decide) ?_
    refine j_isub C d_Mo_take_54 ?_
    obtain ⟨b1, h⟩ := gd_ok h
    refine j_iald C (7) (t0 := 0) mo_g6 rfl b1 d_Mo_take_55 ?_
    obtain rfl := Option.some.inj h
    exact j_iret C hr d_Mo_take_56 0 rfl
  · replace h := (if_neg c2).symm.trans h
    refine j_iconst C (v := 0) d_Mo_take_33 (by decide) ?_
    obtain rfl := Option.some.inj h
    exact j_iret C hr d_Mo_take_34 0 rfl
set_option maxRecDepth 100000 in
set_option maxHeartbeats 4000000 in
theorem c_Mo_take (l : Launch) (D : va_G) (cI cR cZ : ClassId) (a : (Nat → Nat)) (S : LyS) {res : (Int32 × LyS)} (h : Mo_take S = some res) (sz : Nat) : Met l y_Mo_take (Cond.code y_Mo_take b_Mo_take 1 (some .int) :: BIG) rm_Mo_take (PcI [.ref (a 0)] D (tyG cI cR cZ) (wMo cI cZ a S) sz) (QcI D res.1 (fun _ : Nat => wMo cI cZ a res.2) (va_A (wMo cI cZ a S) sz)) 0 0 (va_A (wMo cI cZ a S) sz) := by
  refine met_I (by decide) (Nat.le_of_ble_eq_true rfl) (fun p e s m args below meth c A hA C hr => ?_)
  have C : Cx p s m args meth c D (tyG cI cR cZ) b_Mo_take 1 "MaskLayersModel" := C
  have hr : meth.sig.returnType = some .int := hr
  show J p l e rm_Mo_take s m args below meth c D A (va_D A) 1 (MQ below (QcI D res.1 (fun _ : Nat => wMo cI cZ a res.2) A) args s 0 0 A) 0 0 (wMo cI cZ a S) [(0, .ref (a 0))] [] 0
  unfold Mo_take at h
  refine j_aload_n C 0 d_Mo_take_0 rfl ?_
  refine gf_Mo_169 C 0 (v := .int (S.1 12)) mo_h rfl d_Mo_take_1 ?_
  refine j_if_ge C 26 d_Mo_take_4 (by decide) (fun c5 => ?_) (fun c5 => ?_)
  · replace h := (if_pos c5).symm.trans h
    refine j_sub [0] rfl ?_
    exact t_Mo_take_b26 C hr hA h
  · replace h := (if_neg c5).symm.trans h
    refine j_aload_n C 0 d_Mo_take_7 rfl ?_
    refine gf_Mo_172 C 0 (v := .int (S.1 11)) mo_h rfl d_Mo_take_8 ?_
    refine j_aload_n C 0 d_Mo_take_11 rfl ?_
    refine gf_Mo_166 C 0 (v := .int (S.1 10)) mo_h rfl d_Mo_take_12 ?_
    refine j_icmp_ne C 26 d_Mo_take_15 (by decide) (fun c4 => ?_) (fun c4 => ?_)
    · replace h := (if_neg c4).symm.trans h
      refine j_sub [0] rfl ?_
      exact t_Mo_take_b26 C hr hA h
    · replace h := (if_pos c4).symm.trans h
      refine j_aload_n C 0 d_Mo_take_18 rfl ?_
      refine j_aload_n C 0 d_Mo_take_19 rfl ?_
      refine gf_Mo_172 C 0 (v := .int (S.1 11)) mo_h rfl d_Mo_take_20 ?_
      obtain ⟨r3, hr3, h⟩ := bd_ok h
      refine j_VV C [.int (S.1 11)] hA 0 rfl rfl (c_Mo_refuse l D cI cR cZ a S (S.1 11) hr3) (cw_Mo_175 C ⟨Nat.le_of_ble_eq_true rfl, Nat.le_of_ble_eq_true rfl⟩) [0, 1, 2, 3, 4, 5, 6, 7, 8, 9, 10] [] rfl rfl (by decide) (by decide) (by decide) rfl rfl (Nat.le_of_ble_eq_true rfl) d_Mo_take_23 (by decide) (fun _ => ?_)
      refine j_ws (ws' := wMo cI cZ a r3) rfl ?_
      refine j_sub [0] rfl ?_
      exact t_Mo_take_b26 C hr hA h
def Mo_takeIn (S : LyS) (p1 : Int32) (p2 : Int32) : Option (Int32 × LyS) :=
  (Mo_take S).bind fun r1 =>
  (if r1.1 < p1 then (Mo_refuse r1.2 ((r1.2.1 11) - 1)).bind fun r2 =>
  some (r1.1, r2)
  else (if r1.1 ≤ p2 then some (r1.1, r1.2)
  else (Mo_refuse r1.2 ((r1.2.1 11) - 1)).bind fun r3 =>
  some (r1.1, r3)))
set_option maxRecDepth 100000 in
set_option maxHeartbeats 4000000 in
theorem c_Mo_takeIn (l : Launch) (D : va_G) (cI cR cZ : ClassId) (a : (Nat → Nat)) (S : LyS) (p1 : Int32) (p2 : Int32) {res : (Int32 × LyS)} (h : Mo_takeIn S p1 p2 = some res) (sz : Nat) : Met l y_Mo_takeIn (Cond.code y_Mo_takeIn b_Mo_takeIn 4 (some .int) :: BIG) rm_Mo_takeIn (PcI [.ref (a 0), .int p1, .int p2] D (tyG cI cR cZ) (wMo cI cZ a S) sz) (QcI D res.1 (fun _ : Nat => wMo cI cZ a res.2) (va_A (wMo cI cZ a S) sz)) 0 0 (va_A (wMo cI cZ a S) sz) := by
  refine met_I (by decide) (Nat.le_of_ble_eq_true rfl) (fun p e s m args below meth c A hA C hr => ?_)
  have C : Cx p s m args meth c D (tyG cI cR cZ) b_Mo_takeIn 4 "MaskLayersModel" := C
  have hr : meth.sig.returnType = some .int := hr
  show J p l e rm_Mo_takeIn s m args below meth c D A (va_D A) 4 (MQ below (QcI D res.1 (fun _ : Nat => wMo cI cZ a res.2) A) args s 0 0 A) 0 0 (wMo cI cZ a S) [(0, .ref (a 0)), (1, .int p1), (2, .int p2)] [] 0
  unfold Mo_takeIn at h
  refine j_aload_n C 0 d_Mo_takeIn_0 rfl ?_
  obtain ⟨r1, hr1, h⟩ := bd_ok h
  refine j_IV C [] hA 0 rfl rfl (c_Mo_take l D cI cR cZ a S hr1) (cw_Mo_178 C ⟨Nat.le_of_ble_eq_true rfl, Nat.le_of_ble_eq_true rfl⟩) [0, 1, 2, 3, 4, 5, 6, 7, 8, 9, 10] [] rfl rfl (by decide) (by decide) (by decide) rfl rfl (Nat.le_of_ble_eq_true rfl) d_Mo_takeIn_1 (by decide) (fun _ => ?_)
  refine j_ws (ws' := wMo cI cZ a r1.2) rfl ?_
  refine j_istore_n C [(3, .int r1.1), (0, .ref (a 0)), (1, .int p1), (2, .int p2)] d_Mo_takeIn_4 (by decide) rfl ?_
  refine j_iload_n C 0 d_Mo_takeIn_5 rfl ?_
  refine j_iload_n C 2 d_Mo_takeIn_6 rfl ?_
  refine j_icmp_lt C 15 d_Mo_takeIn_7 (by decide) (fun c5 => ?_) (fun c5 => ?_)
  · replace h := (if_pos c5).symm.trans h
    refine j_aload_n C 1 d_Mo_takeIn_15 rfl ?_
    refine j_aload_n C 1 d_Mo_takeIn_16 rfl ?_
    refine gf_Mo_172 C 0 (v := .int (r1.2.1 11)) mo_h rfl d_Mo_takeIn_17 ?_
    refine j_iconst C (v := 1) d_Mo_takeIn_20 (by decide) ?_
    refine j_isub C d_Mo_takeIn_21 ?_
    obtain ⟨r2, hr2, h⟩ := bd_ok h
    refine j_VV C [.int ((r1.2.1 11) - 1)] hA 0 rfl rfl (c_Mo_refuse l D cI cR cZ a r1.2 ((r1.2.1 11) - 1) hr2) (cw_Mo_175 C ⟨Nat.le_of_ble_eq_true rfl, Nat.le_of_ble_eq_true rfl⟩) [0, 1, 2, 3, 4, 5, 6, 7, 8, 9, 10] [] rfl rfl (by decide) (by decide) (by decide) rfl rfl (Nat.le_of_ble_eq_true rfl) d_Mo_takeIn_22 (by decide) (fun _ => ?_)
    refine j_ws (ws' := wMo cI cZ a r2) rfl ?_
    refine j_iload_n C 0 d_Mo_takeIn_25 rfl ?_
    obtain rfl := Option.some.inj h
    exact j_iret C hr d_Mo_takeIn_26 0 rfl
  · replace h := (if_neg c5).symm.trans h
    refine j_iload_n C 0 d_Mo_takeIn_10 rfl ?_
    refine j_iload_n C 3 d_Mo_takeIn_11 rfl ?_
    refine j_icmp_le C 25 d_Mo_takeIn_12 (by decide) (fun c4 => ?_) (fun c4 => ?_)
    · replace h := (if_pos c4).symm.trans h
      refine j_iload_n C 0 d_Mo_takeIn_25 rfl ?_
      obtain rfl := Option.some.inj h
      exact j_iret C hr d_Mo_takeIn_26 0 rfl
    · replace h := (if_neg c4).symm.trans h
      refine j_aload_n C 1 d_Mo_takeIn_15 rfl ?_
      refine j_aload_n C 1 d_Mo_takeIn_16 rfl ?_
      refine gf_Mo_172 C 0 (v := .int (r1.2.1 11)) mo_h rfl d_Mo_takeIn_17 ?_
      refine j_iconst C (v := 1) d_Mo_takeIn_20 (by decide) ?_
      refine j_isub C d_Mo_takeIn_21 ?_
      obtain ⟨r3, hr3, h⟩ := bd_ok h
      refine j_VV C [.int ((r1.2.1 11) - 1)] hA 0 rfl rfl (c_Mo_refuse l D cI cR cZ a r1.2 ((r1.2.1 11) - 1) hr3) (cw_Mo_175 C ⟨Nat.le_of_ble_eq_true rfl, Nat.le_of_ble_eq_true rfl⟩) [0, 1, 2, 3, 4, 5, 6, 7, 8, 9, 10] [] rfl rfl (by decide) (by decide) (by decide) rfl rfl (Nat.le_of_ble_eq_true rfl) d_Mo_takeIn_22 (by decide) (fun _ => ?_)
      refine j_ws (ws' := wMo cI cZ a r3) rfl ?_
      refine j_iload_n C 0 d_Mo_takeIn_25 rfl ?_
      obtain rfl := Option.some.inj h
      exact j_iret C hr d_Mo_takeIn_26 0 rfl
def Mo_takeValue (S : LyS) (p1 : Int32) : Option (Int32 × LyS) :=
  (if p1 = 1 then (Mo_takeIn S 0 1).bind fun r4 =>
  some (r4.1, r4.2)
  else (Mo_take S).bind fun r1 =>
  (Mo_take r1.2).bind fun r2 =>
  (Mo_take r2.2).bind fun r3 =>
  some (((r1.1 <<< ((16 : Int32) &&& 31)) ||| (r2.1 <<< ((8 : Int32) &&& 31))) ||| r3.1, r3.2))
set_option maxRecDepth 100000 in
set_option maxHeartbeats 4000000 in
theorem c_Mo_takeValue (l : Launch) (D : va_G) (cI cR cZ : ClassId) (a : (Nat → Nat)) (S : LyS) (p1 : Int32) {res : (Int32 × LyS)} (h : Mo_takeValue S p1 = some res) (sz : Nat) : Met l y_Mo_takeValue (Cond.code y_Mo_takeValue b_Mo_takeValue 4 (some .int) :: BIG) rm_Mo_takeValue (PcI [.ref (a 0), .int p1] D (tyG cI cR cZ) (wMo cI cZ a S) sz) (QcI D res.1 (fun _ : Nat => wMo cI cZ a res.2) (va_A (wMo cI cZ a S) sz)) 0 0 (va_A (wMo cI cZ a S) sz) := by
  refine met_I (by decide) (Nat.le_of_ble_eq_true rfl) (fun p e s m args below meth c A hA C hr => ?_)
  have C : Cx p s m args meth c D (tyG cI cR cZ) b_Mo_takeValue 4 "MaskLayersModel" := C
  have hr : meth.sig.returnType = some .int := hr
  show J p l e rm_Mo_takeValue s m args below meth c D A (va_D A) 4 (MQ below (QcI D res.1 (fun _ : Nat => wMo cI cZ a res.2) A) args s 0 0 A) 0 0 (wMo cI cZ a S) [(0, .ref (a 0)), (1, .int p1)] [] 0
  unfold Mo_takeValue at h
  refine j_iload_n C 1 d_Mo_takeValue_0 rfl ?_
  refine j_iconst C (v := 1) d_Mo_takeValue_1 (by decide) ?_
  refine j_icmp_ne C 12 d_Mo_takeValue_2 (by decide) (fun c5 => ?_) (fun c5 => ?_)
  · replace h := (if_neg c5).symm.trans h
    refine j_aload_n C 0 d_Mo_takeValue_12 rfl ?_
    obtain ⟨r1, hr1, h⟩ := bd_ok h
    refine j_IV C [] hA 0 rfl rfl (c_Mo_take l D cI cR cZ a S hr1) (cw_Mo_178 C ⟨Nat.le_of_ble_eq_true rfl, Nat.le_of_ble_eq_true rfl⟩) [0, 1, 2, 3, 4, 5, 6, 7, 8, 9, 10] [] rfl rfl (by decide) (by decide) (by decide) rfl rfl (Nat.le_of_ble_eq_true rfl) d_Mo_takeValue_13 (by decide) (fun _ => ?_)
    refine j_ws (ws' := wMo cI cZ a r1.2) rfl ?_
    refine j_istore_n C [(2, .int r1.1), (0, .ref (a 0)), (1, .int p1)] d_Mo_takeValue_16 (by decide) rfl ?_
    refine j_aload_n C 1 d_Mo_takeValue_17 rfl ?_
    obtain ⟨r2, hr2, h⟩ := bd_ok h
    refine j_IV C [] hA 0 rfl rfl (c_Mo_take l D cI cR cZ a r1.2 hr2) (cw_Mo_178 C ⟨Nat.le_of_ble_eq_true rfl, Nat.le_of_ble_eq_true rfl⟩) [0, 1, 2, 3, 4, 5, 6, 7, 8, 9, 10] [] rfl rfl (by decide) (by decide) (by decide) rfl rfl (Nat.le_of_ble_eq_true rfl) d_Mo_takeValue_18 (by decide) (fun _ => ?_)
    refine j_ws (ws' := wMo cI cZ a r2.2) rfl ?_
    refine j_istore_n C [(3, .int r2.1), (2, .int r1.1), (0, .ref (a 0)), (1, .int p1)] d_Mo_takeValue_21 (by decide) rfl ?_
    refine j_iload_n C 1 d_Mo_takeValue_22 rfl ?_
    refine j_bipush C (v := 16) d_Mo_takeValue_23 (by decide) ?_
    refine j_ishl C d_Mo_takeValue_25 ?_
    refine j_iload_n C 0 d_Mo_takeValue_26 rfl ?_
    refine j_bipush C (v := 8) d_Mo_takeValue_27 (by decide) ?_
    refine j_ishl C d_Mo_takeValue_29 ?_
    refine j_ior C d_Mo_takeValue_30 ?_
    refine j_aload_n C 2 d_Mo_takeValue_31 rfl ?_
    obtain ⟨r3, hr3, h⟩ := bd_ok h
    refine j_IV C [] hA 0 rfl rfl (c_Mo_take l D cI cR cZ a r2.2 hr3) (cw_Mo_178 C ⟨Nat.le_of_ble_eq_true rfl, Nat.le_of_ble_eq_true rfl⟩) [0, 1, 2, 3, 4, 5, 6, 7, 8, 9, 10] [] rfl rfl (by decide) (by decide) (by decide) rfl rfl (Nat.le_of_ble_eq_true rfl) d_Mo_takeValue_32 (by decide) (fun _ => ?_)
    refine j_ws (ws' := wMo cI cZ a r3.2) rfl ?_
    refine j_ior C d_Mo_takeValue_35 ?_
    obtain rfl := Option.some.inj h
    exact j_iret C hr d_Mo_takeValue_36 0 rfl
  · replace h := (if_pos c5).symm.trans h
    refine j_aload_n C 0 d_Mo_takeValue_5 rfl ?_
    refine j_iconst C (v := 0) d_Mo_takeValue_6 (by decide) ?_
    refine j_iconst C (v := 1) d_Mo_takeValue_7 (by decide) ?_
    obtain ⟨r4, hr4, h⟩ := bd_ok h
    refine j_IV C [.int 0, .int 1] hA 0 rfl rfl (c_Mo_takeIn l D cI cR cZ a S 0 1 hr4) (cw_Mo_182 C ⟨Nat.le_of_ble_eq_true rfl, Nat.le_of_ble_eq_true rfl⟩) [0, 1, 2, 3, 4, 5, 6, 7, 8, 9, 10] [] rfl rfl (by decide) (by decide) (by decide) rfl rfl (Nat.le_of_ble_eq_true rfl) d_Mo_takeValue_8 (by decide) (fun _ => ?_)
    refine j_ws (ws' := wMo cI cZ a r4.2) rfl ?_
    obtain rfl := Option.some.inj h
    exact j_iret C hr d_Mo_takeValue_11 0 rfl
def Mo_takePlain_l34 (v1 : Int32) (v2 : Int32) (v3 : Int32) (v4 : Int32) : Nat → Int32 → LyS → Option (Nat × LyS)
  | 0, _, _ => none
  | k + 1, v5, S =>
  (if 8 ≤ v5 then some (0, S)
  else (if v2 ≤ (v3 + v5) then (if ((v4 >>> ((7 - v5) &&& 31)) &&& 1) = 1 then (Mo_refuse S ((S.1 11) - 1)).bind fun r7 =>
  Mo_takePlain_l34 v1 v2 v3 v4 k (v5 + 1) r7
  else Mo_takePlain_l34 v1 v2 v3 v4 k (v5 + 1) S)
  else (Mo_place S v1 (v3 + v5)).bind fun r9 =>
  gd r9 2304 (Mo_takePlain_l34 v1 v2 v3 v4 k (v5 + 1) (Ls S 7 r9.toNatClampNeg ((v4 >>> ((7 - v5) &&& 31)) &&& 1)))))
def Mo_takePlain_l8 (fu : Nat) (v1 : Int32) (v2 : Int32) : Nat → Int32 → LyS → Option (Nat × LyS)
  | 0, _, _ => none
  | k + 1, v3, S =>
  (if v2 ≤ v3 then some (0, S)
  else (if 0 ≤ (S.1 12) then some (0, S)
  else (if v1 = 1 then (Mo_take S).bind fun r6 =>
  (Mo_takePlain_l34 v1 v2 v3 r6.1 fu 0 r6.2).bind fun r13 =>
  some (r13.2)
  else (Mo_place S v1 v3).bind fun r3 =>
  (Mo_takeValue S v1).bind fun r4 =>
  gd r3 2304 (some (Ls r4.2 7 r3.toNatClampNeg r4.1))).bind fun r2 =>
  (if v1 = 1 then Mo_takePlain_l8 fu v1 v2 k (v3 + 8) r2
  else Mo_takePlain_l8 fu v1 v2 k (v3 + 1) r2)))
def Mo_takePlain (fu : Nat) (S : LyS) (p1 : Int32) : Option (LyS) :=
  (Mo_count S p1).bind fun r1 =>
  (Mo_takePlain_l8 fu p1 r1 fu 0 S).bind fun r19 =>
  some (r19.2)
set_option maxRecDepth 100000 in
set_option maxHeartbeats 4000000 in
theorem t_Mo_takePlain_l34 {p : Program} {l : Launch} {e : Env} {s : State} {m : MethodId} {args : Array Value} {below : List Frame} {meth : Method} {c : Code} {D : va_G} {cI cR cZ : ClassId} {A : Nat → Prop} {Q : State → Prop} (C : Cx p s m args meth c D (tyG cI cR cZ) b_Mo_takePlain 7 "MaskLayersModel") (hA : ∀ q : Nat, s.heap.size ≤ q → A q) {a : (Nat → Nat)} {v1 : Int32} {v2 : Int32} {v3 : Int32} {v4 : Int32} {out : Nat × LyS} : ∀ (k : Nat) (v5 : Int32) (S : LyS), Mo_takePlain_l34 v1 v2 v3 v4 k v5 S = some out → (out.1 = 0 → J p l e rm_Mo_takePlain s m args below meth c D A (va_D A) 7 Q 0 0 (wMo cI cZ a out.2) [(0, .ref (a 0)), (1, .int v1), (2, .int v2), (3, .int v3)] [] 102) → J p l e rm_Mo_takePlain s m args below meth c D A (va_D A) 7 Q 0 0 (wMo cI cZ a S) [(0, .ref (a 0)), (1, .int v1), (2, .int v2), (3, .int v3), (4, .int v4), (5, .int v5)] [] 34 := by
  intro k
  induction k with
  | zero => intro v5 S h; cases (show none = some out from h)
  | succ k ih =>
    intro v5 S h x0
    rw [Mo_takePlain_l34] at h
    refine j_iload C 5 d_Mo_takePlain_34 rfl ?_
    refine j_bipush C (v := 8) d_Mo_takePlain_36 (by decide) ?_
    refine j_icmp_ge C 102 d_Mo_takePlain_38 (by decide) (fun c12 => ?_) (fun c12 => ?_)
    · replace h := (if_pos c12).symm.trans h
      obtain rfl := Option.some.inj h
      refine j_sub [0, 1, 2, 3] rfl ?_
      exact x0 rfl
    · replace h := (if_neg c12).symm.trans h
      refine j_iload C 4 d_Mo_takePlain_41 rfl ?_
      refine j_bipush C (v := 7) d_Mo_takePlain_43 (by decide) ?_
      refine j_iload C 5 d_Mo_takePlain_45 rfl ?_
      refine j_isub C d_Mo_takePlain_47 ?_
      refine j_ishr C d_Mo_takePlain_48 ?_
      refine j_iconst C (v := 1) d_Mo_takePlain_49 (by decide) ?_
      refine j_iand C d_Mo_takePlain_50 ?_
      refine j_istore C [(6, .int ((v4 >>> ((7 - v5) &&& 31)) &&& 1)), (0, .ref (a 0)), (1, .int v1), (2, .int v2), (3, .int v3), (4, .int v4), (5, .int v5)] d_Mo_takePlain_51 (by decide) rfl ?_
      refine j_iload_n C 4 d_Mo_takePlain_53 rfl ?_
      refine j_iload C 6 d_Mo_takePlain_54 rfl ?_
      refine j_iadd C d_Mo_takePlain_56 ?_
      refine j_iload_n C 3 d_Mo_takePlain_57 rfl ?_
      refine j_icmp_ge C 80 d_Mo_takePlain_58 (by decide) (fun c11 => ?_) (fun c11 => ?_)
      · replace h := (if_pos c11).symm.trans h
        refine j_iload C 0 d_Mo_takePlain_80 rfl ?_
        refine j_iconst C (v := 1) d_Mo_takePlain_82 (by decide) ?_
        refine j_icmp_ne C 96 d_Mo_takePlain_83 (by decide) (fun c8 => ?_) (fun c8 => ?_)
        · replace h := (if_neg c8).symm.trans h
          refine j_iinc C [(5, .int (v5 + 1)), (6, .int ((v4 >>> ((7 - v5) &&& 31)) &&& 1)), (0, .ref (a 0)), (1, .int v1), (2, .int v2), (3, .int v3), (4, .int v4)] 6 (v5 + 1) d_Mo_takePlain_96 rfl rfl (by decide) rfl ?_
          refine j_goto C 34 d_Mo_takePlain_99 (by decide) ?_
          refine j_sub [2, 3, 4, 5, 6, 0] rfl ?_
          exact ih (v5 + 1) S h x0
        · replace h := (if_pos c8).symm.trans h
          refine j_aload_n C 1 d_Mo_takePlain_86 rfl ?_
          refine j_aload_n C 1 d_Mo_takePlain_87 rfl ?_
          refine gf_Mo_172 C 0 (v := .int (S.1 11)) mo_h rfl d_Mo_takePlain_88 ?_
          refine j_iconst C (v := 1) d_Mo_takePlain_91 (by decide) ?_
          refine j_isub C d_Mo_takePlain_92 ?_
          obtain ⟨r7, hr7, h⟩ := bd_ok h
          refine j_VV C [.int ((S.1 11) - 1)] hA 0 rfl rfl (c_Mo_refuse l D cI cR cZ a S ((S.1 11) - 1) hr7) (cw_Mo_175 C ⟨Nat.le_of_ble_eq_true rfl, Nat.le_of_ble_eq_true rfl⟩) [0, 1, 2, 3, 4, 5, 6, 7, 8, 9, 10] [] rfl rfl (by decide) (by decide) (by decide) rfl rfl (Nat.le_of_ble_eq_true rfl) d_Mo_takePlain_93 (by decide) (fun _ => ?_)
          refine j_ws (ws' := wMo cI cZ a r7) rfl ?_
          refine j_iinc C [(5, .int (v5 + 1)), (6, .int ((v4 >>> ((7 - v5) &&& 31)) &&& 1)), (0, .ref (a 0)), (1, .int v1), (2, .int v2), (3, .int v3), (4, .int v4)] 6 (v5 + 1) d_Mo_takePlain_96 rfl rfl (by decide) rfl ?_
          refine j_goto C 34 d_Mo_takePlain_99 (by decide) ?_
          refine j_sub [2, 3, 4, 5, 6, 0] rfl ?_
          exact ih (v5 + 1) r7 h x0
      · replace h := (if_neg c11).symm.trans h
        refine j_aload_n C 1 d_Mo_takePlain_61 rfl ?_
        refine gf_Mo_36 C 0 (v := .ref (a 8)) mo_h rfl d_Mo_takePlain_62 ?_
        refine j_aload_n C 1 d_Mo_takePlain_65 rfl ?_
        refine j_iload_n C 2 d_Mo_takePlain_66 rfl ?_
        refine j_iload_n C 4 d_Mo_takePlain_67 rfl ?_
        refine j_iload C 6 d_Mo_takePlain_68 rfl ?_
        refine j_iadd C d_Mo_takePlain_70 ?_
        obtain ⟨r9, hr9, h⟩ := bd_ok h
        refine j_PV C [.int v1, .int (v3 + v5)] 0 rfl rfl (c_Mo_place l D cI cR cZ a S v1 (v3 + v5) hr9) (cw_Mo_88 C ⟨Nat.le_of_ble_eq_true rfl, Nat.le_of_ble_eq_true rfl⟩) [0, 1, 2, 3, 4, 5, 6, 7, 8, 9, 10] rfl rfl rfl (Nat.le_of_ble_eq_true rfl) d_Mo_takePlain_71 (by decide) ?_
        refine j_iload C 0 d_Mo_takePlain_74 rfl ?_
        obtain ⟨b10, h⟩ := gd_ok h
        refine j_iast C (8) (wMo cI cZ a (Ls S 7 r9.toNatClampNeg ((v4 >>> ((7 - v5) &&& 31)) &&& 1))) (t0 := 0) mo_g7 mo_s7 rfl b10 d_Mo_takePlain_76 ?_
        refine j_goto C 96 d_Mo_takePlain_77 (by decide) ?_
        refine j_iinc C [(5, .int (v5 + 1)), (6, .int ((v4 >>> ((7 - v5) &&& 31)) &&& 1)), (0, .ref (a 0)), (1, .int v1), (2, .int v2), (3, .int v3), (4, .int v4)] 6 (v5 + 1) d_Mo_takePlain_96 rfl rfl (by decide) rfl ?_
        refine j_goto C 34 d_Mo_takePlain_99 (by decide) ?_
        refine j_sub [2, 3, 4, 5, 6, 0] rfl ?_
        exact ih (v5 + 1) (Ls S 7 r9.toNatClampNeg ((v4 >>> ((7 - v5) &&& 31)) &&& 1)) h x0
set_option maxRecDepth 100000 in
set_option maxHeartbeats 4000000 in
theorem t_Mo_takePlain_l8 {p : Program} {l : Launch} {e : Env} {s : State} {m : MethodId} {args : Array Value} {below : List Frame} {meth : Method} {c : Code} {D : va_G} {cI cR cZ : ClassId} {A : Nat → Prop} {Q : State → Prop} (C : Cx p s m args meth c D (tyG cI cR cZ) b_Mo_takePlain 7 "MaskLayersModel") (hA : ∀ q : Nat, s.heap.size ≤ q → A q) {a : (Nat → Nat)} {fu : Nat} {v1 : Int32} {v2 : Int32} {out : Nat × LyS} : ∀ (k : Nat) (v3 : Int32) (S : LyS), Mo_takePlain_l8 fu v1 v2 k v3 S = some out → (out.1 = 0 → J p l e rm_Mo_takePlain s m args below meth c D A (va_D A) 7 Q 0 0 (wMo cI cZ a out.2) [] [] 138) → J p l e rm_Mo_takePlain s m args below meth c D A (va_D A) 7 Q 0 0 (wMo cI cZ a S) [(0, .ref (a 0)), (1, .int v1), (2, .int v2), (3, .int v3)] [] 8 := by
  intro k
  induction k with
  | zero => intro v3 S h; cases (show none = some out from h)
  | succ k ih =>
    intro v3 S h x0
    rw [Mo_takePlain_l8] at h
    refine j_iload_n C 3 d_Mo_takePlain_8 rfl ?_
    refine j_iload_n C 2 d_Mo_takePlain_9 rfl ?_
    refine j_icmp_ge C 138 d_Mo_takePlain_10 (by decide) (fun c18 => ?_) (fun c18 => ?_)
    · replace h := (if_pos c18).symm.trans h
      obtain rfl := Option.some.inj h
      refine j_sub [] rfl ?_
      exact x0 rfl
    · replace h := (if_neg c18).symm.trans h
      refine j_aload_n C 0 d_Mo_takePlain_13 rfl ?_
      refine gf_Mo_169 C 0 (v := .int (S.1 12)) mo_h rfl d_Mo_takePlain_14 ?_
      refine j_if_ge C 138 d_Mo_takePlain_17 (by decide) (fun c17 => ?_) (fun c17 => ?_)
      · replace h := (if_pos c17).symm.trans h
        obtain rfl := Option.some.inj h
        refine j_sub [] rfl ?_
        exact x0 rfl
      · replace h := (if_neg c17).symm.trans h
        refine j_iload_n C 1 d_Mo_takePlain_20 rfl ?_
        refine j_iconst C (v := 1) d_Mo_takePlain_21 (by decide) ?_
        obtain ⟨r2, hr2, gr2⟩ := bd_ok h
        refine j_let (ws' := wMo cI cZ a r2) (lv' := [(0, .ref (a 0)), (1, .int v1), (2, .int v2), (3, .int v3)]) (st' := []) (pc' := 121) ?_ (fun Kr2 => ?_)
        · replace h := gr2
          refine j_iload_n C 3 d_Mo_takePlain_121 rfl ?_
          refine j_iload_n C 1 d_Mo_takePlain_122 rfl ?_
          refine j_iconst C (v := 1) d_Mo_takePlain_123 (by decide) ?_
          refine j_icmp_ne C 132 d_Mo_takePlain_124 (by decide) (fun c15 => ?_) (fun c15 => ?_)
          · replace h := (if_neg c15).symm.trans h
            refine j_iconst C (v := 1) d_Mo_takePlain_132 (by decide) ?_
            refine j_iadd C d_Mo_takePlain_133 ?_
            refine j_istore_n C [(3, .int (v3 + 1)), (0, .ref (a 0)), (1, .int v1), (2, .int v2)] d_Mo_takePlain_134 (by decide) rfl ?_
            refine j_goto C 8 d_Mo_takePlain_135 (by decide) ?_
            refine j_sub [1, 2, 3, 0] rfl ?_
            exact ih (v3 + 1) r2 h x0
          · replace h := (if_pos c15).symm.trans h
            refine j_bipush C (v := 8) d_Mo_takePlain_127 (by decide) ?_
            refine j_goto C 133 d_Mo_takePlain_129 (by decide) ?_
            refine j_iadd C d_Mo_takePlain_133 ?_
            refine j_istore_n C [(3, .int (v3 + 8)), (0, .ref (a 0)), (1, .int v1), (2, .int v2)] d_Mo_takePlain_134 (by decide) rfl ?_
            refine j_goto C 8 d_Mo_takePlain_135 (by decide) ?_
            refine j_sub [1, 2, 3, 0] rfl ?_
            exact ih (v3 + 8) r2 h x0
        · replace h := hr2
          refine j_icmp_ne C 105 d_Mo_takePlain_22 (by decide) (fun c16 => ?_) (fun c16 => ?_)
          · replace h := (if_neg c16).symm.trans h
            refine j_aload_n C 0 d_Mo_takePlain_105 rfl ?_
            refine gf_Mo_36 C 0 (v := .ref (a 8)) mo_h rfl d_Mo_takePlain_106 ?_
            refine j_aload_n C 0 d_Mo_takePlain_109 rfl ?_
            refine j_iload_n C 1 d_Mo_takePlain_110 rfl ?_
            refine j_iload_n C 3 d_Mo_takePlain_111 rfl ?_
            obtain ⟨r3, hr3, h⟩ := bd_ok h
            refine j_PV C [.int v1, .int v3] 0 rfl rfl (c_Mo_place l D cI cR cZ a S v1 v3 hr3) (cw_Mo_88 C ⟨Nat.le_of_ble_eq_true rfl, Nat.le_of_ble_eq_true rfl⟩) [0, 1, 2, 3, 4, 5, 6, 7, 8, 9, 10] rfl rfl rfl (Nat.le_of_ble_eq_true rfl) d_Mo_takePlain_112 (by decide) ?_
            refine j_aload_n C 0 d_Mo_takePlain_115 rfl ?_
            refine j_iload_n C 1 d_Mo_takePlain_116 rfl ?_
            obtain ⟨r4, hr4, h⟩ := bd_ok h
            refine j_IV C [.int v1] hA 0 rfl rfl (c_Mo_takeValue l D cI cR cZ a S v1 hr4) (cw_Mo_185 C ⟨Nat.le_of_ble_eq_true rfl, Nat.le_of_ble_eq_true rfl⟩) [0, 1, 2, 3, 4, 5, 6, 7, 8, 9, 10] [] rfl rfl (by decide) (by decide) (by decide) rfl rfl (Nat.le_of_ble_eq_true rfl) d_Mo_takePlain_117 (by decide) (fun _ => ?_)
            refine j_ws (ws' := wMo cI cZ a r4.2) rfl ?_
            obtain ⟨b5, h⟩ := gd_ok h
            refine j_iast C (8) (wMo cI cZ a (Ls r4.2 7 r3.toNatClampNeg r4.1)) (t0 := 0) mo_g7 mo_s7 rfl b5 d_Mo_takePlain_120 ?_
            obtain rfl := Option.some.inj h
            refine j_sub [0, 1, 2, 3] rfl ?_
            exact Kr2
          · replace h := (if_pos c16).symm.trans h
            refine j_aload_n C 0 d_Mo_takePlain_25 rfl ?_
            obtain ⟨r6, hr6, h⟩ := bd_ok h
            refine j_IV C [] hA 0 rfl rfl (c_Mo_take l D cI cR cZ a S hr6) (cw_Mo_178 C ⟨Nat.le_of_ble_eq_true rfl, Nat.le_of_ble_eq_true rfl⟩) [0, 1, 2, 3, 4, 5, 6, 7, 8, 9, 10] [] rfl rfl (by decide) (by decide) (by decide) rfl rfl (Nat.le_of_ble_eq_true rfl) d_Mo_takePlain_26 (by decide) (fun _ => ?_)
            refine j_ws (ws' := wMo cI cZ a r6.2) rfl ?_
            refine j_istore C [(4, .int r6.1), (0, .ref (a 0)), (1, .int v1), (2, .int v2), (3, .int v3)] d_Mo_takePlain_29 (by decide) rfl ?_
            refine j_iconst C (v := 0) d_Mo_takePlain_31 (by decide) ?_
            refine j_istore C [(5, .int 0), (4, .int r6.1), (0, .ref (a 0)), (1, .int v1), (2, .int v2), (3, .int v3)] d_Mo_takePlain_32 (by decide) rfl ?_
            obtain ⟨r13, hr13, h⟩ := bd_ok h
            refine j_sub [2, 3, 4, 5, 1, 0] rfl ?_
            refine t_Mo_takePlain_l34 C hA fu 0 r6.2 hr13 (fun e14 => ?_)
            · refine j_goto C 121 d_Mo_takePlain_102 (by decide) ?_
              obtain rfl := Option.some.inj h
              refine j_sub [0, 1, 2, 3] rfl ?_
              exact Kr2
set_option maxRecDepth 100000 in
set_option maxHeartbeats 4000000 in
theorem c_Mo_takePlain (l : Launch) (D : va_G) (cI cR cZ : ClassId) (fu : Nat) (a : (Nat → Nat)) (S : LyS) (p1 : Int32) {res : (LyS)} (h : Mo_takePlain fu S p1 = some res) (sz : Nat) : Met l y_Mo_takePlain (Cond.code y_Mo_takePlain b_Mo_takePlain 7 none :: BIG) rm_Mo_takePlain (PcI [.ref (a 0), .int p1] D (tyG cI cR cZ) (wMo cI cZ a S) sz) (QcV D (fun _ : Nat => wMo cI cZ a res) (va_A (wMo cI cZ a S) sz)) 0 0 (va_A (wMo cI cZ a S) sz) := by
  refine met_V (by decide) (Nat.le_of_ble_eq_true rfl) (fun p e s m args below meth c A hA C hr => ?_)
  have C : Cx p s m args meth c D (tyG cI cR cZ) b_Mo_takePlain 7 "MaskLayersModel" := C
  have hr : meth.sig.returnType = none := hr
  show J p l e rm_Mo_takePlain s m args below meth c D A (va_D A) 7 (MQ below (QcV D (fun _ : Nat => wMo cI cZ a res) A) args s 0 0 A) 0 0 (wMo cI cZ a S) [(0, .ref (a 0)), (1, .int p1)] [] 0
  unfold Mo_takePlain at h
  refine j_aload_n C 0 d_Mo_takePlain_0 rfl ?_
  refine j_iload_n C 1 d_Mo_takePlain_1 rfl ?_
  obtain ⟨r1, hr1, h⟩ := bd_ok h
  refine j_PV C [.int p1] 0 rfl rfl (c_Mo_count l D cI cR cZ a S p1 hr1) (cw_Mo_94 C ⟨Nat.le_of_ble_eq_true rfl, Nat.le_of_ble_eq_true rfl⟩) [0, 1, 2, 3, 4, 5, 6, 7, 8, 9, 10] rfl rfl rfl (Nat.le_of_ble_eq_true rfl) d_Mo_takePlain_2 (by decide) ?_
  refine j_istore_n C [(2, .int r1), (0, .ref (a 0)), (1, .int p1)] d_Mo_takePlain_5 (by decide) rfl ?_
  refine j_iconst C (v := 0) d_Mo_takePlain_6 (by decide) ?_
  refine j_istore_n C [(3, .int 0), (2, .int r1), (0, .ref (a 0)), (1, .int p1)] d_Mo_takePlain_7 (by decide) rfl ?_
  obtain ⟨r19, hr19, h⟩ := bd_ok h
  refine j_sub [2, 3, 1, 0] rfl ?_
  refine t_Mo_takePlain_l8 C hA fu 0 S hr19 (fun e20 => ?_)
  · obtain rfl := Option.some.inj h
    exact j_vret C hr d_Mo_takePlain_138 0 rfl
def Mo_takeRuns_l40 (v1 : Int32) (v2 : Int32) (v3 : Int32) (v4 : Int32) (v5 : Int32) : Nat → Int32 → LyS → Option (Nat × LyS)
  | 0, _, _ => none
  | k + 1, v6, S =>
  (if v4 ≤ v6 then some (0, S)
  else (if 0 ≤ (S.1 12) then some (0, S)
  else (Mo_place S v1 (v3 + v6)).bind fun r4 =>
  gd r4 2304 (Mo_takeRuns_l40 v1 v2 v3 v4 v5 k (v6 + 1) (Ls S 7 r4.toNatClampNeg v5))))
def Mo_takeRuns_l8 (fu : Nat) (v1 : Int32) (v2 : Int32) : Nat → Int32 → LyS → Option (Nat × LyS)
  | 0, _, _ => none
  | k + 1, v3, S =>
  (if v2 ≤ v3 then some (0, S)
  else (if 0 ≤ (S.1 12) then some (0, S)
  else (Mo_takeIn S 1 (v2 - v3)).bind fun r2 =>
  (Mo_takeValue r2.2 v1).bind fun r3 =>
  (Mo_takeRuns_l40 v1 v2 v3 r2.1 r3.1 fu 0 r3.2).bind fun r8 =>
  Mo_takeRuns_l8 fu v1 v2 k (v3 + r2.1) r8.2))
def Mo_takeRuns (fu : Nat) (S : LyS) (p1 : Int32) : Option (LyS) :=
  (Mo_count S p1).bind fun r1 =>
  (Mo_takeRuns_l8 fu p1 r1 fu 0 S).bind fun r12 =>
  some (r12.2)
set_option maxRecDepth 100000 in
set_option maxHeartbeats 4000000 in
theorem t_Mo_takeRuns_l40 {p : Program} {l : Launch} {e : Env} {s : State} {m : MethodId} {args : Array Value} {below : List Frame} {meth : Method} {c : Code} {D : va_G} {cI cR cZ : ClassId} {A : Nat → Prop} {Q : State → Prop} (C : Cx p s m args meth c D (tyG cI cR cZ) b_Mo_takeRuns 7 "MaskLayersModel") (hA : ∀ q : Nat, s.heap.size ≤ q → A q) {a : (Nat → Nat)} {v1 : Int32} {v2 : Int32} {v3 : Int32} {v4 : Int32} {v5 : Int32} {out : Nat × LyS} : ∀ (k : Nat) (v6 : Int32) (S : LyS), Mo_takeRuns_l40 v1 v2 v3 v4 v5 k v6 S = some out → (out.1 = 0 → J p l e rm_Mo_takeRuns s m args below meth c D A (va_D A) 7 Q 0 0 (wMo cI cZ a out.2) [(0, .ref (a 0)), (1, .int v1), (2, .int v2), (3, .int v3), (4, .int v4)] [] 76) → J p l e rm_Mo_takeRuns s m args below meth c D A (va_D A) 7 Q 0 0 (wMo cI cZ a S) [(0, .ref (a 0)), (1, .int v1), (2, .int v2), (3, .int v3), (4, .int v4), (5, .int v5), (6, .int v6)] [] 40 := by
  intro k
  induction k with
  | zero => intro v6 S h; cases (show none = some out from h)
  | succ k ih =>
    intro v6 S h x0
    rw [Mo_takeRuns_l40] at h
    refine j_iload C 6 d_Mo_takeRuns_40 rfl ?_
    refine j_iload C 4 d_Mo_takeRuns_42 rfl ?_
    refine j_icmp_ge C 76 d_Mo_takeRuns_44 (by decide) (fun c7 => ?_) (fun c7 => ?_)
    · replace h := (if_pos c7).symm.trans h
      obtain rfl := Option.some.inj h
      refine j_sub [0, 1, 2, 3, 4] rfl ?_
      exact x0 rfl
    · replace h := (if_neg c7).symm.trans h
      refine j_aload_n C 0 d_Mo_takeRuns_47 rfl ?_
      refine gf_Mo_169 C 0 (v := .int (S.1 12)) mo_h rfl d_Mo_takeRuns_48 ?_
      refine j_if_ge C 76 d_Mo_takeRuns_51 (by decide) (fun c6 => ?_) (fun c6 => ?_)
      · replace h := (if_pos c6).symm.trans h
        obtain rfl := Option.some.inj h
        refine j_sub [0, 1, 2, 3, 4] rfl ?_
        exact x0 rfl
      · replace h := (if_neg c6).symm.trans h
        refine j_aload_n C 0 d_Mo_takeRuns_54 rfl ?_
        refine gf_Mo_36 C 0 (v := .ref (a 8)) mo_h rfl d_Mo_takeRuns_55 ?_
        refine j_aload_n C 0 d_Mo_takeRuns_58 rfl ?_
        refine j_iload_n C 1 d_Mo_takeRuns_59 rfl ?_
        refine j_iload_n C 3 d_Mo_takeRuns_60 rfl ?_
        refine j_iload C 6 d_Mo_takeRuns_61 rfl ?_
        refine j_iadd C d_Mo_takeRuns_63 ?_
        obtain ⟨r4, hr4, h⟩ := bd_ok h
        refine j_PV C [.int v1, .int (v3 + v6)] 0 rfl rfl (c_Mo_place l D cI cR cZ a S v1 (v3 + v6) hr4) (cw_Mo_88 C ⟨Nat.le_of_ble_eq_true rfl, Nat.le_of_ble_eq_true rfl⟩) [0, 1, 2, 3, 4, 5, 6, 7, 8, 9, 10] rfl rfl rfl (Nat.le_of_ble_eq_true rfl) d_Mo_takeRuns_64 (by decide) ?_
        refine j_iload C 5 d_Mo_takeRuns_67 rfl ?_
        obtain ⟨b5, h⟩ := gd_ok h
        refine j_iast C (8) (wMo cI cZ a (Ls S 7 r4.toNatClampNeg v5)) (t0 := 0) mo_g7 mo_s7 rfl b5 d_Mo_takeRuns_69 ?_
        refine j_iinc C [(6, .int (v6 + 1)), (0, .ref (a 0)), (1, .int v1), (2, .int v2), (3, .int v3), (4, .int v4), (5, .int v5)] 6 (v6 + 1) d_Mo_takeRuns_70 rfl rfl (by decide) rfl ?_
        refine j_goto C 40 d_Mo_takeRuns_73 (by decide) ?_
        refine j_sub [1, 2, 3, 4, 5, 6, 0] rfl ?_
        exact ih (v6 + 1) (Ls S 7 r4.toNatClampNeg v5) h x0
set_option maxRecDepth 100000 in
set_option maxHeartbeats 4000000 in
theorem t_Mo_takeRuns_l8 {p : Program} {l : Launch} {e : Env} {s : State} {m : MethodId} {args : Array Value} {below : List Frame} {meth : Method} {c : Code} {D : va_G} {cI cR cZ : ClassId} {A : Nat → Prop} {Q : State → Prop} (C : Cx p s m args meth c D (tyG cI cR cZ) b_Mo_takeRuns 7 "MaskLayersModel") (hA : ∀ q : Nat, s.heap.size ≤ q → A q) {a : (Nat → Nat)} {fu : Nat} {v1 : Int32} {v2 : Int32} {out : Nat × LyS} : ∀ (k : Nat) (v3 : Int32) (S : LyS), Mo_takeRuns_l8 fu v1 v2 k v3 S = some out → (out.1 = 0 → J p l e rm_Mo_takeRuns s m args below meth c D A (va_D A) 7 Q 0 0 (wMo cI cZ a out.2) [] [] 84) → J p l e rm_Mo_takeRuns s m args below meth c D A (va_D A) 7 Q 0 0 (wMo cI cZ a S) [(0, .ref (a 0)), (1, .int v1), (2, .int v2), (3, .int v3)] [] 8 := by
  intro k
  induction k with
  | zero => intro v3 S h; cases (show none = some out from h)
  | succ k ih =>
    intro v3 S h x0
    rw [Mo_takeRuns_l8] at h
    refine j_iload_n C 3 d_Mo_takeRuns_8 rfl ?_
    refine j_iload_n C 2 d_Mo_takeRuns_9 rfl ?_
    refine j_icmp_ge C 84 d_Mo_takeRuns_10 (by decide) (fun c11 => ?_) (fun c11 => ?_)
    · replace h := (if_pos c11).symm.trans h
      obtain rfl := Option.some.inj h
      refine j_sub [] rfl ?_
      exact x0 rfl
    · replace h := (if_neg c11).symm.trans h
      refine j_aload_n C 0 d_Mo_takeRuns_13 rfl ?_
      refine gf_Mo_169 C 0 (v := .int (S.1 12)) mo_h rfl d_Mo_takeRuns_14 ?_
      refine j_if_ge C 84 d_Mo_takeRuns_17 (by decide) (fun c10 => ?_) (fun c10 => ?_)
      · replace h := (if_pos c10).symm.trans h
        obtain rfl := Option.some.inj h
        refine j_sub [] rfl ?_
        exact x0 rfl
      · replace h := (if_neg c10).symm.trans h
        refine j_aload_n C 0 d_Mo_takeRuns_20 rfl ?_
        refine j_iconst C (v := 1) d_Mo_takeRuns_21 (by decide) ?_
        refine j_iload_n C 2 d_Mo_takeRuns_22 rfl ?_
        refine j_iload_n C 3 d_Mo_takeRuns_23 rfl ?_
        refine j_isub C d_Mo_takeRuns_24 ?_
        obtain ⟨r2, hr2, h⟩ := bd_ok h
        refine j_IV C [.int 1, .int (v2 - v3)] hA 0 rfl rfl (c_Mo_takeIn l D cI cR cZ a S 1 (v2 - v3) hr2) (cw_Mo_182 C ⟨Nat.le_of_ble_eq_true rfl, Nat.le_of_ble_eq_true rfl⟩) [0, 1, 2, 3, 4, 5, 6, 7, 8, 9, 10] [] rfl rfl (by decide) (by decide) (by decide) rfl rfl (Nat.le_of_ble_eq_true rfl) d_Mo_takeRuns_25 (by decide) (fun _ => ?_)
        refine j_ws (ws' := wMo cI cZ a r2.2) rfl ?_
        refine j_istore C [(4, .int r2.1), (0, .ref (a 0)), (1, .int v1), (2, .int v2), (3, .int v3)] d_Mo_takeRuns_28 (by decide) rfl ?_
        refine j_aload_n C 1 d_Mo_takeRuns_30 rfl ?_
        refine j_iload_n C 2 d_Mo_takeRuns_31 rfl ?_
        obtain ⟨r3, hr3, h⟩ := bd_ok h
        refine j_IV C [.int v1] hA 0 rfl rfl (c_Mo_takeValue l D cI cR cZ a r2.2 v1 hr3) (cw_Mo_185 C ⟨Nat.le_of_ble_eq_true rfl, Nat.le_of_ble_eq_true rfl⟩) [0, 1, 2, 3, 4, 5, 6, 7, 8, 9, 10] [] rfl rfl (by decide) (by decide) (by decide) rfl rfl (Nat.le_of_ble_eq_true rfl) d_Mo_takeRuns_32 (by decide) (fun _ => ?_)
        refine j_ws (ws' := wMo cI cZ a r3.2) rfl ?_
        refine j_istore C [(5, .int r3.1), (4, .int r2.1), (0, .ref (a 0)), (1, .int v1), (2, .int v2), (3, .int v3)] d_Mo_takeRuns_35 (by decide) rfl ?_
        refine j_iconst C (v := 0) d_Mo_takeRuns_37 (by decide) ?_
        refine j_istore C [(6, .int 0), (5, .int r3.1), (4, .int r2.1), (0, .ref (a 0)), (1, .int v1), (2, .int v2), (3, .int v3)] d_Mo_takeRuns_38 (by decide) rfl ?_
        obtain ⟨r8, hr8, h⟩ := bd_ok h
        refine j_sub [3, 4, 5, 6, 2, 1, 0] rfl ?_
        refine t_Mo_takeRuns_l40 C hA fu 0 r3.2 hr8 (fun e9 => ?_)
        · refine j_iload_n C 3 d_Mo_takeRuns_76 rfl ?_
          refine j_iload C 4 d_Mo_takeRuns_77 rfl ?_
          refine j_iadd C d_Mo_takeRuns_79 ?_
          refine j_istore_n C [(3, .int (v3 + r2.1)), (0, .ref (a 0)), (1, .int v1), (2, .int v2), (4, .int r2.1)] d_Mo_takeRuns_80 (by decide) rfl ?_
          refine j_goto C 8 d_Mo_takeRuns_81 (by decide) ?_
          refine j_sub [1, 2, 3, 0] rfl ?_
          exact ih (v3 + r2.1) r8.2 h x0
set_option maxRecDepth 100000 in
set_option maxHeartbeats 4000000 in
theorem c_Mo_takeRuns (l : Launch) (D : va_G) (cI cR cZ : ClassId) (fu : Nat) (a : (Nat → Nat)) (S : LyS) (p1 : Int32) {res : (LyS)} (h : Mo_takeRuns fu S p1 = some res) (sz : Nat) : Met l y_Mo_takeRuns (Cond.code y_Mo_takeRuns b_Mo_takeRuns 7 none :: BIG) rm_Mo_takeRuns (PcI [.ref (a 0), .int p1] D (tyG cI cR cZ) (wMo cI cZ a S) sz) (QcV D (fun _ : Nat => wMo cI cZ a res) (va_A (wMo cI cZ a S) sz)) 0 0 (va_A (wMo cI cZ a S) sz) := by
  refine met_V (by decide) (Nat.le_of_ble_eq_true rfl) (fun p e s m args below meth c A hA C hr => ?_)
  have C : Cx p s m args meth c D (tyG cI cR cZ) b_Mo_takeRuns 7 "MaskLayersModel" := C
  have hr : meth.sig.returnType = none := hr
  show J p l e rm_Mo_takeRuns s m args below meth c D A (va_D A) 7 (MQ below (QcV D (fun _ : Nat => wMo cI cZ a res) A) args s 0 0 A) 0 0 (wMo cI cZ a S) [(0, .ref (a 0)), (1, .int p1)] [] 0
  unfold Mo_takeRuns at h
  refine j_aload_n C 0 d_Mo_takeRuns_0 rfl ?_
  refine j_iload_n C 1 d_Mo_takeRuns_1 rfl ?_
  obtain ⟨r1, hr1, h⟩ := bd_ok h
  refine j_PV C [.int p1] 0 rfl rfl (c_Mo_count l D cI cR cZ a S p1 hr1) (cw_Mo_94 C ⟨Nat.le_of_ble_eq_true rfl, Nat.le_of_ble_eq_true rfl⟩) [0, 1, 2, 3, 4, 5, 6, 7, 8, 9, 10] rfl rfl rfl (Nat.le_of_ble_eq_true rfl) d_Mo_takeRuns_2 (by decide) ?_
  refine j_istore_n C [(2, .int r1), (0, .ref (a 0)), (1, .int p1)] d_Mo_takeRuns_5 (by decide) rfl ?_
  refine j_iconst C (v := 0) d_Mo_takeRuns_6 (by decide) ?_
  refine j_istore_n C [(3, .int 0), (2, .int r1), (0, .ref (a 0)), (1, .int p1)] d_Mo_takeRuns_7 (by decide) rfl ?_
  obtain ⟨r12, hr12, h⟩ := bd_ok h
  refine j_sub [2, 3, 1, 0] rfl ?_
  refine t_Mo_takeRuns_l8 C hA fu 0 S hr12 (fun e13 => ?_)
  · obtain rfl := Option.some.inj h
    exact j_vret C hr d_Mo_takeRuns_84 0 rfl
def Mo_takeLayer_b65 (fu : Nat) (S : LyS) (v1 : Int32) (v2 : Int32) (v3 : Int32) (v4 : Int32) : Option (LyS) :=
  (if v2 = 0 then (Mo_takePlain fu S v1).bind fun r10 =>
  some (r10)
  else (Mo_takeRuns fu S v1).bind fun r6 =>
  (if 0 ≤ (r6.1 12) then some (r6)
  else (if ((r6.1 11) - (S.1 11)) = v4 then some (r6)
  else (Mo_refuse r6 v3).bind fun r7 =>
  some (r7))))
def Mo_takeLayer (fu : Nat) (S : LyS) (p1 : Int32) : Option (LyS) :=
  gd p1 4 (zb 1 ((Mo_takeIn (Ls S 8 p1.toNatClampNeg 1) 0 1).bind fun r3 =>
  (Mo_take r3.2).bind fun r4 =>
  (Mo_take r4.2).bind fun r5 =>
  (if (r5.2.1 12) < 0 then (if r3.1 = 0 then (Mo_plainSize r5.2 p1).bind fun r12 =>
  (if (r4.1 + (r5.1 <<< ((8 : Int32) &&& 31))) = r12 then Mo_takeLayer_b65 fu r5.2 p1 r3.1 (r3.2.1 11) (r4.1 + (r5.1 <<< ((8 : Int32) &&& 31)))
  else (Mo_refuse r5.2 (r3.2.1 11)).bind fun r13 =>
  some (r13))
  else Mo_takeLayer_b65 fu r5.2 p1 r3.1 (r3.2.1 11) (r4.1 + (r5.1 <<< ((8 : Int32) &&& 31))))
  else some (r5.2))))
set_option maxRecDepth 100000 in
set_option maxHeartbeats 4000000 in
theorem t_Mo_takeLayer_b65 {p : Program} {l : Launch} {e : Env} {s : State} {m : MethodId} {args : Array Value} {below : List Frame} {meth : Method} {c : Code} {D : va_G} {cI cR cZ : ClassId} {A : Nat → Prop} (C : Cx p s m args meth c D (tyG cI cR cZ) b_Mo_takeLayer 6 "MaskLayersModel") (hr : meth.sig.returnType = none) (hA : ∀ q : Nat, s.heap.size ≤ q → A q) {a : (Nat → Nat)} {S : LyS} {fu : Nat} {v1 : Int32} {v2 : Int32} {v3 : Int32} {v4 : Int32} {res : (LyS)} (h : Mo_takeLayer_b65 fu S v1 v2 v3 v4 = some res) : J p l e rm_Mo_takeLayer s m args below meth c D A (va_D A) 6 (MQ below (QcV D (fun _ : Nat => wMo cI cZ a res) A) args s 0 0 A) 0 0 (wMo cI cZ a S) [(0, .ref (a 0)), (1, .int v1), (2, .int v2), (3, .int v3), (4, .int v4)] [] 65 := by
  unfold Mo_takeLayer_b65 at h
  refine j_aload_n C 0 d_Mo_takeLayer_65 rfl ?_
  refine gf_Mo_172 C 0 (v := .int (S.1 11)) mo_h rfl d_Mo_takeLayer_66 ?_
  refine j_istore C [(5, .int (S.1 11)), (0, .ref (a 0)), (1, .int v1), (2, .int v2), (3, .int v3), (4, .int v4)] d_Mo_takeLayer_69 (by decide) rfl ?_
  refine j_iload_n C 3 d_Mo_takeLayer_71 rfl ?_
  refine j_if_ne C 83 d_Mo_takeLayer_72 (by decide) (fun c11 => ?_) (fun c11 => ?_)
  · replace h := (if_neg c11).symm.trans h
    refine j_aload_n C 1 d_Mo_takeLayer_83 rfl ?_
    refine j_iload_n C 2 d_Mo_takeLayer_84 rfl ?_
    obtain ⟨r6, hr6, h⟩ := bd_ok h
    refine j_VV C [.int v1] hA 0 rfl rfl (c_Mo_takeRuns l D cI cR cZ fu a S v1 hr6) (cw_Mo_191 C ⟨Nat.le_of_ble_eq_true rfl, Nat.le_of_ble_eq_true rfl⟩) [0, 1, 2, 3, 4, 5, 6, 7, 8, 9, 10] [] rfl rfl (by decide) (by decide) (by decide) rfl rfl (Nat.le_of_ble_eq_true rfl) d_Mo_takeLayer_85 (by decide) (fun _ => ?_)
    refine j_ws (ws' := wMo cI cZ a r6) rfl ?_
    refine j_aload_n C 1 d_Mo_takeLayer_88 rfl ?_
    refine gf_Mo_169 C 0 (v := .int (r6.1 12)) mo_h rfl d_Mo_takeLayer_89 ?_
    refine j_if_ge C 112 d_Mo_takeLayer_92 (by decide) (fun c9 => ?_) (fun c9 => ?_)
    · replace h := (if_pos c9).symm.trans h
      obtain rfl := Option.some.inj h
      exact j_vret C hr d_Mo_takeLayer_112 0 rfl
    · replace h := (if_neg c9).symm.trans h
      refine j_aload_n C 1 d_Mo_takeLayer_95 rfl ?_
      refine gf_Mo_172 C 0 (v := .int (r6.1 11)) mo_h rfl d_Mo_takeLayer_96 ?_
      refine j_iload C 0 d_Mo_takeLayer_99 rfl ?_
      refine j_isub C d_Mo_takeLayer_101 ?_
      refine j_iload C 5 d_Mo_takeLayer_102 rfl ?_
      refine j_icmp_eq C 112 d_Mo_takeLayer_104 (by decide) (fun c8 => ?_) (fun c8 => ?_)
      · replace h := (if_pos c8).symm.trans h
        obtain rfl := Option.some.inj h
        exact j_vret C hr d_Mo_takeLayer_112 0 rfl
      · replace h := (if_neg c8).symm.trans h
        refine j_aload_n C 1 d_Mo_takeLayer_107 rfl ?_
        refine j_iload_n C 4 d_Mo_takeLayer_108 rfl ?_
        obtain ⟨r7, hr7, h⟩ := bd_ok h
        refine j_VV C [.int v3] hA 0 rfl rfl (c_Mo_refuse l D cI cR cZ a r6 v3 hr7) (cw_Mo_175 C ⟨Nat.le_of_ble_eq_true rfl, Nat.le_of_ble_eq_true rfl⟩) [0, 1, 2, 3, 4, 5, 6, 7, 8, 9, 10] [] rfl rfl (by decide) (by decide) (by decide) rfl rfl (Nat.le_of_ble_eq_true rfl) d_Mo_takeLayer_109 (by decide) (fun _ => ?_)
        refine j_ws (ws' := wMo cI cZ a r7) rfl ?_
        obtain rfl := Option.some.inj h
        exact j_vret C hr d_Mo_takeLayer_112 0 rfl
  · replace h := (if_pos c11).symm.trans h
    refine j_aload_n C 1 d_Mo_takeLayer_75 rfl ?_
    refine j_iload_n C 2 d_Mo_takeLayer_76 rfl ?_
    obtain ⟨r10, hr10, h⟩ := bd_ok h
    refine j_VV C [.int v1] hA 0 rfl rfl (c_Mo_takePlain l D cI cR cZ fu a S v1 hr10) (cw_Mo_188 C ⟨Nat.le_of_ble_eq_true rfl, Nat.le_of_ble_eq_true rfl⟩) [0, 1, 2, 3, 4, 5, 6, 7, 8, 9, 10] [] rfl rfl (by decide) (by decide) (by decide) rfl rfl (Nat.le_of_ble_eq_true rfl) d_Mo_takeLayer_77 (by decide) (fun _ => ?_)
    refine j_ws (ws' := wMo cI cZ a r10) rfl ?_
    refine j_goto C 112 d_Mo_takeLayer_80 (by decide) ?_
    obtain rfl := Option.some.inj h
    exact j_vret C hr d_Mo_takeLayer_112 0 rfl
set_option maxRecDepth 100000 in
set_option maxHeartbeats 4000000 in
theorem c_Mo_takeLayer (l : Launch) (D : va_G) (cI cR cZ : ClassId) (fu : Nat) (a : (Nat → Nat)) (S : LyS) (p1 : Int32) {res : (LyS)} (h : Mo_takeLayer fu S p1 = some res) (sz : Nat) : Met l y_Mo_takeLayer (Cond.code y_Mo_takeLayer b_Mo_takeLayer 6 none :: BIG) rm_Mo_takeLayer (PcI [.ref (a 0), .int p1] D (tyG cI cR cZ) (wMo cI cZ a S) sz) (QcV D (fun _ : Nat => wMo cI cZ a res) (va_A (wMo cI cZ a S) sz)) 0 0 (va_A (wMo cI cZ a S) sz) := by
  refine met_V (by decide) (Nat.le_of_ble_eq_true rfl) (fun p e s m args below meth c A hA C hr => ?_)
  have C : Cx p s m args meth c D (tyG cI cR cZ) b_Mo_takeLayer 6 "MaskLayersModel" := C
  have hr : meth.sig.returnType = none := hr
  show J p l e rm_Mo_takeLayer s m args below meth c D A (va_D A) 6 (MQ below (QcV D (fun _ : Nat => wMo cI cZ a res) A) args s 0 0 A) 0 0 (wMo cI cZ a S) [(0, .ref (a 0)), (1, .int p1)] [] 0
  unfold Mo_takeLayer at h
  refine j_aload_n C 0 d_Mo_takeLayer_0 rfl ?_
  refine gf_Mo_39 C 0 (v := .ref (a 9)) mo_h rfl d_Mo_takeLayer_1 ?_
  refine j_iload_n C 1 d_Mo_takeLayer_4 rfl ?_
  refine j_iconst C (v := 1) d_Mo_takeLayer_5 (by decide) ?_
  obtain ⟨b1, h⟩ := gd_ok h
  obtain ⟨b2, h⟩ := zb_ok h
  refine j_zast C (9) (wMo cI cZ a (Ls S 8 p1.toNatClampNeg 1)) (t0 := 1) mo_g8 mo_s8 rfl b1 b2 d_Mo_takeLayer_6 ?_
  refine j_aload_n C 0 d_Mo_takeLayer_7 rfl ?_
  refine j_iconst C (v := 0) d_Mo_takeLayer_8 (by decide) ?_
  refine j_iconst C (v := 1) d_Mo_takeLayer_9 (by decide) ?_
  obtain ⟨r3, hr3, h⟩ := bd_ok h
  refine j_IV C [.int 0, .int 1] hA 0 rfl rfl (c_Mo_takeIn l D cI cR cZ a (Ls S 8 p1.toNatClampNeg 1) 0 1 hr3) (cw_Mo_182 C ⟨Nat.le_of_ble_eq_true rfl, Nat.le_of_ble_eq_true rfl⟩) [0, 1, 2, 3, 4, 5, 6, 7, 8, 9, 10] [] rfl rfl (by decide) (by decide) (by decide) rfl rfl (Nat.le_of_ble_eq_true rfl) d_Mo_takeLayer_10 (by decide) (fun _ => ?_)
  refine j_ws (ws' := wMo cI cZ a r3.2) rfl ?_
  refine j_istore_n C [(2, .int r3.1), (0, .ref (a 0)), (1, .int p1)] d_Mo_takeLayer_13 (by decide) rfl ?_
  refine j_aload_n C 1 d_Mo_takeLayer_14 rfl ?_
  refine gf_Mo_172 C 0 (v := .int (r3.2.1 11)) mo_h rfl d_Mo_takeLayer_15 ?_
  refine j_istore_n C [(3, .int (r3.2.1 11)), (2, .int r3.1), (0, .ref (a 0)), (1, .int p1)] d_Mo_takeLayer_18 (by decide) rfl ?_
  refine j_aload_n C 2 d_Mo_takeLayer_19 rfl ?_
  obtain ⟨r4, hr4, h⟩ := bd_ok h
  refine j_IV C [] hA 0 rfl rfl (c_Mo_take l D cI cR cZ a r3.2 hr4) (cw_Mo_178 C ⟨Nat.le_of_ble_eq_true rfl, Nat.le_of_ble_eq_true rfl⟩) [0, 1, 2, 3, 4, 5, 6, 7, 8, 9, 10] [] rfl rfl (by decide) (by decide) (by decide) rfl rfl (Nat.le_of_ble_eq_true rfl) d_Mo_takeLayer_20 (by decide) (fun _ => ?_)
  refine j_ws (ws' := wMo cI cZ a r4.2) rfl ?_
  refine j_istore C [(4, .int r4.1), (3, .int (r3.2.1 11)), (2, .int r3.1), (0, .ref (a 0)), (1, .int p1)] d_Mo_takeLayer_23 (by decide) rfl ?_
  refine j_iload C 0 d_Mo_takeLayer_25 rfl ?_
  refine j_aload_n C 3 d_Mo_takeLayer_27 rfl ?_
  obtain ⟨r5, hr5, h⟩ := bd_ok h
  refine j_IV C [] hA 0 rfl rfl (c_Mo_take l D cI cR cZ a r4.2 hr5) (cw_Mo_178 C ⟨Nat.le_of_ble_eq_true rfl, Nat.le_of_ble_eq_true rfl⟩) [0, 1, 2, 3, 4, 5, 6, 7, 8, 9, 10] [] rfl rfl (by decide) (by decide) (by decide) rfl rfl (Nat.le_of_ble_eq_true rfl) d_Mo_takeLayer_28 (by decide) (fun _ => ?_)
  refine j_ws (ws' := wMo cI cZ a r5.2) rfl ?_
  refine j_bipush C (v := 8) d_Mo_takeLayer_31 (by decide) ?_
  refine j_ishl C d_Mo_takeLayer_33 ?_
  refine j_iadd C d_Mo_takeLayer_34 ?_
  refine j_istore C [(4, .int (r4.1 + (r5.1 <<< ((8 : Int32) &&& 31)))), (3, .int (r3.2.1 11)), (2, .int r3.1), (0, .ref (a 0)), (1, .int p1)] d_Mo_takeLayer_35 (by decide) rfl ?_
  refine j_aload_n C 3 d_Mo_takeLayer_37 rfl ?_
  refine gf_Mo_169 C 0 (v := .int (r5.2.1 12)) mo_h rfl d_Mo_takeLayer_38 ?_
  refine j_if_lt C 45 d_Mo_takeLayer_41 (by decide) (fun c16 => ?_) (fun c16 => ?_)
  · replace h := (if_pos c16).symm.trans h
    refine j_iload_n C 2 d_Mo_takeLayer_45 rfl ?_
    refine j_if_ne C 65 d_Mo_takeLayer_46 (by decide) (fun c15 => ?_) (fun c15 => ?_)
    · replace h := (if_neg c15).symm.trans h
      refine j_sub [3, 4, 2, 1, 0] rfl ?_
      exact t_Mo_takeLayer_b65 C hr hA h
    · replace h := (if_pos c15).symm.trans h
      refine j_iload C 0 d_Mo_takeLayer_49 rfl ?_
      refine j_aload_n C 3 d_Mo_takeLayer_51 rfl ?_
      refine j_iload_n C 4 d_Mo_takeLayer_52 rfl ?_
      obtain ⟨r12, hr12, h⟩ := bd_ok h
      refine j_PV C [.int p1] 0 rfl rfl (c_Mo_plainSize l D cI cR cZ a r5.2 p1 hr12) (cw_Mo_156 C ⟨Nat.le_of_ble_eq_true rfl, Nat.le_of_ble_eq_true rfl⟩) [0, 1, 2, 3, 4, 5, 6, 7, 8, 9, 10] rfl rfl rfl (Nat.le_of_ble_eq_true rfl) d_Mo_takeLayer_53 (by decide) ?_
      refine j_icmp_eq C 65 d_Mo_takeLayer_56 (by decide) (fun c14 => ?_) (fun c14 => ?_)
      · replace h := (if_pos c14).symm.trans h
        refine j_sub [3, 4, 2, 1, 0] rfl ?_
        exact t_Mo_takeLayer_b65 C hr hA h
      · replace h := (if_neg c14).symm.trans h
        refine j_aload_n C 3 d_Mo_takeLayer_59 rfl ?_
        refine j_iload_n C 1 d_Mo_takeLayer_60 rfl ?_
        obtain ⟨r13, hr13, h⟩ := bd_ok h
        refine j_VV C [.int (r3.2.1 11)] hA 0 rfl rfl (c_Mo_refuse l D cI cR cZ a r5.2 (r3.2.1 11) hr13) (cw_Mo_175 C ⟨Nat.le_of_ble_eq_true rfl, Nat.le_of_ble_eq_true rfl⟩) [0, 1, 2, 3, 4, 5, 6, 7, 8, 9, 10] [] rfl rfl (by decide) (by decide) (by decide) rfl rfl (Nat.le_of_ble_eq_true rfl) d_Mo_takeLayer_61 (by decide) (fun _ => ?_)
        refine j_ws (ws' := wMo cI cZ a r13) rfl ?_
        obtain rfl := Option.some.inj h
        exact j_vret C hr d_Mo_takeLayer_64 0 rfl
  · replace h := (if_neg c16).symm.trans h
    obtain rfl := Option.some.inj h
    exact j_vret C hr d_Mo_takeLayer_44 0 rfl
def Mo_takeStripe_l6 (v1 : Int32) (v2 : Int32) : Nat → Int32 → LyS → Option (Nat × LyS)
  | 0, _, _ => none
  | k + 1, v3, S =>
  (if 4 ≤ v3 then some (0, S)
  else gd v3 4 (zb 0 (Mo_takeStripe_l6 v1 v2 k (v3 + 1) (Ls S 8 v3.toNatClampNeg 0))))
def Mo_takeStripe_l26 (fu : Nat) : Nat → Int32 → Int32 → Int32 → LyS → Option (Nat × Int32 × LyS)
  | 0, _, _, _, _ => none
  | k + 1, v1, v2, v3, S =>
  (if v3 = 0 then some (0, v2, S)
  else (if 0 ≤ (S.1 12) then some (0, v2, S)
  else (Mo_take S).bind fun r5 =>
  (if (r5.2.1 12) < 0 then gd 0 4 ((if (r5.2.2 8 ((0 : Int32).toNatClampNeg)) = 0 then gd 2 4 ((if (r5.2.2 8 ((2 : Int32).toNatClampNeg)) = 0 then some ((0 : Int32))
  else some ((1 : Int32))))
  else some ((1 : Int32))).bind fun r7 =>
  (if r5.1 = 175 then gd 1 4 ((if (r5.2.2 8 ((1 : Int32).toNatClampNeg)) = 0 then (if r7 = 0 then (Mo_refuse r5.2 ((r5.2.1 11) - 1)).bind fun r31 =>
  Mo_takeStripe_l26 fu k v1 v2 0 r31
  else Mo_takeStripe_l26 fu k v1 v2 0 r5.2)
  else gd 2 4 ((if (r5.2.2 8 ((2 : Int32).toNatClampNeg)) = 0 then (Mo_refuse r5.2 ((r5.2.1 11) - 1)).bind fun r34 =>
  Mo_takeStripe_l26 fu k v1 v2 0 r34
  else (if r7 = 0 then (Mo_refuse r5.2 ((r5.2.1 11) - 1)).bind fun r35 =>
  Mo_takeStripe_l26 fu k v1 v2 0 r35
  else Mo_takeStripe_l26 fu k v1 v2 0 r5.2)))))
  else (if (r5.1 - 160) < 0 then (Mo_refuse r5.2 ((r5.2.1 11) - 1)).bind fun r10 =>
  Mo_takeStripe_l26 fu k v1 v2 v3 r10
  else (if 3 < (r5.1 - 160) then (Mo_refuse r5.2 ((r5.2.1 11) - 1)).bind fun r11 =>
  Mo_takeStripe_l26 fu k v1 v2 v3 r11
  else (if (r5.1 - 160) ≤ v1 then (Mo_refuse r5.2 ((r5.2.1 11) - 1)).bind fun r12 =>
  Mo_takeStripe_l26 fu k v1 v2 v3 r12
  else (if (r5.1 - 160) = 2 then gd 1 4 ((if (r5.2.2 8 ((1 : Int32).toNatClampNeg)) = 0 then (Mo_refuse r5.2 ((r5.2.1 11) - 1)).bind fun r19 =>
  Mo_takeStripe_l26 fu k v1 v2 v3 r19
  else (if (r5.1 - 160) = 3 then (if r7 = 0 then (Mo_refuse r5.2 ((r5.2.1 11) - 1)).bind fun r22 =>
  Mo_takeStripe_l26 fu k v1 v2 v3 r22
  else (Mo_takeLayer fu r5.2 (r5.1 - 160)).bind fun r21 =>
  Mo_takeStripe_l26 fu k (r5.1 - 160) (v2 + 1) v3 r21)
  else (Mo_takeLayer fu r5.2 (r5.1 - 160)).bind fun r20 =>
  Mo_takeStripe_l26 fu k (r5.1 - 160) (v2 + 1) v3 r20)))
  else (if (r5.1 - 160) = 3 then (if r7 = 0 then (Mo_refuse r5.2 ((r5.2.1 11) - 1)).bind fun r15 =>
  Mo_takeStripe_l26 fu k v1 v2 v3 r15
  else (Mo_takeLayer fu r5.2 (r5.1 - 160)).bind fun r14 =>
  Mo_takeStripe_l26 fu k (r5.1 - 160) (v2 + 1) v3 r14)
  else (Mo_takeLayer fu r5.2 (r5.1 - 160)).bind fun r13 =>
  Mo_takeStripe_l26 fu k (r5.1 - 160) (v2 + 1) v3 r13)))))))
  else some (1, v2, r5.2))))
def Mo_takeStripe (fu : Nat) (S : LyS) : Option (Int32 × LyS) :=
  (Mo_takeStripe_l6 ((-1)) 0 fu 0 S).bind fun r4 =>
  (Mo_takeStripe_l26 fu fu ((-1)) 0 1 r4.2).bind fun r44 =>
  (if r44.1 = 0 then some (r44.2.1, r44.2.2)
  else some (r44.2.1, r44.2.2))
set_option maxRecDepth 100000 in
set_option maxHeartbeats 4000000 in
theorem t_Mo_takeStripe_l6 {p : Program} {l : Launch} {e : Env} {s : State} {m : MethodId} {args : Array Value} {below : List Frame} {meth : Method} {c : Code} {D : va_G} {cI cR cZ : ClassId} {A : Nat → Prop} {Q : State → Prop} (C : Cx p s m args meth c D (tyG cI cR cZ) b_Mo_takeStripe 7 "MaskLayersModel") (hA : ∀ q : Nat, s.heap.size ≤ q → A q) {a : (Nat → Nat)} {v1 : Int32} {v2 : Int32} {out : Nat × LyS} : ∀ (k : Nat) (v3 : Int32) (S : LyS), Mo_takeStripe_l6 v1 v2 k v3 S = some out → (out.1 = 0 → J p l e rm_Mo_takeStripe s m args below meth c D A (va_D A) 7 Q 0 0 (wMo cI cZ a out.2) [(0, .ref (a 0)), (1, .int v1), (2, .int v2)] [] 24) → J p l e rm_Mo_takeStripe s m args below meth c D A (va_D A) 7 Q 0 0 (wMo cI cZ a S) [(0, .ref (a 0)), (1, .int v1), (2, .int v2), (3, .int v3)] [] 6 := by
  intro k
  induction k with
  | zero => intro v3 S h; cases (show none = some out from h)
  | succ k ih =>
    intro v3 S h x0
    rw [Mo_takeStripe_l6] at h
    refine j_iload_n C 3 d_Mo_takeStripe_6 rfl ?_
    refine j_iconst C (v := 4) d_Mo_takeStripe_7 (by decide) ?_
    refine j_icmp_ge C 24 d_Mo_takeStripe_8 (by decide) (fun c3 => ?_) (fun c3 => ?_)
    · replace h := (if_pos c3).symm.trans h
      obtain rfl := Option.some.inj h
      refine j_sub [0, 1, 2] rfl ?_
      exact x0 rfl
    · replace h := (if_neg c3).symm.trans h
      refine j_aload_n C 0 d_Mo_takeStripe_11 rfl ?_
      refine gf_Mo_39 C 0 (v := .ref (a 9)) mo_h rfl d_Mo_takeStripe_12 ?_
      refine j_iload_n C 3 d_Mo_takeStripe_15 rfl ?_
      refine j_iconst C (v := 0) d_Mo_takeStripe_16 (by decide) ?_
      obtain ⟨b1, h⟩ := gd_ok h
      obtain ⟨b2, h⟩ := zb_ok h
      refine j_zast C (9) (wMo cI cZ a (Ls S 8 v3.toNatClampNeg 0)) (t0 := 1) mo_g8 mo_s8 rfl b1 b2 d_Mo_takeStripe_17 ?_
      refine j_iinc C [(3, .int (v3 + 1)), (0, .ref (a 0)), (1, .int v1), (2, .int v2)] 3 (v3 + 1) d_Mo_takeStripe_18 rfl rfl (by decide) rfl ?_
      refine j_goto C 6 d_Mo_takeStripe_21 (by decide) ?_
      refine j_sub [1, 2, 3, 0] rfl ?_
      exact ih (v3 + 1) (Ls S 8 v3.toNatClampNeg 0) h x0
set_option maxRecDepth 100000 in
set_option maxHeartbeats 4000000 in
theorem t_Mo_takeStripe_l26 {p : Program} {l : Launch} {e : Env} {s : State} {m : MethodId} {args : Array Value} {below : List Frame} {meth : Method} {c : Code} {D : va_G} {cI cR cZ : ClassId} {A : Nat → Prop} {Q : State → Prop} (C : Cx p s m args meth c D (tyG cI cR cZ) b_Mo_takeStripe 7 "MaskLayersModel") (hA : ∀ q : Nat, s.heap.size ≤ q → A q) {a : (Nat → Nat)} {fu : Nat} {out : Nat × Int32 × LyS} : ∀ (k : Nat) (v1 : Int32) (v2 : Int32) (v3 : Int32) (S : LyS), Mo_takeStripe_l26 fu k v1 v2 v3 S = some out → (out.1 = 0 → J p l e rm_Mo_takeStripe s m args below meth c D A (va_D A) 7 Q 0 0 (wMo cI cZ a out.2.2) [(2, .int out.2.1)] [] 202) → (out.1 = 1 → J p l e rm_Mo_takeStripe s m args below meth c D A (va_D A) 7 Q 0 0 (wMo cI cZ a out.2.2) [(2, .int out.2.1)] [] 50) → J p l e rm_Mo_takeStripe s m args below meth c D A (va_D A) 7 Q 0 0 (wMo cI cZ a S) [(0, .ref (a 0)), (1, .int v1), (2, .int v2), (3, .int v3)] [] 26 := by
  intro k
  induction k with
  | zero => intro v1 v2 v3 S h; cases (show none = some out from h)
  | succ k ih =>
    intro v1 v2 v3 S h x0 x1
    rw [Mo_takeStripe_l26] at h
    refine j_iload_n C 3 d_Mo_takeStripe_26 rfl ?_
    refine j_if_eq C 202 d_Mo_takeStripe_27 (by decide) (fun c43 => ?_) (fun c43 => ?_)
    · replace h := (if_pos c43).symm.trans h
      obtain rfl := Option.some.inj h
      refine j_sub [2] rfl ?_
      exact x0 rfl
    · replace h := (if_neg c43).symm.trans h
      refine j_aload_n C 0 d_Mo_takeStripe_30 rfl ?_
      refine gf_Mo_169 C 0 (v := .int (S.1 12)) mo_h rfl d_Mo_takeStripe_31 ?_
      refine j_if_ge C 202 d_Mo_takeStripe_34 (by decide) (fun c42 => ?_) (fun c42 => ?_)
      · replace h := (if_pos c42).symm.trans h
        obtain rfl := Option.some.inj h
        refine j_sub [2] rfl ?_
        exact x0 rfl
      · replace h := (if_neg c42).symm.trans h
        refine j_aload_n C 0 d_Mo_takeStripe_37 rfl ?_
        obtain ⟨r5, hr5, h⟩ := bd_ok h
        refine j_IV C [] hA 0 rfl rfl (c_Mo_take l D cI cR cZ a S hr5) (cw_Mo_178 C ⟨Nat.le_of_ble_eq_true rfl, Nat.le_of_ble_eq_true rfl⟩) [0, 1, 2, 3, 4, 5, 6, 7, 8, 9, 10] [] rfl rfl (by decide) (by decide) (by decide) rfl rfl (Nat.le_of_ble_eq_true rfl) d_Mo_takeStripe_38 (by decide) (fun _ => ?_)
        refine j_ws (ws' := wMo cI cZ a r5.2) rfl ?_
        refine j_istore C [(4, .int r5.1), (0, .ref (a 0)), (1, .int v1), (2, .int v2), (3, .int v3)] d_Mo_takeStripe_41 (by decide) rfl ?_
        refine j_aload_n C 1 d_Mo_takeStripe_43 rfl ?_
        refine gf_Mo_169 C 0 (v := .int (r5.2.1 12)) mo_h rfl d_Mo_takeStripe_44 ?_
        refine j_if_lt C 52 d_Mo_takeStripe_47 (by decide) (fun c41 => ?_) (fun c41 => ?_)
        · replace h := (if_pos c41).symm.trans h
          refine j_iload C 0 d_Mo_takeStripe_52 rfl ?_
          refine j_sipush C (v := 160) d_Mo_takeStripe_54 (by decide) ?_
          refine j_isub C d_Mo_takeStripe_57 ?_
          refine j_istore C [(5, .int (r5.1 - 160)), (4, .int r5.1), (0, .ref (a 0)), (1, .int v1), (2, .int v2), (3, .int v3)] d_Mo_takeStripe_58 (by decide) rfl ?_
          refine j_aload_n C 2 d_Mo_takeStripe_60 rfl ?_
          refine gf_Mo_39 C 0 (v := .ref (a 9)) mo_h rfl d_Mo_takeStripe_61 ?_
          refine j_iconst C (v := 0) d_Mo_takeStripe_64 (by decide) ?_
          obtain ⟨b6, h⟩ := gd_ok h
          refine j_zald C (9) (t0 := 1) mo_g8 rfl b6 d_Mo_takeStripe_65 ?_
          obtain ⟨r7, hr7, gr7⟩ := bd_ok h
          refine j_let (ws' := wMo cI cZ a r5.2) (lv' := [(0, .ref (a 0)), (1, .int v1), (2, .int v2), (3, .int v3), (4, .int r5.1), (5, .int (r5.1 - 160))]) (st' := [.int r7]) (pc' := 83) ?_ (fun Kr7 => ?_)
          · replace h := gr7
            refine j_istore C [(6, .int r7), (0, .ref (a 0)), (1, .int v1), (2, .int v2), (3, .int v3), (4, .int r5.1), (5, .int (r5.1 - 160))] d_Mo_takeStripe_83 (by decide) rfl ?_
            refine j_iload C 5 d_Mo_takeStripe_85 rfl ?_
            refine j_sipush C (v := 175) d_Mo_takeStripe_87 (by decide) ?_
            refine j_icmp_ne C 131 d_Mo_takeStripe_90 (by decide) (fun c39 => ?_) (fun c39 => ?_)
            · replace h := (if_neg c39).symm.trans h
              refine j_iload C 6 d_Mo_takeStripe_131 rfl ?_
              refine j_if_lt C 174 d_Mo_takeStripe_133 (by decide) (fun c29 => ?_) (fun c29 => ?_)
              · replace h := (if_pos c29).symm.trans h
                refine j_aload_n C 1 d_Mo_takeStripe_174 rfl ?_
                refine j_aload_n C 1 d_Mo_takeStripe_175 rfl ?_
                refine gf_Mo_172 C 0 (v := .int (r5.2.1 11)) mo_h rfl d_Mo_takeStripe_176 ?_
                refine j_iconst C (v := 1) d_Mo_takeStripe_179 (by decide) ?_
                refine j_isub C d_Mo_takeStripe_180 ?_
                obtain ⟨r10, hr10, h⟩ := bd_ok h
                refine j_VV C [.int ((r5.2.1 11) - 1)] hA 0 rfl rfl (c_Mo_refuse l D cI cR cZ a r5.2 ((r5.2.1 11) - 1) hr10) (cw_Mo_175 C ⟨Nat.le_of_ble_eq_true rfl, Nat.le_of_ble_eq_true rfl⟩) [0, 1, 2, 3, 4, 5, 6, 7, 8, 9, 10] [] rfl rfl (by decide) (by decide) (by decide) rfl rfl (Nat.le_of_ble_eq_true rfl) d_Mo_takeStripe_181 (by decide) (fun _ => ?_)
                refine j_ws (ws' := wMo cI cZ a r10) rfl ?_
                refine j_goto C 199 d_Mo_takeStripe_184 (by decide) ?_
                refine j_goto C 26 d_Mo_takeStripe_199 (by decide) ?_
                refine j_sub [1, 2, 3, 4] rfl ?_
                exact ih v1 v2 v3 r10 h x0 x1
              · replace h := (if_neg c29).symm.trans h
                refine j_iload C 6 d_Mo_takeStripe_136 rfl ?_
                refine j_iconst C (v := 3) d_Mo_takeStripe_138 (by decide) ?_
                refine j_icmp_gt C 174 d_Mo_takeStripe_139 (by decide) (fun c28 => ?_) (fun c28 => ?_)
                · replace h := (if_pos c28).symm.trans h
                  refine j_aload_n C 1 d_Mo_takeStripe_174 rfl ?_
                  refine j_aload_n C 1 d_Mo_takeStripe_175 rfl ?_
                  refine gf_Mo_172 C 0 (v := .int (r5.2.1 11)) mo_h rfl d_Mo_takeStripe_176 ?_
                  refine j_iconst C (v := 1) d_Mo_takeStripe_179 (by decide) ?_
                  refine j_isub C d_Mo_takeStripe_180 ?_
                  obtain ⟨r11, hr11, h⟩ := bd_ok h
                  refine j_VV C [.int ((r5.2.1 11) - 1)] hA 0 rfl rfl (c_Mo_refuse l D cI cR cZ a r5.2 ((r5.2.1 11) - 1) hr11) (cw_Mo_175 C ⟨Nat.le_of_ble_eq_true rfl, Nat.le_of_ble_eq_true rfl⟩) [0, 1, 2, 3, 4, 5, 6, 7, 8, 9, 10] [] rfl rfl (by decide) (by decide) (by decide) rfl rfl (Nat.le_of_ble_eq_true rfl) d_Mo_takeStripe_181 (by decide) (fun _ => ?_)
                  refine j_ws (ws' := wMo cI cZ a r11) rfl ?_
                  refine j_goto C 199 d_Mo_takeStripe_184 (by decide) ?_
                  refine j_goto C 26 d_Mo_takeStripe_199 (by decide) ?_
                  refine j_sub [1, 2, 3, 4] rfl ?_
                  exact ih v1 v2 v3 r11 h x0 x1
                · replace h := (if_neg c28).symm.trans h
                  refine j_iload C 6 d_Mo_takeStripe_142 rfl ?_
                  refine j_iload_n C 2 d_Mo_takeStripe_144 rfl ?_
                  refine j_icmp_le C 174 d_Mo_takeStripe_145 (by decide) (fun c27 => ?_) (fun c27 => ?_)
                  · replace h := (if_pos c27).symm.trans h
                    refine j_aload_n C 1 d_Mo_takeStripe_174 rfl ?_
                    refine j_aload_n C 1 d_Mo_takeStripe_175 rfl ?_
                    refine gf_Mo_172 C 0 (v := .int (r5.2.1 11)) mo_h rfl d_Mo_takeStripe_176 ?_
                    refine j_iconst C (v := 1) d_Mo_takeStripe_179 (by decide) ?_
                    refine j_isub C d_Mo_takeStripe_180 ?_
                    obtain ⟨r12, hr12, h⟩ := bd_ok h
                    refine j_VV C [.int ((r5.2.1 11) - 1)] hA 0 rfl rfl (c_Mo_refuse l D cI cR cZ a r5.2 ((r5.2.1 11) - 1) hr12) (cw_Mo_175 C ⟨Nat.le_of_ble_eq_true rfl, Nat.le_of_ble_eq_true rfl⟩) [0, 1, 2, 3, 4, 5, 6, 7, 8, 9, 10] [] rfl rfl (by decide) (by decide) (by decide) rfl rfl (Nat.le_of_ble_eq_true rfl) d_Mo_takeStripe_181 (by decide) (fun _ => ?_)
                    refine j_ws (ws' := wMo cI cZ a r12) rfl ?_
                    refine j_goto C 199 d_Mo_takeStripe_184 (by decide) ?_
                    refine j_goto C 26 d_Mo_takeStripe_199 (by decide) ?_
                    refine j_sub [1, 2, 3, 4] rfl ?_
                    exact ih v1 v2 v3 r12 h x0 x1
                  · replace h := (if_neg c27).symm.trans h
                    refine j_iload C 6 d_Mo_takeStripe_148 rfl ?_
                    refine j_iconst C (v := 2) d_Mo_takeStripe_150 (by decide) ?_
                    refine j_icmp_ne C 163 d_Mo_takeStripe_151 (by decide) (fun c26 => ?_) (fun c26 => ?_)
                    · replace h := (if_neg c26).symm.trans h
                      refine j_iload C 6 d_Mo_takeStripe_163 rfl ?_
                      refine j_iconst C (v := 3) d_Mo_takeStripe_165 (by decide) ?_
                      refine j_icmp_ne C 187 d_Mo_takeStripe_166 (by decide) (fun c17 => ?_) (fun c17 => ?_)
                      · replace h := (if_neg c17).symm.trans h
                        refine j_aload_n C 1 d_Mo_takeStripe_187 rfl ?_
                        refine j_iload C 6 d_Mo_takeStripe_188 rfl ?_
                        obtain ⟨r13, hr13, h⟩ := bd_ok h
                        refine j_VV C [.int (r5.1 - 160)] hA 0 rfl rfl (c_Mo_takeLayer l D cI cR cZ fu a r5.2 (r5.1 - 160) hr13) (cw_Mo_194 C ⟨Nat.le_of_ble_eq_true rfl, Nat.le_of_ble_eq_true rfl⟩) [0, 1, 2, 3, 4, 5, 6, 7, 8, 9, 10] [] rfl rfl (by decide) (by decide) (by decide) rfl rfl (Nat.le_of_ble_eq_true rfl) d_Mo_takeStripe_190 (by decide) (fun _ => ?_)
                        refine j_ws (ws' := wMo cI cZ a r13) rfl ?_
                        refine j_iload C 6 d_Mo_takeStripe_193 rfl ?_
                        refine j_istore_n C [(1, .int (r5.1 - 160)), (6, .int r7), (0, .ref (a 0)), (2, .int v2), (3, .int v3), (4, .int r5.1), (5, .int (r5.1 - 160))] d_Mo_takeStripe_195 (by decide) rfl ?_
                        refine j_iinc C [(2, .int (v2 + 1)), (1, .int (r5.1 - 160)), (6, .int r7), (0, .ref (a 0)), (3, .int v3), (4, .int r5.1), (5, .int (r5.1 - 160))] 3 (v2 + 1) d_Mo_takeStripe_196 rfl rfl (by decide) rfl ?_
                        refine j_goto C 26 d_Mo_takeStripe_199 (by decide) ?_
                        refine j_sub [3, 1, 0, 4] rfl ?_
                        exact ih (r5.1 - 160) (v2 + 1) v3 r13 h x0 x1
                      · replace h := (if_pos c17).symm.trans h
                        refine j_iload C 0 d_Mo_takeStripe_169 rfl ?_
                        refine j_if_ne C 187 d_Mo_takeStripe_171 (by decide) (fun c16 => ?_) (fun c16 => ?_)
                        · replace h := (if_neg c16).symm.trans h
                          refine j_aload_n C 1 d_Mo_takeStripe_187 rfl ?_
                          refine j_iload C 6 d_Mo_takeStripe_188 rfl ?_
                          obtain ⟨r14, hr14, h⟩ := bd_ok h
                          refine j_VV C [.int (r5.1 - 160)] hA 0 rfl rfl (c_Mo_takeLayer l D cI cR cZ fu a r5.2 (r5.1 - 160) hr14) (cw_Mo_194 C ⟨Nat.le_of_ble_eq_true rfl, Nat.le_of_ble_eq_true rfl⟩) [0, 1, 2, 3, 4, 5, 6, 7, 8, 9, 10] [] rfl rfl (by decide) (by decide) (by decide) rfl rfl (Nat.le_of_ble_eq_true rfl) d_Mo_takeStripe_190 (by decide) (fun _ => ?_)
                          refine j_ws (ws' := wMo cI cZ a r14) rfl ?_
                          refine j_iload C 6 d_Mo_takeStripe_193 rfl ?_
                          refine j_istore_n C [(1, .int (r5.1 - 160)), (6, .int r7), (0, .ref (a 0)), (2, .int v2), (3, .int v3), (4, .int r5.1), (5, .int (r5.1 - 160))] d_Mo_takeStripe_195 (by decide) rfl ?_
                          refine j_iinc C [(2, .int (v2 + 1)), (1, .int (r5.1 - 160)), (6, .int r7), (0, .ref (a 0)), (3, .int v3), (4, .int r5.1), (5, .int (r5.1 - 160))] 3 (v2 + 1) d_Mo_takeStripe_196 rfl rfl (by decide) rfl ?_
                          refine j_goto C 26 d_Mo_takeStripe_199 (by decide) ?_
                          refine j_sub [3, 1, 0, 4] rfl ?_
                          exact ih (r5.1 - 160) (v2 + 1) v3 r14 h x0 x1
                        · replace h := (if_pos c16).symm.trans h
                          refine j_aload_n C 1 d_Mo_takeStripe_174 rfl ?_
                          refine j_aload_n C 1 d_Mo_takeStripe_175 rfl ?_
                          refine gf_Mo_172 C 0 (v := .int (r5.2.1 11)) mo_h rfl d_Mo_takeStripe_176 ?_
                          refine j_iconst C (v := 1) d_Mo_takeStripe_179 (by decide) ?_
                          refine j_isub C d_Mo_takeStripe_180 ?_
                          obtain ⟨r15, hr15, h⟩ := bd_ok h
                          refine j_VV C [.int ((r5.2.1 11) - 1)] hA 0 rfl rfl (c_Mo_refuse l D cI cR cZ a r5.2 ((r5.2.1 11) - 1) hr15) (cw_Mo_175 C ⟨Nat.le_of_ble_eq_true rfl, Nat.le_of_ble_eq_true rfl⟩) [0, 1, 2, 3, 4, 5, 6, 7, 8, 9, 10] [] rfl rfl (by decide) (by decide) (by decide) rfl rfl (Nat.le_of_ble_eq_true rfl) d_Mo_takeStripe_181 (by decide) (fun _ => ?_)
                          refine j_ws (ws' := wMo cI cZ a r15) rfl ?_
                          refine j_goto C 199 d_Mo_takeStripe_184 (by decide) ?_
                          refine j_goto C 26 d_Mo_takeStripe_199 (by decide) ?_
                          refine j_sub [1, 2, 3, 4] rfl ?_
                          exact ih v1 v2 v3 r15 h x0 x1
                    · replace h := (if_pos c26).symm.trans h
                      refine j_aload_n C 1 d_Mo_takeStripe_154 rfl ?_
                      refine gf_Mo_39 C 0 (v := .ref (a 9)) mo_h rfl d_Mo_takeStripe_155 ?_
                      refine j_iconst C (v := 1) d_Mo_takeStripe_158 (by decide) ?_
                      obtain ⟨b18, h⟩ := gd_ok h
                      refine j_zald C (9) (t0 := 1) mo_g8 rfl b18 d_Mo_takeStripe_159 ?_
                      refine j_if_eq C 174 d_Mo_takeStripe_160 (by decide) (fun c25 => ?_) (fun c25 => ?_)
                      · replace h := (if_pos c25).symm.trans h
                        refine j_aload_n C 1 d_Mo_takeStripe_174 rfl ?_
                        refine j_aload_n C 1 d_Mo_takeStripe_175 rfl ?_
                        refine gf_Mo_172 C 0 (v := .int (r5.2.1 11)) mo_h rfl d_Mo_takeStripe_176 ?_
                        refine j_iconst C (v := 1) d_Mo_takeStripe_179 (by decide) ?_
                        refine j_isub C d_Mo_takeStripe_180 ?_
                        obtain ⟨r19, hr19, h⟩ := bd_ok h
                        refine j_VV C [.int ((r5.2.1 11) - 1)] hA 0 rfl rfl (c_Mo_refuse l D cI cR cZ a r5.2 ((r5.2.1 11) - 1) hr19) (cw_Mo_175 C ⟨Nat.le_of_ble_eq_true rfl, Nat.le_of_ble_eq_true rfl⟩) [0, 1, 2, 3, 4, 5, 6, 7, 8, 9, 10] [] rfl rfl (by decide) (by decide) (by decide) rfl rfl (Nat.le_of_ble_eq_true rfl) d_Mo_takeStripe_181 (by decide) (fun _ => ?_)
                        refine j_ws (ws' := wMo cI cZ a r19) rfl ?_
                        refine j_goto C 199 d_Mo_takeStripe_184 (by decide) ?_
                        refine j_goto C 26 d_Mo_takeStripe_199 (by decide) ?_
                        refine j_sub [1, 2, 3, 4] rfl ?_
                        exact ih v1 v2 v3 r19 h x0 x1
                      · replace h := (if_neg c25).symm.trans h
                        refine j_iload C 6 d_Mo_takeStripe_163 rfl ?_
                        refine j_iconst C (v := 3) d_Mo_takeStripe_165 (by decide) ?_
                        refine j_icmp_ne C 187 d_Mo_takeStripe_166 (by decide) (fun c24 => ?_) (fun c24 => ?_)
                        · replace h := (if_neg c24).symm.trans h
                          refine j_aload_n C 1 d_Mo_takeStripe_187 rfl ?_
                          refine j_iload C 6 d_Mo_takeStripe_188 rfl ?_
                          obtain ⟨r20, hr20, h⟩ := bd_ok h
                          refine j_VV C [.int (r5.1 - 160)] hA 0 rfl rfl (c_Mo_takeLayer l D cI cR cZ fu a r5.2 (r5.1 - 160) hr20) (cw_Mo_194 C ⟨Nat.le_of_ble_eq_true rfl, Nat.le_of_ble_eq_true rfl⟩) [0, 1, 2, 3, 4, 5, 6, 7, 8, 9, 10] [] rfl rfl (by decide) (by decide) (by decide) rfl rfl (Nat.le_of_ble_eq_true rfl) d_Mo_takeStripe_190 (by decide) (fun _ => ?_)
                          refine j_ws (ws' := wMo cI cZ a r20) rfl ?_
                          refine j_iload C 6 d_Mo_takeStripe_193 rfl ?_
                          refine j_istore_n C [(1, .int (r5.1 - 160)), (6, .int r7), (0, .ref (a 0)), (2, .int v2), (3, .int v3), (4, .int r5.1), (5, .int (r5.1 - 160))] d_Mo_takeStripe_195 (by decide) rfl ?_
                          refine j_iinc C [(2, .int (v2 + 1)), (1, .int (r5.1 - 160)), (6, .int r7), (0, .ref (a 0)), (3, .int v3), (4, .int r5.1), (5, .int (r5.1 - 160))] 3 (v2 + 1) d_Mo_takeStripe_196 rfl rfl (by decide) rfl ?_
                          refine j_goto C 26 d_Mo_takeStripe_199 (by decide) ?_
                          refine j_sub [3, 1, 0, 4] rfl ?_
                          exact ih (r5.1 - 160) (v2 + 1) v3 r20 h x0 x1
                        · replace h := (if_pos c24).symm.trans h
                          refine j_iload C 0 d_Mo_takeStripe_169 rfl ?_
                          refine j_if_ne C 187 d_Mo_takeStripe_171 (by decide) (fun c23 => ?_) (fun c23 => ?_)
                          · replace h := (if_neg c23).symm.trans h
                            refine j_aload_n C 1 d_Mo_takeStripe_187 rfl ?_
                            refine j_iload C 6 d_Mo_takeStripe_188 rfl ?_
                            obtain ⟨r21, hr21, h⟩ := bd_ok h
                            refine j_VV C [.int (r5.1 - 160)] hA 0 rfl rfl (c_Mo_takeLayer l D cI cR cZ fu a r5.2 (r5.1 - 160) hr21) (cw_Mo_194 C ⟨Nat.le_of_ble_eq_true rfl, Nat.le_of_ble_eq_true rfl⟩) [0, 1, 2, 3, 4, 5, 6, 7, 8, 9, 10] [] rfl rfl (by decide) (by decide) (by decide) rfl rfl (Nat.le_of_ble_eq_true rfl) d_Mo_takeStripe_190 (by decide) (fun _ => ?_)
                            refine j_ws (ws' := wMo cI cZ a r21) rfl ?_
                            refine j_iload C 6 d_Mo_takeStripe_193 rfl ?_
                            refine j_istore_n C [(1, .int (r5.1 - 160)), (6, .int r7), (0, .ref (a 0)), (2, .int v2), (3, .int v3), (4, .int r5.1), (5, .int (r5.1 - 160))] d_Mo_takeStripe_195 (by decide) rfl ?_
                            refine j_iinc C [(2, .int (v2 + 1)), (1, .int (r5.1 - 160)), (6, .int r7), (0, .ref (a 0)), (3, .int v3), (4, .int r5.1), (5, .int (r5.1 - 160))] 3 (v2 + 1) d_Mo_takeStripe_196 rfl rfl (by decide) rfl ?_
                            refine j_goto C 26 d_Mo_takeStripe_199 (by decide) ?_
                            refine j_sub [3, 1, 0, 4] rfl ?_
                            exact ih (r5.1 - 160) (v2 + 1) v3 r21 h x0 x1
                          · replace h := (if_pos c23).symm.trans h
                            refine j_aload_n C 1 d_Mo_takeStripe_174 rfl ?_
                            refine j_aload_n C 1 d_Mo_takeStripe_175 rfl ?_
                            refine gf_Mo_172 C 0 (v := .int (r5.2.1 11)) mo_h rfl d_Mo_takeStripe_176 ?_
                            refine j_iconst C (v := 1) d_Mo_takeStripe_179 (by decide) ?_
                            refine j_isub C d_Mo_takeStripe_180 ?_
                            obtain ⟨r22, hr22, h⟩ := bd_ok h
                            refine j_VV C [.int ((r5.2.1 11) - 1)] hA 0 rfl rfl (c_Mo_refuse l D cI cR cZ a r5.2 ((r5.2.1 11) - 1) hr22) (cw_Mo_175 C ⟨Nat.le_of_ble_eq_true rfl, Nat.le_of_ble_eq_true rfl⟩) [0, 1, 2, 3, 4, 5, 6, 7, 8, 9, 10] [] rfl rfl (by decide) (by decide) (by decide) rfl rfl (Nat.le_of_ble_eq_true rfl) d_Mo_takeStripe_181 (by decide) (fun _ => ?_)
                            refine j_ws (ws' := wMo cI cZ a r22) rfl ?_
                            refine j_goto C 199 d_Mo_takeStripe_184 (by decide) ?_
                            refine j_goto C 26 d_Mo_takeStripe_199 (by decide) ?_
                            refine j_sub [1, 2, 3, 4] rfl ?_
                            exact ih v1 v2 v3 r22 h x0 x1
            · replace h := (if_pos c39).symm.trans h
              refine j_iconst C (v := 0) d_Mo_takeStripe_93 (by decide) ?_
              refine j_istore_n C [(3, .int 0), (6, .int r7), (0, .ref (a 0)), (1, .int v1), (2, .int v2), (4, .int r5.1), (5, .int (r5.1 - 160))] d_Mo_takeStripe_94 (by decide) rfl ?_
              refine j_aload_n C 2 d_Mo_takeStripe_95 rfl ?_
              refine gf_Mo_39 C 0 (v := .ref (a 9)) mo_h rfl d_Mo_takeStripe_96 ?_
              refine j_iconst C (v := 1) d_Mo_takeStripe_99 (by decide) ?_
              obtain ⟨b30, h⟩ := gd_ok h
              refine j_zald C (9) (t0 := 1) mo_g8 rfl b30 d_Mo_takeStripe_100 ?_
              refine j_if_eq C 113 d_Mo_takeStripe_101 (by decide) (fun c38 => ?_) (fun c38 => ?_)
              · replace h := (if_pos c38).symm.trans h
                refine j_iload C 1 d_Mo_takeStripe_113 rfl ?_
                refine j_if_ne C 199 d_Mo_takeStripe_115 (by decide) (fun c32 => ?_) (fun c32 => ?_)
                · replace h := (if_neg c32).symm.trans h
                  refine j_goto C 26 d_Mo_takeStripe_199 (by decide) ?_
                  refine j_sub [2, 3, 4, 0] rfl ?_
                  exact ih v1 v2 0 r5.2 h x0 x1
                · replace h := (if_pos c32).symm.trans h
                  refine j_aload_n C 2 d_Mo_takeStripe_118 rfl ?_
                  refine j_aload_n C 2 d_Mo_takeStripe_119 rfl ?_
                  refine gf_Mo_172 C 0 (v := .int (r5.2.1 11)) mo_h rfl d_Mo_takeStripe_120 ?_
                  refine j_iconst C (v := 1) d_Mo_takeStripe_123 (by decide) ?_
                  refine j_isub C d_Mo_takeStripe_124 ?_
                  obtain ⟨r31, hr31, h⟩ := bd_ok h
                  refine j_VV C [.int ((r5.2.1 11) - 1)] hA 0 rfl rfl (c_Mo_refuse l D cI cR cZ a r5.2 ((r5.2.1 11) - 1) hr31) (cw_Mo_175 C ⟨Nat.le_of_ble_eq_true rfl, Nat.le_of_ble_eq_true rfl⟩) [0, 1, 2, 3, 4, 5, 6, 7, 8, 9, 10] [] rfl rfl (by decide) (by decide) (by decide) rfl rfl (Nat.le_of_ble_eq_true rfl) d_Mo_takeStripe_125 (by decide) (fun _ => ?_)
                  refine j_ws (ws' := wMo cI cZ a r31) rfl ?_
                  refine j_goto C 199 d_Mo_takeStripe_128 (by decide) ?_
                  refine j_goto C 26 d_Mo_takeStripe_199 (by decide) ?_
                  refine j_sub [2, 3, 4, 0] rfl ?_
                  exact ih v1 v2 0 r31 h x0 x1
              · replace h := (if_neg c38).symm.trans h
                refine j_aload_n C 2 d_Mo_takeStripe_104 rfl ?_
                refine gf_Mo_39 C 0 (v := .ref (a 9)) mo_h rfl d_Mo_takeStripe_105 ?_
                refine j_iconst C (v := 2) d_Mo_takeStripe_108 (by decide) ?_
                obtain ⟨b33, h⟩ := gd_ok h
                refine j_zald C (9) (t0 := 1) mo_g8 rfl b33 d_Mo_takeStripe_109 ?_
                refine j_if_eq C 118 d_Mo_takeStripe_110 (by decide) (fun c37 => ?_) (fun c37 => ?_)
                · replace h := (if_pos c37).symm.trans h
                  refine j_aload_n C 2 d_Mo_takeStripe_118 rfl ?_
                  refine j_aload_n C 2 d_Mo_takeStripe_119 rfl ?_
                  refine gf_Mo_172 C 0 (v := .int (r5.2.1 11)) mo_h rfl d_Mo_takeStripe_120 ?_
                  refine j_iconst C (v := 1) d_Mo_takeStripe_123 (by decide) ?_
                  refine j_isub C d_Mo_takeStripe_124 ?_
                  obtain ⟨r34, hr34, h⟩ := bd_ok h
                  refine j_VV C [.int ((r5.2.1 11) - 1)] hA 0 rfl rfl (c_Mo_refuse l D cI cR cZ a r5.2 ((r5.2.1 11) - 1) hr34) (cw_Mo_175 C ⟨Nat.le_of_ble_eq_true rfl, Nat.le_of_ble_eq_true rfl⟩) [0, 1, 2, 3, 4, 5, 6, 7, 8, 9, 10] [] rfl rfl (by decide) (by decide) (by decide) rfl rfl (Nat.le_of_ble_eq_true rfl) d_Mo_takeStripe_125 (by decide) (fun _ => ?_)
                  refine j_ws (ws' := wMo cI cZ a r34) rfl ?_
                  refine j_goto C 199 d_Mo_takeStripe_128 (by decide) ?_
                  refine j_goto C 26 d_Mo_takeStripe_199 (by decide) ?_
                  refine j_sub [2, 3, 4, 0] rfl ?_
                  exact ih v1 v2 0 r34 h x0 x1
                · replace h := (if_neg c37).symm.trans h
                  refine j_iload C 1 d_Mo_takeStripe_113 rfl ?_
                  refine j_if_ne C 199 d_Mo_takeStripe_115 (by decide) (fun c36 => ?_) (fun c36 => ?_)
                  · replace h := (if_neg c36).symm.trans h
                    refine j_goto C 26 d_Mo_takeStripe_199 (by decide) ?_
                    refine j_sub [2, 3, 4, 0] rfl ?_
                    exact ih v1 v2 0 r5.2 h x0 x1
                  · replace h := (if_pos c36).symm.trans h
                    refine j_aload_n C 2 d_Mo_takeStripe_118 rfl ?_
                    refine j_aload_n C 2 d_Mo_takeStripe_119 rfl ?_
                    refine gf_Mo_172 C 0 (v := .int (r5.2.1 11)) mo_h rfl d_Mo_takeStripe_120 ?_
                    refine j_iconst C (v := 1) d_Mo_takeStripe_123 (by decide) ?_
                    refine j_isub C d_Mo_takeStripe_124 ?_
                    obtain ⟨r35, hr35, h⟩ := bd_ok h
                    refine j_VV C [.int ((r5.2.1 11) - 1)] hA 0 rfl rfl (c_Mo_refuse l D cI cR cZ a r5.2 ((r5.2.1 11) - 1) hr35) (cw_Mo_175 C ⟨Nat.le_of_ble_eq_true rfl, Nat.le_of_ble_eq_true rfl⟩) [0, 1, 2, 3, 4, 5, 6, 7, 8, 9, 10] [] rfl rfl (by decide) (by decide) (by decide) rfl rfl (Nat.le_of_ble_eq_true rfl) d_Mo_takeStripe_125 (by decide) (fun _ => ?_)
                    refine j_ws (ws' := wMo cI cZ a r35) rfl ?_
                    refine j_goto C 199 d_Mo_takeStripe_128 (by decide) ?_
                    refine j_goto C 26 d_Mo_takeStripe_199 (by decide) ?_
                    refine j_sub [2, 3, 4, 0] rfl ?_
                    exact ih v1 v2 0 r35 h x0 x1
          · replace h := hr7
            refine j_if_ne C 78 d_Mo_takeStripe_66 (by decide) (fun c40 => ?_) (fun c40 => ?_)
            · replace h := (if_neg c40).symm.trans h
              refine j_iconst C (v := 1) d_Mo_takeStripe_78 (by decide) ?_
              refine j_goto C 83 d_Mo_takeStripe_79 (by decide) ?_
              obtain rfl := Option.some.inj h
              refine j_sub [2, 3, 4, 5, 1, 0] rfl ?_
              exact Kr7
            · replace h := (if_pos c40).symm.trans h
              refine j_aload_n C 2 d_Mo_takeStripe_69 rfl ?_
              refine gf_Mo_39 C 0 (v := .ref (a 9)) mo_h rfl d_Mo_takeStripe_70 ?_
              refine j_iconst C (v := 2) d_Mo_takeStripe_73 (by decide) ?_
              obtain ⟨b8, h⟩ := gd_ok h
              refine j_zald C (9) (t0 := 1) mo_g8 rfl b8 d_Mo_takeStripe_74 ?_
              refine j_if_eq C 82 d_Mo_takeStripe_75 (by decide) (fun c9 => ?_) (fun c9 => ?_)
              · replace h := (if_pos c9).symm.trans h
                refine j_iconst C (v := 0) d_Mo_takeStripe_82 (by decide) ?_
                obtain rfl := Option.some.inj h
                refine j_sub [2, 3, 4, 5, 1, 0] rfl ?_
                exact Kr7
              · replace h := (if_neg c9).symm.trans h
                refine j_iconst C (v := 1) d_Mo_takeStripe_78 (by decide) ?_
                refine j_goto C 83 d_Mo_takeStripe_79 (by decide) ?_
                obtain rfl := Option.some.inj h
                refine j_sub [2, 3, 4, 5, 1, 0] rfl ?_
                exact Kr7
        · replace h := (if_neg c41).symm.trans h
          obtain rfl := Option.some.inj h
          refine j_sub [3] rfl ?_
          exact x1 rfl
set_option maxRecDepth 100000 in
set_option maxHeartbeats 4000000 in
theorem c_Mo_takeStripe (l : Launch) (D : va_G) (cI cR cZ : ClassId) (fu : Nat) (a : (Nat → Nat)) (S : LyS) {res : (Int32 × LyS)} (h : Mo_takeStripe fu S = some res) (sz : Nat) : Met l y_Mo_takeStripe (Cond.code y_Mo_takeStripe b_Mo_takeStripe 7 (some .int) :: BIG) rm_Mo_takeStripe (PcI [.ref (a 0)] D (tyG cI cR cZ) (wMo cI cZ a S) sz) (QcI D res.1 (fun _ : Nat => wMo cI cZ a res.2) (va_A (wMo cI cZ a S) sz)) 0 0 (va_A (wMo cI cZ a S) sz) := by
  refine met_I (by decide) (Nat.le_of_ble_eq_true rfl) (fun p e s m args below meth c A hA C hr => ?_)
  have C : Cx p s m args meth c D (tyG cI cR cZ) b_Mo_takeStripe 7 "MaskLayersModel" := C
  have hr : meth.sig.returnType = some .int := hr
  show J p l e rm_Mo_takeStripe s m args below meth c D A (va_D A) 7 (MQ below (QcI D res.1 (fun _ : Nat => wMo cI cZ a res.2) A) args s 0 0 A) 0 0 (wMo cI cZ a S) [(0, .ref (a 0))] [] 0
  unfold Mo_takeStripe at h
  refine j_iconst C (v := (-1)) d_Mo_takeStripe_0 (by decide) ?_
  refine j_istore_n C [(1, .int ((-1))), (0, .ref (a 0))] d_Mo_takeStripe_1 (by decide) rfl ?_
  refine j_iconst C (v := 0) d_Mo_takeStripe_2 (by decide) ?_
  refine j_istore_n C [(2, .int 0), (1, .int ((-1))), (0, .ref (a 0))] d_Mo_takeStripe_3 (by decide) rfl ?_
  refine j_iconst C (v := 0) d_Mo_takeStripe_4 (by decide) ?_
  refine j_istore_n C [(3, .int 0), (2, .int 0), (1, .int ((-1))), (0, .ref (a 0))] d_Mo_takeStripe_5 (by decide) rfl ?_
  obtain ⟨r4, hr4, h⟩ := bd_ok h
  refine j_sub [3, 2, 1, 0] rfl ?_
  refine t_Mo_takeStripe_l6 C hA fu 0 S hr4 (fun e47 => ?_)
  · refine j_iconst C (v := 1) d_Mo_takeStripe_24 (by decide) ?_
    refine j_istore_n C [(3, .int 1), (0, .ref (a 0)), (1, .int ((-1))), (2, .int 0)] d_Mo_takeStripe_25 (by decide) rfl ?_
    obtain ⟨r44, hr44, h⟩ := bd_ok h
    refine j_sub [1, 2, 3, 0] rfl ?_
    refine t_Mo_takeStripe_l26 C hA fu ((-1)) 0 1 r4.2 hr44 (fun e45 => ?_) (fun e46 => ?_)
    · replace h := (if_pos e45).symm.trans h
      refine j_iload_n C 0 d_Mo_takeStripe_202 rfl ?_
      obtain rfl := Option.some.inj h
      exact j_iret C hr d_Mo_takeStripe_203 0 rfl
    · replace h := (if_neg (by rw [e46]; decide)).symm.trans h
      refine j_iload_n C 0 d_Mo_takeStripe_50 rfl ?_
      obtain rfl := Option.some.inj h
      exact j_iret C hr d_Mo_takeStripe_51 0 rfl
def Mo_joinStripe_l2 (fu : Nat) : Nat → Int32 → LyS → Option (Nat × LyS)
  | 0, _, _ => none
  | k + 1, v1, S =>
  (if ((S.1 15) * (S.1 17)) ≤ v1 then some (0, S)
  else dz (S.1 15) (dz (S.1 15) (gd 1 4 ((if (S.2 8 ((1 : Int32).toNatClampNeg)) = 0 then some ((0 : Int32))
  else gd ((576 + (24 * ((S.1 16) + (v1 / (S.1 15))))) + (v1 - v1 / (S.1 15) * (S.1 15))) 2304 ((if (S.2 7 (((576 + (24 * ((S.1 16) + (v1 / (S.1 15))))) + (v1 - v1 / (S.1 15) * (S.1 15))).toNatClampNeg)) = 1 then some ((2 : Int32))
  else some ((0 : Int32))))).bind fun r4 =>
  gd r4 4 ((if (S.2 8 r4.toNatClampNeg) = 0 then some ((0 : Int32))
  else (Mo_placeAt S r4 (v1 - v1 / (S.1 15) * (S.1 15)) ((S.1 16) + (v1 / (S.1 15)))).bind fun r9 =>
  gd r9 2304 (some (S.2 7 r9.toNatClampNeg))).bind fun r8 =>
  gd 3 4 ((if (S.2 8 ((3 : Int32).toNatClampNeg)) = 0 then gd ((24 * ((S.1 16) + (v1 / (S.1 15)))) + (v1 - v1 / (S.1 15) * (S.1 15))) 576 (Mo_joinStripe_l2 fu k (v1 + 1) (Ls S 9 (((24 * ((S.1 16) + (v1 / (S.1 15)))) + (v1 - v1 / (S.1 15) * (S.1 15))).toNatClampNeg) r8))
  else gd ((1728 + (24 * ((S.1 16) + (v1 / (S.1 15))))) + (v1 - v1 / (S.1 15) * (S.1 15))) 2304 ((Mo_together fu r8 (S.2 7 (((1728 + (24 * ((S.1 16) + (v1 / (S.1 15))))) + (v1 - v1 / (S.1 15) * (S.1 15))).toNatClampNeg))).bind fun r14 =>
  gd ((24 * ((S.1 16) + (v1 / (S.1 15)))) + (v1 - v1 / (S.1 15) * (S.1 15))) 576 (Mo_joinStripe_l2 fu k (v1 + 1) (Ls S 9 (((24 * ((S.1 16) + (v1 / (S.1 15)))) + (v1 - v1 / (S.1 15) * (S.1 15))).toNatClampNeg) r14))))))))))
def Mo_joinStripe (fu : Nat) (S : LyS) : Option (LyS) :=
  (Mo_joinStripe_l2 fu fu 0 S).bind fun r20 =>
  some (r20.2)
set_option maxRecDepth 100000 in
set_option maxHeartbeats 4000000 in
theorem t_Mo_joinStripe_l2 {p : Program} {l : Launch} {e : Env} {s : State} {m : MethodId} {args : Array Value} {below : List Frame} {meth : Method} {c : Code} {D : va_G} {cI cR cZ : ClassId} {A : Nat → Prop} {Q : State → Prop} (C : Cx p s m args meth c D (tyG cI cR cZ) b_Mo_joinStripe 6 "MaskLayersModel") (hA : ∀ q : Nat, s.heap.size ≤ q → A q) {a : (Nat → Nat)} {fu : Nat} {out : Nat × LyS} : ∀ (k : Nat) (v1 : Int32) (S : LyS), Mo_joinStripe_l2 fu k v1 S = some out → (out.1 = 0 → J p l e rm_Mo_joinStripe s m args below meth c D A (va_D A) 6 Q 0 0 (wMo cI cZ a out.2) [] [] 149) → J p l e rm_Mo_joinStripe s m args below meth c D A (va_D A) 6 Q 0 0 (wMo cI cZ a S) [(0, .ref (a 0)), (1, .int v1)] [] 2 := by
  intro k
  induction k with
  | zero => intro v1 S h; cases (show none = some out from h)
  | succ k ih =>
    intro v1 S h x0
    rw [Mo_joinStripe_l2] at h
    refine j_iload_n C 1 d_Mo_joinStripe_2 rfl ?_
    refine j_aload_n C 0 d_Mo_joinStripe_3 rfl ?_
    refine gf_Mo_66 C 0 (v := .int (S.1 15)) mo_h rfl d_Mo_joinStripe_4 ?_
    refine j_aload_n C 0 d_Mo_joinStripe_7 rfl ?_
    refine gf_Mo_72 C 0 (v := .int (S.1 17)) mo_h rfl d_Mo_joinStripe_8 ?_
    refine j_imul C d_Mo_joinStripe_11 ?_
    refine j_icmp_ge C 149 d_Mo_joinStripe_12 (by decide) (fun c19 => ?_) (fun c19 => ?_)
    · replace h := (if_pos c19).symm.trans h
      obtain rfl := Option.some.inj h
      refine j_sub [] rfl ?_
      exact x0 rfl
    · replace h := (if_neg c19).symm.trans h
      refine j_iload_n C 1 d_Mo_joinStripe_15 rfl ?_
      refine j_aload_n C 0 d_Mo_joinStripe_16 rfl ?_
      refine gf_Mo_66 C 0 (v := .int (S.1 15)) mo_h rfl d_Mo_joinStripe_17 ?_
      obtain ⟨b1, h⟩ := dz_ok h
      refine j_irem C d_Mo_joinStripe_20 b1 ?_
      refine j_istore_n C [(2, .int (v1 - v1 / (S.1 15) * (S.1 15))), (0, .ref (a 0)), (1, .int v1)] d_Mo_joinStripe_21 (by decide) rfl ?_
      refine j_aload_n C 1 d_Mo_joinStripe_22 rfl ?_
      refine gf_Mo_69 C 0 (v := .int (S.1 16)) mo_h rfl d_Mo_joinStripe_23 ?_
      refine j_iload_n C 2 d_Mo_joinStripe_26 rfl ?_
      refine j_aload_n C 1 d_Mo_joinStripe_27 rfl ?_
      refine gf_Mo_66 C 0 (v := .int (S.1 15)) mo_h rfl d_Mo_joinStripe_28 ?_
      obtain ⟨b2, h⟩ := dz_ok h
      refine j_idiv C d_Mo_joinStripe_31 b2 ?_
      refine j_iadd C d_Mo_joinStripe_32 ?_
      refine j_istore_n C [(3, .int ((S.1 16) + (v1 / (S.1 15)))), (2, .int (v1 - v1 / (S.1 15) * (S.1 15))), (0, .ref (a 0)), (1, .int v1)] d_Mo_joinStripe_33 (by decide) rfl ?_
      refine j_aload_n C 2 d_Mo_joinStripe_34 rfl ?_
      refine gf_Mo_39 C 0 (v := .ref (a 9)) mo_h rfl d_Mo_joinStripe_35 ?_
      refine j_iconst C (v := 1) d_Mo_joinStripe_38 (by decide) ?_
      obtain ⟨b3, h⟩ := gd_ok h
      refine j_zald C (9) (t0 := 1) mo_g8 rfl b3 d_Mo_joinStripe_39 ?_
      obtain ⟨r4, hr4, gr4⟩ := bd_ok h
      refine j_let (ws' := wMo cI cZ a S) (lv' := [(0, .ref (a 0)), (1, .int v1), (2, .int (v1 - v1 / (S.1 15) * (S.1 15))), (3, .int ((S.1 16) + (v1 / (S.1 15))))]) (st' := [.int r4]) (pc' := 67) ?_ (fun Kr4 => ?_)
      · replace h := gr4
        refine j_istore C [(4, .int r4), (0, .ref (a 0)), (1, .int v1), (2, .int (v1 - v1 / (S.1 15) * (S.1 15))), (3, .int ((S.1 16) + (v1 / (S.1 15))))] d_Mo_joinStripe_67 (by decide) rfl ?_
        refine j_aload_n C 1 d_Mo_joinStripe_69 rfl ?_
        refine gf_Mo_39 C 0 (v := .ref (a 9)) mo_h rfl d_Mo_joinStripe_70 ?_
        refine j_iload C 0 d_Mo_joinStripe_73 rfl ?_
        obtain ⟨b7, h⟩ := gd_ok h
        refine j_zald C (9) (t0 := 1) mo_g8 rfl b7 d_Mo_joinStripe_75 ?_
        obtain ⟨r8, hr8, gr8⟩ := bd_ok h
        refine j_let (ws' := wMo cI cZ a S) (lv' := [(0, .ref (a 0)), (1, .int v1), (2, .int (v1 - v1 / (S.1 15) * (S.1 15))), (3, .int ((S.1 16) + (v1 / (S.1 15))))]) (st' := [.int r8]) (pc' := 96) ?_ (fun Kr8 => ?_)
        · replace h := gr8
          refine j_istore C [(5, .int r8), (0, .ref (a 0)), (1, .int v1), (2, .int (v1 - v1 / (S.1 15) * (S.1 15))), (3, .int ((S.1 16) + (v1 / (S.1 15))))] d_Mo_joinStripe_96 (by decide) rfl ?_
          refine j_aload_n C 1 d_Mo_joinStripe_98 rfl ?_
          refine gf_Mo_42 C 0 (v := .ref (a 10)) mo_h rfl d_Mo_joinStripe_99 ?_
          refine j_bipush C (v := 24) d_Mo_joinStripe_102 (by decide) ?_
          refine j_iload_n C 4 d_Mo_joinStripe_104 rfl ?_
          refine j_imul C d_Mo_joinStripe_105 ?_
          refine j_iload_n C 3 d_Mo_joinStripe_106 rfl ?_
          refine j_iadd C d_Mo_joinStripe_107 ?_
          refine j_aload_n C 1 d_Mo_joinStripe_108 rfl ?_
          refine gf_Mo_39 C 0 (v := .ref (a 9)) mo_h rfl d_Mo_joinStripe_109 ?_
          refine j_iconst C (v := 3) d_Mo_joinStripe_112 (by decide) ?_
          obtain ⟨b11, h⟩ := gd_ok h
          refine j_zald C (9) (t0 := 1) mo_g8 rfl b11 d_Mo_joinStripe_113 ?_
          refine j_if_eq C 140 d_Mo_joinStripe_114 (by decide) (fun c16 => ?_) (fun c16 => ?_)
          · replace h := (if_pos c16).symm.trans h
            refine j_iload C 0 d_Mo_joinStripe_140 rfl ?_
            obtain ⟨b12, h⟩ := gd_ok h
            refine j_iast C (10) (wMo cI cZ a (Ls S 9 (((24 * ((S.1 16) + (v1 / (S.1 15)))) + (v1 - v1 / (S.1 15) * (S.1 15))).toNatClampNeg) r8)) (t0 := 0) mo_g9 mo_s9 rfl b12 d_Mo_joinStripe_142 ?_
            refine j_iinc C [(1, .int (v1 + 1)), (5, .int r8), (0, .ref (a 0)), (2, .int (v1 - v1 / (S.1 15) * (S.1 15))), (3, .int ((S.1 16) + (v1 / (S.1 15))))] 2 (v1 + 1) d_Mo_joinStripe_143 rfl rfl (by decide) rfl ?_
            refine j_goto C 2 d_Mo_joinStripe_146 (by decide) ?_
            refine j_sub [2, 0] rfl ?_
            exact ih (v1 + 1) (Ls S 9 (((24 * ((S.1 16) + (v1 / (S.1 15)))) + (v1 - v1 / (S.1 15) * (S.1 15))).toNatClampNeg) r8) h x0
          · replace h := (if_neg c16).symm.trans h
            refine j_iload C 0 d_Mo_joinStripe_117 rfl ?_
            refine j_aload_n C 1 d_Mo_joinStripe_119 rfl ?_
            refine gf_Mo_36 C 0 (v := .ref (a 8)) mo_h rfl d_Mo_joinStripe_120 ?_
            refine j_sipush C (v := 1728) d_Mo_joinStripe_123 (by decide) ?_
            refine j_bipush C (v := 24) d_Mo_joinStripe_126 (by decide) ?_
            refine j_iload_n C 4 d_Mo_joinStripe_128 rfl ?_
            refine j_imul C d_Mo_joinStripe_129 ?_
            refine j_iadd C d_Mo_joinStripe_130 ?_
            refine j_iload_n C 3 d_Mo_joinStripe_131 rfl ?_
            refine j_iadd C d_Mo_joinStripe_132 ?_
            obtain ⟨b13, h⟩ := gd_ok h
            refine j_iald C (8) (t0 := 0) mo_g7 rfl b13 d_Mo_joinStripe_133 ?_
            obtain ⟨r14, hr14, h⟩ := bd_ok h
            refine j_PS C [.int r8, .int (S.2 7 (((1728 + (24 * ((S.1 16) + (v1 / (S.1 15))))) + (v1 - v1 / (S.1 15) * (S.1 15))).toNatClampNeg))] (c_Mo_together l D cI cR cZ fu r8 (S.2 7 (((1728 + (24 * ((S.1 16) + (v1 / (S.1 15))))) + (v1 - v1 / (S.1 15) * (S.1 15))).toNatClampNeg)) hr14) (cw_Mo_197 C ⟨Nat.le_of_ble_eq_true rfl, Nat.le_of_ble_eq_true rfl⟩) [] rfl rfl rfl (Nat.le_of_ble_eq_true rfl) d_Mo_joinStripe_134 (by decide) ?_
            refine j_goto C 142 d_Mo_joinStripe_137 (by decide) ?_
            obtain ⟨b15, h⟩ := gd_ok h
            refine j_iast C (10) (wMo cI cZ a (Ls S 9 (((24 * ((S.1 16) + (v1 / (S.1 15)))) + (v1 - v1 / (S.1 15) * (S.1 15))).toNatClampNeg) r14)) (t0 := 0) mo_g9 mo_s9 rfl b15 d_Mo_joinStripe_142 ?_
            refine j_iinc C [(1, .int (v1 + 1)), (5, .int r8), (0, .ref (a 0)), (2, .int (v1 - v1 / (S.1 15) * (S.1 15))), (3, .int ((S.1 16) + (v1 / (S.1 15))))] 2 (v1 + 1) d_Mo_joinStripe_143 rfl rfl (by decide) rfl ?_
            refine j_goto C 2 d_Mo_joinStripe_146 (by decide) ?_
            refine j_sub [2, 0] rfl ?_
            exact ih (v1 + 1) (Ls S 9 (((24 * ((S.1 16) + (v1 / (S.1 15)))) + (v1 - v1 / (S.1 15) * (S.1 15))).toNatClampNeg) r14) h x0
        · replace h := hr8
          refine j_if_eq C 95 d_Mo_joinStripe_76 (by decide) (fun c17 => ?_) (fun c17 => ?_)
          · replace h := (if_pos c17).symm.trans h
            refine j_iconst C (v := 0) d_Mo_joinStripe_95 (by decide) ?_
            obtain rfl := Option.some.inj h
            refine j_sub [1, 2, 3, 4] rfl ?_
            exact Kr8
          · replace h := (if_neg c17).symm.trans h
            refine j_aload_n C 1 d_Mo_joinStripe_79 rfl ?_
            refine gf_Mo_36 C 0 (v := .ref (a 8)) mo_h rfl d_Mo_joinStripe_80 ?_
            refine j_aload_n C 1 d_Mo_joinStripe_83 rfl ?_
            refine j_iload C 0 d_Mo_joinStripe_84 rfl ?_
            refine j_iload_n C 3 d_Mo_joinStripe_86 rfl ?_
            refine j_iload_n C 4 d_Mo_joinStripe_87 rfl ?_
            obtain ⟨r9, hr9, h⟩ := bd_ok h
            refine j_PV C [.int r4, .int (v1 - v1 / (S.1 15) * (S.1 15)), .int ((S.1 16) + (v1 / (S.1 15)))] 0 rfl rfl (c_Mo_placeAt l D cI cR cZ a S r4 (v1 - v1 / (S.1 15) * (S.1 15)) ((S.1 16) + (v1 / (S.1 15))) hr9) (cw_Mo_104 C ⟨Nat.le_of_ble_eq_true rfl, Nat.le_of_ble_eq_true rfl⟩) [0, 1, 2, 3, 4, 5, 6, 7, 8, 9, 10] rfl rfl rfl (Nat.le_of_ble_eq_true rfl) d_Mo_joinStripe_88 (by decide) ?_
            obtain ⟨b10, h⟩ := gd_ok h
            refine j_iald C (8) (t0 := 0) mo_g7 rfl b10 d_Mo_joinStripe_91 ?_
            refine j_goto C 96 d_Mo_joinStripe_92 (by decide) ?_
            obtain rfl := Option.some.inj h
            refine j_sub [1, 2, 3, 4] rfl ?_
            exact Kr8
      · replace h := hr4
        refine j_if_eq C 66 d_Mo_joinStripe_40 (by decide) (fun c18 => ?_) (fun c18 => ?_)
        · replace h := (if_pos c18).symm.trans h
          refine j_iconst C (v := 0) d_Mo_joinStripe_66 (by decide) ?_
          obtain rfl := Option.some.inj h
          refine j_sub [2, 3, 1, 0] rfl ?_
          exact Kr4
        · replace h := (if_neg c18).symm.trans h
          refine j_aload_n C 2 d_Mo_joinStripe_43 rfl ?_
          refine gf_Mo_36 C 0 (v := .ref (a 8)) mo_h rfl d_Mo_joinStripe_44 ?_
          refine j_sipush C (v := 576) d_Mo_joinStripe_47 (by decide) ?_
          refine j_bipush C (v := 24) d_Mo_joinStripe_50 (by decide) ?_
          refine j_iload_n C 0 d_Mo_joinStripe_52 rfl ?_
          refine j_imul C d_Mo_joinStripe_53 ?_
          refine j_iadd C d_Mo_joinStripe_54 ?_
          refine j_iload_n C 1 d_Mo_joinStripe_55 rfl ?_
          refine j_iadd C d_Mo_joinStripe_56 ?_
          obtain ⟨b5, h⟩ := gd_ok h
          refine j_iald C (8) (t0 := 0) mo_g7 rfl b5 d_Mo_joinStripe_57 ?_
          refine j_iconst C (v := 1) d_Mo_joinStripe_58 (by decide) ?_
          refine j_icmp_ne C 66 d_Mo_joinStripe_59 (by decide) (fun c6 => ?_) (fun c6 => ?_)
          · replace h := (if_neg c6).symm.trans h
            refine j_iconst C (v := 0) d_Mo_joinStripe_66 (by decide) ?_
            obtain rfl := Option.some.inj h
            refine j_sub [2, 3, 1, 0] rfl ?_
            exact Kr4
          · replace h := (if_pos c6).symm.trans h
            refine j_iconst C (v := 2) d_Mo_joinStripe_62 (by decide) ?_
            refine j_goto C 67 d_Mo_joinStripe_63 (by decide) ?_
            obtain rfl := Option.some.inj h
            refine j_sub [2, 3, 1, 0] rfl ?_
            exact Kr4
set_option maxRecDepth 100000 in
set_option maxHeartbeats 4000000 in
theorem c_Mo_joinStripe (l : Launch) (D : va_G) (cI cR cZ : ClassId) (fu : Nat) (a : (Nat → Nat)) (S : LyS) {res : (LyS)} (h : Mo_joinStripe fu S = some res) (sz : Nat) : Met l y_Mo_joinStripe (Cond.code y_Mo_joinStripe b_Mo_joinStripe 6 none :: BIG) rm_Mo_joinStripe (PcI [.ref (a 0)] D (tyG cI cR cZ) (wMo cI cZ a S) sz) (QcV D (fun _ : Nat => wMo cI cZ a res) (va_A (wMo cI cZ a S) sz)) 0 0 (va_A (wMo cI cZ a S) sz) := by
  refine met_V (by decide) (Nat.le_of_ble_eq_true rfl) (fun p e s m args below meth c A hA C hr => ?_)
  have C : Cx p s m args meth c D (tyG cI cR cZ) b_Mo_joinStripe 6 "MaskLayersModel" := C
  have hr : meth.sig.returnType = none := hr
  show J p l e rm_Mo_joinStripe s m args below meth c D A (va_D A) 6 (MQ below (QcV D (fun _ : Nat => wMo cI cZ a res) A) args s 0 0 A) 0 0 (wMo cI cZ a S) [(0, .ref (a 0))] [] 0
  unfold Mo_joinStripe at h
  refine j_iconst C (v := 0) d_Mo_joinStripe_0 (by decide) ?_
  refine j_istore_n C [(1, .int 0), (0, .ref (a 0))] d_Mo_joinStripe_1 (by decide) rfl ?_
  obtain ⟨r20, hr20, h⟩ := bd_ok h
  refine j_sub [1, 0] rfl ?_
  refine t_Mo_joinStripe_l2 C hA fu 0 S hr20 (fun e21 => ?_)
  · obtain rfl := Option.some.inj h
    exact j_vret C hr d_Mo_joinStripe_149 0 rfl
def Mo_read_l95 (fu : Nat) (v1 : Int32) (v2 : Int32) (v3 : Int32) : Nat → Int32 → Int32 → LyS → Option (Nat × Int32 × LyS)
  | 0, _, _, _ => none
  | k + 1, v4, v5, S =>
  (if 0 ≤ (S.1 12) then some (0, v4, S)
  else (Mo_stripesOf v2 v3).bind fun r8 =>
  (if r8 ≤ v5 then some (0, v4, S)
  else (Mo_lay S v1 v2 v3 v5).bind fun r9 =>
  (Mo_takeStripe fu r9).bind fun r10 =>
  (if 0 ≤ (r10.2.1 12) then Mo_read_l95 fu v1 v2 v3 k (v4 + r10.1) (v5 + 1) r10.2
  else (Mo_joinStripe fu r10.2).bind fun r11 =>
  Mo_read_l95 fu v1 v2 v3 k (v4 + r10.1) (v5 + 1) r11)))
def Mo_read_b173 (fu : Nat) (S : LyS) (v1 : Int32) (v2 : Int32) (v4 : Int32) : Option (Int32 × LyS) :=
  (if (S.1 12) < 0 then some (v4, Lf (Lf S 13 v1) 14 v2)
  else some (((-1)) - (S.1 12), S))
def Mo_read_b147 (fu : Nat) (S : LyS) (v1 : Int32) (v2 : Int32) (v4 : Int32) : Option (Int32 × LyS) :=
  (if 0 ≤ (S.1 12) then Mo_read_b173 fu S v1 v2 v4
  else (if (S.1 10) ≤ (S.1 11) then Mo_read_b173 fu S v1 v2 v4
  else (Mo_refuse S (S.1 11)).bind fun r17 =>
  Mo_read_b173 fu r17 v1 v2 v4))
def Mo_read (fu : Nat) (S : LyS) : Option (Int32 × LyS) :=
  (Mo_takeIn (Lf (Lf (Lf (Lf (Lf S 0 0) 11 0) 12 ((-1))) 13 0) 14 0) 77 77).bind fun r1 =>
  (Mo_takeIn r1.2 76 76).bind fun r2 =>
  (Mo_takeIn r2.2 1 24).bind fun r3 =>
  (Mo_takeIn r3.2 1 24).bind fun r4 =>
  (Mo_takeIn r4.2 1 24).bind fun r5 =>
  (Mo_takeIn r5.2 1 8).bind fun r6 =>
  (Mo_takeIn (Lf r6.2 18 r6.1) 1 8).bind fun r7 =>
  (Mo_read_l95 fu r3.1 r4.1 r5.1 fu 0 0 (Lf r7.2 19 r7.1)).bind fun r15 =>
  Mo_read_b147 fu r15.2.2 r3.1 r4.1 r15.2.1
set_option maxRecDepth 100000 in
set_option maxHeartbeats 4000000 in
theorem t_Mo_read_l95 {p : Program} {l : Launch} {e : Env} {s : State} {m : MethodId} {args : Array Value} {below : List Frame} {meth : Method} {c : Code} {D : va_G} {cI cR cZ : ClassId} {A : Nat → Prop} {Q : State → Prop} (C : Cx p s m args meth c D (tyG cI cR cZ) b_Mo_read 6 "MaskLayersModel") (hA : ∀ q : Nat, s.heap.size ≤ q → A q) {a : (Nat → Nat)} {fu : Nat} {v1 : Int32} {v2 : Int32} {v3 : Int32} {out : Nat × Int32 × LyS} : ∀ (k : Nat) (v4 : Int32) (v5 : Int32) (S : LyS), Mo_read_l95 fu v1 v2 v3 k v4 v5 S = some out → (out.1 = 0 → J p l e rm_Mo_read s m args below meth c D A (va_D A) 6 Q 0 0 (wMo cI cZ a out.2.2) [(0, .ref (a 0)), (1, .int v1), (2, .int v2), (4, .int out.2.1)] [] 147) → J p l e rm_Mo_read s m args below meth c D A (va_D A) 6 Q 0 0 (wMo cI cZ a S) [(0, .ref (a 0)), (1, .int v1), (2, .int v2), (3, .int v3), (4, .int v4), (5, .int v5)] [] 95 := by
  intro k
  induction k with
  | zero => intro v4 v5 S h; cases (show none = some out from h)
  | succ k ih =>
    intro v4 v5 S h x0
    rw [Mo_read_l95] at h
    refine j_aload_n C 0 d_Mo_read_95 rfl ?_
    refine gf_Mo_169 C 0 (v := .int (S.1 12)) mo_h rfl d_Mo_read_96 ?_
    refine j_if_ge C 147 d_Mo_read_99 (by decide) (fun c14 => ?_) (fun c14 => ?_)
    · replace h := (if_pos c14).symm.trans h
      obtain rfl := Option.some.inj h
      refine j_sub [0, 1, 2, 4] rfl ?_
      exact x0 rfl
    · replace h := (if_neg c14).symm.trans h
      refine j_iload C 5 d_Mo_read_102 rfl ?_
      refine j_iload_n C 2 d_Mo_read_104 rfl ?_
      refine j_iload_n C 3 d_Mo_read_105 rfl ?_
      obtain ⟨r8, hr8, h⟩ := bd_ok h
      refine j_PS C [.int v2, .int v3] (c_Mo_stripesOf l D cI cR cZ v2 v3 hr8) (cw_Mo_63 C ⟨Nat.le_of_ble_eq_true rfl, Nat.le_of_ble_eq_true rfl⟩) [] rfl rfl rfl (Nat.le_of_ble_eq_true rfl) d_Mo_read_106 (by decide) ?_
      refine j_icmp_ge C 147 d_Mo_read_109 (by decide) (fun c13 => ?_) (fun c13 => ?_)
      · replace h := (if_pos c13).symm.trans h
        obtain rfl := Option.some.inj h
        refine j_sub [0, 1, 2, 4] rfl ?_
        exact x0 rfl
      · replace h := (if_neg c13).symm.trans h
        refine j_aload_n C 0 d_Mo_read_112 rfl ?_
        refine j_iload_n C 1 d_Mo_read_113 rfl ?_
        refine j_iload_n C 2 d_Mo_read_114 rfl ?_
        refine j_iload_n C 3 d_Mo_read_115 rfl ?_
        refine j_iload C 5 d_Mo_read_116 rfl ?_
        obtain ⟨r9, hr9, h⟩ := bd_ok h
        refine j_VV C [.int v1, .int v2, .int v3, .int v5] hA 0 rfl rfl (c_Mo_lay l D cI cR cZ a S v1 v2 v3 v5 hr9) (cw_Mo_110 C ⟨Nat.le_of_ble_eq_true rfl, Nat.le_of_ble_eq_true rfl⟩) [0, 1, 2, 3, 4, 5, 6, 7, 8, 9, 10] [] rfl rfl (by decide) (by decide) (by decide) rfl rfl (Nat.le_of_ble_eq_true rfl) d_Mo_read_118 (by decide) (fun _ => ?_)
        refine j_ws (ws' := wMo cI cZ a r9) rfl ?_
        refine j_iload C 4 d_Mo_read_121 rfl ?_
        refine j_aload_n C 0 d_Mo_read_123 rfl ?_
        obtain ⟨r10, hr10, h⟩ := bd_ok h
        refine j_IV C [] hA 0 rfl rfl (c_Mo_takeStripe l D cI cR cZ fu a r9 hr10) (cw_Mo_206 C ⟨Nat.le_of_ble_eq_true rfl, Nat.le_of_ble_eq_true rfl⟩) [0, 1, 2, 3, 4, 5, 6, 7, 8, 9, 10] [] rfl rfl (by decide) (by decide) (by decide) rfl rfl (Nat.le_of_ble_eq_true rfl) d_Mo_read_124 (by decide) (fun _ => ?_)
        refine j_ws (ws' := wMo cI cZ a r10.2) rfl ?_
        refine j_iadd C d_Mo_read_127 ?_
        refine j_istore C [(4, .int (v4 + r10.1)), (0, .ref (a 0)), (1, .int v1), (2, .int v2), (3, .int v3), (5, .int v5)] d_Mo_read_128 (by decide) rfl ?_
        refine j_aload_n C 1 d_Mo_read_130 rfl ?_
        refine gf_Mo_169 C 0 (v := .int (r10.2.1 12)) mo_h rfl d_Mo_read_131 ?_
        refine j_if_ge C 141 d_Mo_read_134 (by decide) (fun c12 => ?_) (fun c12 => ?_)
        · replace h := (if_pos c12).symm.trans h
          refine j_iinc C [(5, .int (v5 + 1)), (4, .int (v4 + r10.1)), (0, .ref (a 0)), (1, .int v1), (2, .int v2), (3, .int v3)] 5 (v5 + 1) d_Mo_read_141 rfl rfl (by decide) rfl ?_
          refine j_goto C 95 d_Mo_read_144 (by decide) ?_
          refine j_sub [2, 3, 4, 5, 1, 0] rfl ?_
          exact ih (v4 + r10.1) (v5 + 1) r10.2 h x0
        · replace h := (if_neg c12).symm.trans h
          refine j_aload_n C 1 d_Mo_read_137 rfl ?_
          obtain ⟨r11, hr11, h⟩ := bd_ok h
          refine j_VV C [] hA 0 rfl rfl (c_Mo_joinStripe l D cI cR cZ fu a r10.2 hr11) (cw_Mo_209 C ⟨Nat.le_of_ble_eq_true rfl, Nat.le_of_ble_eq_true rfl⟩) [0, 1, 2, 3, 4, 5, 6, 7, 8, 9, 10] [] rfl rfl (by decide) (by decide) (by decide) rfl rfl (Nat.le_of_ble_eq_true rfl) d_Mo_read_138 (by decide) (fun _ => ?_)
          refine j_ws (ws' := wMo cI cZ a r11) rfl ?_
          refine j_iinc C [(5, .int (v5 + 1)), (4, .int (v4 + r10.1)), (0, .ref (a 0)), (1, .int v1), (2, .int v2), (3, .int v3)] 5 (v5 + 1) d_Mo_read_141 rfl rfl (by decide) rfl ?_
          refine j_goto C 95 d_Mo_read_144 (by decide) ?_
          refine j_sub [2, 3, 4, 5, 1, 0] rfl ?_
          exact ih (v4 + r10.1) (v5 + 1) r11 h x0
set_option maxRecDepth 100000 in
set_option maxHeartbeats 4000000 in
theorem t_Mo_read_b173 {p : Program} {l : Launch} {e : Env} {s : State} {m : MethodId} {args : Array Value} {below : List Frame} {meth : Method} {c : Code} {D : va_G} {cI cR cZ : ClassId} {A : Nat → Prop} (C : Cx p s m args meth c D (tyG cI cR cZ) b_Mo_read 6 "MaskLayersModel") (hr : meth.sig.returnType = some .int) (hA : ∀ q : Nat, s.heap.size ≤ q → A q) {a : (Nat → Nat)} {S : LyS} {fu : Nat} {v1 : Int32} {v2 : Int32} {v4 : Int32} {res : (Int32 × LyS)} (h : Mo_read_b173 fu S v1 v2 v4 = some res) : J p l e rm_Mo_read s m args below meth c D A (va_D A) 6 (MQ below (QcI D res.1 (fun _ : Nat => wMo cI cZ a res.2) A) args s 0 0 A) 0 0 (wMo cI cZ a S) [(0, .ref (a 0)), (1, .int v1), (2, .int v2), (4, .int v4)] [] 173 := by
  unfold Mo_read_b173 at h
  refine j_aload_n C 0 d_Mo_read_173 rfl ?_
  refine gf_Mo_169 C 0 (v := .int (S.1 12)) mo_h rfl d_Mo_read_174 ?_
  refine j_if_lt C 187 d_Mo_read_177 (by decide) (fun c16 => ?_) (fun c16 => ?_)
  · replace h := (if_pos c16).symm.trans h
    refine j_aload_n C 0 d_Mo_read_187 rfl ?_
    refine j_iload_n C 1 d_Mo_read_188 rfl ?_
    refine pf_Mo_200 C 0 (wMo cI cZ a (Lf S 13 v1)) mo_h rfl mo_f13 d_Mo_read_189 ?_
    refine j_aload_n C 0 d_Mo_read_192 rfl ?_
    refine j_iload_n C 2 d_Mo_read_193 rfl ?_
    refine pf_Mo_203 C 0 (wMo cI cZ a (Lf (Lf S 13 v1) 14 v2)) mo_h rfl mo_f14 d_Mo_read_194 ?_
    refine j_iload C 3 d_Mo_read_197 rfl ?_
    obtain rfl := Option.some.inj h
    exact j_iret C hr d_Mo_read_199 0 rfl
  · replace h := (if_neg c16).symm.trans h
    refine j_iconst C (v := (-1)) d_Mo_read_180 (by decide) ?_
    refine j_aload_n C 0 d_Mo_read_181 rfl ?_
    refine gf_Mo_169 C 0 (v := .int (S.1 12)) mo_h rfl d_Mo_read_182 ?_
    refine j_isub C d_Mo_read_185 ?_
    obtain rfl := Option.some.inj h
    exact j_iret C hr d_Mo_read_186 0 rfl
set_option maxRecDepth 100000 in
set_option maxHeartbeats 4000000 in
theorem t_Mo_read_b147 {p : Program} {l : Launch} {e : Env} {s : State} {m : MethodId} {args : Array Value} {below : List Frame} {meth : Method} {c : Code} {D : va_G} {cI cR cZ : ClassId} {A : Nat → Prop} (C : Cx p s m args meth c D (tyG cI cR cZ) b_Mo_read 6 "MaskLayersModel") (hr : meth.sig.returnType = some .int) (hA : ∀ q : Nat, s.heap.size ≤ q → A q) {a : (Nat → Nat)} {S : LyS} {fu : Nat} {v1 : Int32} {v2 : Int32} {v4 : Int32} {res : (Int32 × LyS)} (h : Mo_read_b147 fu S v1 v2 v4 = some res) : J p l e rm_Mo_read s m args below meth c D A (va_D A) 6 (MQ below (QcI D res.1 (fun _ : Nat => wMo cI cZ a res.2) A) args s 0 0 A) 0 0 (wMo cI cZ a S) [(0, .ref (a 0)), (1, .int v1), (2, .int v2), (4, .int v4)] [] 147 := by
  unfold Mo_read_b147 at h
  refine j_aload_n C 0 d_Mo_read_147 rfl ?_
  refine gf_Mo_169 C 0 (v := .int (S.1 12)) mo_h rfl d_Mo_read_148 ?_
  refine j_if_ge C 173 d_Mo_read_151 (by decide) (fun c19 => ?_) (fun c19 => ?_)
  · replace h := (if_pos c19).symm.trans h
    refine j_sub [0, 1, 2, 3] rfl ?_
    exact t_Mo_read_b173 C hr hA h
  · replace h := (if_neg c19).symm.trans h
    refine j_aload_n C 0 d_Mo_read_154 rfl ?_
    refine gf_Mo_172 C 0 (v := .int (S.1 11)) mo_h rfl d_Mo_read_155 ?_
    refine j_aload_n C 0 d_Mo_read_158 rfl ?_
    refine gf_Mo_166 C 0 (v := .int (S.1 10)) mo_h rfl d_Mo_read_159 ?_
    refine j_icmp_ge C 173 d_Mo_read_162 (by decide) (fun c18 => ?_) (fun c18 => ?_)
    · replace h := (if_pos c18).symm.trans h
      refine j_sub [0, 1, 2, 3] rfl ?_
      exact t_Mo_read_b173 C hr hA h
    · replace h := (if_neg c18).symm.trans h
      refine j_aload_n C 0 d_Mo_read_165 rfl ?_
      refine j_aload_n C 0 d_Mo_read_166 rfl ?_
      refine gf_Mo_172 C 0 (v := .int (S.1 11)) mo_h rfl d_Mo_read_167 ?_
      obtain ⟨r17, hr17, h⟩ := bd_ok h
      refine j_VV C [.int (S.1 11)] hA 0 rfl rfl (c_Mo_refuse l D cI cR cZ a S (S.1 11) hr17) (cw_Mo_175 C ⟨Nat.le_of_ble_eq_true rfl, Nat.le_of_ble_eq_true rfl⟩) [0, 1, 2, 3, 4, 5, 6, 7, 8, 9, 10] [] rfl rfl (by decide) (by decide) (by decide) rfl rfl (Nat.le_of_ble_eq_true rfl) d_Mo_read_170 (by decide) (fun _ => ?_)
      refine j_ws (ws' := wMo cI cZ a r17) rfl ?_
      refine j_sub [0, 1, 2, 3] rfl ?_
      exact t_Mo_read_b173 C hr hA h
set_option maxRecDepth 100000 in
set_option maxHeartbeats 4000000 in
theorem c_Mo_read (l : Launch) (D : va_G) (cI cR cZ : ClassId) (fu : Nat) (a : (Nat → Nat)) (S : LyS) {res : (Int32 × LyS)} (h : Mo_read fu S = some res) (sz : Nat) : Met l y_Mo_read (Cond.code y_Mo_read b_Mo_read 6 (some .int) :: BIG) rm_Mo_read (PcI [.ref (a 0)] D (tyG cI cR cZ) (wMo cI cZ a S) sz) (QcI D res.1 (fun _ : Nat => wMo cI cZ a res.2) (va_A (wMo cI cZ a S) sz)) 0 0 (va_A (wMo cI cZ a S) sz) := by
  refine met_I (by decide) (Nat.le_of_ble_eq_true rfl) (fun p e s m args below meth c A hA C hr => ?_)
  have C : Cx p s m args meth c D (tyG cI cR cZ) b_Mo_read 6 "MaskLayersModel" := C
  have hr : meth.sig.returnType = some .int := hr
  show J p l e rm_Mo_read s m args below meth c D A (va_D A) 6 (MQ below (QcI D res.1 (fun _ : Nat => wMo cI cZ a res.2) A) args s 0 0 A) 0 0 (wMo cI cZ a S) [(0, .ref (a 0))] [] 0
  unfold Mo_read at h
  refine j_aload_n C 0 d_Mo_read_0 rfl ?_
  refine j_iconst C (v := 0) d_Mo_read_1 (by decide) ?_
  refine pf_Mo_51 C 0 (wMo cI cZ a (Lf S 0 0)) mo_h rfl mo_f0 d_Mo_read_2 ?_
  refine j_aload_n C 0 d_Mo_read_5 rfl ?_
  refine j_iconst C (v := 0) d_Mo_read_6 (by decide) ?_
  refine pf_Mo_172 C 0 (wMo cI cZ a (Lf (Lf S 0 0) 11 0)) mo_h rfl mo_f11 d_Mo_read_7 ?_
  refine j_aload_n C 0 d_Mo_read_10 rfl ?_
  refine j_iconst C (v := (-1)) d_Mo_read_11 (by decide) ?_
  refine pf_Mo_169 C 0 (wMo cI cZ a (Lf (Lf (Lf S 0 0) 11 0) 12 ((-1)))) mo_h rfl mo_f12 d_Mo_read_12 ?_
  refine j_aload_n C 0 d_Mo_read_15 rfl ?_
  refine j_iconst C (v := 0) d_Mo_read_16 (by decide) ?_
  refine pf_Mo_200 C 0 (wMo cI cZ a (Lf (Lf (Lf (Lf S 0 0) 11 0) 12 ((-1))) 13 0)) mo_h rfl mo_f13 d_Mo_read_17 ?_
  refine j_aload_n C 0 d_Mo_read_20 rfl ?_
  refine j_iconst C (v := 0) d_Mo_read_21 (by decide) ?_
  refine pf_Mo_203 C 0 (wMo cI cZ a (Lf (Lf (Lf (Lf (Lf S 0 0) 11 0) 12 ((-1))) 13 0) 14 0)) mo_h rfl mo_f14 d_Mo_read_22 ?_
  refine j_aload_n C 0 d_Mo_read_25 rfl ?_
  refine j_bipush C (v := 77) d_Mo_read_26 (by decide) ?_
  refine j_bipush C (v := 77) d_Mo_read_28 (by decide) ?_
  obtain ⟨r1, hr1, h⟩ := bd_ok h
  refine j_IV C [.int 77, .int 77] hA 0 rfl rfl (c_Mo_takeIn l D cI cR cZ a (Lf (Lf (Lf (Lf (Lf S 0 0) 11 0) 12 ((-1))) 13 0) 14 0) 77 77 hr1) (cw_Mo_182 C ⟨Nat.le_of_ble_eq_true rfl, Nat.le_of_ble_eq_true rfl⟩) [0, 1, 2, 3, 4, 5, 6, 7, 8, 9, 10] [] rfl rfl (by decide) (by decide) (by decide) rfl rfl (Nat.le_of_ble_eq_true rfl) d_Mo_read_30 (by decide) (fun _ => ?_)
  refine j_ws (ws' := wMo cI cZ a r1.2) rfl ?_
  refine j_pop C d_Mo_read_33 rfl ?_
  refine j_aload_n C 0 d_Mo_read_34 rfl ?_
  refine j_bipush C (v := 76) d_Mo_read_35 (by decide) ?_
  refine j_bipush C (v := 76) d_Mo_read_37 (by decide) ?_
  obtain ⟨r2, hr2, h⟩ := bd_ok h
  refine j_IV C [.int 76, .int 76] hA 0 rfl rfl (c_Mo_takeIn l D cI cR cZ a r1.2 76 76 hr2) (cw_Mo_182 C ⟨Nat.le_of_ble_eq_true rfl, Nat.le_of_ble_eq_true rfl⟩) [0, 1, 2, 3, 4, 5, 6, 7, 8, 9, 10] [] rfl rfl (by decide) (by decide) (by decide) rfl rfl (Nat.le_of_ble_eq_true rfl) d_Mo_read_39 (by decide) (fun _ => ?_)
  refine j_ws (ws' := wMo cI cZ a r2.2) rfl ?_
  refine j_pop C d_Mo_read_42 rfl ?_
  refine j_aload_n C 0 d_Mo_read_43 rfl ?_
  refine j_iconst C (v := 1) d_Mo_read_44 (by decide) ?_
  refine j_bipush C (v := 24) d_Mo_read_45 (by decide) ?_
  obtain ⟨r3, hr3, h⟩ := bd_ok h
  refine j_IV C [.int 1, .int 24] hA 0 rfl rfl (c_Mo_takeIn l D cI cR cZ a r2.2 1 24 hr3) (cw_Mo_182 C ⟨Nat.le_of_ble_eq_true rfl, Nat.le_of_ble_eq_true rfl⟩) [0, 1, 2, 3, 4, 5, 6, 7, 8, 9, 10] [] rfl rfl (by decide) (by decide) (by decide) rfl rfl (Nat.le_of_ble_eq_true rfl) d_Mo_read_47 (by decide) (fun _ => ?_)
  refine j_ws (ws' := wMo cI cZ a r3.2) rfl ?_
  refine j_istore_n C [(1, .int r3.1), (0, .ref (a 0))] d_Mo_read_50 (by decide) rfl ?_
  refine j_aload_n C 1 d_Mo_read_51 rfl ?_
  refine j_iconst C (v := 1) d_Mo_read_52 (by decide) ?_
  refine j_bipush C (v := 24) d_Mo_read_53 (by decide) ?_
  obtain ⟨r4, hr4, h⟩ := bd_ok h
  refine j_IV C [.int 1, .int 24] hA 0 rfl rfl (c_Mo_takeIn l D cI cR cZ a r3.2 1 24 hr4) (cw_Mo_182 C ⟨Nat.le_of_ble_eq_true rfl, Nat.le_of_ble_eq_true rfl⟩) [0, 1, 2, 3, 4, 5, 6, 7, 8, 9, 10] [] rfl rfl (by decide) (by decide) (by decide) rfl rfl (Nat.le_of_ble_eq_true rfl) d_Mo_read_55 (by decide) (fun _ => ?_)
  refine j_ws (ws' := wMo cI cZ a r4.2) rfl ?_
  refine j_istore_n C [(2, .int r4.1), (1, .int r3.1), (0, .ref (a 0))] d_Mo_read_58 (by decide) rfl ?_
  refine j_aload_n C 2 d_Mo_read_59 rfl ?_
  refine j_iconst C (v := 1) d_Mo_read_60 (by decide) ?_
  refine j_bipush C (v := 24) d_Mo_read_61 (by decide) ?_
  obtain ⟨r5, hr5, h⟩ := bd_ok h
  refine j_IV C [.int 1, .int 24] hA 0 rfl rfl (c_Mo_takeIn l D cI cR cZ a r4.2 1 24 hr5) (cw_Mo_182 C ⟨Nat.le_of_ble_eq_true rfl, Nat.le_of_ble_eq_true rfl⟩) [0, 1, 2, 3, 4, 5, 6, 7, 8, 9, 10] [] rfl rfl (by decide) (by decide) (by decide) rfl rfl (Nat.le_of_ble_eq_true rfl) d_Mo_read_63 (by decide) (fun _ => ?_)
  refine j_ws (ws' := wMo cI cZ a r5.2) rfl ?_
  refine j_istore_n C [(3, .int r5.1), (2, .int r4.1), (1, .int r3.1), (0, .ref (a 0))] d_Mo_read_66 (by decide) rfl ?_
  refine j_aload_n C 3 d_Mo_read_67 rfl ?_
  refine j_aload_n C 3 d_Mo_read_68 rfl ?_
  refine j_iconst C (v := 1) d_Mo_read_69 (by decide) ?_
  refine j_bipush C (v := 8) d_Mo_read_70 (by decide) ?_
  obtain ⟨r6, hr6, h⟩ := bd_ok h
  refine j_IV C [.int 1, .int 8] hA 0 rfl rfl (c_Mo_takeIn l D cI cR cZ a r5.2 1 8 hr6) (cw_Mo_182 C ⟨Nat.le_of_ble_eq_true rfl, Nat.le_of_ble_eq_true rfl⟩) [0, 1, 2, 3, 4, 5, 6, 7, 8, 9, 10] [] rfl rfl (by decide) (by decide) (by decide) rfl rfl (Nat.le_of_ble_eq_true rfl) d_Mo_read_72 (by decide) (fun _ => ?_)
  refine j_ws (ws' := wMo cI cZ a r6.2) rfl ?_
  refine pf_Mo_78 C 0 (wMo cI cZ a (Lf r6.2 18 r6.1)) mo_h rfl mo_f18 d_Mo_read_75 ?_
  refine j_aload_n C 3 d_Mo_read_78 rfl ?_
  refine j_aload_n C 3 d_Mo_read_79 rfl ?_
  refine j_iconst C (v := 1) d_Mo_read_80 (by decide) ?_
  refine j_bipush C (v := 8) d_Mo_read_81 (by decide) ?_
  obtain ⟨r7, hr7, h⟩ := bd_ok h
  refine j_IV C [.int 1, .int 8] hA 0 rfl rfl (c_Mo_takeIn l D cI cR cZ a (Lf r6.2 18 r6.1) 1 8 hr7) (cw_Mo_182 C ⟨Nat.le_of_ble_eq_true rfl, Nat.le_of_ble_eq_true rfl⟩) [0, 1, 2, 3, 4, 5, 6, 7, 8, 9, 10] [] rfl rfl (by decide) (by decide) (by decide) rfl rfl (Nat.le_of_ble_eq_true rfl) d_Mo_read_83 (by decide) (fun _ => ?_)
  refine j_ws (ws' := wMo cI cZ a r7.2) rfl ?_
  refine pf_Mo_75 C 0 (wMo cI cZ a (Lf r7.2 19 r7.1)) mo_h rfl mo_f19 d_Mo_read_86 ?_
  refine j_iconst C (v := 0) d_Mo_read_89 (by decide) ?_
  refine j_istore C [(4, .int 0), (3, .int r5.1), (2, .int r4.1), (1, .int r3.1), (0, .ref (a 0))] d_Mo_read_90 (by decide) rfl ?_
  refine j_iconst C (v := 0) d_Mo_read_92 (by decide) ?_
  refine j_istore C [(5, .int 0), (4, .int 0), (3, .int r5.1), (2, .int r4.1), (1, .int r3.1), (0, .ref (a 0))] d_Mo_read_93 (by decide) rfl ?_
  obtain ⟨r15, hr15, h⟩ := bd_ok h
  refine j_sub [5, 4, 3, 2, 1, 0] rfl ?_
  refine t_Mo_read_l95 C hA fu 0 0 (Lf r7.2 19 r7.1) hr15 (fun e20 => ?_)
  · refine j_sub [0, 1, 2, 3] rfl ?_
    exact t_Mo_read_b147 C hr hA h
def Mo_at_b41 (S : LyS) (v1 : Int32) (v2 : Int32) (s0 : Int32) : Option (Int32 × LyS) :=
  (if ((Lf S 0 s0).1 0) ≤ 0 then gd ((24 * v2) + v1) 576 (some ((Lf S 0 s0).2 9 (((24 * v2) + v1).toNatClampNeg), Lf S 0 s0))
  else some (0, Lf S 0 s0))
def Mo_at_b36 (S : LyS) (v1 : Int32) (v2 : Int32) : Option (Int32 × LyS) :=
  Mo_at_b41 S v1 v2 2
def Mo_at (S : LyS) (p1 : Int32) (p2 : Int32) : Option (Int32 × LyS) :=
  (if (S.1 13) = 0 then Mo_at_b41 S p1 p2 1
  else (if p1 < 0 then Mo_at_b36 S p1 p2
  else (if p2 < 0 then Mo_at_b36 S p1 p2
  else (if (S.1 13) ≤ p1 then Mo_at_b36 S p1 p2
  else (if p2 < (S.1 14) then Mo_at_b41 S p1 p2 0
  else Mo_at_b36 S p1 p2)))))
set_option maxRecDepth 100000 in
set_option maxHeartbeats 4000000 in
theorem t_Mo_at_b41 {p : Program} {l : Launch} {e : Env} {s : State} {m : MethodId} {args : Array Value} {below : List Frame} {meth : Method} {c : Code} {D : va_G} {cI cR cZ : ClassId} {A : Nat → Prop} (C : Cx p s m args meth c D (tyG cI cR cZ) b_Mo_at 3 "MaskLayersModel") (hr : meth.sig.returnType = some .int) (hA : ∀ q : Nat, s.heap.size ≤ q → A q) {a : (Nat → Nat)} {S : LyS} {v1 : Int32} {v2 : Int32} {s0 : Int32} {res : (Int32 × LyS)} (h : Mo_at_b41 S v1 v2 s0 = some res) : J p l e rm_Mo_at s m args below meth c D A (va_D A) 3 (MQ below (QcI D res.1 (fun _ : Nat => wMo cI cZ a res.2) A) args s 0 0 A) 0 0 (wMo cI cZ a S) [(0, .ref (a 0)), (1, .int v1), (2, .int v2)] [.int s0, .ref (a 0)] 41 := by
  unfold Mo_at_b41 at h
  refine pf_Mo_51 C 0 (wMo cI cZ a (Lf S 0 s0)) mo_h rfl mo_f0 d_Mo_at_41 ?_
  refine j_aload_n C 0 d_Mo_at_44 rfl ?_
  refine gf_Mo_51 C 0 (v := .int ((Lf S 0 s0).1 0)) mo_h rfl d_Mo_at_45 ?_
  refine j_if_le C 55 d_Mo_at_48 (by decide) (fun c2 => ?_) (fun c2 => ?_)
  · replace h := (if_pos c2).symm.trans h
    refine j_aload_n C 0 d_Mo_at_55 rfl ?_
    refine gf_Mo_42 C 0 (v := .ref (a 10)) mo_h rfl d_Mo_at_56 ?_
    refine j_bipush C (v := 24) d_Mo_at_59 (by decide) ?_
    refine j_iload_n C 2 d_Mo_at_61 rfl ?_
    refine j_imul C d_Mo_at_62 ?_
    refine j_iload_n C 1 d_Mo_at_63 rfl ?_
    refine j_iadd C d_Mo_at_64 ?_
    obtain ⟨b1, h⟩ := gd_ok h
    refine j_iald C (10) (t0 := 0) mo_g9 rfl b1 d_Mo_at_65 ?_
    obtain rfl := Option.some.inj h
    exact j_iret C hr d_Mo_at_66 0 rfl
  · replace h := (if_neg c2).symm.trans h
    refine j_iconst C (v := 0) d_Mo_at_51 (by decide) ?_
    refine j_goto C 66 d_Mo_at_52 (by decide) ?_
    obtain rfl := Option.some.inj h
    exact j_iret C hr d_Mo_at_66 0 rfl
set_option maxRecDepth 100000 in
set_option maxHeartbeats 4000000 in
theorem t_Mo_at_b36 {p : Program} {l : Launch} {e : Env} {s : State} {m : MethodId} {args : Array Value} {below : List Frame} {meth : Method} {c : Code} {D : va_G} {cI cR cZ : ClassId} {A : Nat → Prop} (C : Cx p s m args meth c D (tyG cI cR cZ) b_Mo_at 3 "MaskLayersModel") (hr : meth.sig.returnType = some .int) (hA : ∀ q : Nat, s.heap.size ≤ q → A q) {a : (Nat → Nat)} {S : LyS} {v1 : Int32} {v2 : Int32} {res : (Int32 × LyS)} (h : Mo_at_b36 S v1 v2 = some res) : J p l e rm_Mo_at s m args below meth c D A (va_D A) 3 (MQ below (QcI D res.1 (fun _ : Nat => wMo cI cZ a res.2) A) args s 0 0 A) 0 0 (wMo cI cZ a S) [(0, .ref (a 0)), (1, .int v1), (2, .int v2)] [.ref (a 0)] 36 := by
  unfold Mo_at_b36 at h
  refine j_iconst C (v := 2) d_Mo_at_36 (by decide) ?_
  refine j_goto C 41 d_Mo_at_37 (by decide) ?_
  refine j_sub [0, 1, 2] rfl ?_
  exact t_Mo_at_b41 C hr hA h
set_option maxRecDepth 100000 in
set_option maxHeartbeats 4000000 in
theorem c_Mo_at (l : Launch) (D : va_G) (cI cR cZ : ClassId) (a : (Nat → Nat)) (S : LyS) (p1 : Int32) (p2 : Int32) {res : (Int32 × LyS)} (h : Mo_at S p1 p2 = some res) (sz : Nat) : Met l y_Mo_at (Cond.code y_Mo_at b_Mo_at 3 (some .int) :: BIG) rm_Mo_at (PcI [.ref (a 0), .int p1, .int p2] D (tyG cI cR cZ) (wMo cI cZ a S) sz) (QcI D res.1 (fun _ : Nat => wMo cI cZ a res.2) (va_A (wMo cI cZ a S) sz)) 0 0 (va_A (wMo cI cZ a S) sz) := by
  refine met_I (by decide) (Nat.le_of_ble_eq_true rfl) (fun p e s m args below meth c A hA C hr => ?_)
  have C : Cx p s m args meth c D (tyG cI cR cZ) b_Mo_at 3 "MaskLayersModel" := C
  have hr : meth.sig.returnType = some .int := hr
  show J p l e rm_Mo_at s m args below meth c D A (va_D A) 3 (MQ below (QcI D res.1 (fun _ : Nat => wMo cI cZ a res.2) A) args s 0 0 A) 0 0 (wMo cI cZ a S) [(0, .ref (a 0)), (1, .int p1), (2, .int p2)] [] 0
  unfold Mo_at at h
  refine j_aload_n C 0 d_Mo_at_0 rfl ?_
  refine j_aload_n C 0 d_Mo_at_1 rfl ?_
  refine gf_Mo_200 C 0 (v := .int (S.1 13)) mo_h rfl d_Mo_at_2 ?_
  refine j_if_ne C 12 d_Mo_at_5 (by decide) (fun c7 => ?_) (fun c7 => ?_)
  · replace h := (if_neg c7).symm.trans h
    refine j_iload_n C 1 d_Mo_at_12 rfl ?_
    refine j_if_lt C 36 d_Mo_at_13 (by decide) (fun c6 => ?_) (fun c6 => ?_)
    · replace h := (if_pos c6).symm.trans h
      refine j_sub [0, 1, 2] rfl ?_
      exact t_Mo_at_b36 C hr hA h
    · replace h := (if_neg c6).symm.trans h
      refine j_iload_n C 2 d_Mo_at_16 rfl ?_
      refine j_if_lt C 36 d_Mo_at_17 (by decide) (fun c5 => ?_) (fun c5 => ?_)
      · replace h := (if_pos c5).symm.trans h
        refine j_sub [0, 1, 2] rfl ?_
        exact t_Mo_at_b36 C hr hA h
      · replace h := (if_neg c5).symm.trans h
        refine j_iload_n C 1 d_Mo_at_20 rfl ?_
        refine j_aload_n C 0 d_Mo_at_21 rfl ?_
        refine gf_Mo_200 C 0 (v := .int (S.1 13)) mo_h rfl d_Mo_at_22 ?_
        refine j_icmp_ge C 36 d_Mo_at_25 (by decide) (fun c4 => ?_) (fun c4 => ?_)
        · replace h := (if_pos c4).symm.trans h
          refine j_sub [0, 1, 2] rfl ?_
          exact t_Mo_at_b36 C hr hA h
        · replace h := (if_neg c4).symm.trans h
          refine j_iload_n C 2 d_Mo_at_28 rfl ?_
          refine j_aload_n C 0 d_Mo_at_29 rfl ?_
          refine gf_Mo_203 C 0 (v := .int (S.1 14)) mo_h rfl d_Mo_at_30 ?_
          refine j_icmp_lt C 40 d_Mo_at_33 (by decide) (fun c3 => ?_) (fun c3 => ?_)
          · replace h := (if_pos c3).symm.trans h
            refine j_iconst C (v := 0) d_Mo_at_40 (by decide) ?_
            refine j_sub [0, 1, 2] rfl ?_
            exact t_Mo_at_b41 C hr hA h
          · replace h := (if_neg c3).symm.trans h
            refine j_sub [0, 1, 2] rfl ?_
            exact t_Mo_at_b36 C hr hA h
  · replace h := (if_pos c7).symm.trans h
    refine j_iconst C (v := 1) d_Mo_at_8 (by decide) ?_
    refine j_goto C 41 d_Mo_at_9 (by decide) ?_
    refine j_sub [0, 1, 2] rfl ?_
    exact t_Mo_at_b41 C hr hA h
def Mo_told_l9 (S : LyS) (v1 : Int32) : Nat → Int32 → Int32 → Option (Nat × Int32)
  | 0, _, _ => none
  | k + 1, v2, v3 =>
  (if 576 ≤ v3 then some (0, v2)
  else gd v3 576 ((if (S.2 1 v3.toNatClampNeg) = 0 then Mo_told_l9 S v1 k (v2 + 0) (v3 + 1)
  else Mo_told_l9 S v1 k (v2 + 1) (v3 + 1))))
def Mo_told (fu : Nat) (S : LyS) (p1 : Int32) : Option (Int32 × LyS) :=
  (Mo_told_l9 (Lf S 0 0) p1 fu 0 0).bind fun r4 =>
  (if p1 = 0 then some ((Lf S 0 0).1 1, Lf S 0 0)
  else (if p1 = 1 then some ((Lf S 0 0).1 2, Lf S 0 0)
  else (if p1 = 2 then (Mo_stripesOf ((Lf S 0 0).1 2) ((Lf S 0 0).1 3)).bind fun r7 =>
  some (r7, Lf S 0 0)
  else (if p1 = 3 then some (r4.2, Lf S 0 0)
  else (if p1 = 4 then some ((Lf S 0 0).1 9, Lf S 0 0)
  else (if p1 = 5 then some ((Lf S 0 0).1 10, Lf S 0 0)
  else (if p1 = 6 then some ((Lf S 0 0).1 13, Lf S 0 0)
  else (if p1 = 7 then some ((Lf S 0 0).1 14, Lf S 0 0)
  else (if p1 = 8 then (if ((Lf S 0 0).1 4) = 0 then some (0, Lf S 0 0)
  else some ((Lf S 0 0).1 8, Lf S 0 0))
  else some ((-1), Lf S 0 0))))))))))
set_option maxRecDepth 100000 in
set_option maxHeartbeats 4000000 in
theorem t_Mo_told_l9 {p : Program} {l : Launch} {e : Env} {s : State} {m : MethodId} {args : Array Value} {below : List Frame} {meth : Method} {c : Code} {D : va_G} {cI cR cZ : ClassId} {A : Nat → Prop} {Q : State → Prop} (C : Cx p s m args meth c D (tyG cI cR cZ) b_Mo_told 4 "MaskLayersModel") (hA : ∀ q : Nat, s.heap.size ≤ q → A q) {a : (Nat → Nat)} {S : LyS} {v1 : Int32} {out : Nat × Int32} : ∀ (k : Nat) (v2 : Int32) (v3 : Int32), Mo_told_l9 S v1 k v2 v3 = some out → (out.1 = 0 → J p l e rm_Mo_told s m args below meth c D A (va_D A) 4 Q 0 0 (wMo cI cZ a S) [(0, .ref (a 0)), (1, .int v1), (2, .int out.2)] [] 39) → J p l e rm_Mo_told s m args below meth c D A (va_D A) 4 Q 0 0 (wMo cI cZ a S) [(0, .ref (a 0)), (1, .int v1), (2, .int v2), (3, .int v3)] [] 9 := by
  intro k
  induction k with
  | zero => intro v2 v3 h; cases (show none = some out from h)
  | succ k ih =>
    intro v2 v3 h x0
    rw [Mo_told_l9] at h
    refine j_iload_n C 3 d_Mo_told_9 rfl ?_
    refine j_sipush C (v := 576) d_Mo_told_10 (by decide) ?_
    refine j_icmp_ge C 39 d_Mo_told_13 (by decide) (fun c3 => ?_) (fun c3 => ?_)
    · replace h := (if_pos c3).symm.trans h
      obtain rfl := Option.some.inj h
      refine j_sub [0, 1, 2] rfl ?_
      exact x0 rfl
    · replace h := (if_neg c3).symm.trans h
      refine j_iload_n C 2 d_Mo_told_16 rfl ?_
      refine j_aload_n C 0 d_Mo_told_17 rfl ?_
      refine gf_Mo_17 C 0 (v := .ref (a 2)) mo_h rfl d_Mo_told_18 ?_
      refine j_iload_n C 3 d_Mo_told_21 rfl ?_
      obtain ⟨b1, h⟩ := gd_ok h
      refine j_zald C (2) (t0 := 1) mo_g1 rfl b1 d_Mo_told_22 ?_
      refine j_if_eq C 30 d_Mo_told_23 (by decide) (fun c2 => ?_) (fun c2 => ?_)
      · replace h := (if_pos c2).symm.trans h
        refine j_iconst C (v := 0) d_Mo_told_30 (by decide) ?_
        refine j_iadd C d_Mo_told_31 ?_
        refine j_istore_n C [(2, .int (v2 + 0)), (0, .ref (a 0)), (1, .int v1), (3, .int v3)] d_Mo_told_32 (by decide) rfl ?_
        refine j_iinc C [(3, .int (v3 + 1)), (2, .int (v2 + 0)), (0, .ref (a 0)), (1, .int v1)] 3 (v3 + 1) d_Mo_told_33 rfl rfl (by decide) rfl ?_
        refine j_goto C 9 d_Mo_told_36 (by decide) ?_
        refine j_sub [2, 3, 1, 0] rfl ?_
        exact ih (v2 + 0) (v3 + 1) h x0
      · replace h := (if_neg c2).symm.trans h
        refine j_iconst C (v := 1) d_Mo_told_26 (by decide) ?_
        refine j_goto C 31 d_Mo_told_27 (by decide) ?_
        refine j_iadd C d_Mo_told_31 ?_
        refine j_istore_n C [(2, .int (v2 + 1)), (0, .ref (a 0)), (1, .int v1), (3, .int v3)] d_Mo_told_32 (by decide) rfl ?_
        refine j_iinc C [(3, .int (v3 + 1)), (2, .int (v2 + 1)), (0, .ref (a 0)), (1, .int v1)] 3 (v3 + 1) d_Mo_told_33 rfl rfl (by decide) rfl ?_
        refine j_goto C 9 d_Mo_told_36 (by decide) ?_
        refine j_sub [2, 3, 1, 0] rfl ?_
        exact ih (v2 + 1) (v3 + 1) h x0
set_option maxRecDepth 100000 in
set_option maxHeartbeats 4000000 in
theorem c_Mo_told (l : Launch) (D : va_G) (cI cR cZ : ClassId) (fu : Nat) (a : (Nat → Nat)) (S : LyS) (p1 : Int32) {res : (Int32 × LyS)} (h : Mo_told fu S p1 = some res) (sz : Nat) : Met l y_Mo_told (Cond.code y_Mo_told b_Mo_told 4 (some .int) :: BIG) rm_Mo_told (PcI [.ref (a 0), .int p1] D (tyG cI cR cZ) (wMo cI cZ a S) sz) (QcI D res.1 (fun _ : Nat => wMo cI cZ a res.2) (va_A (wMo cI cZ a S) sz)) 0 0 (va_A (wMo cI cZ a S) sz) := by
  refine met_I (by decide) (Nat.le_of_ble_eq_true rfl) (fun p e s m args below meth c A hA C hr => ?_)
  have C : Cx p s m args meth c D (tyG cI cR cZ) b_Mo_told 4 "MaskLayersModel" := C
  have hr : meth.sig.returnType = some .int := hr
  show J p l e rm_Mo_told s m args below meth c D A (va_D A) 4 (MQ below (QcI D res.1 (fun _ : Nat => wMo cI cZ a res.2) A) args s 0 0 A) 0 0 (wMo cI cZ a S) [(0, .ref (a 0)), (1, .int p1)] [] 0
  unfold Mo_told at h
  refine j_aload_n C 0 d_Mo_told_0 rfl ?_
  refine j_iconst C (v := 0) d_Mo_told_1 (by decide) ?_
  refine pf_Mo_51 C 0 (wMo cI cZ a (Lf S 0 0)) mo_h rfl mo_f0 d_Mo_told_2 ?_
  refine j_iconst C (v := 0) d_Mo_told_5 (by decide) ?_
  refine j_istore_n C [(2, .int 0), (0, .ref (a 0)), (1, .int p1)] d_Mo_told_6 (by decide) rfl ?_
  refine j_iconst C (v := 0) d_Mo_told_7 (by decide) ?_
  refine j_istore_n C [(3, .int 0), (2, .int 0), (0, .ref (a 0)), (1, .int p1)] d_Mo_told_8 (by decide) rfl ?_
  obtain ⟨r4, hr4, h⟩ := bd_ok h
  refine j_sub [2, 3, 1, 0] rfl ?_
  refine t_Mo_told_l9 C hA fu 0 0 hr4 (fun e16 => ?_)
  · refine j_iload_n C 1 d_Mo_told_39 rfl ?_
    by_cases c5 : p1 = 0
    · replace h := (if_pos c5).symm.trans h
      refine j_tabIn C 92 d_Mo_told_40 (by rw [c5]; decide) (by rw [c5]; decide) (off := 52) (by rw [c5]; rfl) (by decide) ?_
      refine j_aload_n C 0 d_Mo_told_92 rfl ?_
      refine gf_Mo_45 C 0 (v := .int ((Lf S 0 0).1 1)) mo_h rfl d_Mo_told_93 ?_
      obtain rfl := Option.some.inj h
      exact j_iret C hr d_Mo_told_96 0 rfl
    replace h := (if_neg c5).symm.trans h
    by_cases c6 : p1 = 1
    · replace h := (if_pos c6).symm.trans h
      refine j_tabIn C 97 d_Mo_told_40 (by rw [c6]; decide) (by rw [c6]; decide) (off := 57) (by rw [c6]; rfl) (by decide) ?_
      refine j_aload_n C 0 d_Mo_told_97 rfl ?_
      refine gf_Mo_48 C 0 (v := .int ((Lf S 0 0).1 2)) mo_h rfl d_Mo_told_98 ?_
      obtain rfl := Option.some.inj h
      exact j_iret C hr d_Mo_told_101 0 rfl
    replace h := (if_neg c6).symm.trans h
    by_cases c8 : p1 = 2
    · replace h := (if_pos c8).symm.trans h
      refine j_tabIn C 102 d_Mo_told_40 (by rw [c8]; decide) (by rw [c8]; decide) (off := 62) (by rw [c8]; rfl) (by decide) ?_
      refine j_aload_n C 0 d_Mo_told_102 rfl ?_
      refine gf_Mo_48 C 0 (v := .int ((Lf S 0 0).1 2)) mo_h rfl d_Mo_told_103 ?_
      refine j_aload_n C 0 d_Mo_told_106 rfl ?_
      refine gf_Mo_7 C 0 (v := .int ((Lf S 0 0).1 3)) mo_h rfl d_Mo_told_107 ?_
      obtain ⟨r7, hr7, h⟩ := bd_ok h
      refine j_PS C [.int ((Lf S 0 0).1 2), .int ((Lf S 0 0).1 3)] (c_Mo_stripesOf l D cI cR cZ ((Lf S 0 0).1 2) ((Lf S 0 0).1 3) hr7) (cw_Mo_63 C ⟨Nat.le_of_ble_eq_true rfl, Nat.le_of_ble_eq_true rfl⟩) [] rfl rfl rfl (Nat.le_of_ble_eq_true rfl) d_Mo_told_110 (by decide) ?_
      obtain rfl := Option.some.inj h
      exact j_iret C hr d_Mo_told_113 0 rfl
    replace h := (if_neg c8).symm.trans h
    by_cases c9 : p1 = 3
    · replace h := (if_pos c9).symm.trans h
      refine j_tabIn C 114 d_Mo_told_40 (by rw [c9]; decide) (by rw [c9]; decide) (off := 74) (by rw [c9]; rfl) (by decide) ?_
      refine j_iload_n C 2 d_Mo_told_114 rfl ?_
      obtain rfl := Option.some.inj h
      exact j_iret C hr d_Mo_told_115 0 rfl
    replace h := (if_neg c9).symm.trans h
    by_cases c10 : p1 = 4
    · replace h := (if_pos c10).symm.trans h
      refine j_tabIn C 116 d_Mo_told_40 (by rw [c10]; decide) (by rw [c10]; decide) (off := 76) (by rw [c10]; rfl) (by decide) ?_
      refine j_aload_n C 0 d_Mo_told_116 rfl ?_
      refine gf_Mo_147 C 0 (v := .int ((Lf S 0 0).1 9)) mo_h rfl d_Mo_told_117 ?_
      obtain rfl := Option.some.inj h
      exact j_iret C hr d_Mo_told_120 0 rfl
    replace h := (if_neg c10).symm.trans h
    by_cases c11 : p1 = 5
    · replace h := (if_pos c11).symm.trans h
      refine j_tabIn C 121 d_Mo_told_40 (by rw [c11]; decide) (by rw [c11]; decide) (off := 81) (by rw [c11]; rfl) (by decide) ?_
      refine j_aload_n C 0 d_Mo_told_121 rfl ?_
      refine gf_Mo_166 C 0 (v := .int ((Lf S 0 0).1 10)) mo_h rfl d_Mo_told_122 ?_
      obtain rfl := Option.some.inj h
      exact j_iret C hr d_Mo_told_125 0 rfl
    replace h := (if_neg c11).symm.trans h
    by_cases c12 : p1 = 6
    · replace h := (if_pos c12).symm.trans h
      refine j_tabIn C 126 d_Mo_told_40 (by rw [c12]; decide) (by rw [c12]; decide) (off := 86) (by rw [c12]; rfl) (by decide) ?_
      refine j_aload_n C 0 d_Mo_told_126 rfl ?_
      refine gf_Mo_200 C 0 (v := .int ((Lf S 0 0).1 13)) mo_h rfl d_Mo_told_127 ?_
      obtain rfl := Option.some.inj h
      exact j_iret C hr d_Mo_told_130 0 rfl
    replace h := (if_neg c12).symm.trans h
    by_cases c13 : p1 = 7
    · replace h := (if_pos c13).symm.trans h
      refine j_tabIn C 131 d_Mo_told_40 (by rw [c13]; decide) (by rw [c13]; decide) (off := 91) (by rw [c13]; rfl) (by decide) ?_
      refine j_aload_n C 0 d_Mo_told_131 rfl ?_
      refine gf_Mo_203 C 0 (v := .int ((Lf S 0 0).1 14)) mo_h rfl d_Mo_told_132 ?_
      obtain rfl := Option.some.inj h
      exact j_iret C hr d_Mo_told_135 0 rfl
    replace h := (if_neg c13).symm.trans h
    by_cases c15 : p1 = 8
    · replace h := (if_pos c15).symm.trans h
      refine j_tabIn C 136 d_Mo_told_40 (by rw [c15]; decide) (by rw [c15]; decide) (off := 96) (by rw [c15]; rfl) (by decide) ?_
      refine j_aload_n C 0 d_Mo_told_136 rfl ?_
      refine gf_Mo_124 C 0 (v := .int ((Lf S 0 0).1 4)) mo_h rfl d_Mo_told_137 ?_
      refine j_if_eq C 150 d_Mo_told_140 (by decide) (fun c14 => ?_) (fun c14 => ?_)
      · replace h := (if_pos c14).symm.trans h
        refine j_iconst C (v := 0) d_Mo_told_150 (by decide) ?_
        obtain rfl := Option.some.inj h
        exact j_iret C hr d_Mo_told_151 0 rfl
      · replace h := (if_neg c14).symm.trans h
        refine j_aload_n C 0 d_Mo_told_143 rfl ?_
        refine gf_Mo_134 C 0 (v := .int ((Lf S 0 0).1 8)) mo_h rfl d_Mo_told_144 ?_
        refine j_goto C 151 d_Mo_told_147 (by decide) ?_
        obtain rfl := Option.some.inj h
        exact j_iret C hr d_Mo_told_151 0 rfl
    replace h := (if_neg c15).symm.trans h
    refine j_tabOut C 152 d_Mo_told_40 (tab_no (n := 8) (by decide) (by intro k hk; rcases (by omega : k = 0 ∨ k = 1 ∨ k = 2 ∨ k = 3 ∨ k = 4 ∨ k = 5 ∨ k = 6 ∨ k = 7 ∨ k = 8) with rfl | rfl | rfl | rfl | rfl | rfl | rfl | rfl | rfl <;> first | exact c5 | exact c6 | exact c8 | exact c9 | exact c10 | exact c11 | exact c12 | exact c13 | exact c15)) (by decide) ?_
    refine j_iconst C (v := (-1)) d_Mo_told_152 (by decide) ?_
    obtain rfl := Option.some.inj h
    exact j_iret C hr d_Mo_told_153 0 rfl
def Mo_clear_l7  : Nat → Int32 → LyS → Option (Nat × LyS)
  | 0, _, _ => none
  | k + 1, v1, S =>
  (if 576 ≤ v1 then some (0, S)
  else gd v1 576 (gd v1 576 (zb 0 (Mo_clear_l7 k (v1 + 1) (Ls (Ls S 0 v1.toNatClampNeg 0) 1 v1.toNatClampNeg 0)))))
def Mo_clear (fu : Nat) (S : LyS) : Option (LyS) :=
  (Mo_clear_l7 fu 0 (Lf S 0 0)).bind fun r5 =>
  zb 0 (some (Lf (Lf (Lf (Lf (Lf (Lf (Lf r5.2 3 24) 4 0) 8 0) 9 0) 10 0) 13 0) 14 0))
set_option maxRecDepth 100000 in
set_option maxHeartbeats 4000000 in
theorem t_Mo_clear_l7 {p : Program} {l : Launch} {e : Env} {s : State} {m : MethodId} {args : Array Value} {below : List Frame} {meth : Method} {c : Code} {D : va_G} {cI cR cZ : ClassId} {A : Nat → Prop} {Q : State → Prop} (C : Cx p s m args meth c D (tyG cI cR cZ) b_Mo_clear 2 "MaskLayersModel") (hA : ∀ q : Nat, s.heap.size ≤ q → A q) {a : (Nat → Nat)} {out : Nat × LyS} : ∀ (k : Nat) (v1 : Int32) (S : LyS), Mo_clear_l7 k v1 S = some out → (out.1 = 0 → J p l e rm_Mo_clear s m args below meth c D A (va_D A) 2 Q 0 0 (wMo cI cZ a out.2) [(0, .ref (a 0))] [] 34) → J p l e rm_Mo_clear s m args below meth c D A (va_D A) 2 Q 0 0 (wMo cI cZ a S) [(0, .ref (a 0)), (1, .int v1)] [] 7 := by
  intro k
  induction k with
  | zero => intro v1 S h; cases (show none = some out from h)
  | succ k ih =>
    intro v1 S h x0
    rw [Mo_clear_l7] at h
    refine j_iload_n C 1 d_Mo_clear_7 rfl ?_
    refine j_sipush C (v := 576) d_Mo_clear_8 (by decide) ?_
    refine j_icmp_ge C 34 d_Mo_clear_11 (by decide) (fun c4 => ?_) (fun c4 => ?_)
    · replace h := (if_pos c4).symm.trans h
      obtain rfl := Option.some.inj h
      refine j_sub [0] rfl ?_
      exact x0 rfl
    · replace h := (if_neg c4).symm.trans h
      refine j_aload_n C 0 d_Mo_clear_14 rfl ?_
      refine gf_Mo_13 C 0 (v := .ref (a 1)) mo_h rfl d_Mo_clear_15 ?_
      refine j_iload_n C 1 d_Mo_clear_18 rfl ?_
      refine j_iconst C (v := 0) d_Mo_clear_19 (by decide) ?_
      obtain ⟨b1, h⟩ := gd_ok h
      refine j_iast C (1) (wMo cI cZ a (Ls S 0 v1.toNatClampNeg 0)) (t0 := 0) mo_g0 mo_s0 rfl b1 d_Mo_clear_20 ?_
      refine j_aload_n C 0 d_Mo_clear_21 rfl ?_
      refine gf_Mo_17 C 0 (v := .ref (a 2)) mo_h rfl d_Mo_clear_22 ?_
      refine j_iload_n C 1 d_Mo_clear_25 rfl ?_
      refine j_iconst C (v := 0) d_Mo_clear_26 (by decide) ?_
      obtain ⟨b2, h⟩ := gd_ok h
      obtain ⟨b3, h⟩ := zb_ok h
      refine j_zast C (2) (wMo cI cZ a (Ls (Ls S 0 v1.toNatClampNeg 0) 1 v1.toNatClampNeg 0)) (t0 := 1) mo_g1 mo_s1 rfl b2 b3 d_Mo_clear_27 ?_
      refine j_iinc C [(1, .int (v1 + 1)), (0, .ref (a 0))] 1 (v1 + 1) d_Mo_clear_28 rfl rfl (by decide) rfl ?_
      refine j_goto C 7 d_Mo_clear_31 (by decide) ?_
      refine j_sub [1, 0] rfl ?_
      exact ih (v1 + 1) (Ls (Ls S 0 v1.toNatClampNeg 0) 1 v1.toNatClampNeg 0) h x0
set_option maxRecDepth 100000 in
set_option maxHeartbeats 4000000 in
theorem c_Mo_clear (l : Launch) (D : va_G) (cI cR cZ : ClassId) (fu : Nat) (a : (Nat → Nat)) (S : LyS) {res : (LyS)} (h : Mo_clear fu S = some res) (sz : Nat) : Met l y_Mo_clear (Cond.code y_Mo_clear b_Mo_clear 2 none :: BIG) rm_Mo_clear (PcI [.ref (a 0)] D (tyG cI cR cZ) (wMo cI cZ a S) sz) (QcV D (fun _ : Nat => wMo cI cZ a res) (va_A (wMo cI cZ a S) sz)) 0 0 (va_A (wMo cI cZ a S) sz) := by
  refine met_V (by decide) (Nat.le_of_ble_eq_true rfl) (fun p e s m args below meth c A hA C hr => ?_)
  have C : Cx p s m args meth c D (tyG cI cR cZ) b_Mo_clear 2 "MaskLayersModel" := C
  have hr : meth.sig.returnType = none := hr
  show J p l e rm_Mo_clear s m args below meth c D A (va_D A) 2 (MQ below (QcV D (fun _ : Nat => wMo cI cZ a res) A) args s 0 0 A) 0 0 (wMo cI cZ a S) [(0, .ref (a 0))] [] 0
  unfold Mo_clear at h
  refine j_aload_n C 0 d_Mo_clear_0 rfl ?_
  refine j_iconst C (v := 0) d_Mo_clear_1 (by decide) ?_
  refine pf_Mo_51 C 0 (wMo cI cZ a (Lf S 0 0)) mo_h rfl mo_f0 d_Mo_clear_2 ?_
  refine j_iconst C (v := 0) d_Mo_clear_5 (by decide) ?_
  refine j_istore_n C [(1, .int 0), (0, .ref (a 0))] d_Mo_clear_6 (by decide) rfl ?_
  obtain ⟨r5, hr5, h⟩ := bd_ok h
  refine j_sub [1, 0] rfl ?_
  refine t_Mo_clear_l7 C hA fu 0 (Lf S 0 0) hr5 (fun e7 => ?_)
  · refine j_aload_n C 0 d_Mo_clear_34 rfl ?_
    refine j_bipush C (v := 24) d_Mo_clear_35 (by decide) ?_
    refine pf_Mo_7 C 0 (wMo cI cZ a (Lf r5.2 3 24)) mo_h rfl mo_f3 d_Mo_clear_37 ?_
    refine j_aload_n C 0 d_Mo_clear_40 rfl ?_
    refine j_iconst C (v := 0) d_Mo_clear_41 (by decide) ?_
    obtain ⟨b6, h⟩ := zb_ok h
    refine pf_Mo_124 C 0 (wMo cI cZ a (Lf (Lf r5.2 3 24) 4 0)) mo_h rfl mo_f4 b6 d_Mo_clear_42 ?_
    refine j_aload_n C 0 d_Mo_clear_45 rfl ?_
    refine j_iconst C (v := 0) d_Mo_clear_46 (by decide) ?_
    refine pf_Mo_134 C 0 (wMo cI cZ a (Lf (Lf (Lf r5.2 3 24) 4 0) 8 0)) mo_h rfl mo_f8 d_Mo_clear_47 ?_
    refine j_aload_n C 0 d_Mo_clear_50 rfl ?_
    refine j_iconst C (v := 0) d_Mo_clear_51 (by decide) ?_
    refine pf_Mo_147 C 0 (wMo cI cZ a (Lf (Lf (Lf (Lf r5.2 3 24) 4 0) 8 0) 9 0)) mo_h rfl mo_f9 d_Mo_clear_52 ?_
    refine j_aload_n C 0 d_Mo_clear_55 rfl ?_
    refine j_iconst C (v := 0) d_Mo_clear_56 (by decide) ?_
    refine pf_Mo_166 C 0 (wMo cI cZ a (Lf (Lf (Lf (Lf (Lf r5.2 3 24) 4 0) 8 0) 9 0) 10 0)) mo_h rfl mo_f10 d_Mo_clear_57 ?_
    refine j_aload_n C 0 d_Mo_clear_60 rfl ?_
    refine j_iconst C (v := 0) d_Mo_clear_61 (by decide) ?_
    refine pf_Mo_200 C 0 (wMo cI cZ a (Lf (Lf (Lf (Lf (Lf (Lf r5.2 3 24) 4 0) 8 0) 9 0) 10 0) 13 0)) mo_h rfl mo_f13 d_Mo_clear_62 ?_
    refine j_aload_n C 0 d_Mo_clear_65 rfl ?_
    refine j_iconst C (v := 0) d_Mo_clear_66 (by decide) ?_
    refine pf_Mo_203 C 0 (wMo cI cZ a (Lf (Lf (Lf (Lf (Lf (Lf (Lf r5.2 3 24) 4 0) 8 0) 9 0) 10 0) 13 0) 14 0)) mo_h rfl mo_f14 d_Mo_clear_67 ?_
    obtain rfl := Option.some.inj h
    exact j_vret C hr d_Mo_clear_70 0 rfl
