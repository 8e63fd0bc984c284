def Mo_out (S : LyS) (p1 : Int32) : Option (LyS) :=
  gd (S.1 9) 6400 (some (Lf (Ls S 5 ((S.1 9).toNatClampNeg) p1) 9 (((Ls S 5 ((S.1 9).toNatClampNeg) p1).1 9) + 1)))
set_option maxRecDepth 100000 in
set_option maxHeartbeats 4000000 in
theorem c_Mo_out (l : Launch) (D : va_G) (cI cR cZ : ClassId) (a : (Nat → Nat)) (S : LyS) (p1 : Int32) {res : (LyS)} (h : Mo_out S p1 = some res) (sz : Nat) : Met l y_Mo_out (Cond.code y_Mo_out b_Mo_out 2 none :: BIG) rm_Mo_out (PcI [.ref (a 0), .int p1] D (tyG cI cR cZ) (wMo cI cZ a S) sz) (QcV D (fun _ : Nat => wMo cI cZ a res) (va_A (wMo cI cZ a S) sz)) 0 0 (va_A (wMo cI cZ a S) sz) := by
  refine met_V (by decide) (Nat.le_of_ble_eq_true rfl) (fun p e s m args below meth c A hA C hr => ?_)
  have C : Cx p s m args meth c D (tyG cI cR cZ) b_Mo_out 2 "MaskLayersModel" := C
  have hr : meth.sig.returnType = none := hr
  show J p l e rm_Mo_out s m args below meth c D A (va_D A) 2 (MQ below (QcV D (fun _ : Nat => wMo cI cZ a res) A) args s 0 0 A) 0 0 (wMo cI cZ a S) [(0, .ref (a 0)), (1, .int p1)] [] 0
  unfold Mo_out at h
  refine j_aload_n C 0 d_Mo_out_0 rfl ?_
  refine gf_Mo_30 C 0 (v := .ref (a 6)) mo_h rfl d_Mo_out_1 ?_
  refine j_aload_n C 0 d_Mo_out_4 rfl ?_
  refine gf_Mo_147 C 0 (v := .int (S.1 9)) mo_h rfl d_Mo_out_5 ?_
  refine j_iload_n C 1 d_Mo_out_8 rfl ?_
  obtain ⟨b1, h⟩ := gd_ok h
  refine j_iast C (6) (wMo cI cZ a (Ls S 5 ((S.1 9).toNatClampNeg) p1)) (t0 := 0) mo_g5 mo_s5 rfl b1 d_Mo_out_9 ?_
  refine j_aload_n C 0 d_Mo_out_10 rfl ?_
  refine j_dup C d_Mo_out_11 rfl ?_
  refine gf_Mo_147 C 0 (v := .int ((Ls S 5 ((S.1 9).toNatClampNeg) p1).1 9)) mo_h rfl d_Mo_out_12 ?_
  refine j_iconst C (v := 1) d_Mo_out_15 (by decide) ?_
  refine j_iadd C d_Mo_out_16 ?_
  refine pf_Mo_147 C 0 (wMo cI cZ a (Lf (Ls S 5 ((S.1 9).toNatClampNeg) p1) 9 (((Ls S 5 ((S.1 9).toNatClampNeg) p1).1 9) + 1))) mo_h rfl mo_f9 d_Mo_out_17 ?_
  obtain rfl := Option.some.inj h
  exact j_vret C hr d_Mo_out_20 0 rfl
def Mo_outValue (S : LyS) (p1 : Int32) (p2 : Int32) : Option (LyS) :=
  (if p1 = 1 then (Mo_out S (p2 &&& 255)).bind fun r1 =>
  some (r1)
  else (Mo_out S (p2 >>> ((16 : Int32) &&& 31))).bind fun r2 =>
  (Mo_out r2 ((p2 >>> ((8 : Int32) &&& 31)) &&& 255)).bind fun r3 =>
  (Mo_out r3 (p2 &&& 255)).bind fun r4 =>
  some (r4))
set_option maxRecDepth 100000 in
set_option maxHeartbeats 4000000 in
theorem c_Mo_outValue (l : Launch) (D : va_G) (cI cR cZ : ClassId) (a : (Nat → Nat)) (S : LyS) (p1 : Int32) (p2 : Int32) {res : (LyS)} (h : Mo_outValue S p1 p2 = some res) (sz : Nat) : Met l y_Mo_outValue (Cond.code y_Mo_outValue b_Mo_outValue 3 none :: BIG) rm_Mo_outValue (PcI [.ref (a 0), .int p1, .int p2] D (tyG cI cR cZ) (wMo cI cZ a S) sz) (QcV D (fun _ : Nat => wMo cI cZ a res) (va_A (wMo cI cZ a S) sz)) 0 0 (va_A (wMo cI cZ a S) sz) := by
  refine met_V (by decide) (Nat.le_of_ble_eq_true rfl) (fun p e s m args below meth c A hA C hr => ?_)
  have C : Cx p s m args meth c D (tyG cI cR cZ) b_Mo_outValue 3 "MaskLayersModel" := C
  have hr : meth.sig.returnType = none := hr
  show J p l e rm_Mo_outValue s m args below meth c D A (va_D A) 3 (MQ below (QcV D (fun _ : Nat => wMo cI cZ a res) A) args s 0 0 A) 0 0 (wMo cI cZ a S) [(0, .ref (a 0)), (1, .int p1), (2, .int p2)] [] 0
  unfold Mo_outValue at h
  refine j_iload_n C 1 d_Mo_outValue_0 rfl ?_
  refine j_iconst C (v := 1) d_Mo_outValue_1 (by decide) ?_
  refine j_icmp_eq C 25 d_Mo_outValue_2 (by decide) (fun c5 => ?_) (fun c5 => ?_)
  · replace h := (if_pos c5).symm.trans h
    refine j_aload_n C 0 d_Mo_outValue_25 rfl ?_
    refine j_iload_n C 2 d_Mo_outValue_26 rfl ?_
    refine j_sipush C (v := 255) d_Mo_outValue_27 (by decide) ?_
    refine j_iand C d_Mo_outValue_30 ?_
    obtain ⟨r1, hr1, h⟩ := bd_ok h
    refine j_VV C [.int (p2 &&& 255)] hA 0 rfl rfl (c_Mo_out l D cI cR cZ a S (p2 &&& 255) hr1) (cw_Mo_150 C ⟨Nat.le_of_ble_eq_true rfl, Nat.le_of_ble_eq_true rfl⟩) [0, 1, 2, 3, 4, 5, 6, 7, 8, 9, 10] [] rfl rfl (by decide) (by decide) (by decide) rfl rfl (Nat.le_of_ble_eq_true rfl) d_Mo_outValue_31 (by decide) (fun _ => ?_)
    refine j_ws (ws' := wMo cI cZ a r1) rfl ?_
    obtain rfl := Option.some.inj h
    exact j_vret C hr d_Mo_outValue_34 0 rfl
  · replace h := (if_neg c5).symm.trans h
    refine j_aload_n C 0 d_Mo_outValue_5 rfl ?_
    refine j_iload_n C 2 d_Mo_outValue_6 rfl ?_
    refine j_bipush C (v := 16) d_Mo_outValue_7 (by decide) ?_
    refine j_ishr C d_Mo_outValue_9 ?_
    obtain ⟨r2, hr2, h⟩ := bd_ok h
    refine j_VV C [.int (p2 >>> ((16 : Int32) &&& 31))] hA 0 rfl rfl (c_Mo_out l D cI cR cZ a S (p2 >>> ((16 : Int32) &&& 31)) hr2) (cw_Mo_150 C ⟨Nat.le_of_ble_eq_true rfl, Nat.le_of_ble_eq_true rfl⟩) [0, 1, 2, 3, 4, 5, 6, 7, 8, 9, 10] [] rfl rfl (by decide) (by decide) (by decide) rfl rfl (Nat.le_of_ble_eq_true rfl) d_Mo_outValue_10 (by decide) (fun _ => ?_)
    refine j_ws (ws' := wMo cI cZ a r2) rfl ?_
    refine j_aload_n C 0 d_Mo_outValue_13 rfl ?_
    refine j_iload_n C 2 d_Mo_outValue_14 rfl ?_
    refine j_bipush C (v := 8) d_Mo_outValue_15 (by decide) ?_
    refine j_ishr C d_Mo_outValue_17 ?_
    refine j_sipush C (v := 255) d_Mo_outValue_18 (by decide) ?_
    refine j_iand C d_Mo_outValue_21 ?_
    obtain ⟨r3, hr3, h⟩ := bd_ok h
    refine j_VV C [.int ((p2 >>> ((8 : Int32) &&& 31)) &&& 255)] hA 0 rfl rfl (c_Mo_out l D cI cR cZ a r2 ((p2 >>> ((8 : Int32) &&& 31)) &&& 255) hr3) (cw_Mo_150 C ⟨Nat.le_of_ble_eq_true rfl, Nat.le_of_ble_eq_true rfl⟩) [0, 1, 2, 3, 4, 5, 6, 7, 8, 9, 10] [] rfl rfl (by decide) (by decide) (by decide) rfl rfl (Nat.le_of_ble_eq_true rfl) d_Mo_outValue_22 (by decide) (fun _ => ?_)
    refine j_ws (ws' := wMo cI cZ a r3) rfl ?_
    refine j_aload_n C 0 d_Mo_outValue_25 rfl ?_
    refine j_iload_n C 2 d_Mo_outValue_26 rfl ?_
    refine j_sipush C (v := 255) d_Mo_outValue_27 (by decide) ?_
    refine j_iand C d_Mo_outValue_30 ?_
    obtain ⟨r4, hr4, h⟩ := bd_ok h
    refine j_VV C [.int (p2 &&& 255)] hA 0 rfl rfl (c_Mo_out l D cI cR cZ a r3 (p2 &&& 255) hr4) (cw_Mo_150 C ⟨Nat.le_of_ble_eq_true rfl, Nat.le_of_ble_eq_true rfl⟩) [0, 1, 2, 3, 4, 5, 6, 7, 8, 9, 10] [] rfl rfl (by decide) (by decide) (by decide) rfl rfl (Nat.le_of_ble_eq_true rfl) d_Mo_outValue_31 (by decide) (fun _ => ?_)
    refine j_ws (ws' := wMo cI cZ a r4) rfl ?_
    obtain rfl := Option.some.inj h
    exact j_vret C hr d_Mo_outValue_34 0 rfl
def Mo_outLayer_l11 (fu : Nat) (S : LyS) (v1 : Int32) (v2 : Int32) : Nat → Int32 → Int32 → Option (Nat × Int32)
  | 0, _, _ => none
  | k + 1, v3, v4 =>
  (if v2 ≤ v4 then some (0, v3)
  else (if v1 = 1 then some ((2 : Int32))
  else some ((4 : Int32))).bind fun r2 =>
  (Mo_same fu S v1 v4).bind fun r3 =>
  Mo_outLayer_l11 fu S v1 v2 k (v3 + r2) (v4 + r3))
def Mo_outLayer_l261 (v1 : Int32) (v2 : Int32) : Nat → Int32 → LyS → Option (Nat × LyS)
  | 0, _, _ => none
  | k + 1, v5, S =>
  (if v2 ≤ v5 then some (0, S)
  else (Mo_place S v1 v5).bind fun r13 =>
  gd r13 2304 ((Mo_outValue S v1 (S.2 2 r13.toNatClampNeg)).bind fun r15 =>
  Mo_outLayer_l261 v1 v2 k (v5 + 1) r15))
def Mo_outLayer_l195 (S : LyS) (v1 : Int32) (v2 : Int32) (v5 : Int32) : Nat → Int32 → Int32 → Option (Nat × Int32)
  | 0, _, _ => none
  | k + 1, v6, v7 =>
  (if 8 ≤ v7 then some (0, v6)
  else (if v2 ≤ (v5 + v7) then Mo_outLayer_l195 S v1 v2 v5 k ((2 * v6) + 0) (v7 + 1)
  else (Mo_place S v1 (v5 + v7)).bind fun r19 =>
  gd r19 2304 (Mo_outLayer_l195 S v1 v2 v5 k ((2 * v6) + (S.2 2 r19.toNatClampNeg)) (v7 + 1))))
def Mo_outLayer_l183 (fu : Nat) (v1 : Int32) (v2 : Int32) : Nat → Int32 → LyS → Option (Nat × LyS)
  | 0, _, _ => none
  | k + 1, v5, S =>
  (if v2 ≤ v5 then some (0, S)
  else (Mo_outLayer_l195 S v1 v2 v5 fu 0 0).bind fun r23 =>
  (Mo_out S r23.2).bind fun r24 =>
  Mo_outLayer_l183 fu v1 v2 k (v5 + 8) r24)
def Mo_outLayer_l124 (fu : Nat) (v1 : Int32) (v2 : Int32) : Nat → Int32 → LyS → Option (Nat × LyS)
  | 0, _, _ => none
  | k + 1, v5, S =>
  (if v2 ≤ v5 then some (0, S)
  else (Mo_same fu S v1 v5).bind fun r30 =>
  (Mo_out S r30).bind fun r31 =>
  (Mo_place r31 v1 v5).bind fun r32 =>
  gd r32 2304 ((Mo_outValue r31 v1 (r31.2 2 r32.toNatClampNeg)).bind fun r34 =>
  Mo_outLayer_l124 fu v1 v2 k (v5 + r30) r34))
def Mo_outLayer_b96 (fu : Nat) (S : LyS) (v1 : Int32) (v2 : Int32) (v3 : Int32) (v4 : Int32) (s0 : Int32) : Option (LyS) :=
  (Mo_out S s0).bind fun r10 =>
  (Mo_out r10 (v3 &&& 255)).bind fun r11 =>
  (Mo_out r11 (v3 >>> ((8 : Int32) &&& 31))).bind fun r12 =>
  (if v4 = 0 then (if v1 = 1 then (Mo_outLayer_l183 fu v1 v2 fu 0 r12).bind fun r27 =>
  some (r27.2)
  else (Mo_outLayer_l261 v1 v2 fu 0 r12).bind fun r17 =>
  some (r17.2))
  else (Mo_outLayer_l124 fu v1 v2 fu 0 r12).bind fun r36 =>
  some (r36.2))
def Mo_outLayer_b75 (fu : Nat) (S : LyS) (v1 : Int32) (v2 : Int32) (v4 : Int32) (s0 : Int32) : Option (LyS) :=
  (Mo_out S (160 + v1)).bind fun r9 =>
  (if v4 = 0 then Mo_outLayer_b96 fu r9 v1 v2 s0 v4 0
  else Mo_outLayer_b96 fu r9 v1 v2 s0 v4 1)
def Mo_outLayer_b59 (fu : Nat) (S : LyS) (v1 : Int32) (v2 : Int32) (v3 : Int32) (s0 : Int32) : Option (LyS) :=
  (if s0 = 0 then (Mo_plainSize S v1).bind fun r8 =>
  Mo_outLayer_b75 fu S v1 v2 s0 r8
  else Mo_outLayer_b75 fu S v1 v2 s0 v3)
def Mo_outLayer (fu : Nat) (S : LyS) (p1 : Int32) : Option (LyS) :=
  (Mo_count S p1).bind fun r1 =>
  (Mo_outLayer_l11 fu S p1 r1 fu 0 0).bind fun r6 =>
  (Mo_plainSize S p1).bind fun r7 =>
  (if r7 ≤ r6.2 then Mo_outLayer_b59 fu S p1 r1 r6.2 0
  else Mo_outLayer_b59 fu S p1 r1 r6.2 1)
set_option maxRecDepth 100000 in
set_option maxHeartbeats 4000000 in
theorem t_Mo_outLayer_l11 {p : Program} {l : Launch} {e : Env} {s : State} {m : MethodId} {args : Array Value} {below : List Frame} {meth : Method} {c : Code} {D : va_G} {cI cR cZ : ClassId} {A : Nat → Prop} {Q : State → Prop} (C : Cx p s m args meth c D (tyG cI cR cZ) b_Mo_outLayer 8 "MaskLayersModel") (hA : ∀ q : Nat, s.heap.size ≤ q → A q) {a : (Nat → Nat)} {fu : Nat} {S : LyS} {v1 : Int32} {v2 : Int32} {out : Nat × Int32} : ∀ (k : Nat) (v3 : Int32) (v4 : Int32), Mo_outLayer_l11 fu S v1 v2 k v3 v4 = some out → (out.1 = 0 → J p l e rm_Mo_outLayer s m args below meth c D A (va_D A) 8 Q 0 0 (wMo cI cZ a S) [(0, .ref (a 0)), (1, .int v1), (2, .int v2), (3, .int out.2)] [] 45) → J p l e rm_Mo_outLayer s m args below meth c D A (va_D A) 8 Q 0 0 (wMo cI cZ a S) [(0, .ref (a 0)), (1, .int v1), (2, .int v2), (3, .int v3), (4, .int v4)] [] 11 := by
  intro k
  induction k with
  | zero => intro v3 v4 h; cases (show none = some out from h)
  | succ k ih =>
    intro v3 v4 h x0
    rw [Mo_outLayer_l11] at h
    refine j_iload C 4 d_Mo_outLayer_11 rfl ?_
    refine j_iload_n C 2 d_Mo_outLayer_13 rfl ?_
    refine j_icmp_ge C 45 d_Mo_outLayer_14 (by decide) (fun c5 => ?_) (fun c5 => ?_)
    · replace h := (if_pos c5).symm.trans h
      obtain rfl := Option.some.inj h
      refine j_sub [0, 1, 2, 3] rfl ?_
      exact x0 rfl
    · replace h := (if_neg c5).symm.trans h
      refine j_iload_n C 3 d_Mo_outLayer_17 rfl ?_
      refine j_iload_n C 1 d_Mo_outLayer_18 rfl ?_
      refine j_iconst C (v := 1) d_Mo_outLayer_19 (by decide) ?_
      obtain ⟨r2, hr2, gr2⟩ := bd_ok h
      refine j_let (ws' := wMo cI cZ a S) (lv' := [(0, .ref (a 0)), (1, .int v1), (2, .int v2), (4, .int v4)]) (st' := [.int r2, .int v3]) (pc' := 28) ?_ (fun Kr2 => ?_)
      · replace h := gr2
        refine j_iadd C d_Mo_outLayer_28 ?_
        refine j_istore_n C [(3, .int (v3 + r2)), (0, .ref (a 0)), (1, .int v1), (2, .int v2), (4, .int v4)] d_Mo_outLayer_29 (by decide) rfl ?_
        refine j_iload C 4 d_Mo_outLayer_30 rfl ?_
        refine j_aload_n C 1 d_Mo_outLayer_32 rfl ?_
        refine j_iload_n C 2 d_Mo_outLayer_33 rfl ?_
        refine j_iload C 4 d_Mo_outLayer_34 rfl ?_
        obtain ⟨r3, hr3, h⟩ := bd_ok h
        refine j_PV C [.int v1, .int v4] 0 rfl rfl (c_Mo_same l D cI cR cZ fu a S v1 v4 hr3) (cw_Mo_153 C ⟨Nat.le_of_ble_eq_true rfl, Nat.le_of_ble_eq_true rfl⟩) [0, 1, 2, 3, 4, 5, 6, 7, 8, 9, 10] rfl rfl rfl (Nat.le_of_ble_eq_true rfl) d_Mo_outLayer_36 (by decide) ?_
        refine j_iadd C d_Mo_outLayer_39 ?_
        refine j_istore C [(4, .int (v4 + r3)), (3, .int (v3 + r2)), (0, .ref (a 0)), (1, .int v1), (2, .int v2)] d_Mo_outLayer_40 (by decide) rfl ?_
        refine j_goto C 11 d_Mo_outLayer_42 (by decide) ?_
        refine j_sub [2, 3, 4, 1, 0] rfl ?_
        exact ih (v3 + r2) (v4 + r3) h x0
      · replace h := hr2
        refine j_icmp_ne C 27 d_Mo_outLayer_20 (by decide) (fun c4 => ?_) (fun c4 => ?_)
        · replace h := (if_neg c4).symm.trans h
          refine j_iconst C (v := 4) d_Mo_outLayer_27 (by decide) ?_
          obtain rfl := Option.some.inj h
          refine j_sub [0, 1, 2, 4] rfl ?_
          exact Kr2
        · replace h := (if_pos c4).symm.trans h
          refine j_iconst C (v := 2) d_Mo_outLayer_23 (by decide) ?_
          refine j_goto C 28 d_Mo_outLayer_24 (by decide) ?_
          obtain rfl := Option.some.inj h
          refine j_sub [0, 1, 2, 4] rfl ?_
          exact Kr2
set_option maxRecDepth 100000 in
set_option maxHeartbeats 4000000 in
theorem t_Mo_outLayer_l261 {p : Program} {l : Launch} {e : Env} {s : State} {m : MethodId} {args : Array Value} {below : List Frame} {meth : Method} {c : Code} {D : va_G} {cI cR cZ : ClassId} {A : Nat → Prop} {Q : State → Prop} (C : Cx p s m args meth c D (tyG cI cR cZ) b_Mo_outLayer 8 "MaskLayersModel") (hA : ∀ q : Nat, s.heap.size ≤ q → A q) {a : (Nat → Nat)} {v1 : Int32} {v2 : Int32} {out : Nat × LyS} : ∀ (k : Nat) (v5 : Int32) (S : LyS), Mo_outLayer_l261 v1 v2 k v5 S = some out → (out.1 = 0 → J p l e rm_Mo_outLayer s m args below meth c D A (va_D A) 8 Q 0 0 (wMo cI cZ a out.2) [] [] 290) → J p l e rm_Mo_outLayer s m args below meth c D A (va_D A) 8 Q 0 0 (wMo cI cZ a S) [(0, .ref (a 0)), (1, .int v1), (2, .int v2), (5, .int v5)] [] 261 := by
  intro k
  induction k with
  | zero => intro v5 S h; cases (show none = some out from h)
  | succ k ih =>
    intro v5 S h x0
    rw [Mo_outLayer_l261] at h
    refine j_iload C 3 d_Mo_outLayer_261 rfl ?_
    refine j_iload_n C 2 d_Mo_outLayer_263 rfl ?_
    refine j_icmp_ge C 290 d_Mo_outLayer_264 (by decide) (fun c16 => ?_) (fun c16 => ?_)
    · replace h := (if_pos c16).symm.trans h
      obtain rfl := Option.some.inj h
      refine j_sub [] rfl ?_
      exact x0 rfl
    · replace h := (if_neg c16).symm.trans h
      refine j_aload_n C 0 d_Mo_outLayer_267 rfl ?_
      refine j_iload_n C 1 d_Mo_outLayer_268 rfl ?_
      refine j_aload_n C 0 d_Mo_outLayer_269 rfl ?_
      refine gf_Mo_21 C 0 (v := .ref (a 3)) mo_h rfl d_Mo_outLayer_270 ?_
      refine j_aload_n C 0 d_Mo_outLayer_273 rfl ?_
      refine j_iload_n C 1 d_Mo_outLayer_274 rfl ?_
      refine j_iload C 3 d_Mo_outLayer_275 rfl ?_
      obtain ⟨r13, hr13, h⟩ := bd_ok h
      refine j_PV C [.int v1, .int v5] 0 rfl rfl (c_Mo_place l D cI cR cZ a S v1 v5 hr13) (cw_Mo_88 C ⟨Nat.le_of_ble_eq_true rfl, Nat.le_of_ble_eq_true rfl⟩) [0, 1, 2, 3, 4, 5, 6, 7, 8, 9, 10] rfl rfl rfl (Nat.le_of_ble_eq_true rfl) d_Mo_outLayer_277 (by decide) ?_
      obtain ⟨b14, h⟩ := gd_ok h
      refine j_iald C (3) (t0 := 0) mo_g2 rfl b14 d_Mo_outLayer_280 ?_
      obtain ⟨r15, hr15, h⟩ := bd_ok h
      refine j_VV C [.int v1, .int (S.2 2 r13.toNatClampNeg)] hA 0 rfl rfl (c_Mo_outValue l D cI cR cZ a S v1 (S.2 2 r13.toNatClampNeg) hr15) (cw_Mo_159 C ⟨Nat.le_of_ble_eq_true rfl, Nat.le_of_ble_eq_true rfl⟩) [0, 1, 2, 3, 4, 5, 6, 7, 8, 9, 10] [] rfl rfl (by decide) (by decide) (by decide) rfl rfl (Nat.le_of_ble_eq_true rfl) d_Mo_outLayer_281 (by decide) (fun _ => ?_)
      refine j_ws (ws' := wMo cI cZ a r15) rfl ?_
      refine j_iinc C [(5, .int (v5 + 1)), (0, .ref (a 0)), (1, .int v1), (2, .int v2)] 3 (v5 + 1) d_Mo_outLayer_284 rfl rfl (by decide) rfl ?_
      refine j_goto C 261 d_Mo_outLayer_287 (by decide) ?_
      refine j_sub [1, 2, 3, 0] rfl ?_
      exact ih (v5 + 1) r15 h x0
set_option maxRecDepth 100000 in
set_option maxHeartbeats 4000000 in
theorem t_Mo_outLayer_l195 {p : Program} {l : Launch} {e : Env} {s : State} {m : MethodId} {args : Array Value} {below : List Frame} {meth : Method} {c : Code} {D : va_G} {cI cR cZ : ClassId} {A : Nat → Prop} {Q : State → Prop} (C : Cx p s m args meth c D (tyG cI cR cZ) b_Mo_outLayer 8 "MaskLayersModel") (hA : ∀ q : Nat, s.heap.size ≤ q → A q) {a : (Nat → Nat)} {S : LyS} {v1 : Int32} {v2 : Int32} {v5 : Int32} {out : Nat × Int32} : ∀ (k : Nat) (v6 : Int32) (v7 : Int32), Mo_outLayer_l195 S v1 v2 v5 k v6 v7 = some out → (out.1 = 0 → J p l e rm_Mo_outLayer s m args below meth c D A (va_D A) 8 Q 0 0 (wMo cI cZ a S) [(0, .ref (a 0)), (1, .int v1), (2, .int v2), (5, .int v5), (6, .int out.2)] [] 243) → J p l e rm_Mo_outLayer s m args below meth c D A (va_D A) 8 Q 0 0 (wMo cI cZ a S) [(0, .ref (a 0)), (1, .int v1), (2, .int v2), (5, .int v5), (6, .int v6), (7, .int v7)] [] 195 := by
  intro k
  induction k with
  | zero => intro v6 v7 h; cases (show none = some out from h)
  | succ k ih =>
    intro v6 v7 h x0
    rw [Mo_outLayer_l195] at h
    refine j_iload C 5 d_Mo_outLayer_195 rfl ?_
    refine j_bipush C (v := 8) d_Mo_outLayer_197 (by decide) ?_
    refine j_icmp_ge C 243 d_Mo_outLayer_199 (by decide) (fun c22 => ?_) (fun c22 => ?_)
    · replace h := (if_pos c22).symm.trans h
      obtain rfl := Option.some.inj h
      refine j_sub [0, 1, 2, 3, 4] rfl ?_
      exact x0 rfl
    · replace h := (if_neg c22).symm.trans h
      refine j_iconst C (v := 2) d_Mo_outLayer_202 (by decide) ?_
      refine j_iload C 4 d_Mo_outLayer_203 rfl ?_
      refine j_imul C d_Mo_outLayer_205 ?_
      refine j_iload C 3 d_Mo_outLayer_206 rfl ?_
      refine j_iload C 5 d_Mo_outLayer_208 rfl ?_
      refine j_iadd C d_Mo_outLayer_210 ?_
      refine j_iload_n C 2 d_Mo_outLayer_211 rfl ?_
      refine j_icmp_ge C 233 d_Mo_outLayer_212 (by decide) (fun c21 => ?_) (fun c21 => ?_)
      · replace h := (if_pos c21).symm.trans h
        refine j_iconst C (v := 0) d_Mo_outLayer_233 (by decide) ?_
        refine j_iadd C d_Mo_outLayer_234 ?_
        refine j_istore C [(6, .int ((2 * v6) + 0)), (0, .ref (a 0)), (1, .int v1), (2, .int v2), (5, .int v5), (7, .int v7)] d_Mo_outLayer_235 (by decide) rfl ?_
        refine j_iinc C [(7, .int (v7 + 1)), (6, .int ((2 * v6) + 0)), (0, .ref (a 0)), (1, .int v1), (2, .int v2), (5, .int v5)] 5 (v7 + 1) d_Mo_outLayer_237 rfl rfl (by decide) rfl ?_
        refine j_goto C 195 d_Mo_outLayer_240 (by decide) ?_
        refine j_sub [2, 3, 4, 5, 1, 0] rfl ?_
        exact ih ((2 * v6) + 0) (v7 + 1) h x0
      · replace h := (if_neg c21).symm.trans h
        refine j_aload_n C 0 d_Mo_outLayer_215 rfl ?_
        refine gf_Mo_21 C 0 (v := .ref (a 3)) mo_h rfl d_Mo_outLayer_216 ?_
        refine j_aload_n C 0 d_Mo_outLayer_219 rfl ?_
        refine j_iload_n C 1 d_Mo_outLayer_220 rfl ?_
        refine j_iload C 3 d_Mo_outLayer_221 rfl ?_
        refine j_iload C 5 d_Mo_outLayer_223 rfl ?_
        refine j_iadd C d_Mo_outLayer_225 ?_
        obtain ⟨r19, hr19, h⟩ := bd_ok h
        refine j_PV C [.int v1, .int (v5 + v7)] 0 rfl rfl (c_Mo_place l D cI cR cZ a S v1 (v5 + v7) hr19) (cw_Mo_88 C ⟨Nat.le_of_ble_eq_true rfl, Nat.le_of_ble_eq_true rfl⟩) [0, 1, 2, 3, 4, 5, 6, 7, 8, 9, 10] rfl rfl rfl (Nat.le_of_ble_eq_true rfl) d_Mo_outLayer_226 (by decide) ?_
        obtain ⟨b20, h⟩ := gd_ok h
        refine j_iald C (3) (t0 := 0) mo_g2 rfl b20 d_Mo_outLayer_229 ?_
        refine j_goto C 234 d_Mo_outLayer_230 (by decide) ?_
        refine j_iadd C d_Mo_outLayer_234 ?_
        refine j_istore C [(6, .int ((2 * v6) + (S.2 2 r19.toNatClampNeg))), (0, .ref (a 0)), (1, .int v1), (2, .int v2), (5, .int v5), (7, .int v7)] d_Mo_outLayer_235 (by decide) rfl ?_
        refine j_iinc C [(7, .int (v7 + 1)), (6, .int ((2 * v6) + (S.2 2 r19.toNatClampNeg))), (0, .ref (a 0)), (1, .int v1), (2, .int v2), (5, .int v5)] 5 (v7 + 1) d_Mo_outLayer_237 rfl rfl (by decide) rfl ?_
        refine j_goto C 195 d_Mo_outLayer_240 (by decide) ?_
        refine j_sub [2, 3, 4, 5, 1, 0] rfl ?_
        exact ih ((2 * v6) + (S.2 2 r19.toNatClampNeg)) (v7 + 1) h x0
set_option maxRecDepth 100000 in
set_option maxHeartbeats 4000000 in
theorem t_Mo_outLayer_l183 {p : Program} {l : Launch} {e : Env} {s : State} {m : MethodId} {args : Array Value} {below : List Frame} {meth : Method} {c : Code} {D : va_G} {cI cR cZ : ClassId} {A : Nat → Prop} {Q : State → Prop} (C : Cx p s m args meth c D (tyG cI cR cZ) b_Mo_outLayer 8 "MaskLayersModel") (hA : ∀ q : Nat, s.heap.size ≤ q → A q) {a : (Nat → Nat)} {fu : Nat} {v1 : Int32} {v2 : Int32} {out : Nat × LyS} : ∀ (k : Nat) (v5 : Int32) (S : LyS), Mo_outLayer_l183 fu v1 v2 k v5 S = some out → (out.1 = 0 → J p l e rm_Mo_outLayer s m args below meth c D A (va_D A) 8 Q 0 0 (wMo cI cZ a out.2) [] [] 255) → J p l e rm_Mo_outLayer s m args below meth c D A (va_D A) 8 Q 0 0 (wMo cI cZ a S) [(0, .ref (a 0)), (1, .int v1), (2, .int v2), (5, .int v5)] [] 183 := by
  intro k
  induction k with
  | zero => intro v5 S h; cases (show none = some out from h)
  | succ k ih =>
    intro v5 S h x0
    rw [Mo_outLayer_l183] at h
    refine j_iload C 3 d_Mo_outLayer_183 rfl ?_
    refine j_iload_n C 2 d_Mo_outLayer_185 rfl ?_
    refine j_icmp_ge C 255 d_Mo_outLayer_186 (by decide) (fun c26 => ?_) (fun c26 => ?_)
    · replace h := (if_pos c26).symm.trans h
      obtain rfl := Option.some.inj h
      refine j_sub [] rfl ?_
      exact x0 rfl
    · replace h := (if_neg c26).symm.trans h
      refine j_iconst C (v := 0) d_Mo_outLayer_189 (by decide) ?_
      refine j_istore C [(6, .int 0), (0, .ref (a 0)), (1, .int v1), (2, .int v2), (5, .int v5)] d_Mo_outLayer_190 (by decide) rfl ?_
      refine j_iconst C (v := 0) d_Mo_outLayer_192 (by decide) ?_
      refine j_istore C [(7, .int 0), (6, .int 0), (0, .ref (a 0)), (1, .int v1), (2, .int v2), (5, .int v5)] d_Mo_outLayer_193 (by decide) rfl ?_
      obtain ⟨r23, hr23, h⟩ := bd_ok h
      refine j_sub [2, 3, 4, 5, 1, 0] rfl ?_
      refine t_Mo_outLayer_l195 C hA fu 0 0 hr23 (fun e25 => ?_)
      · refine j_aload_n C 0 d_Mo_outLayer_243 rfl ?_
        refine j_iload C 4 d_Mo_outLayer_244 rfl ?_
        obtain ⟨r24, hr24, h⟩ := bd_ok h
        refine j_VV C [.int r23.2] hA 0 rfl rfl (c_Mo_out l D cI cR cZ a S r23.2 hr24) (cw_Mo_150 C ⟨Nat.le_of_ble_eq_true rfl, Nat.le_of_ble_eq_true rfl⟩) [0, 1, 2, 3, 4, 5, 6, 7, 8, 9, 10] [] rfl rfl (by decide) (by decide) (by decide) rfl rfl (Nat.le_of_ble_eq_true rfl) d_Mo_outLayer_246 (by decide) (fun _ => ?_)
        refine j_ws (ws' := wMo cI cZ a r24) rfl ?_
        refine j_iinc C [(5, .int (v5 + 8)), (0, .ref (a 0)), (1, .int v1), (2, .int v2), (6, .int r23.2)] 3 (v5 + 8) d_Mo_outLayer_249 rfl rfl (by decide) rfl ?_
        refine j_goto C 183 d_Mo_outLayer_252 (by decide) ?_
        refine j_sub [1, 2, 3, 0] rfl ?_
        exact ih (v5 + 8) r24 h x0
set_option maxRecDepth 100000 in
set_option maxHeartbeats 4000000 in
theorem t_Mo_outLayer_l124 {p : Program} {l : Launch} {e : Env} {s : State} {m : MethodId} {args : Array Value} {below : List Frame} {meth : Method} {c : Code} {D : va_G} {cI cR cZ : ClassId} {A : Nat → Prop} {Q : State → Prop} (C : Cx p s m args meth c D (tyG cI cR cZ) b_Mo_outLayer 8 "MaskLayersModel") (hA : ∀ q : Nat, s.heap.size ≤ q → A q) {a : (Nat → Nat)} {fu : Nat} {v1 : Int32} {v2 : Int32} {out : Nat × LyS} : ∀ (k : Nat) (v5 : Int32) (S : LyS), Mo_outLayer_l124 fu v1 v2 k v5 S = some out → (out.1 = 0 → J p l e rm_Mo_outLayer s m args below meth c D A (va_D A) 8 Q 0 0 (wMo cI cZ a out.2) [] [] 172) → J p l e rm_Mo_outLayer s m args below meth c D A (va_D A) 8 Q 0 0 (wMo cI cZ a S) [(0, .ref (a 0)), (1, .int v1), (2, .int v2), (5, .int v5)] [] 124 := by
  intro k
  induction k with
  | zero => intro v5 S h; cases (show none = some out from h)
  | succ k ih =>
    intro v5 S h x0
    rw [Mo_outLayer_l124] at h
    refine j_iload C 3 d_Mo_outLayer_124 rfl ?_
    refine j_iload_n C 2 d_Mo_outLayer_126 rfl ?_
    refine j_icmp_ge C 172 d_Mo_outLayer_127 (by decide) (fun c35 => ?_) (fun c35 => ?_)
    · replace h := (if_pos c35).symm.trans h
      obtain rfl := Option.some.inj h
      refine j_sub [] rfl ?_
      exact x0 rfl
    · replace h := (if_neg c35).symm.trans h
      refine j_aload_n C 0 d_Mo_outLayer_130 rfl ?_
      refine j_iload_n C 1 d_Mo_outLayer_131 rfl ?_
      refine j_iload C 3 d_Mo_outLayer_132 rfl ?_
      obtain ⟨r30, hr30, h⟩ := bd_ok h
      refine j_PV C [.int v1, .int v5] 0 rfl rfl (c_Mo_same l D cI cR cZ fu a S v1 v5 hr30) (cw_Mo_153 C ⟨Nat.le_of_ble_eq_true rfl, Nat.le_of_ble_eq_true rfl⟩) [0, 1, 2, 3, 4, 5, 6, 7, 8, 9, 10] rfl rfl rfl (Nat.le_of_ble_eq_true rfl) d_Mo_outLayer_134 (by decide) ?_
      refine j_istore C [(6, .int r30), (0, .ref (a 0)), (1, .int v1), (2, .int v2), (5, .int v5)] d_Mo_outLayer_137 (by decide) rfl ?_
      refine j_aload_n C 1 d_Mo_outLayer_139 rfl ?_
      refine j_iload C 0 d_Mo_outLayer_140 rfl ?_
      obtain ⟨r31, hr31, h⟩ := bd_ok h
      refine j_VV C [.int r30] hA 0 rfl rfl (c_Mo_out l D cI cR cZ a S r30 hr31) (cw_Mo_150 C ⟨Nat.le_of_ble_eq_true rfl, Nat.le_of_ble_eq_true rfl⟩) [0, 1, 2, 3, 4, 5, 6, 7, 8, 9, 10] [] rfl rfl (by decide) (by decide) (by decide) rfl rfl (Nat.le_of_ble_eq_true rfl) d_Mo_outLayer_142 (by decide) (fun _ => ?_)
      refine j_ws (ws' := wMo cI cZ a r31) rfl ?_
      refine j_aload_n C 1 d_Mo_outLayer_145 rfl ?_
      refine j_iload_n C 2 d_Mo_outLayer_146 rfl ?_
      refine j_aload_n C 1 d_Mo_outLayer_147 rfl ?_
      refine gf_Mo_21 C 0 (v := .ref (a 3)) mo_h rfl d_Mo_outLayer_148 ?_
      refine j_aload_n C 1 d_Mo_outLayer_151 rfl ?_
      refine j_iload_n C 2 d_Mo_outLayer_152 rfl ?_
      refine j_iload C 4 d_Mo_outLayer_153 rfl ?_
      obtain ⟨r32, hr32, h⟩ := bd_ok h
      refine j_PV C [.int v1, .int v5] 0 rfl rfl (c_Mo_place l D cI cR cZ a r31 v1 v5 hr32) (cw_Mo_88 C ⟨Nat.le_of_ble_eq_true rfl, Nat.le_of_ble_eq_true rfl⟩) [0, 1, 2, 3, 4, 5, 6, 7, 8, 9, 10] rfl rfl rfl (Nat.le_of_ble_eq_true rfl) d_Mo_outLayer_155 (by decide) ?_
      obtain ⟨b33, h⟩ := gd_ok h
      refine j_iald C (3) (t0 := 0) mo_g2 rfl b33 d_Mo_outLayer_158 ?_
      obtain ⟨r34, hr34, h⟩ := bd_ok h
      refine j_VV C [.int v1, .int (r31.2 2 r32.toNatClampNeg)] hA 0 rfl rfl (c_Mo_outValue l D cI cR cZ a r31 v1 (r31.2 2 r32.toNatClampNeg) hr34) (cw_Mo_159 C ⟨Nat.le_of_ble_eq_true rfl, Nat.le_of_ble_eq_true rfl⟩) [0, 1, 2, 3, 4, 5, 6, 7, 8, 9, 10] [] rfl rfl (by decide) (by decide) (by decide) rfl rfl (Nat.le_of_ble_eq_true rfl) d_Mo_outLayer_159 (by decide) (fun _ => ?_)
      refine j_ws (ws' := wMo cI cZ a r34) rfl ?_
      refine j_iload C 4 d_Mo_outLayer_162 rfl ?_
      refine j_iload C 0 d_Mo_outLayer_164 rfl ?_
      refine j_iadd C d_Mo_outLayer_166 ?_
      refine j_istore C [(5, .int (v5 + r30)), (6, .int r30), (0, .ref (a 0)), (1, .int v1), (2, .int v2)] d_Mo_outLayer_167 (by decide) rfl ?_
      refine j_goto C 124 d_Mo_outLayer_169 (by decide) ?_
      refine j_sub [2, 3, 4, 0] rfl ?_
      exact ih (v5 + r30) r34 h x0
set_option maxRecDepth 100000 in
set_option maxHeartbeats 4000000 in
theorem t_Mo_outLayer_b96 {p : Program} {l : Launch} {e : Env} {s : State} {m : MethodId} {args : Array Value} {below : List Frame} {meth : Method} {c : Code} {D : va_G} {cI cR cZ : ClassId} {A : Nat → Prop} (C : Cx p s m args meth c D (tyG cI cR cZ) b_Mo_outLayer 8 "MaskLayersModel") (hr : meth.sig.returnType = none) (hA : ∀ q : Nat, s.heap.size ≤ q → A q) {a : (Nat → Nat)} {S : LyS} {fu : Nat} {v1 : Int32} {v2 : Int32} {v3 : Int32} {v4 : Int32} {s0 : Int32} {res : (LyS)} (h : Mo_outLayer_b96 fu S v1 v2 v3 v4 s0 = some res) : J p l e rm_Mo_outLayer s m args below meth c D A (va_D A) 8 (MQ below (QcV D (fun _ : Nat => wMo cI cZ a res) A) args s 0 0 A) 0 0 (wMo cI cZ a S) [(0, .ref (a 0)), (1, .int v1), (2, .int v2), (3, .int v3), (4, .int v4)] [.int s0, .ref (a 0)] 96 := by
  unfold Mo_outLayer_b96 at h
  obtain ⟨r10, hr10, h⟩ := bd_ok h
  refine j_VV C [.int s0] hA 0 rfl rfl (c_Mo_out l D cI cR cZ a S s0 hr10) (cw_Mo_150 C ⟨Nat.le_of_ble_eq_true rfl, Nat.le_of_ble_eq_true rfl⟩) [0, 1, 2, 3, 4, 5, 6, 7, 8, 9, 10] [] rfl rfl (by decide) (by decide) (by decide) rfl rfl (Nat.le_of_ble_eq_true rfl) d_Mo_outLayer_96 (by decide) (fun _ => ?_)
  refine j_ws (ws' := wMo cI cZ a r10) rfl ?_
  refine j_aload_n C 0 d_Mo_outLayer_99 rfl ?_
  refine j_iload_n C 3 d_Mo_outLayer_100 rfl ?_
  refine j_sipush C (v := 255) d_Mo_outLayer_101 (by decide) ?_
  refine j_iand C d_Mo_outLayer_104 ?_
  obtain ⟨r11, hr11, h⟩ := bd_ok h
  refine j_VV C [.int (v3 &&& 255)] hA 0 rfl rfl (c_Mo_out l D cI cR cZ a r10 (v3 &&& 255) hr11) (cw_Mo_150 C ⟨Nat.le_of_ble_eq_true rfl, Nat.le_of_ble_eq_true rfl⟩) [0, 1, 2, 3, 4, 5, 6, 7, 8, 9, 10] [] rfl rfl (by decide) (by decide) (by decide) rfl rfl (Nat.le_of_ble_eq_true rfl) d_Mo_outLayer_105 (by decide) (fun _ => ?_)
  refine j_ws (ws' := wMo cI cZ a r11) rfl ?_
  refine j_aload_n C 0 d_Mo_outLayer_108 rfl ?_
  refine j_iload_n C 3 d_Mo_outLayer_109 rfl ?_
  refine j_bipush C (v := 8) d_Mo_outLayer_110 (by decide) ?_
  refine j_ishr C d_Mo_outLayer_112 ?_
  obtain ⟨r12, hr12, h⟩ := bd_ok h
  refine j_VV C [.int (v3 >>> ((8 : Int32) &&& 31))] hA 0 rfl rfl (c_Mo_out l D cI cR cZ a r11 (v3 >>> ((8 : Int32) &&& 31)) hr12) (cw_Mo_150 C ⟨Nat.le_of_ble_eq_true rfl, Nat.le_of_ble_eq_true rfl⟩) [0, 1, 2, 3, 4, 5, 6, 7, 8, 9, 10] [] rfl rfl (by decide) (by decide) (by decide) rfl rfl (Nat.le_of_ble_eq_true rfl) d_Mo_outLayer_113 (by decide) (fun _ => ?_)
  refine j_ws (ws' := wMo cI cZ a r12) rfl ?_
  refine j_iload C 4 d_Mo_outLayer_116 rfl ?_
  refine j_if_eq C 175 d_Mo_outLayer_118 (by decide) (fun c38 => ?_) (fun c38 => ?_)
  · replace h := (if_pos c38).symm.trans h
    refine j_iload_n C 1 d_Mo_outLayer_175 rfl ?_
    refine j_iconst C (v := 1) d_Mo_outLayer_176 (by decide) ?_
    refine j_icmp_ne C 258 d_Mo_outLayer_177 (by decide) (fun c29 => ?_) (fun c29 => ?_)
    · replace h := (if_neg c29).symm.trans h
      refine j_iconst C (v := 0) d_Mo_outLayer_258 (by decide) ?_
      refine j_istore C [(5, .int 0), (0, .ref (a 0)), (1, .int v1), (2, .int v2), (3, .int v3), (4, .int v4)] d_Mo_outLayer_259 (by decide) rfl ?_
      obtain ⟨r17, hr17, h⟩ := bd_ok h
      refine j_sub [1, 2, 3, 0] rfl ?_
      refine t_Mo_outLayer_l261 C hA fu 0 r12 hr17 (fun e18 => ?_)
      · obtain rfl := Option.some.inj h
        exact j_vret C hr d_Mo_outLayer_290 0 rfl
    · replace h := (if_pos c29).symm.trans h
      refine j_iconst C (v := 0) d_Mo_outLayer_180 (by decide) ?_
      refine j_istore C [(5, .int 0), (0, .ref (a 0)), (1, .int v1), (2, .int v2), (3, .int v3), (4, .int v4)] d_Mo_outLayer_181 (by decide) rfl ?_
      obtain ⟨r27, hr27, h⟩ := bd_ok h
      refine j_sub [1, 2, 3, 0] rfl ?_
      refine t_Mo_outLayer_l183 C hA fu 0 r12 hr27 (fun e28 => ?_)
      · refine j_goto C 290 d_Mo_outLayer_255 (by decide) ?_
        obtain rfl := Option.some.inj h
        exact j_vret C hr d_Mo_outLayer_290 0 rfl
  · replace h := (if_neg c38).symm.trans h
    refine j_iconst C (v := 0) d_Mo_outLayer_121 (by decide) ?_
    refine j_istore C [(5, .int 0), (0, .ref (a 0)), (1, .int v1), (2, .int v2), (3, .int v3), (4, .int v4)] d_Mo_outLayer_122 (by decide) rfl ?_
    obtain ⟨r36, hr36, h⟩ := bd_ok h
    refine j_sub [1, 2, 3, 0] rfl ?_
    refine t_Mo_outLayer_l124 C hA fu 0 r12 hr36 (fun e37 => ?_)
    · refine j_goto C 290 d_Mo_outLayer_172 (by decide) ?_
      obtain rfl := Option.some.inj h
      exact j_vret C hr d_Mo_outLayer_290 0 rfl
set_option maxRecDepth 100000 in
set_option maxHeartbeats 4000000 in
theorem t_Mo_outLayer_b75 {p : Program} {l : Launch} {e : Env} {s : State} {m : MethodId} {args : Array Value} {below : List Frame} {meth : Method} {c : Code} {D : va_G} {cI cR cZ : ClassId} {A : Nat → Prop} (C : Cx p s m args meth c D (tyG cI cR cZ) b_Mo_outLayer 8 "MaskLayersModel") (hr : meth.sig.returnType = none) (hA : ∀ q : Nat, s.heap.size ≤ q → A q) {a : (Nat → Nat)} {S : LyS} {fu : Nat} {v1 : Int32} {v2 : Int32} {v4 : Int32} {s0 : Int32} {res : (LyS)} (h : Mo_outLayer_b75 fu S v1 v2 v4 s0 = some res) : J p l e rm_Mo_outLayer s m args below meth c D A (va_D A) 8 (MQ below (QcV D (fun _ : Nat => wMo cI cZ a res) A) args s 0 0 A) 0 0 (wMo cI cZ a S) [(0, .ref (a 0)), (1, .int v1), (2, .int v2), (4, .int v4)] [.int s0] 75 := by
  unfold Mo_outLayer_b75 at h
  refine j_istore_n C [(3, .int s0), (0, .ref (a 0)), (1, .int v1), (2, .int v2), (4, .int v4)] d_Mo_outLayer_75 (by decide) rfl ?_
  refine j_aload_n C 1 d_Mo_outLayer_76 rfl ?_
  refine j_sipush C (v := 160) d_Mo_outLayer_77 (by decide) ?_
  refine j_iload_n C 2 d_Mo_outLayer_80 rfl ?_
  refine j_iadd C d_Mo_outLayer_81 ?_
  obtain ⟨r9, hr9, h⟩ := bd_ok h
  refine j_VV C [.int (160 + v1)] hA 0 rfl rfl (c_Mo_out l D cI cR cZ a S (160 + v1) hr9) (cw_Mo_150 C ⟨Nat.le_of_ble_eq_true rfl, Nat.le_of_ble_eq_true rfl⟩) [0, 1, 2, 3, 4, 5, 6, 7, 8, 9, 10] [] rfl rfl (by decide) (by decide) (by decide) rfl rfl (Nat.le_of_ble_eq_true rfl) d_Mo_outLayer_82 (by decide) (fun _ => ?_)
  refine j_ws (ws' := wMo cI cZ a r9) rfl ?_
  refine j_aload_n C 1 d_Mo_outLayer_85 rfl ?_
  refine j_iload C 4 d_Mo_outLayer_86 rfl ?_
  refine j_if_eq C 95 d_Mo_outLayer_88 (by decide) (fun c39 => ?_) (fun c39 => ?_)
  · replace h := (if_pos c39).symm.trans h
    refine j_iconst C (v := 0) d_Mo_outLayer_95 (by decide) ?_
    refine j_sub [1, 2, 3, 0, 4] rfl ?_
    exact t_Mo_outLayer_b96 C hr hA h
  · replace h := (if_neg c39).symm.trans h
    refine j_iconst C (v := 1) d_Mo_outLayer_91 (by decide) ?_
    refine j_goto C 96 d_Mo_outLayer_92 (by decide) ?_
    refine j_sub [1, 2, 3, 0, 4] rfl ?_
    exact t_Mo_outLayer_b96 C hr hA h
set_option maxRecDepth 100000 in
set_option maxHeartbeats 4000000 in
theorem t_Mo_outLayer_b59 {p : Program} {l : Launch} {e : Env} {s : State} {m : MethodId} {args : Array Value} {below : List Frame} {meth : Method} {c : Code} {D : va_G} {cI cR cZ : ClassId} {A : Nat → Prop} (C : Cx p s m args meth c D (tyG cI cR cZ) b_Mo_outLayer 8 "MaskLayersModel") (hr : meth.sig.returnType = none) (hA : ∀ q : Nat, s.heap.size ≤ q → A q) {a : (Nat → Nat)} {S : LyS} {fu : Nat} {v1 : Int32} {v2 : Int32} {v3 : Int32} {s0 : Int32} {res : (LyS)} (h : Mo_outLayer_b59 fu S v1 v2 v3 s0 = some res) : J p l e rm_Mo_outLayer s m args below meth c D A (va_D A) 8 (MQ below (QcV D (fun _ : Nat => wMo cI cZ a res) A) args s 0 0 A) 0 0 (wMo cI cZ a S) [(0, .ref (a 0)), (1, .int v1), (2, .int v2), (3, .int v3)] [.int s0] 59 := by
  unfold Mo_outLayer_b59 at h
  refine j_istore C [(4, .int s0), (0, .ref (a 0)), (1, .int v1), (2, .int v2), (3, .int v3)] d_Mo_outLayer_59 (by decide) rfl ?_
  refine j_iload C 0 d_Mo_outLayer_61 rfl ?_
  refine j_if_eq C 70 d_Mo_outLayer_63 (by decide) (fun c40 => ?_) (fun c40 => ?_)
  · replace h := (if_pos c40).symm.trans h
    refine j_aload_n C 1 d_Mo_outLayer_70 rfl ?_
    refine j_iload_n C 2 d_Mo_outLayer_71 rfl ?_
    obtain ⟨r8, hr8, h⟩ := bd_ok h
    refine j_PV C [.int v1] 0 rfl rfl (c_Mo_plainSize l D cI cR cZ a S v1 hr8) (cw_Mo_156 C ⟨Nat.le_of_ble_eq_true rfl, Nat.le_of_ble_eq_true rfl⟩) [0, 1, 2, 3, 4, 5, 6, 7, 8, 9, 10] rfl rfl rfl (Nat.le_of_ble_eq_true rfl) d_Mo_outLayer_72 (by decide) ?_
    refine j_sub [1, 2, 3, 0] rfl ?_
    exact t_Mo_outLayer_b75 C hr hA h
  · replace h := (if_neg c40).symm.trans h
    refine j_iload_n C 4 d_Mo_outLayer_66 rfl ?_
    refine j_goto C 75 d_Mo_outLayer_67 (by decide) ?_
    refine j_sub [1, 2, 3, 0] rfl ?_
    exact t_Mo_outLayer_b75 C hr hA h
set_option maxRecDepth 100000 in
set_option maxHeartbeats 4000000 in
theorem c_Mo_outLayer (l : Launch) (D : va_G) (cI cR cZ : ClassId) (fu : Nat) (a : (Nat → Nat)) (S : LyS) (p1 : Int32) {res : (LyS)} (h : Mo_outLayer fu S p1 = some res) (sz : Nat) : Met l y_Mo_outLayer (Cond.code y_Mo_outLayer b_Mo_outLayer 8 none :: BIG) rm_Mo_outLayer (PcI [.ref (a 0), .int p1] D (tyG cI cR cZ) (wMo cI cZ a S) sz) (QcV D (fun _ : Nat => wMo cI cZ a res) (va_A (wMo cI cZ a S) sz)) 0 0 (va_A (wMo cI cZ a S) sz) := by
  refine met_V (by decide) (Nat.le_of_ble_eq_true rfl) (fun p e s m args below meth c A hA C hr => ?_)
  have C : Cx p s m args meth c D (tyG cI cR cZ) b_Mo_outLayer 8 "MaskLayersModel" := C
  have hr : meth.sig.returnType = none := hr
  show J p l e rm_Mo_outLayer s m args below meth c D A (va_D A) 8 (MQ below (QcV D (fun _ : Nat => wMo cI cZ a res) A) args s 0 0 A) 0 0 (wMo cI cZ a S) [(0, .ref (a 0)), (1, .int p1)] [] 0
  unfold Mo_outLayer at h
  refine j_aload_n C 0 d_Mo_outLayer_0 rfl ?_
  refine j_iload_n C 1 d_Mo_outLayer_1 rfl ?_
  obtain ⟨r1, hr1, h⟩ := bd_ok h
  refine j_PV C [.int p1] 0 rfl rfl (c_Mo_count l D cI cR cZ a S p1 hr1) (cw_Mo_94 C ⟨Nat.le_of_ble_eq_true rfl, Nat.le_of_ble_eq_true rfl⟩) [0, 1, 2, 3, 4, 5, 6, 7, 8, 9, 10] rfl rfl rfl (Nat.le_of_ble_eq_true rfl) d_Mo_outLayer_2 (by decide) ?_
  refine j_istore_n C [(2, .int r1), (0, .ref (a 0)), (1, .int p1)] d_Mo_outLayer_5 (by decide) rfl ?_
  refine j_iconst C (v := 0) d_Mo_outLayer_6 (by decide) ?_
  refine j_istore_n C [(3, .int 0), (2, .int r1), (0, .ref (a 0)), (1, .int p1)] d_Mo_outLayer_7 (by decide) rfl ?_
  refine j_iconst C (v := 0) d_Mo_outLayer_8 (by decide) ?_
  refine j_istore C [(4, .int 0), (3, .int 0), (2, .int r1), (0, .ref (a 0)), (1, .int p1)] d_Mo_outLayer_9 (by decide) rfl ?_
  obtain ⟨r6, hr6, h⟩ := bd_ok h
  refine j_sub [3, 4, 2, 1, 0] rfl ?_
  refine t_Mo_outLayer_l11 C hA fu 0 0 hr6 (fun e42 => ?_)
  · refine j_iload_n C 3 d_Mo_outLayer_45 rfl ?_
    refine j_aload_n C 0 d_Mo_outLayer_46 rfl ?_
    refine j_iload_n C 1 d_Mo_outLayer_47 rfl ?_
    obtain ⟨r7, hr7, h⟩ := bd_ok h
    refine j_PV C [.int p1] 0 rfl rfl (c_Mo_plainSize l D cI cR cZ a S p1 hr7) (cw_Mo_156 C ⟨Nat.le_of_ble_eq_true rfl, Nat.le_of_ble_eq_true rfl⟩) [0, 1, 2, 3, 4, 5, 6, 7, 8, 9, 10] rfl rfl rfl (Nat.le_of_ble_eq_true rfl) d_Mo_outLayer_48 (by decide) ?_
    refine j_icmp_ge C 58 d_Mo_outLayer_51 (by decide) (fun c41 => ?_) (fun c41 => ?_)
    · replace h := (if_pos c41).symm.trans h
      refine j_iconst C (v := 0) d_Mo_outLayer_58 (by decide) ?_
      refine j_sub [0, 1, 2, 3] rfl ?_
      exact t_Mo_outLayer_b59 C hr hA h
    · replace h := (if_neg c41).symm.trans h
      refine j_iconst C (v := 1) d_Mo_outLayer_54 (by decide) ?_
      refine j_goto C 59 d_Mo_outLayer_55 (by decide) ?_
      refine j_sub [0, 1, 2, 3] rfl ?_
      exact t_Mo_outLayer_b59 C hr hA h
def Mo_write_l112 (fu : Nat) (v1 : Int32) : Nat → Int32 → LyS → Option (Nat × LyS)
  | 0, _, _ => none
  | k + 1, v2, S =>
  (if 4 ≤ v2 then some (0, S)
  else gd ((4 * v1) + v2) 96 ((if (S.2 4 (((4 * v1) + v2).toNatClampNeg)) = 0 then Mo_write_l112 fu v1 k (v2 + 1) S
  else (Mo_outLayer fu S v2).bind fun r11 =>
  Mo_write_l112 fu v1 k (v2 + 1) r11)))
def Mo_write_l84 (fu : Nat) : Nat → Int32 → LyS → Option (Nat × LyS)
  | 0, _, _ => none
  | k + 1, v1, S =>
  (Mo_stripesOf (S.1 2) (S.1 5)).bind fun r8 =>
  (if r8 ≤ v1 then some (0, S)
  else (Mo_layMade S (v1 * (S.1 5))).bind fun r9 =>
  (Mo_write_l112 fu v1 fu 0 r9.2).bind fun r14 =>
  (Mo_out r14.2 175).bind fun r15 =>
  Mo_write_l84 fu k (v1 + 1) r15)
def Mo_write_b13 (fu : Nat) (S : LyS) (s0 : Int32) : Option (Int32 × LyS) :=
  (if ((Lf S 0 s0).1 0) ≤ 0 then (Mo_out (Lf (Lf S 0 s0) 9 0) 77).bind fun r1 =>
  (Mo_out r1 76).bind fun r2 =>
  (Mo_out r2 (r2.1 1)).bind fun r3 =>
  (Mo_out r3 (r3.1 2)).bind fun r4 =>
  (Mo_out r4 (r4.1 5)).bind fun r5 =>
  (Mo_out r5 (r5.1 6)).bind fun r6 =>
  (Mo_out r6 (r6.1 7)).bind fun r7 =>
  (Mo_write_l84 fu fu 0 r7).bind fun r18 =>
  some (r18.2.1 9, r18.2)
  else some (0, Lf S 0 s0))
def Mo_write (fu : Nat) (S : LyS) : Option (Int32 × LyS) :=
  (if (S.1 4) = 0 then Mo_write_b13 fu S 1
  else Mo_write_b13 fu S 0)
set_option maxRecDepth 100000 in
set_option maxHeartbeats 4000000 in
theorem t_Mo_write_l112 {p : Program} {l : Launch} {e : Env} {s : State} {m : MethodId} {args : Array Value} {below : List Frame} {meth : Method} {c : Code} {D : va_G} {cI cR cZ : ClassId} {A : Nat → Prop} {Q : State → Prop} (C : Cx p s m args meth c D (tyG cI cR cZ) b_Mo_write 3 "MaskLayersModel") (hA : ∀ q : Nat, s.heap.size ≤ q → A q) {a : (Nat → Nat)} {fu : Nat} {v1 : Int32} {out : Nat × LyS} : ∀ (k : Nat) (v2 : Int32) (S : LyS), Mo_write_l112 fu v1 k v2 S = some out → (out.1 = 0 → J p l e rm_Mo_write s m args below meth c D A (va_D A) 3 Q 0 0 (wMo cI cZ a out.2) [(0, .ref (a 0)), (1, .int v1)] [] 141) → J p l e rm_Mo_write s m args below meth c D A (va_D A) 3 Q 0 0 (wMo cI cZ a S) [(0, .ref (a 0)), (1, .int v1), (2, .int v2)] [] 112 := by
  intro k
  induction k with
  | zero => intro v2 S h; cases (show none = some out from h)
  | succ k ih =>
    intro v2 S h x0
    rw [Mo_write_l112] at h
    refine j_iload_n C 2 d_Mo_write_112 rfl ?_
    refine j_iconst C (v := 4) d_Mo_write_113 (by decide) ?_
    refine j_icmp_ge C 141 d_Mo_write_114 (by decide) (fun c13 => ?_) (fun c13 => ?_)
    · replace h := (if_pos c13).symm.trans h
      obtain rfl := Option.some.inj h
      refine j_sub [0, 1] rfl ?_
      exact x0 rfl
    · replace h := (if_neg c13).symm.trans h
      refine j_aload_n C 0 d_Mo_write_117 rfl ?_
      refine gf_Mo_27 C 0 (v := .ref (a 5)) mo_h rfl d_Mo_write_118 ?_
      refine j_iconst C (v := 4) d_Mo_write_121 (by decide) ?_
      refine j_iload_n C 1 d_Mo_write_122 rfl ?_
      refine j_imul C d_Mo_write_123 ?_
      refine j_iload_n C 2 d_Mo_write_124 rfl ?_
      refine j_iadd C d_Mo_write_125 ?_
      obtain ⟨b10, h⟩ := gd_ok h
      refine j_zald C (5) (t0 := 1) mo_g4 rfl b10 d_Mo_write_126 ?_
      refine j_if_eq C 135 d_Mo_write_127 (by decide) (fun c12 => ?_) (fun c12 => ?_)
      · replace h := (if_pos c12).symm.trans h
        refine j_iinc C [(2, .int (v2 + 1)), (0, .ref (a 0)), (1, .int v1)] 2 (v2 + 1) d_Mo_write_135 rfl rfl (by decide) rfl ?_
        refine j_goto C 112 d_Mo_write_138 (by decide) ?_
        refine j_sub [1, 2, 0] rfl ?_
        exact ih (v2 + 1) S h x0
      · replace h := (if_neg c12).symm.trans h
        refine j_aload_n C 0 d_Mo_write_130 rfl ?_
        refine j_iload_n C 2 d_Mo_write_131 rfl ?_
        obtain ⟨r11, hr11, h⟩ := bd_ok h
        refine j_VV C [.int v2] hA 0 rfl rfl (c_Mo_outLayer l D cI cR cZ fu a S v2 hr11) (cw_Mo_163 C ⟨Nat.le_of_ble_eq_true rfl, Nat.le_of_ble_eq_true rfl⟩) [0, 1, 2, 3, 4, 5, 6, 7, 8, 9, 10] [] rfl rfl (by decide) (by decide) (by decide) rfl rfl (Nat.le_of_ble_eq_true rfl) d_Mo_write_132 (by decide) (fun _ => ?_)
        refine j_ws (ws' := wMo cI cZ a r11) rfl ?_
        refine j_iinc C [(2, .int (v2 + 1)), (0, .ref (a 0)), (1, .int v1)] 2 (v2 + 1) d_Mo_write_135 rfl rfl (by decide) rfl ?_
        refine j_goto C 112 d_Mo_write_138 (by decide) ?_
        refine j_sub [1, 2, 0] rfl ?_
        exact ih (v2 + 1) r11 h x0
set_option maxRecDepth 100000 in
set_option maxHeartbeats 4000000 in
theorem t_Mo_write_l84 {p : Program} {l : Launch} {e : Env} {s : State} {m : MethodId} {args : Array Value} {below : List Frame} {meth : Method} {c : Code} {D : va_G} {cI cR cZ : ClassId} {A : Nat → Prop} {Q : State → Prop} (C : Cx p s m args meth c D (tyG cI cR cZ) b_Mo_write 3 "MaskLayersModel") (hA : ∀ q : Nat, s.heap.size ≤ q → A q) {a : (Nat → Nat)} {fu : Nat} {out : Nat × LyS} : ∀ (k : Nat) (v1 : Int32) (S : LyS), Mo_write_l84 fu k v1 S = some out → (out.1 = 0 → J p l e rm_Mo_write s m args below meth c D A (va_D A) 3 Q 0 0 (wMo cI cZ a out.2) [(0, .ref (a 0))] [] 154) → J p l e rm_Mo_write s m args below meth c D A (va_D A) 3 Q 0 0 (wMo cI cZ a S) [(0, .ref (a 0)), (1, .int v1)] [] 84 := by
  intro k
  induction k with
  | zero => intro v1 S h; cases (show none = some out from h)
  | succ k ih =>
    intro v1 S h x0
    rw [Mo_write_l84] at h
    refine j_iload_n C 1 d_Mo_write_84 rfl ?_
    refine j_aload_n C 0 d_Mo_write_85 rfl ?_
    refine gf_Mo_48 C 0 (v := .int (S.1 2)) mo_h rfl d_Mo_write_86 ?_
    refine j_aload_n C 0 d_Mo_write_89 rfl ?_
    refine gf_Mo_107 C 0 (v := .int (S.1 5)) mo_h rfl d_Mo_write_90 ?_
    obtain ⟨r8, hr8, h⟩ := bd_ok h
    refine j_PS C [.int (S.1 2), .int (S.1 5)] (c_Mo_stripesOf l D cI cR cZ (S.1 2) (S.1 5) hr8) (cw_Mo_63 C ⟨Nat.le_of_ble_eq_true rfl, Nat.le_of_ble_eq_true rfl⟩) [] rfl rfl rfl (Nat.le_of_ble_eq_true rfl) d_Mo_write_93 (by decide) ?_
    refine j_icmp_ge C 154 d_Mo_write_96 (by decide) (fun c17 => ?_) (fun c17 => ?_)
    · replace h := (if_pos c17).symm.trans h
      obtain rfl := Option.some.inj h
      refine j_sub [0] rfl ?_
      exact x0 rfl
    · replace h := (if_neg c17).symm.trans h
      refine j_aload_n C 0 d_Mo_write_99 rfl ?_
      refine j_iload_n C 1 d_Mo_write_100 rfl ?_
      refine j_aload_n C 0 d_Mo_write_101 rfl ?_
      refine gf_Mo_107 C 0 (v := .int (S.1 5)) mo_h rfl d_Mo_write_102 ?_
      refine j_imul C d_Mo_write_105 ?_
      obtain ⟨r9, hr9, h⟩ := bd_ok h
      refine j_IV C [.int (v1 * (S.1 5))] hA 0 rfl rfl (c_Mo_layMade l D cI cR cZ a S (v1 * (S.1 5)) hr9) (cw_Mo_144 C ⟨Nat.le_of_ble_eq_true rfl, Nat.le_of_ble_eq_true rfl⟩) [0, 1, 2, 3, 4, 5, 6, 7, 8, 9, 10] [] rfl rfl (by decide) (by decide) (by decide) rfl rfl (Nat.le_of_ble_eq_true rfl) d_Mo_write_106 (by decide) (fun _ => ?_)
      refine j_ws (ws' := wMo cI cZ a r9.2) rfl ?_
      refine j_pop C d_Mo_write_109 rfl ?_
      refine j_iconst C (v := 0) d_Mo_write_110 (by decide) ?_
      refine j_istore_n C [(2, .int 0), (0, .ref (a 0)), (1, .int v1)] d_Mo_write_111 (by decide) rfl ?_
      obtain ⟨r14, hr14, h⟩ := bd_ok h
      refine j_sub [1, 2, 0] rfl ?_
      refine t_Mo_write_l112 C hA fu 0 r9.2 hr14 (fun e16 => ?_)
      · refine j_aload_n C 0 d_Mo_write_141 rfl ?_
        refine j_sipush C (v := 175) d_Mo_write_142 (by decide) ?_
        obtain ⟨r15, hr15, h⟩ := bd_ok h
        refine j_VV C [.int 175] hA 0 rfl rfl (c_Mo_out l D cI cR cZ a r14.2 175 hr15) (cw_Mo_150 C ⟨Nat.le_of_ble_eq_true rfl, Nat.le_of_ble_eq_true rfl⟩) [0, 1, 2, 3, 4, 5, 6, 7, 8, 9, 10] [] rfl rfl (by decide) (by decide) (by decide) rfl rfl (Nat.le_of_ble_eq_true rfl) d_Mo_write_145 (by decide) (fun _ => ?_)
        refine j_ws (ws' := wMo cI cZ a r15) rfl ?_
        refine j_iinc C [(1, .int (v1 + 1)), (0, .ref (a 0))] 1 (v1 + 1) d_Mo_write_148 rfl rfl (by decide) rfl ?_
        refine j_goto C 84 d_Mo_write_151 (by decide) ?_
        refine j_sub [1, 0] rfl ?_
        exact ih (v1 + 1) r15 h x0
set_option maxRecDepth 100000 in
set_option maxHeartbeats 4000000 in
theorem t_Mo_write_b13 {p : Program} {l : Launch} {e : Env} {s : State} {m : MethodId} {args : Array Value} {below : List Frame} {meth : Method} {c : Code} {D : va_G} {cI cR cZ : ClassId} {A : Nat → Prop} (C : Cx p s m args meth c D (tyG cI cR cZ) b_Mo_write 3 "MaskLayersModel") (hr : meth.sig.returnType = some .int) (hA : ∀ q : Nat, s.heap.size ≤ q → A q) {a : (Nat → Nat)} {S : LyS} {fu : Nat} {s0 : Int32} {res : (Int32 × LyS)} (h : Mo_write_b13 fu S s0 = some res) : J p l e rm_Mo_write s m args below meth c D A (va_D A) 3 (MQ below (QcI D res.1 (fun _ : Nat => wMo cI cZ a res.2) A) args s 0 0 A) 0 0 (wMo cI cZ a S) [(0, .ref (a 0))] [.int s0, .ref (a 0)] 13 := by
  unfold Mo_write_b13 at h
  refine pf_Mo_51 C 0 (wMo cI cZ a (Lf S 0 s0)) mo_h rfl mo_f0 d_Mo_write_13 ?_
  refine j_aload_n C 0 d_Mo_write_16 rfl ?_
  refine gf_Mo_51 C 0 (v := .int ((Lf S 0 s0).1 0)) mo_h rfl d_Mo_write_17 ?_
  refine j_if_le C 25 d_Mo_write_20 (by decide) (fun c20 => ?_) (fun c20 => ?_)
  · replace h := (if_pos c20).symm.trans h
    refine j_aload_n C 0 d_Mo_write_25 rfl ?_
    refine j_iconst C (v := 0) d_Mo_write_26 (by decide) ?_
    refine pf_Mo_147 C 0 (wMo cI cZ a (Lf (Lf S 0 s0) 9 0)) mo_h rfl mo_f9 d_Mo_write_27 ?_
    refine j_aload_n C 0 d_Mo_write_30 rfl ?_
    refine j_bipush C (v := 77) d_Mo_write_31 (by decide) ?_
    obtain ⟨r1, hr1, h⟩ := bd_ok h
    refine j_VV C [.int 77] hA 0 rfl rfl (c_Mo_out l D cI cR cZ a (Lf (Lf S 0 s0) 9 0) 77 hr1) (cw_Mo_150 C ⟨Nat.le_of_ble_eq_true rfl, Nat.le_of_ble_eq_true rfl⟩) [0, 1, 2, 3, 4, 5, 6, 7, 8, 9, 10] [] rfl rfl (by decide) (by decide) (by decide) rfl rfl (Nat.le_of_ble_eq_true rfl) d_Mo_write_33 (by decide) (fun _ => ?_)
    refine j_ws (ws' := wMo cI cZ a r1) rfl ?_
    refine j_aload_n C 0 d_Mo_write_36 rfl ?_
    refine j_bipush C (v := 76) d_Mo_write_37 (by decide) ?_
    obtain ⟨r2, hr2, h⟩ := bd_ok h
    refine j_VV C [.int 76] hA 0 rfl rfl (c_Mo_out l D cI cR cZ a r1 76 hr2) (cw_Mo_150 C ⟨Nat.le_of_ble_eq_true rfl, Nat.le_of_ble_eq_true rfl⟩) [0, 1, 2, 3, 4, 5, 6, 7, 8, 9, 10] [] rfl rfl (by decide) (by decide) (by decide) rfl rfl (Nat.le_of_ble_eq_true rfl) d_Mo_write_39 (by decide) (fun _ => ?_)
    refine j_ws (ws' := wMo cI cZ a r2) rfl ?_
    refine j_aload_n C 0 d_Mo_write_42 rfl ?_
    refine j_aload_n C 0 d_Mo_write_43 rfl ?_
    refine gf_Mo_45 C 0 (v := .int (r2.1 1)) mo_h rfl d_Mo_write_44 ?_
    obtain ⟨r3, hr3, h⟩ := bd_ok h
    refine j_VV C [.int (r2.1 1)] hA 0 rfl rfl (c_Mo_out l D cI cR cZ a r2 (r2.1 1) hr3) (cw_Mo_150 C ⟨Nat.le_of_ble_eq_true rfl, Nat.le_of_ble_eq_true rfl⟩) [0, 1, 2, 3, 4, 5, 6, 7, 8, 9, 10] [] rfl rfl (by decide) (by decide) (by decide) rfl rfl (Nat.le_of_ble_eq_true rfl) d_Mo_write_47 (by decide) (fun _ => ?_)
    refine j_ws (ws' := wMo cI cZ a r3) rfl ?_
    refine j_aload_n C 0 d_Mo_write_50 rfl ?_
    refine j_aload_n C 0 d_Mo_write_51 rfl ?_
    refine gf_Mo_48 C 0 (v := .int (r3.1 2)) mo_h rfl d_Mo_write_52 ?_
    obtain ⟨r4, hr4, h⟩ := bd_ok h
    refine j_VV C [.int (r3.1 2)] hA 0 rfl rfl (c_Mo_out l D cI cR cZ a r3 (r3.1 2) hr4) (cw_Mo_150 C ⟨Nat.le_of_ble_eq_true rfl, Nat.le_of_ble_eq_true rfl⟩) [0, 1, 2, 3, 4, 5, 6, 7, 8, 9, 10] [] rfl rfl (by decide) (by decide) (by decide) rfl rfl (Nat.le_of_ble_eq_true rfl) d_Mo_write_55 (by decide) (fun _ => ?_)
    refine j_ws (ws' := wMo cI cZ a r4) rfl ?_
    refine j_aload_n C 0 d_Mo_write_58 rfl ?_
    refine j_aload_n C 0 d_Mo_write_59 rfl ?_
    refine gf_Mo_107 C 0 (v := .int (r4.1 5)) mo_h rfl d_Mo_write_60 ?_
    obtain ⟨r5, hr5, h⟩ := bd_ok h
    refine j_VV C [.int (r4.1 5)] hA 0 rfl rfl (c_Mo_out l D cI cR cZ a r4 (r4.1 5) hr5) (cw_Mo_150 C ⟨Nat.le_of_ble_eq_true rfl, Nat.le_of_ble_eq_true rfl⟩) [0, 1, 2, 3, 4, 5, 6, 7, 8, 9, 10] [] rfl rfl (by decide) (by decide) (by decide) rfl rfl (Nat.le_of_ble_eq_true rfl) d_Mo_write_63 (by decide) (fun _ => ?_)
    refine j_ws (ws' := wMo cI cZ a r5) rfl ?_
    refine j_aload_n C 0 d_Mo_write_66 rfl ?_
    refine j_aload_n C 0 d_Mo_write_67 rfl ?_
    refine gf_Mo_128 C 0 (v := .int (r5.1 6)) mo_h rfl d_Mo_write_68 ?_
    obtain ⟨r6, hr6, h⟩ := bd_ok h
    refine j_VV C [.int (r5.1 6)] hA 0 rfl rfl (c_Mo_out l D cI cR cZ a r5 (r5.1 6) hr6) (cw_Mo_150 C ⟨Nat.le_of_ble_eq_true rfl, Nat.le_of_ble_eq_true rfl⟩) [0, 1, 2, 3, 4, 5, 6, 7, 8, 9, 10] [] rfl rfl (by decide) (by decide) (by decide) rfl rfl (Nat.le_of_ble_eq_true rfl) d_Mo_write_71 (by decide) (fun _ => ?_)
    refine j_ws (ws' := wMo cI cZ a r6) rfl ?_
    refine j_aload_n C 0 d_Mo_write_74 rfl ?_
    refine j_aload_n C 0 d_Mo_write_75 rfl ?_
    refine gf_Mo_131 C 0 (v := .int (r6.1 7)) mo_h rfl d_Mo_write_76 ?_
    obtain ⟨r7, hr7, h⟩ := bd_ok h
    refine j_VV C [.int (r6.1 7)] hA 0 rfl rfl (c_Mo_out l D cI cR cZ a r6 (r6.1 7) hr7) (cw_Mo_150 C ⟨Nat.le_of_ble_eq_true rfl, Nat.le_of_ble_eq_true rfl⟩) [0, 1, 2, 3, 4, 5, 6, 7, 8, 9, 10] [] rfl rfl (by decide) (by decide) (by decide) rfl rfl (Nat.le_of_ble_eq_true rfl) d_Mo_write_79 (by decide) (fun _ => ?_)
    refine j_ws (ws' := wMo cI cZ a r7) rfl ?_
    refine j_iconst C (v := 0) d_Mo_write_82 (by decide) ?_
    refine j_istore_n C [(1, .int 0), (0, .ref (a 0))] d_Mo_write_83 (by decide) rfl ?_
    obtain ⟨r18, hr18, h⟩ := bd_ok h
    refine j_sub [1, 0] rfl ?_
    refine t_Mo_write_l84 C hA fu 0 r7 hr18 (fun e19 => ?_)
    · refine j_aload_n C 0 d_Mo_write_154 rfl ?_
      refine gf_Mo_147 C 0 (v := .int (r18.2.1 9)) mo_h rfl d_Mo_write_155 ?_
      obtain rfl := Option.some.inj h
      exact j_iret C hr d_Mo_write_158 0 rfl
  · replace h := (if_neg c20).symm.trans h
    refine j_iconst C (v := 0) d_Mo_write_23 (by decide) ?_
    obtain rfl := Option.some.inj h
    exact j_iret C hr d_Mo_write_24 0 rfl
set_option maxRecDepth 100000 in
set_option maxHeartbeats 4000000 in
theorem c_Mo_write (l : Launch) (D : va_G) (cI cR cZ : ClassId) (fu : Nat) (a : (Nat → Nat)) (S : LyS) {res : (Int32 × LyS)} (h : Mo_write fu S = some res) (sz : Nat) : Met l y_Mo_write (Cond.code y_Mo_write b_Mo_write 3 (some .int) :: BIG) rm_Mo_write (PcI [.ref (a 0)] D (tyG cI cR cZ) (wMo cI cZ a S) sz) (QcI D res.1 (fun _ : Nat => wMo cI cZ a res.2) (va_A (wMo cI cZ a S) sz)) 0 0 (va_A (wMo cI cZ a S) sz) := by
  refine met_I (by decide) (Nat.le_of_ble_eq_true rfl) (fun p e s m args below meth c A hA C hr => ?_)
  have C : Cx p s m args meth c D (tyG cI cR cZ) b_Mo_write 3 "MaskLayersModel" := C
  have hr : meth.sig.returnType = some .int := hr
  show J p l e rm_Mo_write s m args below meth c D A (va_D A) 3 (MQ below (QcI D res.1 (fun _ : Nat => wMo cI cZ a res.2) A) args s 0 0 A) 0 0 (wMo cI cZ a S) [(0, .ref (a 0))] [] 0
  unfold Mo_write at h
  refine j_aload_n C 0 d_Mo_write_0 rfl ?_
  refine j_aload_n C 0 d_Mo_write_1 rfl ?_
  refine gf_Mo_124 C 0 (v := .int (S.1 4)) mo_h rfl d_Mo_write_2 ?_
  refine j_if_eq C 12 d_Mo_write_5 (by decide) (fun c21 => ?_) (fun c21 => ?_)
  · replace h := (if_pos c21).symm.trans h
    refine j_iconst C (v := 1) d_Mo_write_12 (by decide) ?_
    refine j_sub [0] rfl ?_
    exact t_Mo_write_b13 C hr hA h
  · replace h := (if_neg c21).symm.trans h
    refine j_iconst C (v := 0) d_Mo_write_8 (by decide) ?_
    refine j_goto C 13 d_Mo_write_9 (by decide) ?_
    refine j_sub [0] rfl ?_
    exact t_Mo_write_b13 C hr hA h
def Mo_byteAt_b18 (S : LyS) (v1 : Int32) (s0 : Int32) : Option (Int32 × LyS) :=
  (if ((Lf S 0 s0).1 0) ≤ 0 then gd v1 6400 (some ((Lf S 0 s0).2 5 v1.toNatClampNeg, Lf S 0 s0))
  else some (0, Lf S 0 s0))
def Mo_byteAt_b13 (S : LyS) (v1 : Int32) : Option (Int32 × LyS) :=
  Mo_byteAt_b18 S v1 1
def Mo_byteAt (S : LyS) (p1 : Int32) : Option (Int32 × LyS) :=
  (if p1 < 0 then Mo_byteAt_b13 S p1
  else (if p1 < (S.1 9) then Mo_byteAt_b18 S p1 0
  else Mo_byteAt_b13 S p1))
set_option maxRecDepth 100000 in
set_option maxHeartbeats 4000000 in
theorem t_Mo_byteAt_b18 {p : Program} {l : Launch} {e : Env} {s : State} {m : MethodId} {args : Array Value} {below : List Frame} {meth : Method} {c : Code} {D : va_G} {cI cR cZ : ClassId} {A : Nat → Prop} (C : Cx p s m args meth c D (tyG cI cR cZ) b_Mo_byteAt 2 "MaskLayersModel") (hr : meth.sig.returnType = some .int) (hA : ∀ q : Nat, s.heap.size ≤ q → A q) {a : (Nat → Nat)} {S : LyS} {v1 : Int32} {s0 : Int32} {res : (Int32 × LyS)} (h : Mo_byteAt_b18 S v1 s0 = some res) : J p l e rm_Mo_byteAt s m args below meth c D A (va_D A) 2 (MQ below (QcI D res.1 (fun _ : Nat => wMo cI cZ a res.2) A) args s 0 0 A) 0 0 (wMo cI cZ a S) [(0, .ref (a 0)), (1, .int v1)] [.int s0, .ref (a 0)] 18 := by
  unfold Mo_byteAt_b18 at h
  refine pf_Mo_51 C 0 (wMo cI cZ a (Lf S 0 s0)) mo_h rfl mo_f0 d_Mo_byteAt_18 ?_
  refine j_aload_n C 0 d_Mo_byteAt_21 rfl ?_
  refine gf_Mo_51 C 0 (v := .int ((Lf S 0 s0).1 0)) mo_h rfl d_Mo_byteAt_22 ?_
  refine j_if_le C 32 d_Mo_byteAt_25 (by decide) (fun c2 => ?_) (fun c2 => ?_)
  · replace h := (if_pos c2).symm.trans h
    refine j_aload_n C 0 d_Mo_byteAt_32 rfl ?_
    refine gf_Mo_30 C 0 (v := .ref (a 6)) mo_h rfl d_Mo_byteAt_33 ?_
    refine j_iload_n C 1 d_Mo_byteAt_36 rfl ?_
    obtain ⟨b1, h⟩ := gd_ok h
    refine j_iald C (6) (t0 := 0) mo_g5 rfl b1 d_Mo_byteAt_37 ?_
    obtain rfl := Option.some.inj h
    exact j_iret C hr d_Mo_byteAt_38 0 rfl
  · replace h := (if_neg c2).symm.trans h
    refine j_iconst C (v := 0) d_Mo_byteAt_28 (by decide) ?_
    refine j_goto C 38 d_Mo_byteAt_29 (by decide) ?_
    obtain rfl := Option.some.inj h
    exact j_iret C hr d_Mo_byteAt_38 0 rfl
set_option maxRecDepth 100000 in
set_option maxHeartbeats 4000000 in
theorem t_Mo_byteAt_b13 {p : Program} {l : Launch} {e : Env} {s : State} {m : MethodId} {args : Array Value} {below : List Frame} {meth : Method} {c : Code} {D : va_G} {cI cR cZ : ClassId} {A : Nat → Prop} (C : Cx p s m args meth c D (tyG cI cR cZ) b_Mo_byteAt 2 "MaskLayersModel") (hr : meth.sig.returnType = some .int) (hA : ∀ q : Nat, s.heap.size ≤ q → A q) {a : (Nat → Nat)} {S : LyS} {v1 : Int32} {res : (Int32 × LyS)} (h : Mo_byteAt_b13 S v1 = some res) : J p l e rm_Mo_byteAt s m args below meth c D A (va_D A) 2 (MQ below (QcI D res.1 (fun _ : Nat => wMo cI cZ a res.2) A) args s 0 0 A) 0 0 (wMo cI cZ a S) [(0, .ref (a 0)), (1, .int v1)] [.ref (a 0)] 13 := by
  unfold Mo_byteAt_b13 at h
  refine j_iconst C (v := 1) d_Mo_byteAt_13 (by decide) ?_
  refine j_goto C 18 d_Mo_byteAt_14 (by decide) ?_
  refine j_sub [0, 1] rfl ?_
  exact t_Mo_byteAt_b18 C hr hA h
set_option maxRecDepth 100000 in
set_option maxHeartbeats 4000000 in
theorem c_Mo_byteAt (l : Launch) (D : va_G) (cI cR cZ : ClassId) (a : (Nat → Nat)) (S : LyS) (p1 : Int32) {res : (Int32 × LyS)} (h : Mo_byteAt S p1 = some res) (sz : Nat) : Met l y_Mo_byteAt (Cond.code y_Mo_byteAt b_Mo_byteAt 2 (some .int) :: BIG) rm_Mo_byteAt (PcI [.ref (a 0), .int p1] D (tyG cI cR cZ) (wMo cI cZ a S) sz) (QcI D res.1 (fun _ : Nat => wMo cI cZ a res.2) (va_A (wMo cI cZ a S) sz)) 0 0 (va_A (wMo cI cZ a S) sz) := by
  refine met_I (by decide) (Nat.le_of_ble_eq_true rfl) (fun p e s m args below meth c A hA C hr => ?_)
  have C : Cx p s m args meth c D (tyG cI cR cZ) b_Mo_byteAt 2 "MaskLayersModel" := C
  have hr : meth.sig.returnType = some .int := hr
  show J p l e rm_Mo_byteAt s m args below meth c D A (va_D A) 2 (MQ below (QcI D res.1 (fun _ : Nat => wMo cI cZ a res.2) A) args s 0 0 A) 0 0 (wMo cI cZ a S) [(0, .ref (a 0)), (1, .int p1)] [] 0
  unfold Mo_byteAt at h
  refine j_aload_n C 0 d_Mo_byteAt_0 rfl ?_
  refine j_iload_n C 1 d_Mo_byteAt_1 rfl ?_
  refine j_if_lt C 13 d_Mo_byteAt_2 (by decide) (fun c4 => ?_) (fun c4 => ?_)
  · replace h := (if_pos c4).symm.trans h
    refine j_sub [0, 1] rfl ?_
    exact t_Mo_byteAt_b13 C hr hA h
  · replace h := (if_neg c4).symm.trans h
    refine j_iload_n C 1 d_Mo_byteAt_5 rfl ?_
    refine j_aload_n C 0 d_Mo_byteAt_6 rfl ?_
    refine gf_Mo_147 C 0 (v := .int (S.1 9)) mo_h rfl d_Mo_byteAt_7 ?_
    refine j_icmp_lt C 17 d_Mo_byteAt_10 (by decide) (fun c3 => ?_) (fun c3 => ?_)
    · replace h := (if_pos c3).symm.trans h
      refine j_iconst C (v := 0) d_Mo_byteAt_17 (by decide) ?_
      refine j_sub [0, 1] rfl ?_
      exact t_Mo_byteAt_b18 C hr hA h
    · replace h := (if_neg c3).symm.trans h
      refine j_sub [0, 1] rfl ?_
      exact t_Mo_byteAt_b13 C hr hA h
def Mo_feed_b31 (S : LyS) (v1 : Int32) (s0 : Int32) : Option (Int32 × LyS) :=
  (if ((Lf S 0 s0).1 0) ≤ 0 then gd ((Lf S 0 s0).1 10) 6400 (some ((Lf (Ls (Lf S 0 s0) 6 (((Lf S 0 s0).1 10).toNatClampNeg) v1) 10 (((Ls (Lf S 0 s0) 6 (((Lf S 0 s0).1 10).toNatClampNeg) v1).1 10) + 1)).1 10, Lf (Ls (Lf S 0 s0) 6 (((Lf S 0 s0).1 10).toNatClampNeg) v1) 10 (((Ls (Lf S 0 s0) 6 (((Lf S 0 s0).1 10).toNatClampNeg) v1).1 10) + 1)))
  else some (0, Lf S 0 s0))
def Mo_feed_b12 (S : LyS) (v1 : Int32) : Option (Int32 × LyS) :=
  Mo_feed_b31 S v1 1
def Mo_feed (S : LyS) (p1 : Int32) : Option (Int32 × LyS) :=
  (if p1 < 0 then Mo_feed_b12 S p1
  else (if p1 ≤ 255 then (if (S.1 10) = 6400 then Mo_feed_b31 S p1 2
  else Mo_feed_b31 S p1 0)
  else Mo_feed_b12 S p1))
set_option maxRecDepth 100000 in
set_option maxHeartbeats 4000000 in
theorem t_Mo_feed_b31 {p : Program} {l : Launch} {e : Env} {s : State} {m : MethodId} {args : Array Value} {below : List Frame} {meth : Method} {c : Code} {D : va_G} {cI cR cZ : ClassId} {A : Nat → Prop} (C : Cx p s m args meth c D (tyG cI cR cZ) b_Mo_feed 2 "MaskLayersModel") (hr : meth.sig.returnType = some .int) (hA : ∀ q : Nat, s.heap.size ≤ q → A q) {a : (Nat → Nat)} {S : LyS} {v1 : Int32} {s0 : Int32} {res : (Int32 × LyS)} (h : Mo_feed_b31 S v1 s0 = some res) : J p l e rm_Mo_feed s m args below meth c D A (va_D A) 2 (MQ below (QcI D res.1 (fun _ : Nat => wMo cI cZ a res.2) A) args s 0 0 A) 0 0 (wMo cI cZ a S) [(0, .ref (a 0)), (1, .int v1)] [.int s0, .ref (a 0)] 31 := by
  unfold Mo_feed_b31 at h
  refine pf_Mo_51 C 0 (wMo cI cZ a (Lf S 0 s0)) mo_h rfl mo_f0 d_Mo_feed_31 ?_
  refine j_aload_n C 0 d_Mo_feed_34 rfl ?_
  refine gf_Mo_51 C 0 (v := .int ((Lf S 0 s0).1 0)) mo_h rfl d_Mo_feed_35 ?_
  refine j_if_le C 43 d_Mo_feed_38 (by decide) (fun c2 => ?_) (fun c2 => ?_)
  · replace h := (if_pos c2).symm.trans h
    refine j_aload_n C 0 d_Mo_feed_43 rfl ?_
    refine gf_Mo_33 C 0 (v := .ref (a 7)) mo_h rfl d_Mo_feed_44 ?_
    refine j_aload_n C 0 d_Mo_feed_47 rfl ?_
    refine gf_Mo_166 C 0 (v := .int ((Lf S 0 s0).1 10)) mo_h rfl d_Mo_feed_48 ?_
    refine j_iload_n C 1 d_Mo_feed_51 rfl ?_
    obtain ⟨b1, h⟩ := gd_ok h
    refine j_iast C (7) (wMo cI cZ a (Ls (Lf S 0 s0) 6 (((Lf S 0 s0).1 10).toNatClampNeg) v1)) (t0 := 0) mo_g6 mo_s6 rfl b1 d_Mo_feed_52 ?_
    refine j_aload_n C 0 d_Mo_feed_53 rfl ?_
    refine j_dup C d_Mo_feed_54 rfl ?_
    refine gf_Mo_166 C 0 (v := .int ((Ls (Lf S 0 s0) 6 (((Lf S 0 s0).1 10).toNatClampNeg) v1).1 10)) mo_h rfl d_Mo_feed_55 ?_
    refine j_iconst C (v := 1) d_Mo_feed_58 (by decide) ?_
    refine j_iadd C d_Mo_feed_59 ?_
    refine pf_Mo_166 C 0 (wMo cI cZ a (Lf (Ls (Lf S 0 s0) 6 (((Lf S 0 s0).1 10).toNatClampNeg) v1) 10 (((Ls (Lf S 0 s0) 6 (((Lf S 0 s0).1 10).toNatClampNeg) v1).1 10) + 1))) mo_h rfl mo_f10 d_Mo_feed_60 ?_
    refine j_aload_n C 0 d_Mo_feed_63 rfl ?_
    refine gf_Mo_166 C 0 (v := .int ((Lf (Ls (Lf S 0 s0) 6 (((Lf S 0 s0).1 10).toNatClampNeg) v1) 10 (((Ls (Lf S 0 s0) 6 (((Lf S 0 s0).1 10).toNatClampNeg) v1).1 10) + 1)).1 10)) mo_h rfl d_Mo_feed_64 ?_
    obtain rfl := Option.some.inj h
    exact j_iret C hr d_Mo_feed_67 0 rfl
  · replace h := (if_neg c2).symm.trans h
    refine j_iconst C (v := 0) d_Mo_feed_41 (by decide) ?_
    obtain rfl := Option.some.inj h
    exact j_iret C hr d_Mo_feed_42 0 rfl
set_option maxRecDepth 100000 in
set_option maxHeartbeats 4000000 in
theorem t_Mo_feed_b12 {p : Program} {l : Launch} {e : Env} {s : State} {m : MethodId} {args : Array Value} {below : List Frame} {meth : Method} {c : Code} {D : va_G} {cI cR cZ : ClassId} {A : Nat → Prop} (C : Cx p s m args meth c D (tyG cI cR cZ) b_Mo_feed 2 "MaskLayersModel") (hr : meth.sig.returnType = some .int) (hA : ∀ q : Nat, s.heap.size ≤ q → A q) {a : (Nat → Nat)} {S : LyS} {v1 : Int32} {res : (Int32 × LyS)} (h : Mo_feed_b12 S v1 = some res) : J p l e rm_Mo_feed s m args below meth c D A (va_D A) 2 (MQ below (QcI D res.1 (fun _ : Nat => wMo cI cZ a res.2) A) args s 0 0 A) 0 0 (wMo cI cZ a S) [(0, .ref (a 0)), (1, .int v1)] [.ref (a 0)] 12 := by
  unfold Mo_feed_b12 at h
  refine j_iconst C (v := 1) d_Mo_feed_12 (by decide) ?_
  refine j_goto C 31 d_Mo_feed_13 (by decide) ?_
  refine j_sub [0, 1] rfl ?_
  exact t_Mo_feed_b31 C hr hA h
set_option maxRecDepth 100000 in
set_option maxHeartbeats 4000000 in
theorem c_Mo_feed (l : Launch) (D : va_G) (cI cR cZ : ClassId) (a : (Nat → Nat)) (S : LyS) (p1 : Int32) {res : (Int32 × LyS)} (h : Mo_feed S p1 = some res) (sz : Nat) : Met l y_Mo_feed (Cond.code y_Mo_feed b_Mo_feed 2 (some .int) :: BIG) rm_Mo_feed (PcI [.ref (a 0), .int p1] D (tyG cI cR cZ) (wMo cI cZ a S) sz) (QcI D res.1 (fun _ : Nat => wMo cI cZ a res.2) (va_A (wMo cI cZ a S) sz)) 0 0 (va_A (wMo cI cZ a S) sz) := by
  refine met_I (by decide) (Nat.le_of_ble_eq_true rfl) (fun p e s m args below meth c A hA C hr => ?_)
  have C : Cx p s m args meth c D (tyG cI cR cZ) b_Mo_feed 2 "MaskLayersModel" := C
  have hr : meth.sig.returnType = some .int := hr
  show J p l e rm_Mo_feed s m args below meth c D A (va_D A) 2 (MQ below (QcI D res.1 (fun _ : Nat => wMo cI cZ a res.2) A) args s 0 0 A) 0 0 (wMo cI cZ a S) [(0, .ref (a 0)), (1, .int p1)] [] 0
  unfold Mo_feed at h
  refine j_aload_n C 0 d_Mo_feed_0 rfl ?_
  refine j_iload_n C 1 d_Mo_feed_1 rfl ?_
  refine j_if_lt C 12 d_Mo_feed_2 (by decide) (fun c5 => ?_) (fun c5 => ?_)
  · replace h := (if_pos c5).symm.trans h
    refine j_sub [0, 1] rfl ?_
    exact t_Mo_feed_b12 C hr hA h
  · replace h := (if_neg c5).symm.trans h
    refine j_iload_n C 1 d_Mo_feed_5 rfl ?_
    refine j_sipush C (v := 255) d_Mo_feed_6 (by decide) ?_
    refine j_icmp_le C 16 d_Mo_feed_9 (by decide) (fun c4 => ?_) (fun c4 => ?_)
    · replace h := (if_pos c4).symm.trans h
      refine j_aload_n C 0 d_Mo_feed_16 rfl ?_
      refine gf_Mo_166 C 0 (v := .int (S.1 10)) mo_h rfl d_Mo_feed_17 ?_
      refine j_sipush C (v := 6400) d_Mo_feed_20 (by decide) ?_
      refine j_icmp_ne C 30 d_Mo_feed_23 (by decide) (fun c3 => ?_) (fun c3 => ?_)
      · replace h := (if_neg c3).symm.trans h
        refine j_iconst C (v := 0) d_Mo_feed_30 (by decide) ?_
        refine j_sub [0, 1] rfl ?_
        exact t_Mo_feed_b31 C hr hA h
      · replace h := (if_pos c3).symm.trans h
        refine j_iconst C (v := 2) d_Mo_feed_26 (by decide) ?_
        refine j_goto C 31 d_Mo_feed_27 (by decide) ?_
        refine j_sub [0, 1] rfl ?_
        exact t_Mo_feed_b31 C hr hA h
    · replace h := (if_neg c4).symm.trans h
      refine j_sub [0, 1] rfl ?_
      exact t_Mo_feed_b12 C hr hA h
def Mo_pass_l92 (v1 : Int32) (v3 : Int32) : Nat → Int32 → LyS → Option (Nat × LyS)
  | 0, _, _ => none
  | k + 1, v4, S =>
  (if v3 ≤ v4 then some (0, S)
  else gd (v1 + v4) 6400 (gd (S.1 10) 6400 (Mo_pass_l92 v1 v3 k (v4 + 1) (Lf (Ls S 6 ((S.1 10).toNatClampNeg) (S.2 5 ((v1 + v4).toNatClampNeg))) 10 (((Ls S 6 ((S.1 10).toNatClampNeg) (S.2 5 ((v1 + v4).toNatClampNeg))).1 10) + 1)))))
def Mo_pass_b77 (fu : Nat) (S : LyS) (v1 : Int32) (v3 : Int32) (s0 : Int32) : Option (Int32 × LyS) :=
  (if ((Lf S 0 s0).1 0) ≤ 0 then (Mo_pass_l92 v1 v3 fu 0 (Lf S 0 s0)).bind fun r4 =>
  some (v3, r4.2)
  else some (0, Lf S 0 s0))
def Mo_pass_b58 (fu : Nat) (S : LyS) (v1 : Int32) (s0 : Int32) : Option (Int32 × LyS) :=
  (if ((S.1 10) + s0) ≤ 6400 then Mo_pass_b77 fu S v1 s0 0
  else Mo_pass_b77 fu S v1 s0 3)
def Mo_pass_b26 (fu : Nat) (S : LyS) (v1 : Int32) (v2 : Int32) (s0 : Int32) : Option (Int32 × LyS) :=
  (if ((Lf S 0 s0).1 0) ≤ 0 then (if (((Lf S 0 s0).1 9) - v1) ≤ v2 then Mo_pass_b58 fu (Lf S 0 s0) v1 (((Lf S 0 s0).1 9) - v1)
  else Mo_pass_b58 fu (Lf S 0 s0) v1 v2)
  else some (0, Lf S 0 s0))
def Mo_pass_b13 (fu : Nat) (S : LyS) (v1 : Int32) (v2 : Int32) : Option (Int32 × LyS) :=
  Mo_pass_b26 fu S v1 v2 1
def Mo_pass (fu : Nat) (S : LyS) (p1 : Int32) (p2 : Int32) : Option (Int32 × LyS) :=
  (if p1 < 0 then Mo_pass_b13 fu S p1 p2
  else (if p1 < (S.1 9) then (if 0 ≤ p2 then Mo_pass_b26 fu S p1 p2 0
  else Mo_pass_b26 fu S p1 p2 2)
  else Mo_pass_b13 fu S p1 p2))
set_option maxRecDepth 100000 in
set_option maxHeartbeats 4000000 in
theorem t_Mo_pass_l92 {p : Program} {l : Launch} {e : Env} {s : State} {m : MethodId} {args : Array Value} {below : List Frame} {meth : Method} {c : Code} {D : va_G} {cI cR cZ : ClassId} {A : Nat → Prop} {Q : State → Prop} (C : Cx p s m args meth c D (tyG cI cR cZ) b_Mo_pass 5 "MaskLayersModel") (hA : ∀ q : Nat, s.heap.size ≤ q → A q) {a : (Nat → Nat)} {v1 : Int32} {v3 : Int32} {out : Nat × LyS} : ∀ (k : Nat) (v4 : Int32) (S : LyS), Mo_pass_l92 v1 v3 k v4 S = some out → (out.1 = 0 → J p l e rm_Mo_pass s m args below meth c D A (va_D A) 5 Q 0 0 (wMo cI cZ a out.2) [(3, .int v3)] [] 132) → J p l e rm_Mo_pass s m args below meth c D A (va_D A) 5 Q 0 0 (wMo cI cZ a S) [(0, .ref (a 0)), (1, .int v1), (3, .int v3), (4, .int v4)] [] 92 := by
  intro k
  induction k with
  | zero => intro v4 S h; cases (show none = some out from h)
  | succ k ih =>
    intro v4 S h x0
    rw [Mo_pass_l92] at h
    refine j_iload C 3 d_Mo_pass_92 rfl ?_
    refine j_iload_n C 2 d_Mo_pass_94 rfl ?_
    refine j_icmp_ge C 132 d_Mo_pass_95 (by decide) (fun c3 => ?_) (fun c3 => ?_)
    · replace h := (if_pos c3).symm.trans h
      obtain rfl := Option.some.inj h
      refine j_sub [2] rfl ?_
      exact x0 rfl
    · replace h := (if_neg c3).symm.trans h
      refine j_aload_n C 0 d_Mo_pass_98 rfl ?_
      refine gf_Mo_33 C 0 (v := .ref (a 7)) mo_h rfl d_Mo_pass_99 ?_
      refine j_aload_n C 0 d_Mo_pass_102 rfl ?_
      refine gf_Mo_166 C 0 (v := .int (S.1 10)) mo_h rfl d_Mo_pass_103 ?_
      refine j_aload_n C 0 d_Mo_pass_106 rfl ?_
      refine gf_Mo_30 C 0 (v := .ref (a 6)) mo_h rfl d_Mo_pass_107 ?_
      refine j_iload_n C 1 d_Mo_pass_110 rfl ?_
      refine j_iload C 3 d_Mo_pass_111 rfl ?_
      refine j_iadd C d_Mo_pass_113 ?_
      obtain ⟨b1, h⟩ := gd_ok h
      refine j_iald C (6) (t0 := 0) mo_g5 rfl b1 d_Mo_pass_114 ?_
      obtain ⟨b2, h⟩ := gd_ok h
      refine j_iast C (7) (wMo cI cZ a (Ls S 6 ((S.1 10).toNatClampNeg) (S.2 5 ((v1 + v4).toNatClampNeg)))) (t0 := 0) mo_g6 mo_s6 rfl b2 d_Mo_pass_115 ?_
      refine j_aload_n C 0 d_Mo_pass_116 rfl ?_
      refine j_dup C d_Mo_pass_117 rfl ?_
      refine gf_Mo_166 C 0 (v := .int ((Ls S 6 ((S.1 10).toNatClampNeg) (S.2 5 ((v1 + v4).toNatClampNeg))).1 10)) mo_h rfl d_Mo_pass_118 ?_
      refine j_iconst C (v := 1) d_Mo_pass_121 (by decide) ?_
      refine j_iadd C d_Mo_pass_122 ?_
      refine pf_Mo_166 C 0 (wMo cI cZ a (Lf (Ls S 6 ((S.1 10).toNatClampNeg) (S.2 5 ((v1 + v4).toNatClampNeg))) 10 (((Ls S 6 ((S.1 10).toNatClampNeg) (S.2 5 ((v1 + v4).toNatClampNeg))).1 10) + 1))) mo_h rfl mo_f10 d_Mo_pass_123 ?_
      refine j_iinc C [(4, .int (v4 + 1)), (0, .ref (a 0)), (1, .int v1), (3, .int v3)] 3 (v4 + 1) d_Mo_pass_126 rfl rfl (by decide) rfl ?_
      refine j_goto C 92 d_Mo_pass_129 (by decide) ?_
      refine j_sub [1, 2, 3, 0] rfl ?_
      exact ih (v4 + 1) (Lf (Ls S 6 ((S.1 10).toNatClampNeg) (S.2 5 ((v1 + v4).toNatClampNeg))) 10 (((Ls S 6 ((S.1 10).toNatClampNeg) (S.2 5 ((v1 + v4).toNatClampNeg))).1 10) + 1)) h x0
set_option maxRecDepth 100000 in
set_option maxHeartbeats 4000000 in
theorem t_Mo_pass_b77 {p : Program} {l : Launch} {e : Env} {s : State} {m : MethodId} {args : Array Value} {below : List Frame} {meth : Method} {c : Code} {D : va_G} {cI cR cZ : ClassId} {A : Nat → Prop} (C : Cx p s m args meth c D (tyG cI cR cZ) b_Mo_pass 5 "MaskLayersModel") (hr : meth.sig.returnType = some .int) (hA : ∀ q : Nat, s.heap.size ≤ q → A q) {a : (Nat → Nat)} {S : LyS} {fu : Nat} {v1 : Int32} {v3 : Int32} {s0 : Int32} {res : (Int32 × LyS)} (h : Mo_pass_b77 fu S v1 v3 s0 = some res) : J p l e rm_Mo_pass s m args below meth c D A (va_D A) 5 (MQ below (QcI D res.1 (fun _ : Nat => wMo cI cZ a res.2) A) args s 0 0 A) 0 0 (wMo cI cZ a S) [(0, .ref (a 0)), (1, .int v1), (3, .int v3)] [.int s0, .ref (a 0)] 77 := by
  unfold Mo_pass_b77 at h
  refine pf_Mo_51 C 0 (wMo cI cZ a (Lf S 0 s0)) mo_h rfl mo_f0 d_Mo_pass_77 ?_
  refine j_aload_n C 0 d_Mo_pass_80 rfl ?_
  refine gf_Mo_51 C 0 (v := .int ((Lf S 0 s0).1 0)) mo_h rfl d_Mo_pass_81 ?_
  refine j_if_le C 89 d_Mo_pass_84 (by decide) (fun c6 => ?_) (fun c6 => ?_)
  · replace h := (if_pos c6).symm.trans h
    refine j_iconst C (v := 0) d_Mo_pass_89 (by decide) ?_
    refine j_istore C [(4, .int 0), (0, .ref (a 0)), (1, .int v1), (3, .int v3)] d_Mo_pass_90 (by decide) rfl ?_
    obtain ⟨r4, hr4, h⟩ := bd_ok h
    refine j_sub [1, 2, 3, 0] rfl ?_
    refine t_Mo_pass_l92 C hA fu 0 (Lf S 0 s0) hr4 (fun e5 => ?_)
    · refine j_iload_n C 0 d_Mo_pass_132 rfl ?_
      obtain rfl := Option.some.inj h
      exact j_iret C hr d_Mo_pass_133 0 rfl
  · replace h := (if_neg c6).symm.trans h
    refine j_iconst C (v := 0) d_Mo_pass_87 (by decide) ?_
    obtain rfl := Option.some.inj h
    exact j_iret C hr d_Mo_pass_88 0 rfl
set_option maxRecDepth 100000 in
set_option maxHeartbeats 4000000 in
theorem t_Mo_pass_b58 {p : Program} {l : Launch} {e : Env} {s : State} {m : MethodId} {args : Array Value} {below : List Frame} {meth : Method} {c : Code} {D : va_G} {cI cR cZ : ClassId} {A : Nat → Prop} (C : Cx p s m args meth c D (tyG cI cR cZ) b_Mo_pass 5 "MaskLayersModel") (hr : meth.sig.returnType = some .int) (hA : ∀ q : Nat, s.heap.size ≤ q → A q) {a : (Nat → Nat)} {S : LyS} {fu : Nat} {v1 : Int32} {s0 : Int32} {res : (Int32 × LyS)} (h : Mo_pass_b58 fu S v1 s0 = some res) : J p l e rm_Mo_pass s m args below meth c D A (va_D A) 5 (MQ below (QcI D res.1 (fun _ : Nat => wMo cI cZ a res.2) A) args s 0 0 A) 0 0 (wMo cI cZ a S) [(0, .ref (a 0)), (1, .int v1)] [.int s0] 58 := by
  unfold Mo_pass_b58 at h
  refine j_istore_n C [(3, .int s0), (0, .ref (a 0)), (1, .int v1)] d_Mo_pass_58 (by decide) rfl ?_
  refine j_aload_n C 1 d_Mo_pass_59 rfl ?_
  refine j_aload_n C 1 d_Mo_pass_60 rfl ?_
  refine gf_Mo_166 C 0 (v := .int (S.1 10)) mo_h rfl d_Mo_pass_61 ?_
  refine j_iload_n C 0 d_Mo_pass_64 rfl ?_
  refine j_iadd C d_Mo_pass_65 ?_
  refine j_sipush C (v := 6400) d_Mo_pass_66 (by decide) ?_
  refine j_icmp_le C 76 d_Mo_pass_69 (by decide) (fun c7 => ?_) (fun c7 => ?_)
  · replace h := (if_pos c7).symm.trans h
    refine j_iconst C (v := 0) d_Mo_pass_76 (by decide) ?_
    refine j_sub [1, 2, 0] rfl ?_
    exact t_Mo_pass_b77 C hr hA h
  · replace h := (if_neg c7).symm.trans h
    refine j_iconst C (v := 3) d_Mo_pass_72 (by decide) ?_
    refine j_goto C 77 d_Mo_pass_73 (by decide) ?_
    refine j_sub [1, 2, 0] rfl ?_
    exact t_Mo_pass_b77 C hr hA h
set_option maxRecDepth 100000 in
set_option maxHeartbeats 4000000 in
theorem t_Mo_pass_b26 {p : Program} {l : Launch} {e : Env} {s : State} {m : MethodId} {args : Array Value} {below : List Frame} {meth : Method} {c : Code} {D : va_G} {cI cR cZ : ClassId} {A : Nat → Prop} (C : Cx p s m args meth c D (tyG cI cR cZ) b_Mo_pass 5 "MaskLayersModel") (hr : meth.sig.returnType = some .int) (hA : ∀ q : Nat, s.heap.size ≤ q → A q) {a : (Nat → Nat)} {S : LyS} {fu : Nat} {v1 : Int32} {v2 : Int32} {s0 : Int32} {res : (Int32 × LyS)} (h : Mo_pass_b26 fu S v1 v2 s0 = some res) : J p l e rm_Mo_pass s m args below meth c D A (va_D A) 5 (MQ below (QcI D res.1 (fun _ : Nat => wMo cI cZ a res.2) A) args s 0 0 A) 0 0 (wMo cI cZ a S) [(0, .ref (a 0)), (1, .int v1), (2, .int v2)] [.int s0, .ref (a 0)] 26 := by
  unfold Mo_pass_b26 at h
  refine pf_Mo_51 C 0 (wMo cI cZ a (Lf S 0 s0)) mo_h rfl mo_f0 d_Mo_pass_26 ?_
  refine j_aload_n C 0 d_Mo_pass_29 rfl ?_
  refine gf_Mo_51 C 0 (v := .int ((Lf S 0 s0).1 0)) mo_h rfl d_Mo_pass_30 ?_
  refine j_if_le C 38 d_Mo_pass_33 (by decide) (fun c9 => ?_) (fun c9 => ?_)
  · replace h := (if_pos c9).symm.trans h
    refine j_iload_n C 2 d_Mo_pass_38 rfl ?_
    refine j_aload_n C 0 d_Mo_pass_39 rfl ?_
    refine gf_Mo_147 C 0 (v := .int ((Lf S 0 s0).1 9)) mo_h rfl d_Mo_pass_40 ?_
    refine j_iload_n C 1 d_Mo_pass_43 rfl ?_
    refine j_isub C d_Mo_pass_44 ?_
    refine j_icmp_ge C 52 d_Mo_pass_45 (by decide) (fun c8 => ?_) (fun c8 => ?_)
    · replace h := (if_pos c8).symm.trans h
      refine j_aload_n C 0 d_Mo_pass_52 rfl ?_
      refine gf_Mo_147 C 0 (v := .int ((Lf S 0 s0).1 9)) mo_h rfl d_Mo_pass_53 ?_
      refine j_iload_n C 1 d_Mo_pass_56 rfl ?_
      refine j_isub C d_Mo_pass_57 ?_
      refine j_sub [0, 1] rfl ?_
      exact t_Mo_pass_b58 C hr hA h
    · replace h := (if_neg c8).symm.trans h
      refine j_iload_n C 2 d_Mo_pass_48 rfl ?_
      refine j_goto C 58 d_Mo_pass_49 (by decide) ?_
      refine j_sub [0, 1] rfl ?_
      exact t_Mo_pass_b58 C hr hA h
  · replace h := (if_neg c9).symm.trans h
    refine j_iconst C (v := 0) d_Mo_pass_36 (by decide) ?_
    obtain rfl := Option.some.inj h
    exact j_iret C hr d_Mo_pass_37 0 rfl
set_option maxRecDepth 100000 in
set_option maxHeartbeats 4000000 in
theorem t_Mo_pass_b13 {p : Program} {l : Launch} {e : Env} {s : State} {m : MethodId} {args : Array Value} {below : List Frame} {meth : Method} {c : Code} {D : va_G} {cI cR cZ : ClassId} {A : Nat → Prop} (C : Cx p s m args meth c D (tyG cI cR cZ) b_Mo_pass 5 "MaskLayersModel") (hr : meth.sig.returnType = some .int) (hA : ∀ q : Nat, s.heap.size ≤ q → A q) {a : (Nat → Nat)} {S : LyS} {fu : Nat} {v1 : Int32} {v2 : Int32} {res : (Int32 × LyS)} (h : Mo_pass_b13 fu S v1 v2 = some res) : J p l e rm_Mo_pass s m args below meth c D A (va_D A) 5 (MQ below (QcI D res.1 (fun _ : Nat => wMo cI cZ a res.2) A) args s 0 0 A) 0 0 (wMo cI cZ a S) [(0, .ref (a 0)), (1, .int v1), (2, .int v2)] [.ref (a 0)] 13 := by
  unfold Mo_pass_b13 at h
  refine j_iconst C (v := 1) d_Mo_pass_13 (by decide) ?_
  refine j_goto C 26 d_Mo_pass_14 (by decide) ?_
  refine j_sub [0, 1, 2] rfl ?_
  exact t_Mo_pass_b26 C hr hA h
set_option maxRecDepth 100000 in
set_option maxHeartbeats 4000000 in
theorem c_Mo_pass (l : Launch) (D : va_G) (cI cR cZ : ClassId) (fu : Nat) (a : (Nat → Nat)) (S : LyS) (p1 : Int32) (p2 : Int32) {res : (Int32 × LyS)} (h : Mo_pass fu S p1 p2 = some res) (sz : Nat) : Met l y_Mo_pass (Cond.code y_Mo_pass b_Mo_pass 5 (some .int) :: BIG) rm_Mo_pass (PcI [.ref (a 0), .int p1, .int p2] D (tyG cI cR cZ) (wMo cI cZ a S) sz) (QcI D res.1 (fun _ : Nat => wMo cI cZ a res.2) (va_A (wMo cI cZ a S) sz)) 0 0 (va_A (wMo cI cZ a S) sz) := by
  refine met_I (by decide) (Nat.le_of_ble_eq_true rfl) (fun p e s m args below meth c A hA C hr => ?_)
  have C : Cx p s m args meth c D (tyG cI cR cZ) b_Mo_pass 5 "MaskLayersModel" := C
  have hr : meth.sig.returnType = some .int := hr
  show J p l e rm_Mo_pass s m args below meth c D A (va_D A) 5 (MQ below (QcI D res.1 (fun _ : Nat => wMo cI cZ a res.2) A) args s 0 0 A) 0 0 (wMo cI cZ a S) [(0, .ref (a 0)), (1, .int p1), (2, .int p2)] [] 0
  unfold Mo_pass at h
  refine j_aload_n C 0 d_Mo_pass_0 rfl ?_
  refine j_iload_n C 1 d_Mo_pass_1 rfl ?_
  refine j_if_lt C 13 d_Mo_pass_2 (by decide) (fun c12 => ?_) (fun c12 => ?_)
  · replace h := (if_pos c12).symm.trans h
    refine j_sub [0, 1, 2] rfl ?_
    exact t_Mo_pass_b13 C hr hA h
  · replace h := (if_neg c12).symm.trans h
    refine j_iload_n C 1 d_Mo_pass_5 rfl ?_
    refine j_aload_n C 0 d_Mo_pass_6 rfl ?_
    refine gf_Mo_147 C 0 (v := .int (S.1 9)) mo_h rfl d_Mo_pass_7 ?_
    refine j_icmp_lt C 17 d_Mo_pass_10 (by decide) (fun c11 => ?_) (fun c11 => ?_)
    · replace h := (if_pos c11).symm.trans h
      refine j_iload_n C 2 d_Mo_pass_17 rfl ?_
      refine j_if_ge C 25 d_Mo_pass_18 (by decide) (fun c10 => ?_) (fun c10 => ?_)
      · replace h := (if_pos c10).symm.trans h
        refine j_iconst C (v := 0) d_Mo_pass_25 (by decide) ?_
        refine j_sub [0, 1, 2] rfl ?_
        exact t_Mo_pass_b26 C hr hA h
      · replace h := (if_neg c10).symm.trans h
        refine j_iconst C (v := 2) d_Mo_pass_21 (by decide) ?_
        refine j_goto C 26 d_Mo_pass_22 (by decide) ?_
        refine j_sub [0, 1, 2] rfl ?_
        exact t_Mo_pass_b26 C hr hA h
    · replace h := (if_neg c11).symm.trans h
      refine j_sub [0, 1, 2] rfl ?_
      exact t_Mo_pass_b13 C hr hA h
def Mo_alter_b33 (S : LyS) (v1 : Int32) (v2 : Int32) (s0 : Int32) : Option (Int32 × LyS) :=
  (if ((Lf S 0 s0).1 0) ≤ 0 then gd v1 6400 (gd v1 6400 (some ((Lf S 0 s0).2 6 v1.toNatClampNeg, Ls (Lf S 0 s0) 6 v1.toNatClampNeg v2)))
  else some (0, Lf S 0 s0))
def Mo_alter_b13 (S : LyS) (v1 : Int32) (v2 : Int32) : Option (Int32 × LyS) :=
  Mo_alter_b33 S v1 v2 1
def Mo_alter_b28 (S : LyS) (v1 : Int32) (v2 : Int32) : Option (Int32 × LyS) :=
  Mo_alter_b33 S v1 v2 2
def Mo_alter (S : LyS) (p1 : Int32) (p2 : Int32) : Option (Int32 × LyS) :=
  (if p1 < 0 then Mo_alter_b13 S p1 p2
  else (if p1 < (S.1 10) then (if p2 < 0 then Mo_alter_b28 S p1 p2
  else (if p2 ≤ 255 then Mo_alter_b33 S p1 p2 0
  else Mo_alter_b28 S p1 p2))
  else Mo_alter_b13 S p1 p2))
set_option maxRecDepth 100000 in
set_option maxHeartbeats 4000000 in
theorem t_Mo_alter_b33 {p : Program} {l : Launch} {e : Env} {s : State} {m : MethodId} {args : Array Value} {below : List Frame} {meth : Method} {c : Code} {D : va_G} {cI cR cZ : ClassId} {A : Nat → Prop} (C : Cx p s m args meth c D (tyG cI cR cZ) b_Mo_alter 4 "MaskLayersModel") (hr : meth.sig.returnType = some .int) (hA : ∀ q : Nat, s.heap.size ≤ q → A q) {a : (Nat → Nat)} {S : LyS} {v1 : Int32} {v2 : Int32} {s0 : Int32} {res : (Int32 × LyS)} (h : Mo_alter_b33 S v1 v2 s0 = some res) : J p l e rm_Mo_alter s m args below meth c D A (va_D A) 4 (MQ below (QcI D res.1 (fun _ : Nat => wMo cI cZ a res.2) A) args s 0 0 A) 0 0 (wMo cI cZ a S) [(0, .ref (a 0)), (1, .int v1), (2, .int v2)] [.int s0, .ref (a 0)] 33 := by
  unfold Mo_alter_b33 at h
  refine pf_Mo_51 C 0 (wMo cI cZ a (Lf S 0 s0)) mo_h rfl mo_f0 d_Mo_alter_33 ?_
  refine j_aload_n C 0 d_Mo_alter_36 rfl ?_
  refine gf_Mo_51 C 0 (v := .int ((Lf S 0 s0).1 0)) mo_h rfl d_Mo_alter_37 ?_
  refine j_if_le C 45 d_Mo_alter_40 (by decide) (fun c3 => ?_) (fun c3 => ?_)
  · replace h := (if_pos c3).symm.trans h
    refine j_aload_n C 0 d_Mo_alter_45 rfl ?_
    refine gf_Mo_33 C 0 (v := .ref (a 7)) mo_h rfl d_Mo_alter_46 ?_
    refine j_iload_n C 1 d_Mo_alter_49 rfl ?_
    obtain ⟨b1, h⟩ := gd_ok h
    refine j_iald C (7) (t0 := 0) mo_g6 rfl b1 d_Mo_alter_50 ?_
    refine j_istore_n C [(3, .int ((Lf S 0 s0).2 6 v1.toNatClampNeg)), (0, .ref (a 0)), (1, .int v1), (2, .int v2)] d_Mo_alter_51 (by decide) rfl ?_
    refine j_aload_n C 1 d_Mo_alter_52 rfl ?_
    refine gf_Mo_33 C 0 (v := .ref (a 7)) mo_h rfl d_Mo_alter_53 ?_
    refine j_iload_n C 2 d_Mo_alter_56 rfl ?_
    refine j_iload_n C 3 d_Mo_alter_57 rfl ?_
    obtain ⟨b2, h⟩ := gd_ok h
    refine j_iast C (7) (wMo cI cZ a (Ls (Lf S 0 s0) 6 v1.toNatClampNeg v2)) (t0 := 0) mo_g6 mo_s6 rfl b2 d_Mo_alter_58 ?_
    refine j_iload_n C 0 d_Mo_alter_59 rfl ?_
    obtain rfl := Option.some.inj h
    exact j_iret C hr d_Mo_alter_60 0 rfl
  · replace h := (if_neg c3).symm.trans h
    refine j_iconst C (v := 0) d_Mo_alter_43 (by decide) ?_
    obtain rfl := Option.some.inj h
    exact j_iret C hr d_Mo_alter_44 0 rfl
set_option maxRecDepth 100000 in
set_option maxHeartbeats 4000000 in
theorem t_Mo_alter_b13 {p : Program} {l : Launch} {e : Env} {s : State} {m : MethodId} {args : Array Value} {below : List Frame} {meth : Method} {c : Code} {D : va_G} {cI cR cZ : ClassId} {A : Nat → Prop} (C : Cx p s m args meth c D (tyG cI cR cZ) b_Mo_alter 4 "MaskLayersModel") (hr : meth.sig.returnType = some .int) (hA : ∀ q : Nat, s.heap.size ≤ q → A q) {a : (Nat → Nat)} {S : LyS} {v1 : Int32} {v2 : Int32} {res : (Int32 × LyS)} (h : Mo_alter_b13 S v1 v2 = some res) : J p l e rm_Mo_alter s m args below meth c D A (va_D A) 4 (MQ below (QcI D res.1 (fun _ : Nat => wMo cI cZ a res.2) A) args s 0 0 A) 0 0 (wMo cI cZ a S) [(0, .ref (a 0)), (1, .int v1), (2, .int v2)] [.ref (a 0)] 13 := by
  unfold Mo_alter_b13 at h
  refine j_iconst C (v := 1) d_Mo_alter_13 (by decide) ?_
  refine j_goto C 33 d_Mo_alter_14 (by decide) ?_
  refine j_sub [0, 1, 2] rfl ?_
  exact t_Mo_alter_b33 C hr hA h
set_option maxRecDepth 100000 in
set_option maxHeartbeats 4000000 in
theorem t_Mo_alter_b28 {p : Program} {l : Launch} {e : Env} {s : State} {m : MethodId} {args : Array Value} {below : List Frame} {meth : Method} {c : Code} {D : va_G} {cI cR cZ : ClassId} {A : Nat → Prop} (C : Cx p s m args meth c D (tyG cI cR cZ) b_Mo_alter 4 "MaskLayersModel") (hr : meth.sig.returnType = some .int) (hA : ∀ q : Nat, s.heap.size ≤ q → A q) {a : (Nat → Nat)} {S : LyS} {v1 : Int32} {v2 : Int32} {res : (Int32 × LyS)} (h : Mo_alter_b28 S v1 v2 = some res) : J p l e rm_Mo_alter s m args below meth c D A (va_D A) 4 (MQ below (QcI D res.1 (fun _ : Nat => wMo cI cZ a res.2) A) args s 0 0 A) 0 0 (wMo cI cZ a S) [(0, .ref (a 0)), (1, .int v1), (2, .int v2)] [.ref (a 0)] 28 := by
  unfold Mo_alter_b28 at h
  refine j_iconst C (v := 2) d_Mo_alter_28 (by decide) ?_
  refine j_goto C 33 d_Mo_alter_29 (by decide) ?_
  refine j_sub [0, 1, 2] rfl ?_
  exact t_Mo_alter_b33 C hr hA h
set_option maxRecDepth 100000 in
set_option maxHeartbeats 4000000 in
theorem c_Mo_alter (l : Launch) (D : va_G) (cI cR cZ : ClassId) (a : (Nat → Nat)) (S : LyS) (p1 : Int32) (p2 : Int32) {res : (Int32 × LyS)} (h : Mo_alter S p1 p2 = some res) (sz : Nat) : Met l y_Mo_alter (Cond.code y_Mo_alter b_Mo_alter 4 (some .int) :: BIG) rm_Mo_alter (PcI [.ref (a 0), .int p1, .int p2] D (tyG cI cR cZ) (wMo cI cZ a S) sz) (QcI D res.1 (fun _ : Nat => wMo cI cZ a res.2) (va_A (wMo cI cZ a S) sz)) 0 0 (va_A (wMo cI cZ a S) sz) := by
  refine met_I (by decide) (Nat.le_of_ble_eq_true rfl) (fun p e s m args below meth c A hA C hr => ?_)
  have C : Cx p s m args meth c D (tyG cI cR cZ) b_Mo_alter 4 "MaskLayersModel" := C
  have hr : meth.sig.returnType = some .int := hr
  show J p l e rm_Mo_alter s m args below meth c D A (va_D A) 4 (MQ below (QcI D res.1 (fun _ : Nat => wMo cI cZ a res.2) A) args s 0 0 A) 0 0 (wMo cI cZ a S) [(0, .ref (a 0)), (1, .int p1), (2, .int p2)] [] 0
  unfold Mo_alter at h
  refine j_aload_n C 0 d_Mo_alter_0 rfl ?_
  refine j_iload_n C 1 d_Mo_alter_1 rfl ?_
  refine j_if_lt C 13 d_Mo_alter_2 (by decide) (fun c7 => ?_) (fun c7 => ?_)
  · replace h := (if_pos c7).symm.trans h
    refine j_sub [0, 1, 2] rfl ?_
    exact t_Mo_alter_b13 C hr hA h
  · replace h := (if_neg c7).symm.trans h
    refine j_iload_n C 1 d_Mo_alter_5 rfl ?_
    refine j_aload_n C 0 d_Mo_alter_6 rfl ?_
    refine gf_Mo_166 C 0 (v := .int (S.1 10)) mo_h rfl d_Mo_alter_7 ?_
    refine j_icmp_lt C 17 d_Mo_alter_10 (by decide) (fun c6 => ?_) (fun c6 => ?_)
    · replace h := (if_pos c6).symm.trans h
      refine j_iload_n C 2 d_Mo_alter_17 rfl ?_
      refine j_if_lt C 28 d_Mo_alter_18 (by decide) (fun c5 => ?_) (fun c5 => ?_)
      · replace h := (if_pos c5).symm.trans h
        refine j_sub [0, 1, 2] rfl ?_
        exact t_Mo_alter_b28 C hr hA h
      · replace h := (if_neg c5).symm.trans h
        refine j_iload_n C 2 d_Mo_alter_21 rfl ?_
        refine j_sipush C (v := 255) d_Mo_alter_22 (by decide) ?_
        refine j_icmp_le C 32 d_Mo_alter_25 (by decide) (fun c4 => ?_) (fun c4 => ?_)
        · replace h := (if_pos c4).symm.trans h
          refine j_iconst C (v := 0) d_Mo_alter_32 (by decide) ?_
          refine j_sub [0, 1, 2] rfl ?_
          exact t_Mo_alter_b33 C hr hA h
        · replace h := (if_neg c4).symm.trans h
          refine j_sub [0, 1, 2] rfl ?_
          exact t_Mo_alter_b28 C hr hA h
    · replace h := (if_neg c6).symm.trans h
      refine j_sub [0, 1, 2] rfl ?_
      exact t_Mo_alter_b13 C hr hA h
