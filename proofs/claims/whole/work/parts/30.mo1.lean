def Mo_stripesOf (p1 : Int32) (p2 : Int32) : Option Int32 :=
  dz p2 (some (((p1 + p2) - 1) / p2))
set_option maxRecDepth 100000 in
set_option maxHeartbeats 4000000 in
theorem c_Mo_stripesOf (l : Launch) (D : va_G) (cI cR cZ : ClassId)  (p1 : Int32) (p2 : Int32) {res : Int32} (h : Mo_stripesOf p1 p2 = some res) : Met l y_Mo_stripesOf (Cond.code y_Mo_stripesOf b_Mo_stripesOf 2 (some .int) :: BIG) rm_Mo_stripesOf (PcP [.int p1, .int p2] D (tyG cI cR cZ) ([])) (QcP res) 0 0 no := by
  refine met_P (by decide) (Nat.le_of_ble_eq_true rfl) (fun p e s m args below meth c C hr => ?_)
  have C : Cx p s m args meth c D (tyG cI cR cZ) b_Mo_stripesOf 2 "MaskLayersModel" := C
  have hr : meth.sig.returnType = some .int := hr
  show J p l e rm_Mo_stripesOf s m args below meth c D no (fun _ => True) 2 (MQ below (QcP res) args s 0 0 no) 0 0 ([]) [(0, .int p1), (1, .int p2)] [] 0
  unfold Mo_stripesOf at h
  refine j_iload_n C 0 d_Mo_stripesOf_0 rfl ?_
  refine j_iload_n C 1 d_Mo_stripesOf_1 rfl ?_
  refine j_iadd C d_Mo_stripesOf_2 ?_
  refine j_iconst C (v := 1) d_Mo_stripesOf_3 (by decide) ?_
  refine j_isub C d_Mo_stripesOf_4 ?_
  refine j_iload_n C 1 d_Mo_stripesOf_5 rfl ?_
  obtain ⟨b1, h⟩ := dz_ok h
  refine j_idiv C d_Mo_stripesOf_6 b1 ?_
  obtain rfl := Option.some.inj h
  exact j_pret C hr d_Mo_stripesOf_7
def Mo_part (p1 : Int32) (p2 : Int32) : Option Int32 :=
  some ((p1 >>> ((16 - (8 * p2)) &&& 31)) &&& 255)
set_option maxRecDepth 100000 in
set_option maxHeartbeats 4000000 in
theorem c_Mo_part (l : Launch) (D : va_G) (cI cR cZ : ClassId)  (p1 : Int32) (p2 : Int32) {res : Int32} (h : Mo_part p1 p2 = some res) : Met l y_Mo_part (Cond.code y_Mo_part b_Mo_part 2 (some .int) :: BIG) rm_Mo_part (PcP [.int p1, .int p2] D (tyG cI cR cZ) ([])) (QcP res) 0 0 no := by
  refine met_P (by decide) (Nat.le_of_ble_eq_true rfl) (fun p e s m args below meth c C hr => ?_)
  have C : Cx p s m args meth c D (tyG cI cR cZ) b_Mo_part 2 "MaskLayersModel" := C
  have hr : meth.sig.returnType = some .int := hr
  show J p l e rm_Mo_part s m args below meth c D no (fun _ => True) 2 (MQ below (QcP res) args s 0 0 no) 0 0 ([]) [(0, .int p1), (1, .int p2)] [] 0
  unfold Mo_part at h
  refine j_iload_n C 0 d_Mo_part_0 rfl ?_
  refine j_bipush C (v := 16) d_Mo_part_1 (by decide) ?_
  refine j_bipush C (v := 8) d_Mo_part_3 (by decide) ?_
  refine j_iload_n C 1 d_Mo_part_5 rfl ?_
  refine j_imul C d_Mo_part_6 ?_
  refine j_isub C d_Mo_part_7 ?_
  refine j_ishr C d_Mo_part_8 ?_
  refine j_sipush C (v := 255) d_Mo_part_9 (by decide) ?_
  refine j_iand C d_Mo_part_12 ?_
  obtain rfl := Option.some.inj h
  exact j_pret C hr d_Mo_part_13
def Mo_more_l4 (v0 : Int32) (v1 : Int32) : Nat → Int32 → Int32 → Option (Nat × Int32)
  | 0, _, _ => none
  | k + 1, v2, v3 =>
  (if 3 ≤ v3 then some (0, v2)
  else (Mo_part v0 v3).bind fun r1 =>
  (Mo_part v1 v3).bind fun r2 =>
  Mo_more_l4 v0 v1 k ((v2 <<< ((8 : Int32) &&& 31)) ||| ((r1 - r2) &&& 255)) (v3 + 1))
def Mo_more (fu : Nat) (p1 : Int32) (p2 : Int32) : Option Int32 :=
  (Mo_more_l4 p1 p2 fu 0 0).bind fun r4 =>
  some r4.2
set_option maxRecDepth 100000 in
set_option maxHeartbeats 4000000 in
theorem t_Mo_more_l4 {p : Program} {l : Launch} {e : Env} {s : State} {m : MethodId} {args : Array Value} {below : List Frame} {meth : Method} {c : Code} {D : va_G} {cI cR cZ : ClassId} {Q : State → Prop} (C : Cx p s m args meth c D (tyG cI cR cZ) b_Mo_more 4 "MaskLayersModel")  {v0 : Int32} {v1 : Int32} {out : Nat × Int32} : ∀ (k : Nat) (v2 : Int32) (v3 : Int32), Mo_more_l4 v0 v1 k v2 v3 = some out → (out.1 = 0 → J p l e rm_Mo_more s m args below meth c D no (fun _ => True) 4 Q 0 0 ([]) [(2, .int out.2)] [] 36) → J p l e rm_Mo_more s m args below meth c D no (fun _ => True) 4 Q 0 0 ([]) [(0, .int v0), (1, .int v1), (2, .int v2), (3, .int v3)] [] 4 := by
  intro k
  induction k with
  | zero => intro v2 v3 h; cases (show none = some out from h)
  | succ k ih =>
    intro v2 v3 h x0
    rw [Mo_more_l4] at h
    refine j_iload_n C 3 d_Mo_more_4 rfl ?_
    refine j_iconst C (v := 3) d_Mo_more_5 (by decide) ?_
    refine j_icmp_ge C 36 d_Mo_more_6 (by decide) (fun c3 => ?_) (fun c3 => ?_)
    · replace h := (if_pos c3).symm.trans h
      obtain rfl := Option.some.inj h
      refine j_sub [2] rfl ?_
      exact x0 rfl
    · replace h := (if_neg c3).symm.trans h
      refine j_iload_n C 2 d_Mo_more_9 rfl ?_
      refine j_bipush C (v := 8) d_Mo_more_10 (by decide) ?_
      refine j_ishl C d_Mo_more_12 ?_
      refine j_iload_n C 0 d_Mo_more_13 rfl ?_
      refine j_iload_n C 3 d_Mo_more_14 rfl ?_
      obtain ⟨r1, hr1, h⟩ := bd_ok h
      refine j_PS C [.int v0, .int v3] (c_Mo_part l D cI cR cZ v0 v3 hr1) (cw_Mo_91 C ⟨Nat.le_of_ble_eq_true rfl, Nat.le_of_ble_eq_true rfl⟩) [] rfl rfl rfl (Nat.le_of_ble_eq_true rfl) d_Mo_more_15 (by decide) ?_
      refine j_iload_n C 1 d_Mo_more_18 rfl ?_
      refine j_iload_n C 3 d_Mo_more_19 rfl ?_
      obtain ⟨r2, hr2, h⟩ := bd_ok h
      refine j_PS C [.int v1, .int v3] (c_Mo_part l D cI cR cZ v1 v3 hr2) (cw_Mo_91 C ⟨Nat.le_of_ble_eq_true rfl, Nat.le_of_ble_eq_true rfl⟩) [] rfl rfl rfl (Nat.le_of_ble_eq_true rfl) d_Mo_more_20 (by decide) ?_
      refine j_isub C d_Mo_more_23 ?_
      refine j_sipush C (v := 255) d_Mo_more_24 (by decide) ?_
      refine j_iand C d_Mo_more_27 ?_
      refine j_ior C d_Mo_more_28 ?_
      refine j_istore_n C [(2, .int ((v2 <<< ((8 : Int32) &&& 31)) ||| ((r1 - r2) &&& 255))), (0, .int v0), (1, .int v1), (3, .int v3)] d_Mo_more_29 (by decide) rfl ?_
      refine j_iinc C [(3, .int (v3 + 1)), (2, .int ((v2 <<< ((8 : Int32) &&& 31)) ||| ((r1 - r2) &&& 255))), (0, .int v0), (1, .int v1)] 3 (v3 + 1) d_Mo_more_30 rfl rfl (by decide) rfl ?_
      refine j_goto C 4 d_Mo_more_33 (by decide) ?_
      refine j_sub [2, 3, 1, 0] rfl ?_
      exact ih ((v2 <<< ((8 : Int32) &&& 31)) ||| ((r1 - r2) &&& 255)) (v3 + 1) h x0
set_option maxRecDepth 100000 in
set_option maxHeartbeats 4000000 in
theorem c_Mo_more (l : Launch) (D : va_G) (cI cR cZ : ClassId) (fu : Nat)  (p1 : Int32) (p2 : Int32) {res : Int32} (h : Mo_more fu p1 p2 = some res) : Met l y_Mo_more (Cond.code y_Mo_more b_Mo_more 4 (some .int) :: BIG) rm_Mo_more (PcP [.int p1, .int p2] D (tyG cI cR cZ) ([])) (QcP res) 0 0 no := by
  refine met_P (by decide) (Nat.le_of_ble_eq_true rfl) (fun p e s m args below meth c C hr => ?_)
  have C : Cx p s m args meth c D (tyG cI cR cZ) b_Mo_more 4 "MaskLayersModel" := C
  have hr : meth.sig.returnType = some .int := hr
  show J p l e rm_Mo_more s m args below meth c D no (fun _ => True) 4 (MQ below (QcP res) args s 0 0 no) 0 0 ([]) [(0, .int p1), (1, .int p2)] [] 0
  unfold Mo_more at h
  refine j_iconst C (v := 0) d_Mo_more_0 (by decide) ?_
  refine j_istore_n C [(2, .int 0), (0, .int p1), (1, .int p2)] d_Mo_more_1 (by decide) rfl ?_
  refine j_iconst C (v := 0) d_Mo_more_2 (by decide) ?_
  refine j_istore_n C [(3, .int 0), (2, .int 0), (0, .int p1), (1, .int p2)] d_Mo_more_3 (by decide) rfl ?_
  obtain ⟨r4, hr4, h⟩ := bd_ok h
  refine j_sub [2, 3, 1, 0] rfl ?_
  refine t_Mo_more_l4 C fu 0 0 hr4 (fun e5 => ?_)
  · refine j_iload_n C 0 d_Mo_more_36 rfl ?_
    obtain rfl := Option.some.inj h
    exact j_pret C hr d_Mo_more_37
def Mo_together_l4 (v0 : Int32) (v1 : Int32) : Nat → Int32 → Int32 → Option (Nat × Int32)
  | 0, _, _ => none
  | k + 1, v2, v3 =>
  (if 3 ≤ v3 then some (0, v2)
  else (Mo_part v0 v3).bind fun r1 =>
  (Mo_part v1 v3).bind fun r2 =>
  Mo_together_l4 v0 v1 k ((v2 <<< ((8 : Int32) &&& 31)) ||| ((r1 + r2) &&& 255)) (v3 + 1))
def Mo_together (fu : Nat) (p1 : Int32) (p2 : Int32) : Option Int32 :=
  (Mo_together_l4 p1 p2 fu 0 0).bind fun r4 =>
  some r4.2
set_option maxRecDepth 100000 in
set_option maxHeartbeats 4000000 in
theorem t_Mo_together_l4 {p : Program} {l : Launch} {e : Env} {s : State} {m : MethodId} {args : Array Value} {below : List Frame} {meth : Method} {c : Code} {D : va_G} {cI cR cZ : ClassId} {Q : State → Prop} (C : Cx p s m args meth c D (tyG cI cR cZ) b_Mo_together 4 "MaskLayersModel")  {v0 : Int32} {v1 : Int32} {out : Nat × Int32} : ∀ (k : Nat) (v2 : Int32) (v3 : Int32), Mo_together_l4 v0 v1 k v2 v3 = some out → (out.1 = 0 → J p l e rm_Mo_together s m args below meth c D no (fun _ => True) 4 Q 0 0 ([]) [(2, .int out.2)] [] 36) → J p l e rm_Mo_together s m args below meth c D no (fun _ => True) 4 Q 0 0 ([]) [(0, .int v0), (1, .int v1), (2, .int v2), (3, .int v3)] [] 4 := by
  intro k
  induction k with
  | zero => intro v2 v3 h; cases (show none = some out from h)
  | succ k ih =>
    intro v2 v3 h x0
    rw [Mo_together_l4] at h
    refine j_iload_n C 3 d_Mo_together_4 rfl ?_
    refine j_iconst C (v := 3) d_Mo_together_5 (by decide) ?_
    refine j_icmp_ge C 36 d_Mo_together_6 (by decide) (fun c3 => ?_) (fun c3 => ?_)
    · replace h := (if_pos c3).symm.trans h
      obtain rfl := Option.some.inj h
      refine j_sub [2] rfl ?_
      exact x0 rfl
    · replace h := (if_neg c3).symm.trans h
      refine j_iload_n C 2 d_Mo_together_9 rfl ?_
      refine j_bipush C (v := 8) d_Mo_together_10 (by decide) ?_
      refine j_ishl C d_Mo_together_12 ?_
      refine j_iload_n C 0 d_Mo_together_13 rfl ?_
      refine j_iload_n C 3 d_Mo_together_14 rfl ?_
      obtain ⟨r1, hr1, h⟩ := bd_ok h
      refine j_PS C [.int v0, .int v3] (c_Mo_part l D cI cR cZ v0 v3 hr1) (cw_Mo_91 C ⟨Nat.le_of_ble_eq_true rfl, Nat.le_of_ble_eq_true rfl⟩) [] rfl rfl rfl (Nat.le_of_ble_eq_true rfl) d_Mo_together_15 (by decide) ?_
      refine j_iload_n C 1 d_Mo_together_18 rfl ?_
      refine j_iload_n C 3 d_Mo_together_19 rfl ?_
      obtain ⟨r2, hr2, h⟩ := bd_ok h
      refine j_PS C [.int v1, .int v3] (c_Mo_part l D cI cR cZ v1 v3 hr2) (cw_Mo_91 C ⟨Nat.le_of_ble_eq_true rfl, Nat.le_of_ble_eq_true rfl⟩) [] rfl rfl rfl (Nat.le_of_ble_eq_true rfl) d_Mo_together_20 (by decide) ?_
      refine j_iadd C d_Mo_together_23 ?_
      refine j_sipush C (v := 255) d_Mo_together_24 (by decide) ?_
      refine j_iand C d_Mo_together_27 ?_
      refine j_ior C d_Mo_together_28 ?_
      refine j_istore_n C [(2, .int ((v2 <<< ((8 : Int32) &&& 31)) ||| ((r1 + r2) &&& 255))), (0, .int v0), (1, .int v1), (3, .int v3)] d_Mo_together_29 (by decide) rfl ?_
      refine j_iinc C [(3, .int (v3 + 1)), (2, .int ((v2 <<< ((8 : Int32) &&& 31)) ||| ((r1 + r2) &&& 255))), (0, .int v0), (1, .int v1)] 3 (v3 + 1) d_Mo_together_30 rfl rfl (by decide) rfl ?_
      refine j_goto C 4 d_Mo_together_33 (by decide) ?_
      refine j_sub [2, 3, 1, 0] rfl ?_
      exact ih ((v2 <<< ((8 : Int32) &&& 31)) ||| ((r1 + r2) &&& 255)) (v3 + 1) h x0
set_option maxRecDepth 100000 in
set_option maxHeartbeats 4000000 in
theorem c_Mo_together (l : Launch) (D : va_G) (cI cR cZ : ClassId) (fu : Nat)  (p1 : Int32) (p2 : Int32) {res : Int32} (h : Mo_together fu p1 p2 = some res) : Met l y_Mo_together (Cond.code y_Mo_together b_Mo_together 4 (some .int) :: BIG) rm_Mo_together (PcP [.int p1, .int p2] D (tyG cI cR cZ) ([])) (QcP res) 0 0 no := by
  refine met_P (by decide) (Nat.le_of_ble_eq_true rfl) (fun p e s m args below meth c C hr => ?_)
  have C : Cx p s m args meth c D (tyG cI cR cZ) b_Mo_together 4 "MaskLayersModel" := C
  have hr : meth.sig.returnType = some .int := hr
  show J p l e rm_Mo_together s m args below meth c D no (fun _ => True) 4 (MQ below (QcP res) args s 0 0 no) 0 0 ([]) [(0, .int p1), (1, .int p2)] [] 0
  unfold Mo_together at h
  refine j_iconst C (v := 0) d_Mo_together_0 (by decide) ?_
  refine j_istore_n C [(2, .int 0), (0, .int p1), (1, .int p2)] d_Mo_together_1 (by decide) rfl ?_
  refine j_iconst C (v := 0) d_Mo_together_2 (by decide) ?_
  refine j_istore_n C [(3, .int 0), (2, .int 0), (0, .int p1), (1, .int p2)] d_Mo_together_3 (by decide) rfl ?_
  obtain ⟨r4, hr4, h⟩ := bd_ok h
  refine j_sub [2, 3, 1, 0] rfl ?_
  refine t_Mo_together_l4 C fu 0 0 hr4 (fun e5 => ?_)
  · refine j_iload_n C 0 d_Mo_together_36 rfl ?_
    obtain rfl := Option.some.inj h
    exact j_pret C hr d_Mo_together_37
def Mo_thrown (S : LyS) : Option Int32 :=
  some (S.1 0)
set_option maxRecDepth 100000 in
set_option maxHeartbeats 4000000 in
theorem c_Mo_thrown (l : Launch) (D : va_G) (cI cR cZ : ClassId) (a : (Nat → Nat)) (S : LyS) {res : Int32} (h : Mo_thrown S = some res) : Met l y_Mo_thrown (Cond.code y_Mo_thrown b_Mo_thrown 1 (some .int) :: BIG) rm_Mo_thrown (PcP [.ref (a 0)] D (tyG cI cR cZ) (wMo cI cZ a S)) (QcP res) 0 0 no := by
  refine met_P (by decide) (Nat.le_of_ble_eq_true rfl) (fun p e s m args below meth c C hr => ?_)
  have C : Cx p s m args meth c D (tyG cI cR cZ) b_Mo_thrown 1 "MaskLayersModel" := C
  have hr : meth.sig.returnType = some .int := hr
  show J p l e rm_Mo_thrown s m args below meth c D no (fun _ => True) 1 (MQ below (QcP res) args s 0 0 no) 0 0 (wMo cI cZ a S) [(0, .ref (a 0))] [] 0
  unfold Mo_thrown at h
  refine j_aload_n C 0 d_Mo_thrown_0 rfl ?_
  refine gf_Mo_51 C 0 (v := .int (S.1 0)) mo_h rfl d_Mo_thrown_1 ?_
  obtain rfl := Option.some.inj h
  exact j_pret C hr d_Mo_thrown_4
def Mo_isSample (S : LyS) (p1 : Int32) (p2 : Int32) : Option Int32 :=
  (if p1 < 0 then zb 0 (some 0)
  else (if (S.1 1) ≤ p1 then zb 0 (some 0)
  else (if p2 < 0 then zb 0 (some 0)
  else (if (S.1 2) ≤ p2 then zb 0 (some 0)
  else zb 1 (some 1)))))
set_option maxRecDepth 100000 in
set_option maxHeartbeats 4000000 in
theorem c_Mo_isSample (l : Launch) (D : va_G) (cI cR cZ : ClassId) (a : (Nat → Nat)) (S : LyS) (p1 : Int32) (p2 : Int32) {res : Int32} (h : Mo_isSample S p1 p2 = some res) : Met l y_Mo_isSample (Cond.code y_Mo_isSample b_Mo_isSample 3 (some .boolean) :: BIG) rm_Mo_isSample (PcP [.ref (a 0), .int p1, .int p2] D (tyG cI cR cZ) (wMo cI cZ a S)) (QcP res) 0 0 no := by
  refine met_P (by decide) (Nat.le_of_ble_eq_true rfl) (fun p e s m args below meth c C hr => ?_)
  have C : Cx p s m args meth c D (tyG cI cR cZ) b_Mo_isSample 3 "MaskLayersModel" := C
  have hr : meth.sig.returnType = some .boolean := hr
  show J p l e rm_Mo_isSample s m args below meth c D no (fun _ => True) 3 (MQ below (QcP res) args s 0 0 no) 0 0 (wMo cI cZ a S) [(0, .ref (a 0)), (1, .int p1), (2, .int p2)] [] 0
  unfold Mo_isSample at h
  refine j_iload_n C 1 d_Mo_isSample_0 rfl ?_
  refine j_if_lt C 28 d_Mo_isSample_1 (by decide) (fun c9 => ?_) (fun c9 => ?_)
  · replace h := (if_pos c9).symm.trans h
    refine j_iconst C (v := 0) d_Mo_isSample_28 (by decide) ?_
    obtain ⟨b1, h⟩ := zb_ok h
    obtain rfl := Option.some.inj h
    exact j_pretZ C hr d_Mo_isSample_29 b1
  · replace h := (if_neg c9).symm.trans h
    refine j_iload_n C 1 d_Mo_isSample_4 rfl ?_
    refine j_aload_n C 0 d_Mo_isSample_5 rfl ?_
    refine gf_Mo_45 C 0 (v := .int (S.1 1)) mo_h rfl d_Mo_isSample_6 ?_
    refine j_icmp_ge C 28 d_Mo_isSample_9 (by decide) (fun c8 => ?_) (fun c8 => ?_)
    · replace h := (if_pos c8).symm.trans h
      refine j_iconst C (v := 0) d_Mo_isSample_28 (by decide) ?_
      obtain ⟨b2, h⟩ := zb_ok h
      obtain rfl := Option.some.inj h
      exact j_pretZ C hr d_Mo_isSample_29 b2
    · replace h := (if_neg c8).symm.trans h
      refine j_iload_n C 2 d_Mo_isSample_12 rfl ?_
      refine j_if_lt C 28 d_Mo_isSample_13 (by decide) (fun c7 => ?_) (fun c7 => ?_)
      · replace h := (if_pos c7).symm.trans h
        refine j_iconst C (v := 0) d_Mo_isSample_28 (by decide) ?_
        obtain ⟨b3, h⟩ := zb_ok h
        obtain rfl := Option.some.inj h
        exact j_pretZ C hr d_Mo_isSample_29 b3
      · replace h := (if_neg c7).symm.trans h
        refine j_iload_n C 2 d_Mo_isSample_16 rfl ?_
        refine j_aload_n C 0 d_Mo_isSample_17 rfl ?_
        refine gf_Mo_48 C 0 (v := .int (S.1 2)) mo_h rfl d_Mo_isSample_18 ?_
        refine j_icmp_ge C 28 d_Mo_isSample_21 (by decide) (fun c6 => ?_) (fun c6 => ?_)
        · replace h := (if_pos c6).symm.trans h
          refine j_iconst C (v := 0) d_Mo_isSample_28 (by decide) ?_
          obtain ⟨b4, h⟩ := zb_ok h
          obtain rfl := Option.some.inj h
          exact j_pretZ C hr d_Mo_isSample_29 b4
        · replace h := (if_neg c6).symm.trans h
          refine j_iconst C (v := 1) d_Mo_isSample_24 (by decide) ?_
          refine j_goto C 29 d_Mo_isSample_25 (by decide) ?_
          obtain ⟨b5, h⟩ := zb_ok h
          obtain rfl := Option.some.inj h
          exact j_pretZ C hr d_Mo_isSample_29 b5
def Mo_end (S : LyS) (p1 : Int32) (p2 : Int32) : Option Int32 :=
  (if p2 ≤ ((S.1 1) - p1) then some (p1 + p2)
  else some (S.1 1))
set_option maxRecDepth 100000 in
set_option maxHeartbeats 4000000 in
theorem c_Mo_end (l : Launch) (D : va_G) (cI cR cZ : ClassId) (a : (Nat → Nat)) (S : LyS) (p1 : Int32) (p2 : Int32) {res : Int32} (h : Mo_end S p1 p2 = some res) : Met l y_Mo_end (Cond.code y_Mo_end b_Mo_end 3 (some .int) :: BIG) rm_Mo_end (PcP [.ref (a 0), .int p1, .int p2] D (tyG cI cR cZ) (wMo cI cZ a S)) (QcP res) 0 0 no := by
  refine met_P (by decide) (Nat.le_of_ble_eq_true rfl) (fun p e s m args below meth c C hr => ?_)
  have C : Cx p s m args meth c D (tyG cI cR cZ) b_Mo_end 3 "MaskLayersModel" := C
  have hr : meth.sig.returnType = some .int := hr
  show J p l e rm_Mo_end s m args below meth c D no (fun _ => True) 3 (MQ below (QcP res) args s 0 0 no) 0 0 (wMo cI cZ a S) [(0, .ref (a 0)), (1, .int p1), (2, .int p2)] [] 0
  unfold Mo_end at h
  refine j_iload_n C 2 d_Mo_end_0 rfl ?_
  refine j_aload_n C 0 d_Mo_end_1 rfl ?_
  refine gf_Mo_45 C 0 (v := .int (S.1 1)) mo_h rfl d_Mo_end_2 ?_
  refine j_iload_n C 1 d_Mo_end_5 rfl ?_
  refine j_isub C d_Mo_end_6 ?_
  refine j_icmp_le C 17 d_Mo_end_7 (by decide) (fun c1 => ?_) (fun c1 => ?_)
  · replace h := (if_pos c1).symm.trans h
    refine j_iload_n C 1 d_Mo_end_17 rfl ?_
    refine j_iload_n C 2 d_Mo_end_18 rfl ?_
    refine j_iadd C d_Mo_end_19 ?_
    obtain rfl := Option.some.inj h
    exact j_pret C hr d_Mo_end_20
  · replace h := (if_neg c1).symm.trans h
    refine j_aload_n C 0 d_Mo_end_10 rfl ?_
    refine gf_Mo_45 C 0 (v := .int (S.1 1)) mo_h rfl d_Mo_end_11 ?_
    refine j_goto C 20 d_Mo_end_14 (by decide) ?_
    obtain rfl := Option.some.inj h
    exact j_pret C hr d_Mo_end_20
def Mo_scale (S : LyS) (p1 : Int32) : Option Int32 :=
  (if p1 = 0 then some (S.1 19)
  else (if p1 = 2 then some (S.1 18)
  else some 1))
set_option maxRecDepth 100000 in
set_option maxHeartbeats 4000000 in
theorem c_Mo_scale (l : Launch) (D : va_G) (cI cR cZ : ClassId) (a : (Nat → Nat)) (S : LyS) (p1 : Int32) {res : Int32} (h : Mo_scale S p1 = some res) : Met l y_Mo_scale (Cond.code y_Mo_scale b_Mo_scale 2 (some .int) :: BIG) rm_Mo_scale (PcP [.ref (a 0), .int p1] D (tyG cI cR cZ) (wMo cI cZ a S)) (QcP res) 0 0 no := by
  refine met_P (by decide) (Nat.le_of_ble_eq_true rfl) (fun p e s m args below meth c C hr => ?_)
  have C : Cx p s m args meth c D (tyG cI cR cZ) b_Mo_scale 2 "MaskLayersModel" := C
  have hr : meth.sig.returnType = some .int := hr
  show J p l e rm_Mo_scale s m args below meth c D no (fun _ => True) 2 (MQ below (QcP res) args s 0 0 no) 0 0 (wMo cI cZ a S) [(0, .ref (a 0)), (1, .int p1)] [] 0
  unfold Mo_scale at h
  refine j_iload_n C 1 d_Mo_scale_0 rfl ?_
  refine j_if_ne C 11 d_Mo_scale_1 (by decide) (fun c2 => ?_) (fun c2 => ?_)
  · replace h := (if_neg c2).symm.trans h
    refine j_iload_n C 1 d_Mo_scale_11 rfl ?_
    refine j_iconst C (v := 2) d_Mo_scale_12 (by decide) ?_
    refine j_icmp_ne C 23 d_Mo_scale_13 (by decide) (fun c1 => ?_) (fun c1 => ?_)
    · replace h := (if_neg c1).symm.trans h
      refine j_iconst C (v := 1) d_Mo_scale_23 (by decide) ?_
      obtain rfl := Option.some.inj h
      exact j_pret C hr d_Mo_scale_24
    · replace h := (if_pos c1).symm.trans h
      refine j_aload_n C 0 d_Mo_scale_16 rfl ?_
      refine gf_Mo_78 C 0 (v := .int (S.1 18)) mo_h rfl d_Mo_scale_17 ?_
      refine j_goto C 24 d_Mo_scale_20 (by decide) ?_
      obtain rfl := Option.some.inj h
      exact j_pret C hr d_Mo_scale_24
  · replace h := (if_pos c2).symm.trans h
    refine j_aload_n C 0 d_Mo_scale_4 rfl ?_
    refine gf_Mo_75 C 0 (v := .int (S.1 19)) mo_h rfl d_Mo_scale_5 ?_
    refine j_goto C 24 d_Mo_scale_8 (by decide) ?_
    obtain rfl := Option.some.inj h
    exact j_pret C hr d_Mo_scale_24
def Mo_across (S : LyS) (p1 : Int32) : Option Int32 :=
  (Mo_scale S p1).bind fun r1 =>
  (Mo_scale S p1).bind fun r2 =>
  dz r2 (some ((((S.1 15) + r1) - 1) / r2))
set_option maxRecDepth 100000 in
set_option maxHeartbeats 4000000 in
theorem c_Mo_across (l : Launch) (D : va_G) (cI cR cZ : ClassId) (a : (Nat → Nat)) (S : LyS) (p1 : Int32) {res : Int32} (h : Mo_across S p1 = some res) : Met l y_Mo_across (Cond.code y_Mo_across b_Mo_across 2 (some .int) :: BIG) rm_Mo_across (PcP [.ref (a 0), .int p1] D (tyG cI cR cZ) (wMo cI cZ a S)) (QcP res) 0 0 no := by
  refine met_P (by decide) (Nat.le_of_ble_eq_true rfl) (fun p e s m args below meth c C hr => ?_)
  have C : Cx p s m args meth c D (tyG cI cR cZ) b_Mo_across 2 "MaskLayersModel" := C
  have hr : meth.sig.returnType = some .int := hr
  show J p l e rm_Mo_across s m args below meth c D no (fun _ => True) 2 (MQ below (QcP res) args s 0 0 no) 0 0 (wMo cI cZ a S) [(0, .ref (a 0)), (1, .int p1)] [] 0
  unfold Mo_across at h
  refine j_aload_n C 0 d_Mo_across_0 rfl ?_
  refine gf_Mo_66 C 0 (v := .int (S.1 15)) mo_h rfl d_Mo_across_1 ?_
  refine j_aload_n C 0 d_Mo_across_4 rfl ?_
  refine j_iload_n C 1 d_Mo_across_5 rfl ?_
  obtain ⟨r1, hr1, h⟩ := bd_ok h
  refine j_PV C [.int p1] 0 rfl rfl (c_Mo_scale l D cI cR cZ a S p1 hr1) (cw_Mo_81 C ⟨Nat.le_of_ble_eq_true rfl, Nat.le_of_ble_eq_true rfl⟩) [0, 1, 2, 3, 4, 5, 6, 7, 8, 9, 10] rfl rfl rfl (Nat.le_of_ble_eq_true rfl) d_Mo_across_6 (by decide) ?_
  refine j_iadd C d_Mo_across_9 ?_
  refine j_iconst C (v := 1) d_Mo_across_10 (by decide) ?_
  refine j_isub C d_Mo_across_11 ?_
  refine j_aload_n C 0 d_Mo_across_12 rfl ?_
  refine j_iload_n C 1 d_Mo_across_13 rfl ?_
  obtain ⟨r2, hr2, h⟩ := bd_ok h
  refine j_PV C [.int p1] 0 rfl rfl (c_Mo_scale l D cI cR cZ a S p1 hr2) (cw_Mo_81 C ⟨Nat.le_of_ble_eq_true rfl, Nat.le_of_ble_eq_true rfl⟩) [0, 1, 2, 3, 4, 5, 6, 7, 8, 9, 10] rfl rfl rfl (Nat.le_of_ble_eq_true rfl) d_Mo_across_14 (by decide) ?_
  obtain ⟨b3, h⟩ := dz_ok h
  refine j_idiv C d_Mo_across_17 b3 ?_
  obtain rfl := Option.some.inj h
  exact j_pret C hr d_Mo_across_18
def Mo_count (S : LyS) (p1 : Int32) : Option Int32 :=
  (Mo_across S p1).bind fun r1 =>
  (Mo_scale S p1).bind fun r2 =>
  (Mo_scale S p1).bind fun r3 =>
  dz r3 (some (r1 * ((((S.1 17) + r2) - 1) / r3)))
set_option maxRecDepth 100000 in
set_option maxHeartbeats 4000000 in
theorem c_Mo_count (l : Launch) (D : va_G) (cI cR cZ : ClassId) (a : (Nat → Nat)) (S : LyS) (p1 : Int32) {res : Int32} (h : Mo_count S p1 = some res) : Met l y_Mo_count (Cond.code y_Mo_count b_Mo_count 2 (some .int) :: BIG) rm_Mo_count (PcP [.ref (a 0), .int p1] D (tyG cI cR cZ) (wMo cI cZ a S)) (QcP res) 0 0 no := by
  refine met_P (by decide) (Nat.le_of_ble_eq_true rfl) (fun p e s m args below meth c C hr => ?_)
  have C : Cx p s m args meth c D (tyG cI cR cZ) b_Mo_count 2 "MaskLayersModel" := C
  have hr : meth.sig.returnType = some .int := hr
  show J p l e rm_Mo_count s m args below meth c D no (fun _ => True) 2 (MQ below (QcP res) args s 0 0 no) 0 0 (wMo cI cZ a S) [(0, .ref (a 0)), (1, .int p1)] [] 0
  unfold Mo_count at h
  refine j_aload_n C 0 d_Mo_count_0 rfl ?_
  refine j_iload_n C 1 d_Mo_count_1 rfl ?_
  obtain ⟨r1, hr1, h⟩ := bd_ok h
  refine j_PV C [.int p1] 0 rfl rfl (c_Mo_across l D cI cR cZ a S p1 hr1) (cw_Mo_85 C ⟨Nat.le_of_ble_eq_true rfl, Nat.le_of_ble_eq_true rfl⟩) [0, 1, 2, 3, 4, 5, 6, 7, 8, 9, 10] rfl rfl rfl (Nat.le_of_ble_eq_true rfl) d_Mo_count_2 (by decide) ?_
  refine j_aload_n C 0 d_Mo_count_5 rfl ?_
  refine gf_Mo_72 C 0 (v := .int (S.1 17)) mo_h rfl d_Mo_count_6 ?_
  refine j_aload_n C 0 d_Mo_count_9 rfl ?_
  refine j_iload_n C 1 d_Mo_count_10 rfl ?_
  obtain ⟨r2, hr2, h⟩ := bd_ok h
  refine j_PV C [.int p1] 0 rfl rfl (c_Mo_scale l D cI cR cZ a S p1 hr2) (cw_Mo_81 C ⟨Nat.le_of_ble_eq_true rfl, Nat.le_of_ble_eq_true rfl⟩) [0, 1, 2, 3, 4, 5, 6, 7, 8, 9, 10] rfl rfl rfl (Nat.le_of_ble_eq_true rfl) d_Mo_count_11 (by decide) ?_
  refine j_iadd C d_Mo_count_14 ?_
  refine j_iconst C (v := 1) d_Mo_count_15 (by decide) ?_
  refine j_isub C d_Mo_count_16 ?_
  refine j_aload_n C 0 d_Mo_count_17 rfl ?_
  refine j_iload_n C 1 d_Mo_count_18 rfl ?_
  obtain ⟨r3, hr3, h⟩ := bd_ok h
  refine j_PV C [.int p1] 0 rfl rfl (c_Mo_scale l D cI cR cZ a S p1 hr3) (cw_Mo_81 C ⟨Nat.le_of_ble_eq_true rfl, Nat.le_of_ble_eq_true rfl⟩) [0, 1, 2, 3, 4, 5, 6, 7, 8, 9, 10] rfl rfl rfl (Nat.le_of_ble_eq_true rfl) d_Mo_count_19 (by decide) ?_
  obtain ⟨b4, h⟩ := dz_ok h
  refine j_idiv C d_Mo_count_22 b4 ?_
  refine j_imul C d_Mo_count_23 ?_
  obtain rfl := Option.some.inj h
  exact j_pret C hr d_Mo_count_24
def Mo_place (S : LyS) (p1 : Int32) (p2 : Int32) : Option Int32 :=
  (Mo_scale S p1).bind fun r1 =>
  (Mo_across S p1).bind fun r2 =>
  dz r2 ((Mo_across S p1).bind fun r4 =>
  dz r4 (some (((576 * p1) + (24 * ((S.1 16) + ((p2 / r2) * r1)))) + ((p2 - p2 / r4 * r4) * r1))))
set_option maxRecDepth 100000 in
set_option maxHeartbeats 4000000 in
theorem c_Mo_place (l : Launch) (D : va_G) (cI cR cZ : ClassId) (a : (Nat → Nat)) (S : LyS) (p1 : Int32) (p2 : Int32) {res : Int32} (h : Mo_place S p1 p2 = some res) : Met l y_Mo_place (Cond.code y_Mo_place b_Mo_place 4 (some .int) :: BIG) rm_Mo_place (PcP [.ref (a 0), .int p1, .int p2] D (tyG cI cR cZ) (wMo cI cZ a S)) (QcP res) 0 0 no := by
  refine met_P (by decide) (Nat.le_of_ble_eq_true rfl) (fun p e s m args below meth c C hr => ?_)
  have C : Cx p s m args meth c D (tyG cI cR cZ) b_Mo_place 4 "MaskLayersModel" := C
  have hr : meth.sig.returnType = some .int := hr
  show J p l e rm_Mo_place s m args below meth c D no (fun _ => True) 4 (MQ below (QcP res) args s 0 0 no) 0 0 (wMo cI cZ a S) [(0, .ref (a 0)), (1, .int p1), (2, .int p2)] [] 0
  unfold Mo_place at h
  refine j_aload_n C 0 d_Mo_place_0 rfl ?_
  refine j_iload_n C 1 d_Mo_place_1 rfl ?_
  obtain ⟨r1, hr1, h⟩ := bd_ok h
  refine j_PV C [.int p1] 0 rfl rfl (c_Mo_scale l D cI cR cZ a S p1 hr1) (cw_Mo_81 C ⟨Nat.le_of_ble_eq_true rfl, Nat.le_of_ble_eq_true rfl⟩) [0, 1, 2, 3, 4, 5, 6, 7, 8, 9, 10] rfl rfl rfl (Nat.le_of_ble_eq_true rfl) d_Mo_place_2 (by decide) ?_
  refine j_istore_n C [(3, .int r1), (0, .ref (a 0)), (1, .int p1), (2, .int p2)] d_Mo_place_5 (by decide) rfl ?_
  refine j_sipush C (v := 576) d_Mo_place_6 (by decide) ?_
  refine j_iload_n C 2 d_Mo_place_9 rfl ?_
  refine j_imul C d_Mo_place_10 ?_
  refine j_bipush C (v := 24) d_Mo_place_11 (by decide) ?_
  refine j_aload_n C 1 d_Mo_place_13 rfl ?_
  refine gf_Mo_69 C 0 (v := .int (S.1 16)) mo_h rfl d_Mo_place_14 ?_
  refine j_iload_n C 3 d_Mo_place_17 rfl ?_
  refine j_aload_n C 1 d_Mo_place_18 rfl ?_
  refine j_iload_n C 2 d_Mo_place_19 rfl ?_
  obtain ⟨r2, hr2, h⟩ := bd_ok h
  refine j_PV C [.int p1] 0 rfl rfl (c_Mo_across l D cI cR cZ a S p1 hr2) (cw_Mo_85 C ⟨Nat.le_of_ble_eq_true rfl, Nat.le_of_ble_eq_true rfl⟩) [0, 1, 2, 3, 4, 5, 6, 7, 8, 9, 10] rfl rfl rfl (Nat.le_of_ble_eq_true rfl) d_Mo_place_20 (by decide) ?_
  obtain ⟨b3, h⟩ := dz_ok h
  refine j_idiv C d_Mo_place_23 b3 ?_
  refine j_iload_n C 0 d_Mo_place_24 rfl ?_
  refine j_imul C d_Mo_place_25 ?_
  refine j_iadd C d_Mo_place_26 ?_
  refine j_imul C d_Mo_place_27 ?_
  refine j_iadd C d_Mo_place_28 ?_
  refine j_iload_n C 3 d_Mo_place_29 rfl ?_
  refine j_aload_n C 1 d_Mo_place_30 rfl ?_
  refine j_iload_n C 2 d_Mo_place_31 rfl ?_
  obtain ⟨r4, hr4, h⟩ := bd_ok h
  refine j_PV C [.int p1] 0 rfl rfl (c_Mo_across l D cI cR cZ a S p1 hr4) (cw_Mo_85 C ⟨Nat.le_of_ble_eq_true rfl, Nat.le_of_ble_eq_true rfl⟩) [0, 1, 2, 3, 4, 5, 6, 7, 8, 9, 10] rfl rfl rfl (Nat.le_of_ble_eq_true rfl) d_Mo_place_32 (by decide) ?_
  obtain ⟨b5, h⟩ := dz_ok h
  refine j_irem C d_Mo_place_35 b5 ?_
  refine j_iload_n C 0 d_Mo_place_36 rfl ?_
  refine j_imul C d_Mo_place_37 ?_
  refine j_iadd C d_Mo_place_38 ?_
  obtain rfl := Option.some.inj h
  exact j_pret C hr d_Mo_place_39
def Mo_placeAt (S : LyS) (p1 : Int32) (p2 : Int32) (p3 : Int32) : Option Int32 :=
  (Mo_scale S p1).bind fun r1 =>
  dz r1 (dz r1 (some (((576 * p1) + (24 * ((S.1 16) + (((p3 - (S.1 16)) / r1) * r1)))) + ((p2 / r1) * r1))))
set_option maxRecDepth 100000 in
set_option maxHeartbeats 4000000 in
theorem c_Mo_placeAt (l : Launch) (D : va_G) (cI cR cZ : ClassId) (a : (Nat → Nat)) (S : LyS) (p1 : Int32) (p2 : Int32) (p3 : Int32) {res : Int32} (h : Mo_placeAt S p1 p2 p3 = some res) : Met l y_Mo_placeAt (Cond.code y_Mo_placeAt b_Mo_placeAt 5 (some .int) :: BIG) rm_Mo_placeAt (PcP [.ref (a 0), .int p1, .int p2, .int p3] D (tyG cI cR cZ) (wMo cI cZ a S)) (QcP res) 0 0 no := by
  refine met_P (by decide) (Nat.le_of_ble_eq_true rfl) (fun p e s m args below meth c C hr => ?_)
  have C : Cx p s m args meth c D (tyG cI cR cZ) b_Mo_placeAt 5 "MaskLayersModel" := C
  have hr : meth.sig.returnType = some .int := hr
  show J p l e rm_Mo_placeAt s m args below meth c D no (fun _ => True) 5 (MQ below (QcP res) args s 0 0 no) 0 0 (wMo cI cZ a S) [(0, .ref (a 0)), (1, .int p1), (2, .int p2), (3, .int p3)] [] 0
  unfold Mo_placeAt at h
  refine j_aload_n C 0 d_Mo_placeAt_0 rfl ?_
  refine j_iload_n C 1 d_Mo_placeAt_1 rfl ?_
  obtain ⟨r1, hr1, h⟩ := bd_ok h
  refine j_PV C [.int p1] 0 rfl rfl (c_Mo_scale l D cI cR cZ a S p1 hr1) (cw_Mo_81 C ⟨Nat.le_of_ble_eq_true rfl, Nat.le_of_ble_eq_true rfl⟩) [0, 1, 2, 3, 4, 5, 6, 7, 8, 9, 10] rfl rfl rfl (Nat.le_of_ble_eq_true rfl) d_Mo_placeAt_2 (by decide) ?_
  refine j_istore C [(4, .int r1), (0, .ref (a 0)), (1, .int p1), (2, .int p2), (3, .int p3)] d_Mo_placeAt_5 (by decide) rfl ?_
  refine j_sipush C (v := 576) d_Mo_placeAt_7 (by decide) ?_
  refine j_iload_n C 2 d_Mo_placeAt_10 rfl ?_
  refine j_imul C d_Mo_placeAt_11 ?_
  refine j_bipush C (v := 24) d_Mo_placeAt_12 (by decide) ?_
  refine j_aload_n C 1 d_Mo_placeAt_14 rfl ?_
  refine gf_Mo_69 C 0 (v := .int (S.1 16)) mo_h rfl d_Mo_placeAt_15 ?_
  refine j_iload_n C 4 d_Mo_placeAt_18 rfl ?_
  refine j_aload_n C 1 d_Mo_placeAt_19 rfl ?_
  refine gf_Mo_69 C 0 (v := .int (S.1 16)) mo_h rfl d_Mo_placeAt_20 ?_
  refine j_isub C d_Mo_placeAt_23 ?_
  refine j_iload C 0 d_Mo_placeAt_24 rfl ?_
  obtain ⟨b2, h⟩ := dz_ok h
  refine j_idiv C d_Mo_placeAt_26 b2 ?_
  refine j_iload C 0 d_Mo_placeAt_27 rfl ?_
  refine j_imul C d_Mo_placeAt_29 ?_
  refine j_iadd C d_Mo_placeAt_30 ?_
  refine j_imul C d_Mo_placeAt_31 ?_
  refine j_iadd C d_Mo_placeAt_32 ?_
  refine j_iload_n C 3 d_Mo_placeAt_33 rfl ?_
  refine j_iload C 0 d_Mo_placeAt_34 rfl ?_
  obtain ⟨b3, h⟩ := dz_ok h
  refine j_idiv C d_Mo_placeAt_36 b3 ?_
  refine j_iload C 0 d_Mo_placeAt_37 rfl ?_
  refine j_imul C d_Mo_placeAt_39 ?_
  refine j_iadd C d_Mo_placeAt_40 ?_
  obtain rfl := Option.some.inj h
  exact j_pret C hr d_Mo_placeAt_41
def Mo_mean_l64 (S : LyS) (v1 : Int32) (v3 : Int32) (v4 : Int32) (v7 : Int32) : Nat → Int32 → Int32 → Int32 → Option (Nat × Int32 × Int32)
  | 0, _, _, _ => none
  | k + 1, v5, v6, v8 =>
  dz 24 ((Mo_scale S v1).bind fun r7 =>
  (if ((v4 - v4 / 24 * 24) + r7) ≤ v8 then some (0, v5, v6)
  else (if (S.1 15) ≤ v8 then some (0, v5, v6)
  else gd ((24 * v7) + v8) 576 ((if v1 = 2 then some ((1 : Int32))
  else some ((0 : Int32))).bind fun r9 =>
  (if (S.2 1 (((24 * v7) + v8).toNatClampNeg)) = r9 then gd ((24 * v7) + v8) 576 ((Mo_part (S.2 0 (((24 * v7) + v8).toNatClampNeg)) v3).bind fun r11 =>
  Mo_mean_l64 S v1 v3 v4 v7 k (v5 + r11) (v6 + 1) (v8 + 1))
  else Mo_mean_l64 S v1 v3 v4 v7 k v5 v6 (v8 + 1))))))
def Mo_mean_l27 (fu : Nat) (S : LyS) (v1 : Int32) (v3 : Int32) (v4 : Int32) : Nat → Int32 → Int32 → Int32 → Option (Nat × Int32 × Int32)
  | 0, _, _, _ => none
  | k + 1, v5, v6, v7 =>
  dz 24 ((Mo_scale S v1).bind fun r4 =>
  (if ((v4 / 24) + r4) ≤ v7 then some (0, v5, v6)
  else (if ((S.1 16) + (S.1 17)) ≤ v7 then some (0, v5, v6)
  else dz 24 ((Mo_mean_l64 S v1 v3 v4 v7 fu v5 v6 (v4 - v4 / 24 * 24)).bind fun r16 =>
  Mo_mean_l27 fu S v1 v3 v4 k r16.2.1 r16.2.2 (v7 + 1)))))
def Mo_mean_b152 (fu : Nat) (S : LyS) (v5 : Int32) (v6 : Int32) : Option Int32 :=
  (if v6 = 0 then some ((-1))
  else dz (2 * v6) (some (((2 * v5) + v6) / (2 * v6))))
def Mo_mean (fu : Nat) (S : LyS) (p1 : Int32) (p2 : Int32) (p3 : Int32) : Option Int32 :=
  (Mo_place S p1 p2).bind fun r1 =>
  dz 24 ((Mo_mean_l27 fu S p1 p3 (r1 - (576 * p1)) fu 0 0 ((r1 - (576 * p1)) / 24)).bind fun r20 =>
  Mo_mean_b152 fu S r20.2.1 r20.2.2)
set_option maxRecDepth 100000 in
set_option maxHeartbeats 4000000 in
theorem t_Mo_mean_l64 {p : Program} {l : Launch} {e : Env} {s : State} {m : MethodId} {args : Array Value} {below : List Frame} {meth : Method} {c : Code} {D : va_G} {cI cR cZ : ClassId} {Q : State → Prop} (C : Cx p s m args meth c D (tyG cI cR cZ) b_Mo_mean 9 "MaskLayersModel") {a : (Nat → Nat)} {S : LyS} {v1 : Int32} {v3 : Int32} {v4 : Int32} {v7 : Int32} {out : Nat × Int32 × Int32} : ∀ (k : Nat) (v5 : Int32) (v6 : Int32) (v8 : Int32), Mo_mean_l64 S v1 v3 v4 v7 k v5 v6 v8 = some out → (out.1 = 0 → J p l e rm_Mo_mean s m args below meth c D no (fun _ => True) 9 Q 0 0 (wMo cI cZ a S) [(0, .ref (a 0)), (1, .int v1), (3, .int v3), (4, .int v4), (5, .int out.2.1), (6, .int out.2.2), (7, .int v7)] [] 146) → J p l e rm_Mo_mean s m args below meth c D no (fun _ => True) 9 Q 0 0 (wMo cI cZ a S) [(0, .ref (a 0)), (1, .int v1), (3, .int v3), (4, .int v4), (5, .int v5), (6, .int v6), (7, .int v7), (8, .int v8)] [] 64 := by
  intro k
  induction k with
  | zero => intro v5 v6 v8 h; cases (show none = some out from h)
  | succ k ih =>
    intro v5 v6 v8 h x0
    rw [Mo_mean_l64] at h
    refine j_iload C 7 d_Mo_mean_64 rfl ?_
    refine j_iload C 3 d_Mo_mean_66 rfl ?_
    refine j_bipush C (v := 24) d_Mo_mean_68 (by decide) ?_
    obtain ⟨b6, h⟩ := dz_ok h
    refine j_irem C d_Mo_mean_70 b6 ?_
    refine j_aload_n C 0 d_Mo_mean_71 rfl ?_
    refine j_iload_n C 1 d_Mo_mean_72 rfl ?_
    obtain ⟨r7, hr7, h⟩ := bd_ok h
    refine j_PV C [.int v1] 0 rfl rfl (c_Mo_scale l D cI cR cZ a S v1 hr7) (cw_Mo_81 C ⟨Nat.le_of_ble_eq_true rfl, Nat.le_of_ble_eq_true rfl⟩) [0, 1, 2, 3, 4, 5, 6, 7, 8, 9, 10] rfl rfl rfl (Nat.le_of_ble_eq_true rfl) d_Mo_mean_73 (by decide) ?_
    refine j_iadd C d_Mo_mean_76 ?_
    refine j_icmp_ge C 146 d_Mo_mean_77 (by decide) (fun c15 => ?_) (fun c15 => ?_)
    · replace h := (if_pos c15).symm.trans h
      obtain rfl := Option.some.inj h
      refine j_sub [0, 1, 2, 3, 4, 5, 6] rfl ?_
      exact x0 rfl
    · replace h := (if_neg c15).symm.trans h
      refine j_iload C 7 d_Mo_mean_80 rfl ?_
      refine j_aload_n C 0 d_Mo_mean_82 rfl ?_
      refine gf_Mo_66 C 0 (v := .int (S.1 15)) mo_h rfl d_Mo_mean_83 ?_
      refine j_icmp_ge C 146 d_Mo_mean_86 (by decide) (fun c14 => ?_) (fun c14 => ?_)
      · replace h := (if_pos c14).symm.trans h
        obtain rfl := Option.some.inj h
        refine j_sub [0, 1, 2, 3, 4, 5, 6] rfl ?_
        exact x0 rfl
      · replace h := (if_neg c14).symm.trans h
        refine j_aload_n C 0 d_Mo_mean_89 rfl ?_
        refine gf_Mo_17 C 0 (v := .ref (a 2)) mo_h rfl d_Mo_mean_90 ?_
        refine j_bipush C (v := 24) d_Mo_mean_93 (by decide) ?_
        refine j_iload C 6 d_Mo_mean_95 rfl ?_
        refine j_imul C d_Mo_mean_97 ?_
        refine j_iload C 7 d_Mo_mean_98 rfl ?_
        refine j_iadd C d_Mo_mean_100 ?_
        obtain ⟨b8, h⟩ := gd_ok h
        refine j_zald C (2) (t0 := 1) mo_g1 rfl b8 d_Mo_mean_101 ?_
        refine j_iload_n C 1 d_Mo_mean_102 rfl ?_
        refine j_iconst C (v := 2) d_Mo_mean_103 (by decide) ?_
        obtain ⟨r9, hr9, gr9⟩ := bd_ok h
        refine j_let (ws' := wMo cI cZ a S) (lv' := [(0, .ref (a 0)), (1, .int v1), (3, .int v3), (4, .int v4), (5, .int v5), (6, .int v6), (7, .int v7), (8, .int v8)]) (st' := [.int r9, .int (S.2 1 (((24 * v7) + v8).toNatClampNeg))]) (pc' := 112) ?_ (fun Kr9 => ?_)
        · replace h := gr9
          refine j_icmp_ne C 140 d_Mo_mean_112 (by decide) (fun c12 => ?_) (fun c12 => ?_)
          · replace h := (if_neg c12).symm.trans h
            refine j_iinc C [(8, .int (v8 + 1)), (0, .ref (a 0)), (1, .int v1), (3, .int v3), (4, .int v4), (5, .int v5), (6, .int v6), (7, .int v7)] 7 (v8 + 1) d_Mo_mean_140 rfl rfl (by decide) rfl ?_
            refine j_goto C 64 d_Mo_mean_143 (by decide) ?_
            refine j_sub [1, 2, 3, 4, 5, 6, 7, 0] rfl ?_
            exact ih v5 v6 (v8 + 1) h x0
          · replace h := (if_pos c12).symm.trans h
            refine j_iload C 4 d_Mo_mean_115 rfl ?_
            refine j_aload_n C 0 d_Mo_mean_117 rfl ?_
            refine gf_Mo_13 C 0 (v := .ref (a 1)) mo_h rfl d_Mo_mean_118 ?_
            refine j_bipush C (v := 24) d_Mo_mean_121 (by decide) ?_
            refine j_iload C 6 d_Mo_mean_123 rfl ?_
            refine j_imul C d_Mo_mean_125 ?_
            refine j_iload C 7 d_Mo_mean_126 rfl ?_
            refine j_iadd C d_Mo_mean_128 ?_
            obtain ⟨b10, h⟩ := gd_ok h
            refine j_iald C (1) (t0 := 0) mo_g0 rfl b10 d_Mo_mean_129 ?_
            refine j_iload_n C 2 d_Mo_mean_130 rfl ?_
            obtain ⟨r11, hr11, h⟩ := bd_ok h
            refine j_PS C [.int (S.2 0 (((24 * v7) + v8).toNatClampNeg)), .int v3] (c_Mo_part l D cI cR cZ (S.2 0 (((24 * v7) + v8).toNatClampNeg)) v3 hr11) (cw_Mo_91 C ⟨Nat.le_of_ble_eq_true rfl, Nat.le_of_ble_eq_true rfl⟩) [] rfl rfl rfl (Nat.le_of_ble_eq_true rfl) d_Mo_mean_131 (by decide) ?_
            refine j_iadd C d_Mo_mean_134 ?_
            refine j_istore C [(5, .int (v5 + r11)), (0, .ref (a 0)), (1, .int v1), (3, .int v3), (4, .int v4), (6, .int v6), (7, .int v7), (8, .int v8)] d_Mo_mean_135 (by decide) rfl ?_
            refine j_iinc C [(6, .int (v6 + 1)), (5, .int (v5 + r11)), (0, .ref (a 0)), (1, .int v1), (3, .int v3), (4, .int v4), (7, .int v7), (8, .int v8)] 5 (v6 + 1) d_Mo_mean_137 rfl rfl (by decide) rfl ?_
            refine j_iinc C [(8, .int (v8 + 1)), (6, .int (v6 + 1)), (5, .int (v5 + r11)), (0, .ref (a 0)), (1, .int v1), (3, .int v3), (4, .int v4), (7, .int v7)] 7 (v8 + 1) d_Mo_mean_140 rfl rfl (by decide) rfl ?_
            refine j_goto C 64 d_Mo_mean_143 (by decide) ?_
            refine j_sub [3, 4, 5, 6, 2, 1, 7, 0] rfl ?_
            exact ih (v5 + r11) (v6 + 1) (v8 + 1) h x0
        · replace h := hr9
          refine j_icmp_ne C 111 d_Mo_mean_104 (by decide) (fun c13 => ?_) (fun c13 => ?_)
          · replace h := (if_neg c13).symm.trans h
            refine j_iconst C (v := 0) d_Mo_mean_111 (by decide) ?_
            obtain rfl := Option.some.inj h
            refine j_sub [0, 1, 2, 3, 4, 5, 6, 7] rfl ?_
            exact Kr9
          · replace h := (if_pos c13).symm.trans h
            refine j_iconst C (v := 1) d_Mo_mean_107 (by decide) ?_
            refine j_goto C 112 d_Mo_mean_108 (by decide) ?_
            obtain rfl := Option.some.inj h
            refine j_sub [0, 1, 2, 3, 4, 5, 6, 7] rfl ?_
            exact Kr9
set_option maxRecDepth 100000 in
set_option maxHeartbeats 4000000 in
theorem t_Mo_mean_l27 {p : Program} {l : Launch} {e : Env} {s : State} {m : MethodId} {args : Array Value} {below : List Frame} {meth : Method} {c : Code} {D : va_G} {cI cR cZ : ClassId} {Q : State → Prop} (C : Cx p s m args meth c D (tyG cI cR cZ) b_Mo_mean 9 "MaskLayersModel") {a : (Nat → Nat)} {fu : Nat} {S : LyS} {v1 : Int32} {v3 : Int32} {v4 : Int32} {out : Nat × Int32 × Int32} : ∀ (k : Nat) (v5 : Int32) (v6 : Int32) (v7 : Int32), Mo_mean_l27 fu S v1 v3 v4 k v5 v6 v7 = some out → (out.1 = 0 → J p l e rm_Mo_mean s m args below meth c D no (fun _ => True) 9 Q 0 0 (wMo cI cZ a S) [(5, .int out.2.1), (6, .int out.2.2)] [] 152) → J p l e rm_Mo_mean s m args below meth c D no (fun _ => True) 9 Q 0 0 (wMo cI cZ a S) [(0, .ref (a 0)), (1, .int v1), (3, .int v3), (4, .int v4), (5, .int v5), (6, .int v6), (7, .int v7)] [] 27 := by
  intro k
  induction k with
  | zero => intro v5 v6 v7 h; cases (show none = some out from h)
  | succ k ih =>
    intro v5 v6 v7 h x0
    rw [Mo_mean_l27] at h
    refine j_iload C 6 d_Mo_mean_27 rfl ?_
    refine j_iload C 3 d_Mo_mean_29 rfl ?_
    refine j_bipush C (v := 24) d_Mo_mean_31 (by decide) ?_
    obtain ⟨b3, h⟩ := dz_ok h
    refine j_idiv C d_Mo_mean_33 b3 ?_
    refine j_aload_n C 0 d_Mo_mean_34 rfl ?_
    refine j_iload_n C 1 d_Mo_mean_35 rfl ?_
    obtain ⟨r4, hr4, h⟩ := bd_ok h
    refine j_PV C [.int v1] 0 rfl rfl (c_Mo_scale l D cI cR cZ a S v1 hr4) (cw_Mo_81 C ⟨Nat.le_of_ble_eq_true rfl, Nat.le_of_ble_eq_true rfl⟩) [0, 1, 2, 3, 4, 5, 6, 7, 8, 9, 10] rfl rfl rfl (Nat.le_of_ble_eq_true rfl) d_Mo_mean_36 (by decide) ?_
    refine j_iadd C d_Mo_mean_39 ?_
    refine j_icmp_ge C 152 d_Mo_mean_40 (by decide) (fun c19 => ?_) (fun c19 => ?_)
    · replace h := (if_pos c19).symm.trans h
      obtain rfl := Option.some.inj h
      refine j_sub [4, 5] rfl ?_
      exact x0 rfl
    · replace h := (if_neg c19).symm.trans h
      refine j_iload C 6 d_Mo_mean_43 rfl ?_
      refine j_aload_n C 0 d_Mo_mean_45 rfl ?_
      refine gf_Mo_69 C 0 (v := .int (S.1 16)) mo_h rfl d_Mo_mean_46 ?_
      refine j_aload_n C 0 d_Mo_mean_49 rfl ?_
      refine gf_Mo_72 C 0 (v := .int (S.1 17)) mo_h rfl d_Mo_mean_50 ?_
      refine j_iadd C d_Mo_mean_53 ?_
      refine j_icmp_ge C 152 d_Mo_mean_54 (by decide) (fun c18 => ?_) (fun c18 => ?_)
      · replace h := (if_pos c18).symm.trans h
        obtain rfl := Option.some.inj h
        refine j_sub [4, 5] rfl ?_
        exact x0 rfl
      · replace h := (if_neg c18).symm.trans h
        refine j_iload C 3 d_Mo_mean_57 rfl ?_
        refine j_bipush C (v := 24) d_Mo_mean_59 (by decide) ?_
        obtain ⟨b5, h⟩ := dz_ok h
        refine j_irem C d_Mo_mean_61 b5 ?_
        refine j_istore C [(8, .int (v4 - v4 / 24 * 24)), (0, .ref (a 0)), (1, .int v1), (3, .int v3), (4, .int v4), (5, .int v5), (6, .int v6), (7, .int v7)] d_Mo_mean_62 (by decide) rfl ?_
        obtain ⟨r16, hr16, h⟩ := bd_ok h
        refine j_sub [1, 2, 3, 4, 5, 6, 7, 0] rfl ?_
        refine t_Mo_mean_l64 C fu v5 v6 (v4 - v4 / 24 * 24) hr16 (fun e17 => ?_)
        · refine j_iinc C [(7, .int (v7 + 1)), (0, .ref (a 0)), (1, .int v1), (3, .int v3), (4, .int v4), (5, .int r16.2.1), (6, .int r16.2.2)] 6 (v7 + 1) d_Mo_mean_146 rfl rfl (by decide) rfl ?_
          refine j_goto C 27 d_Mo_mean_149 (by decide) ?_
          refine j_sub [1, 2, 3, 4, 5, 6, 0] rfl ?_
          exact ih r16.2.1 r16.2.2 (v7 + 1) h x0
set_option maxRecDepth 100000 in
set_option maxHeartbeats 4000000 in
theorem t_Mo_mean_b152 {p : Program} {l : Launch} {e : Env} {s : State} {m : MethodId} {args : Array Value} {below : List Frame} {meth : Method} {c : Code} {D : va_G} {cI cR cZ : ClassId} (C : Cx p s m args meth c D (tyG cI cR cZ) b_Mo_mean 9 "MaskLayersModel") (hr : meth.sig.returnType = some .int) {a : (Nat → Nat)} {S : LyS} {fu : Nat} {v5 : Int32} {v6 : Int32} {res : Int32} (h : Mo_mean_b152 fu S v5 v6 = some res) : J p l e rm_Mo_mean s m args below meth c D no (fun _ => True) 9 (MQ below (QcP res) args s 0 0 no) 0 0 (wMo cI cZ a S) [(5, .int v5), (6, .int v6)] [] 152 := by
  unfold Mo_mean_b152 at h
  refine j_iload C 1 d_Mo_mean_152 rfl ?_
  refine j_if_ne C 161 d_Mo_mean_154 (by decide) (fun c22 => ?_) (fun c22 => ?_)
  · replace h := (if_neg c22).symm.trans h
    refine j_iconst C (v := 2) d_Mo_mean_161 (by decide) ?_
    refine j_iload C 0 d_Mo_mean_162 rfl ?_
    refine j_imul C d_Mo_mean_164 ?_
    refine j_iload C 1 d_Mo_mean_165 rfl ?_
    refine j_iadd C d_Mo_mean_167 ?_
    refine j_iconst C (v := 2) d_Mo_mean_168 (by decide) ?_
    refine j_iload C 1 d_Mo_mean_169 rfl ?_
    refine j_imul C d_Mo_mean_171 ?_
    obtain ⟨b21, h⟩ := dz_ok h
    refine j_idiv C d_Mo_mean_172 b21 ?_
    obtain rfl := Option.some.inj h
    exact j_pret C hr d_Mo_mean_173
  · replace h := (if_pos c22).symm.trans h
    refine j_iconst C (v := (-1)) d_Mo_mean_157 (by decide) ?_
    refine j_goto C 173 d_Mo_mean_158 (by decide) ?_
    obtain rfl := Option.some.inj h
    exact j_pret C hr d_Mo_mean_173
set_option maxRecDepth 100000 in
set_option maxHeartbeats 4000000 in
theorem c_Mo_mean (l : Launch) (D : va_G) (cI cR cZ : ClassId) (fu : Nat) (a : (Nat → Nat)) (S : LyS) (p1 : Int32) (p2 : Int32) (p3 : Int32) {res : Int32} (h : Mo_mean fu S p1 p2 p3 = some res) : Met l y_Mo_mean (Cond.code y_Mo_mean b_Mo_mean 9 (some .int) :: BIG) rm_Mo_mean (PcP [.ref (a 0), .int p1, .int p2, .int p3] D (tyG cI cR cZ) (wMo cI cZ a S)) (QcP res) 0 0 no := by
  refine met_P (by decide) (Nat.le_of_ble_eq_true rfl) (fun p e s m args below meth c C hr => ?_)
  have C : Cx p s m args meth c D (tyG cI cR cZ) b_Mo_mean 9 "MaskLayersModel" := C
  have hr : meth.sig.returnType = some .int := hr
  show J p l e rm_Mo_mean s m args below meth c D no (fun _ => True) 9 (MQ below (QcP res) args s 0 0 no) 0 0 (wMo cI cZ a S) [(0, .ref (a 0)), (1, .int p1), (2, .int p2), (3, .int p3)] [] 0
  unfold Mo_mean at h
  refine j_aload_n C 0 d_Mo_mean_0 rfl ?_
  refine j_iload_n C 1 d_Mo_mean_1 rfl ?_
  refine j_iload_n C 2 d_Mo_mean_2 rfl ?_
  obtain ⟨r1, hr1, h⟩ := bd_ok h
  refine j_PV C [.int p1, .int p2] 0 rfl rfl (c_Mo_place l D cI cR cZ a S p1 p2 hr1) (cw_Mo_88 C ⟨Nat.le_of_ble_eq_true rfl, Nat.le_of_ble_eq_true rfl⟩) [0, 1, 2, 3, 4, 5, 6, 7, 8, 9, 10] rfl rfl rfl (Nat.le_of_ble_eq_true rfl) d_Mo_mean_3 (by decide) ?_
  refine j_sipush C (v := 576) d_Mo_mean_6 (by decide) ?_
  refine j_iload_n C 1 d_Mo_mean_9 rfl ?_
  refine j_imul C d_Mo_mean_10 ?_
  refine j_isub C d_Mo_mean_11 ?_
  refine j_istore C [(4, .int (r1 - (576 * p1))), (0, .ref (a 0)), (1, .int p1), (2, .int p2), (3, .int p3)] d_Mo_mean_12 (by decide) rfl ?_
  refine j_iconst C (v := 0) d_Mo_mean_14 (by decide) ?_
  refine j_istore C [(5, .int 0), (4, .int (r1 - (576 * p1))), (0, .ref (a 0)), (1, .int p1), (2, .int p2), (3, .int p3)] d_Mo_mean_15 (by decide) rfl ?_
  refine j_iconst C (v := 0) d_Mo_mean_17 (by decide) ?_
  refine j_istore C [(6, .int 0), (5, .int 0), (4, .int (r1 - (576 * p1))), (0, .ref (a 0)), (1, .int p1), (2, .int p2), (3, .int p3)] d_Mo_mean_18 (by decide) rfl ?_
  refine j_iload C 2 d_Mo_mean_20 rfl ?_
  refine j_bipush C (v := 24) d_Mo_mean_22 (by decide) ?_
  obtain ⟨b2, h⟩ := dz_ok h
  refine j_idiv C d_Mo_mean_24 b2 ?_
  refine j_istore C [(7, .int ((r1 - (576 * p1)) / 24)), (6, .int 0), (5, .int 0), (4, .int (r1 - (576 * p1))), (0, .ref (a 0)), (1, .int p1), (2, .int p2), (3, .int p3)] d_Mo_mean_25 (by decide) rfl ?_
  obtain ⟨r20, hr20, h⟩ := bd_ok h
  refine j_sub [4, 5, 7, 3, 2, 1, 0] rfl ?_
  refine t_Mo_mean_l27 C fu 0 0 ((r1 - (576 * p1)) / 24) hr20 (fun e23 => ?_)
  · refine j_sub [0, 1] rfl ?_
    exact t_Mo_mean_b152 C hr h
def Mo_masked0 (S : LyS) (p1 : Int32) (p2 : Int32) : Option Int32 :=
  dz (S.1 5) (gd ((4 * ((S.1 16) / (S.1 5))) + 1) 96 ((if (S.2 4 (((4 * ((S.1 16) / (S.1 5))) + 1).toNatClampNeg)) = 0 then zb 0 (some 0)
  else gd ((576 + (24 * p2)) + p1) 2304 ((if (S.2 2 (((576 + (24 * p2)) + p1).toNatClampNeg)) = 1 then zb 1 (some 1)
  else zb 0 (some 0))))))
set_option maxRecDepth 100000 in
set_option maxHeartbeats 4000000 in
theorem c_Mo_masked0 (l : Launch) (D : va_G) (cI cR cZ : ClassId) (a : (Nat → Nat)) (S : LyS) (p1 : Int32) (p2 : Int32) {res : Int32} (h : Mo_masked0 S p1 p2 = some res) : Met l y_Mo_masked0 (Cond.code y_Mo_masked0 b_Mo_masked0 3 (some .boolean) :: BIG) rm_Mo_masked0 (PcP [.ref (a 0), .int p1, .int p2] D (tyG cI cR cZ) (wMo cI cZ a S)) (QcP res) 0 0 no := by
  refine met_P (by decide) (Nat.le_of_ble_eq_true rfl) (fun p e s m args below meth c C hr => ?_)
  have C : Cx p s m args meth c D (tyG cI cR cZ) b_Mo_masked0 3 "MaskLayersModel" := C
  have hr : meth.sig.returnType = some .boolean := hr
  show J p l e rm_Mo_masked0 s m args below meth c D no (fun _ => True) 3 (MQ below (QcP res) args s 0 0 no) 0 0 (wMo cI cZ a S) [(0, .ref (a 0)), (1, .int p1), (2, .int p2)] [] 0
  unfold Mo_masked0 at h
  refine j_aload_n C 0 d_Mo_masked0_0 rfl ?_
  refine gf_Mo_27 C 0 (v := .ref (a 5)) mo_h rfl d_Mo_masked0_1 ?_
  refine j_iconst C (v := 4) d_Mo_masked0_4 (by decide) ?_
  refine j_aload_n C 0 d_Mo_masked0_5 rfl ?_
  refine gf_Mo_69 C 0 (v := .int (S.1 16)) mo_h rfl d_Mo_masked0_6 ?_
  refine j_aload_n C 0 d_Mo_masked0_9 rfl ?_
  refine gf_Mo_107 C 0 (v := .int (S.1 5)) mo_h rfl d_Mo_masked0_10 ?_
  obtain ⟨b1, h⟩ := dz_ok h
  refine j_idiv C d_Mo_masked0_13 b1 ?_
  refine j_imul C d_Mo_masked0_14 ?_
  refine j_iconst C (v := 1) d_Mo_masked0_15 (by decide) ?_
  refine j_iadd C d_Mo_masked0_16 ?_
  obtain ⟨b2, h⟩ := gd_ok h
  refine j_zald C (5) (t0 := 1) mo_g4 rfl b2 d_Mo_masked0_17 ?_
  refine j_if_eq C 44 d_Mo_masked0_18 (by decide) (fun c8 => ?_) (fun c8 => ?_)
  · replace h := (if_pos c8).symm.trans h
    refine j_iconst C (v := 0) d_Mo_masked0_44 (by decide) ?_
    obtain ⟨b3, h⟩ := zb_ok h
    obtain rfl := Option.some.inj h
    exact j_pretZ C hr d_Mo_masked0_45 b3
  · replace h := (if_neg c8).symm.trans h
    refine j_aload_n C 0 d_Mo_masked0_21 rfl ?_
    refine gf_Mo_21 C 0 (v := .ref (a 3)) mo_h rfl d_Mo_masked0_22 ?_
    refine j_sipush C (v := 576) d_Mo_masked0_25 (by decide) ?_
    refine j_bipush C (v := 24) d_Mo_masked0_28 (by decide) ?_
    refine j_iload_n C 2 d_Mo_masked0_30 rfl ?_
    refine j_imul C d_Mo_masked0_31 ?_
    refine j_iadd C d_Mo_masked0_32 ?_
    refine j_iload_n C 1 d_Mo_masked0_33 rfl ?_
    refine j_iadd C d_Mo_masked0_34 ?_
    obtain ⟨b4, h⟩ := gd_ok h
    refine j_iald C (3) (t0 := 0) mo_g2 rfl b4 d_Mo_masked0_35 ?_
    refine j_iconst C (v := 1) d_Mo_masked0_36 (by decide) ?_
    refine j_icmp_ne C 44 d_Mo_masked0_37 (by decide) (fun c7 => ?_) (fun c7 => ?_)
    · replace h := (if_neg c7).symm.trans h
      refine j_iconst C (v := 0) d_Mo_masked0_44 (by decide) ?_
      obtain ⟨b5, h⟩ := zb_ok h
      obtain rfl := Option.some.inj h
      exact j_pretZ C hr d_Mo_masked0_45 b5
    · replace h := (if_pos c7).symm.trans h
      refine j_iconst C (v := 1) d_Mo_masked0_40 (by decide) ?_
      refine j_goto C 45 d_Mo_masked0_41 (by decide) ?_
      obtain ⟨b6, h⟩ := zb_ok h
      obtain rfl := Option.some.inj h
      exact j_pretZ C hr d_Mo_masked0_45 b6
def Mo_joinedAt (S : LyS) (p1 : Int32) (p2 : Int32) : Option Int32 :=
  (Mo_masked0 S p1 p2).bind fun r1 =>
  (if r1 = 0 then (Mo_placeAt S 0 p1 p2).bind fun r2 =>
  gd r2 2304 (some (S.2 2 r2.toNatClampNeg))
  else (Mo_placeAt S 2 p1 p2).bind fun r4 =>
  gd r4 2304 (some (S.2 2 r4.toNatClampNeg)))
set_option maxRecDepth 100000 in
set_option maxHeartbeats 4000000 in
theorem c_Mo_joinedAt (l : Launch) (D : va_G) (cI cR cZ : ClassId) (a : (Nat → Nat)) (S : LyS) (p1 : Int32) (p2 : Int32) {res : Int32} (h : Mo_joinedAt S p1 p2 = some res) : Met l y_Mo_joinedAt (Cond.code y_Mo_joinedAt b_Mo_joinedAt 3 (some .int) :: BIG) rm_Mo_joinedAt (PcP [.ref (a 0), .int p1, .int p2] D (tyG cI cR cZ) (wMo cI cZ a S)) (QcP res) 0 0 no := by
  refine met_P (by decide) (Nat.le_of_ble_eq_true rfl) (fun p e s m args below meth c C hr => ?_)
  have C : Cx p s m args meth c D (tyG cI cR cZ) b_Mo_joinedAt 3 "MaskLayersModel" := C
  have hr : meth.sig.returnType = some .int := hr
  show J p l e rm_Mo_joinedAt s m args below meth c D no (fun _ => True) 3 (MQ below (QcP res) args s 0 0 no) 0 0 (wMo cI cZ a S) [(0, .ref (a 0)), (1, .int p1), (2, .int p2)] [] 0
  unfold Mo_joinedAt at h
  refine j_aload_n C 0 d_Mo_joinedAt_0 rfl ?_
  refine gf_Mo_21 C 0 (v := .ref (a 3)) mo_h rfl d_Mo_joinedAt_1 ?_
  refine j_aload_n C 0 d_Mo_joinedAt_4 rfl ?_
  refine j_aload_n C 0 d_Mo_joinedAt_5 rfl ?_
  refine j_iload_n C 1 d_Mo_joinedAt_6 rfl ?_
  refine j_iload_n C 2 d_Mo_joinedAt_7 rfl ?_
  obtain ⟨r1, hr1, h⟩ := bd_ok h
  refine j_PV C [.int p1, .int p2] 0 rfl rfl (c_Mo_masked0 l D cI cR cZ a S p1 p2 hr1) (cw_Mo_101 C ⟨Nat.le_of_ble_eq_true rfl, Nat.le_of_ble_eq_true rfl⟩) [0, 1, 2, 3, 4, 5, 6, 7, 8, 9, 10] rfl rfl rfl (Nat.le_of_ble_eq_true rfl) d_Mo_joinedAt_8 (by decide) ?_
  refine j_if_eq C 18 d_Mo_joinedAt_11 (by decide) (fun c6 => ?_) (fun c6 => ?_)
  · replace h := (if_pos c6).symm.trans h
    refine j_iconst C (v := 0) d_Mo_joinedAt_18 (by decide) ?_
    refine j_iload_n C 1 d_Mo_joinedAt_19 rfl ?_
    refine j_iload_n C 2 d_Mo_joinedAt_20 rfl ?_
    obtain ⟨r2, hr2, h⟩ := bd_ok h
    refine j_PV C [.int 0, .int p1, .int p2] 0 rfl rfl (c_Mo_placeAt l D cI cR cZ a S 0 p1 p2 hr2) (cw_Mo_104 C ⟨Nat.le_of_ble_eq_true rfl, Nat.le_of_ble_eq_true rfl⟩) [0, 1, 2, 3, 4, 5, 6, 7, 8, 9, 10] rfl rfl rfl (Nat.le_of_ble_eq_true rfl) d_Mo_joinedAt_21 (by decide) ?_
    obtain ⟨b3, h⟩ := gd_ok h
    refine j_iald C (3) (t0 := 0) mo_g2 rfl b3 d_Mo_joinedAt_24 ?_
    obtain rfl := Option.some.inj h
    exact j_pret C hr d_Mo_joinedAt_25
  · replace h := (if_neg c6).symm.trans h
    refine j_iconst C (v := 2) d_Mo_joinedAt_14 (by decide) ?_
    refine j_goto C 19 d_Mo_joinedAt_15 (by decide) ?_
    refine j_iload_n C 1 d_Mo_joinedAt_19 rfl ?_
    refine j_iload_n C 2 d_Mo_joinedAt_20 rfl ?_
    obtain ⟨r4, hr4, h⟩ := bd_ok h
    refine j_PV C [.int 2, .int p1, .int p2] 0 rfl rfl (c_Mo_placeAt l D cI cR cZ a S 2 p1 p2 hr4) (cw_Mo_104 C ⟨Nat.le_of_ble_eq_true rfl, Nat.le_of_ble_eq_true rfl⟩) [0, 1, 2, 3, 4, 5, 6, 7, 8, 9, 10] rfl rfl rfl (Nat.le_of_ble_eq_true rfl) d_Mo_joinedAt_21 (by decide) ?_
    obtain ⟨b5, h⟩ := gd_ok h
    refine j_iald C (3) (t0 := 0) mo_g2 rfl b5 d_Mo_joinedAt_24 ?_
    obtain rfl := Option.some.inj h
    exact j_pret C hr d_Mo_joinedAt_25
def Mo_same_l2 (S : LyS) (v1 : Int32) (v2 : Int32) : Nat → Int32 → Option (Nat × Int32)
  | 0, _ => none
  | k + 1, v3 =>
  (if 255 ≤ v3 then some (0, v3)
  else (Mo_count S v1).bind fun r1 =>
  (if r1 ≤ (v2 + v3) then some (0, v3)
  else (Mo_place S v1 (v2 + v3)).bind fun r2 =>
  gd r2 2304 ((Mo_place S v1 v2).bind fun r4 =>
  gd r4 2304 ((if (S.2 2 r2.toNatClampNeg) = (S.2 2 r4.toNatClampNeg) then Mo_same_l2 S v1 v2 k (v3 + 1)
  else some (0, v3))))))
def Mo_same (fu : Nat) (S : LyS) (p1 : Int32) (p2 : Int32) : Option Int32 :=
  (Mo_same_l2 S p1 p2 fu 1).bind fun r9 =>
  some r9.2
set_option maxRecDepth 100000 in
set_option maxHeartbeats 4000000 in
theorem t_Mo_same_l2 {p : Program} {l : Launch} {e : Env} {s : State} {m : MethodId} {args : Array Value} {below : List Frame} {meth : Method} {c : Code} {D : va_G} {cI cR cZ : ClassId} {Q : State → Prop} (C : Cx p s m args meth c D (tyG cI cR cZ) b_Mo_same 4 "MaskLayersModel") {a : (Nat → Nat)} {S : LyS} {v1 : Int32} {v2 : Int32} {out : Nat × Int32} : ∀ (k : Nat) (v3 : Int32), Mo_same_l2 S v1 v2 k v3 = some out → (out.1 = 0 → J p l e rm_Mo_same s m args below meth c D no (fun _ => True) 4 Q 0 0 (wMo cI cZ a S) [(3, .int out.2)] [] 53) → J p l e rm_Mo_same s m args below meth c D no (fun _ => True) 4 Q 0 0 (wMo cI cZ a S) [(0, .ref (a 0)), (1, .int v1), (2, .int v2), (3, .int v3)] [] 2 := by
  intro k
  induction k with
  | zero => intro v3 h; cases (show none = some out from h)
  | succ k ih =>
    intro v3 h x0
    rw [Mo_same_l2] at h
    refine j_iload_n C 3 d_Mo_same_2 rfl ?_
    refine j_sipush C (v := 255) d_Mo_same_3 (by decide) ?_
    refine j_icmp_ge C 53 d_Mo_same_6 (by decide) (fun c8 => ?_) (fun c8 => ?_)
    · replace h := (if_pos c8).symm.trans h
      obtain rfl := Option.some.inj h
      refine j_sub [3] rfl ?_
      exact x0 rfl
    · replace h := (if_neg c8).symm.trans h
      refine j_iload_n C 2 d_Mo_same_9 rfl ?_
      refine j_iload_n C 3 d_Mo_same_10 rfl ?_
      refine j_iadd C d_Mo_same_11 ?_
      refine j_aload_n C 0 d_Mo_same_12 rfl ?_
      refine j_iload_n C 1 d_Mo_same_13 rfl ?_
      obtain ⟨r1, hr1, h⟩ := bd_ok h
      refine j_PV C [.int v1] 0 rfl rfl (c_Mo_count l D cI cR cZ a S v1 hr1) (cw_Mo_94 C ⟨Nat.le_of_ble_eq_true rfl, Nat.le_of_ble_eq_true rfl⟩) [0, 1, 2, 3, 4, 5, 6, 7, 8, 9, 10] rfl rfl rfl (Nat.le_of_ble_eq_true rfl) d_Mo_same_14 (by decide) ?_
      refine j_icmp_ge C 53 d_Mo_same_17 (by decide) (fun c7 => ?_) (fun c7 => ?_)
      · replace h := (if_pos c7).symm.trans h
        obtain rfl := Option.some.inj h
        refine j_sub [3] rfl ?_
        exact x0 rfl
      · replace h := (if_neg c7).symm.trans h
        refine j_aload_n C 0 d_Mo_same_20 rfl ?_
        refine gf_Mo_21 C 0 (v := .ref (a 3)) mo_h rfl d_Mo_same_21 ?_
        refine j_aload_n C 0 d_Mo_same_24 rfl ?_
        refine j_iload_n C 1 d_Mo_same_25 rfl ?_
        refine j_iload_n C 2 d_Mo_same_26 rfl ?_
        refine j_iload_n C 3 d_Mo_same_27 rfl ?_
        refine j_iadd C d_Mo_same_28 ?_
        obtain ⟨r2, hr2, h⟩ := bd_ok h
        refine j_PV C [.int v1, .int (v2 + v3)] 0 rfl rfl (c_Mo_place l D cI cR cZ a S v1 (v2 + v3) hr2) (cw_Mo_88 C ⟨Nat.le_of_ble_eq_true rfl, Nat.le_of_ble_eq_true rfl⟩) [0, 1, 2, 3, 4, 5, 6, 7, 8, 9, 10] rfl rfl rfl (Nat.le_of_ble_eq_true rfl) d_Mo_same_29 (by decide) ?_
        obtain ⟨b3, h⟩ := gd_ok h
        refine j_iald C (3) (t0 := 0) mo_g2 rfl b3 d_Mo_same_32 ?_
        refine j_aload_n C 0 d_Mo_same_33 rfl ?_
        refine gf_Mo_21 C 0 (v := .ref (a 3)) mo_h rfl d_Mo_same_34 ?_
        refine j_aload_n C 0 d_Mo_same_37 rfl ?_
        refine j_iload_n C 1 d_Mo_same_38 rfl ?_
        refine j_iload_n C 2 d_Mo_same_39 rfl ?_
        obtain ⟨r4, hr4, h⟩ := bd_ok h
        refine j_PV C [.int v1, .int v2] 0 rfl rfl (c_Mo_place l D cI cR cZ a S v1 v2 hr4) (cw_Mo_88 C ⟨Nat.le_of_ble_eq_true rfl, Nat.le_of_ble_eq_true rfl⟩) [0, 1, 2, 3, 4, 5, 6, 7, 8, 9, 10] rfl rfl rfl (Nat.le_of_ble_eq_true rfl) d_Mo_same_40 (by decide) ?_
        obtain ⟨b5, h⟩ := gd_ok h
        refine j_iald C (3) (t0 := 0) mo_g2 rfl b5 d_Mo_same_43 ?_
        refine j_icmp_ne C 53 d_Mo_same_44 (by decide) (fun c6 => ?_) (fun c6 => ?_)
        · replace h := (if_neg c6).symm.trans h
          obtain rfl := Option.some.inj h
          refine j_sub [3] rfl ?_
          exact x0 rfl
        · replace h := (if_pos c6).symm.trans h
          refine j_iinc C [(3, .int (v3 + 1)), (0, .ref (a 0)), (1, .int v1), (2, .int v2)] 3 (v3 + 1) d_Mo_same_47 rfl rfl (by decide) rfl ?_
          refine j_goto C 2 d_Mo_same_50 (by decide) ?_
          refine j_sub [1, 2, 3, 0] rfl ?_
          exact ih (v3 + 1) h x0
set_option maxRecDepth 100000 in
set_option maxHeartbeats 4000000 in
theorem c_Mo_same (l : Launch) (D : va_G) (cI cR cZ : ClassId) (fu : Nat) (a : (Nat → Nat)) (S : LyS) (p1 : Int32) (p2 : Int32) {res : Int32} (h : Mo_same fu S p1 p2 = some res) : Met l y_Mo_same (Cond.code y_Mo_same b_Mo_same 4 (some .int) :: BIG) rm_Mo_same (PcP [.ref (a 0), .int p1, .int p2] D (tyG cI cR cZ) (wMo cI cZ a S)) (QcP res) 0 0 no := by
  refine met_P (by decide) (Nat.le_of_ble_eq_true rfl) (fun p e s m args below meth c C hr => ?_)
  have C : Cx p s m args meth c D (tyG cI cR cZ) b_Mo_same 4 "MaskLayersModel" := C
  have hr : meth.sig.returnType = some .int := hr
  show J p l e rm_Mo_same s m args below meth c D no (fun _ => True) 4 (MQ below (QcP res) args s 0 0 no) 0 0 (wMo cI cZ a S) [(0, .ref (a 0)), (1, .int p1), (2, .int p2)] [] 0
  unfold Mo_same at h
  refine j_iconst C (v := 1) d_Mo_same_0 (by decide) ?_
  refine j_istore_n C [(3, .int 1), (0, .ref (a 0)), (1, .int p1), (2, .int p2)] d_Mo_same_1 (by decide) rfl ?_
  obtain ⟨r9, hr9, h⟩ := bd_ok h
  refine j_sub [1, 2, 3, 0] rfl ?_
  refine t_Mo_same_l2 C fu 1 hr9 (fun e10 => ?_)
  · refine j_iload_n C 0 d_Mo_same_53 rfl ?_
    obtain rfl := Option.some.inj h
    exact j_pret C hr d_Mo_same_54
def Mo_plainSize (S : LyS) (p1 : Int32) : Option Int32 :=
  (if p1 = 1 then (Mo_count S p1).bind fun r2 =>
  dz 8 (some ((r2 + 7) / 8))
  else (Mo_count S p1).bind fun r1 =>
  some (3 * r1))
set_option maxRecDepth 100000 in
set_option maxHeartbeats 4000000 in
theorem c_Mo_plainSize (l : Launch) (D : va_G) (cI cR cZ : ClassId) (a : (Nat → Nat)) (S : LyS) (p1 : Int32) {res : Int32} (h : Mo_plainSize S p1 = some res) : Met l y_Mo_plainSize (Cond.code y_Mo_plainSize b_Mo_plainSize 2 (some .int) :: BIG) rm_Mo_plainSize (PcP [.ref (a 0), .int p1] D (tyG cI cR cZ) (wMo cI cZ a S)) (QcP res) 0 0 no := by
  refine met_P (by decide) (Nat.le_of_ble_eq_true rfl) (fun p e s m args below meth c C hr => ?_)
  have C : Cx p s m args meth c D (tyG cI cR cZ) b_Mo_plainSize 2 "MaskLayersModel" := C
  have hr : meth.sig.returnType = some .int := hr
  show J p l e rm_Mo_plainSize s m args below meth c D no (fun _ => True) 2 (MQ below (QcP res) args s 0 0 no) 0 0 (wMo cI cZ a S) [(0, .ref (a 0)), (1, .int p1)] [] 0
  unfold Mo_plainSize at h
  refine j_iload_n C 1 d_Mo_plainSize_0 rfl ?_
  refine j_iconst C (v := 1) d_Mo_plainSize_1 (by decide) ?_
  refine j_icmp_ne C 19 d_Mo_plainSize_2 (by decide) (fun c4 => ?_) (fun c4 => ?_)
  · replace h := (if_neg c4).symm.trans h
    refine j_iconst C (v := 3) d_Mo_plainSize_19 (by decide) ?_
    refine j_aload_n C 0 d_Mo_plainSize_20 rfl ?_
    refine j_iload_n C 1 d_Mo_plainSize_21 rfl ?_
    obtain ⟨r1, hr1, h⟩ := bd_ok h
    refine j_PV C [.int p1] 0 rfl rfl (c_Mo_count l D cI cR cZ a S p1 hr1) (cw_Mo_94 C ⟨Nat.le_of_ble_eq_true rfl, Nat.le_of_ble_eq_true rfl⟩) [0, 1, 2, 3, 4, 5, 6, 7, 8, 9, 10] rfl rfl rfl (Nat.le_of_ble_eq_true rfl) d_Mo_plainSize_22 (by decide) ?_
    refine j_imul C d_Mo_plainSize_25 ?_
    obtain rfl := Option.some.inj h
    exact j_pret C hr d_Mo_plainSize_26
  · replace h := (if_pos c4).symm.trans h
    refine j_aload_n C 0 d_Mo_plainSize_5 rfl ?_
    refine j_iload_n C 1 d_Mo_plainSize_6 rfl ?_
    obtain ⟨r2, hr2, h⟩ := bd_ok h
    refine j_PV C [.int p1] 0 rfl rfl (c_Mo_count l D cI cR cZ a S p1 hr2) (cw_Mo_94 C ⟨Nat.le_of_ble_eq_true rfl, Nat.le_of_ble_eq_true rfl⟩) [0, 1, 2, 3, 4, 5, 6, 7, 8, 9, 10] rfl rfl rfl (Nat.le_of_ble_eq_true rfl) d_Mo_plainSize_7 (by decide) ?_
    refine j_bipush C (v := 7) d_Mo_plainSize_10 (by decide) ?_
    refine j_iadd C d_Mo_plainSize_12 ?_
    refine j_bipush C (v := 8) d_Mo_plainSize_13 (by decide) ?_
    obtain ⟨b3, h⟩ := dz_ok h
    refine j_idiv C d_Mo_plainSize_15 b3 ?_
    refine j_goto C 26 d_Mo_plainSize_16 (by decide) ?_
    obtain rfl := Option.some.inj h
    exact j_pret C hr d_Mo_plainSize_26
def Mo_refusal (S : LyS) (p1 : Int32) (p2 : Int32) : Option Int32 :=
  (if (S.1 4) = 0 then some 1
  else (Mo_isSample S p1 p2).bind fun r1 =>
  (if r1 = 0 then some 2
  else some 0))
set_option maxRecDepth 100000 in
set_option maxHeartbeats 4000000 in
theorem c_Mo_refusal (l : Launch) (D : va_G) (cI cR cZ : ClassId) (a : (Nat → Nat)) (S : LyS) (p1 : Int32) (p2 : Int32) {res : Int32} (h : Mo_refusal S p1 p2 = some res) : Met l y_Mo_refusal (Cond.code y_Mo_refusal b_Mo_refusal 3 (some .int) :: BIG) rm_Mo_refusal (PcP [.ref (a 0), .int p1, .int p2] D (tyG cI cR cZ) (wMo cI cZ a S)) (QcP res) 0 0 no := by
  refine met_P (by decide) (Nat.le_of_ble_eq_true rfl) (fun p e s m args below meth c C hr => ?_)
  have C : Cx p s m args meth c D (tyG cI cR cZ) b_Mo_refusal 3 "MaskLayersModel" := C
  have hr : meth.sig.returnType = some .int := hr
  show J p l e rm_Mo_refusal s m args below meth c D no (fun _ => True) 3 (MQ below (QcP res) args s 0 0 no) 0 0 (wMo cI cZ a S) [(0, .ref (a 0)), (1, .int p1), (2, .int p2)] [] 0
  unfold Mo_refusal at h
  refine j_aload_n C 0 d_Mo_refusal_0 rfl ?_
  refine gf_Mo_124 C 0 (v := .int (S.1 4)) mo_h rfl d_Mo_refusal_1 ?_
  refine j_if_ne C 11 d_Mo_refusal_4 (by decide) (fun c3 => ?_) (fun c3 => ?_)
  · replace h := (if_neg c3).symm.trans h
    refine j_aload_n C 0 d_Mo_refusal_11 rfl ?_
    refine j_iload_n C 1 d_Mo_refusal_12 rfl ?_
    refine j_iload_n C 2 d_Mo_refusal_13 rfl ?_
    obtain ⟨r1, hr1, h⟩ := bd_ok h
    refine j_PV C [.int p1, .int p2] 0 rfl rfl (c_Mo_isSample l D cI cR cZ a S p1 p2 hr1) (cw_Mo_54 C ⟨Nat.le_of_ble_eq_true rfl, Nat.le_of_ble_eq_true rfl⟩) [0, 1, 2, 3, 4, 5, 6, 7, 8, 9, 10] rfl rfl rfl (Nat.le_of_ble_eq_true rfl) d_Mo_refusal_14 (by decide) ?_
    refine j_if_ne C 24 d_Mo_refusal_17 (by decide) (fun c2 => ?_) (fun c2 => ?_)
    · replace h := (if_neg c2).symm.trans h
      refine j_iconst C (v := 0) d_Mo_refusal_24 (by decide) ?_
      obtain rfl := Option.some.inj h
      exact j_pret C hr d_Mo_refusal_25
    · replace h := (if_pos c2).symm.trans h
      refine j_iconst C (v := 2) d_Mo_refusal_20 (by decide) ?_
      refine j_goto C 25 d_Mo_refusal_21 (by decide) ?_
      obtain rfl := Option.some.inj h
      exact j_pret C hr d_Mo_refusal_25
  · replace h := (if_pos c3).symm.trans h
    refine j_iconst C (v := 1) d_Mo_refusal_7 (by decide) ?_
    refine j_goto C 25 d_Mo_refusal_8 (by decide) ?_
    obtain rfl := Option.some.inj h
    exact j_pret C hr d_Mo_refusal_25
