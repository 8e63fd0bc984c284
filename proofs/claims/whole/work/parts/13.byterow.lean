def ByteRow_empty (B : ByS) : Option (ByS) :=
  some ((0, B.2))
set_option maxRecDepth 100000 in
set_option maxHeartbeats 4000000 in
theorem c_ByteRow_empty (l : Launch) (D : va_G) (cI cR cZ : ClassId) (b : Nat) (q : Nat) (B : ByS) {res : (ByS)} (h : ByteRow_empty B = some res) (sz : Nat) : Met l y_ByteRow_empty (Cond.code y_ByteRow_empty b_ByteRow_empty 1 none :: BIG) rm_ByteRow_empty (PcI [.ref b] D (tyG cI cR cZ) (wBy cI b q B) sz) (QcV D (fun _ : Nat => wBy cI b q res) (va_A (wBy cI b q B) sz)) 0 0 (va_A (wBy cI b q B) sz) := by
  refine met_V (by decide) (Nat.le_of_ble_eq_true rfl) (fun p e s m args below meth c A hA C hr => ?_)
  have C : Cx p s m args meth c D (tyG cI cR cZ) b_ByteRow_empty 1 "MaskLayers$ByteRow" := C
  have hr : meth.sig.returnType = none := hr
  show J p l e rm_ByteRow_empty s m args below meth c D A (va_D A) 1 (MQ below (QcV D (fun _ : Nat => wBy cI b q res) A) args s 0 0 A) 0 0 (wBy cI b q B) [(0, .ref b)] [] 0
  unfold ByteRow_empty at h
  refine j_aload_n C 0 d_ByteRow_empty_0 rfl ?_
  refine j_iconst C (v := 0) d_ByteRow_empty_1 (by decide) ?_
  refine pf_ByteRow_15 C 0 (wBy cI b q ((0, B.2))) rfl rfl rfl d_ByteRow_empty_2 ?_
  obtain rfl := Option.some.inj h
  exact j_vret C hr d_ByteRow_empty_5 0 rfl
def ByteRow_room (B : ByS) : Option Int32 :=
  some (6400 - B.1)
set_option maxRecDepth 100000 in
set_option maxHeartbeats 4000000 in
theorem c_ByteRow_room (l : Launch) (D : va_G) (cI cR cZ : ClassId) (b : Nat) (q : Nat) (B : ByS) {res : Int32} (h : ByteRow_room B = some res) : Met l y_ByteRow_room (Cond.code y_ByteRow_room b_ByteRow_room 1 (some .int) :: BIG) rm_ByteRow_room (PcP [.ref b] D (tyG cI cR cZ) (wBy cI b q B)) (QcP res) 0 0 no := by
  refine met_P (by decide) (Nat.le_of_ble_eq_true rfl) (fun p e s m args below meth c C hr => ?_)
  have C : Cx p s m args meth c D (tyG cI cR cZ) b_ByteRow_room 1 "MaskLayers$ByteRow" := C
  have hr : meth.sig.returnType = some .int := hr
  show J p l e rm_ByteRow_room s m args below meth c D no (fun _ => True) 1 (MQ below (QcP res) args s 0 0 no) 0 0 (wBy cI b q B) [(0, .ref b)] [] 0
  unfold ByteRow_room at h
  refine j_sipush C (v := 6400) d_ByteRow_room_0 (by decide) ?_
  refine j_aload_n C 0 d_ByteRow_room_3 rfl ?_
  refine gf_ByteRow_15 C 0 (v := .int B.1) rfl rfl d_ByteRow_room_4 ?_
  refine j_isub C d_ByteRow_room_7 ?_
  obtain rfl := Option.some.inj h
  exact j_pret C hr d_ByteRow_room_8
def ByteRow_holds (B : ByS) (p1 : Int32) : Option Int32 :=
  (if p1 < 0 then zb 0 (some 0)
  else (if B.1 ≤ p1 then zb 0 (some 0)
  else zb 1 (some 1)))
set_option maxRecDepth 100000 in
set_option maxHeartbeats 4000000 in
theorem c_ByteRow_holds (l : Launch) (D : va_G) (cI cR cZ : ClassId) (b : Nat) (q : Nat) (B : ByS) (p1 : Int32) {res : Int32} (h : ByteRow_holds B p1 = some res) : Met l y_ByteRow_holds (Cond.code y_ByteRow_holds b_ByteRow_holds 2 (some .boolean) :: BIG) rm_ByteRow_holds (PcP [.ref b, .int p1] D (tyG cI cR cZ) (wBy cI b q B)) (QcP res) 0 0 no := by
  refine met_P (by decide) (Nat.le_of_ble_eq_true rfl) (fun p e s m args below meth c C hr => ?_)
  have C : Cx p s m args meth c D (tyG cI cR cZ) b_ByteRow_holds 2 "MaskLayers$ByteRow" := C
  have hr : meth.sig.returnType = some .boolean := hr
  show J p l e rm_ByteRow_holds s m args below meth c D no (fun _ => True) 2 (MQ below (QcP res) args s 0 0 no) 0 0 (wBy cI b q B) [(0, .ref b), (1, .int p1)] [] 0
  unfold ByteRow_holds at h
  refine j_iload_n C 1 d_ByteRow_holds_0 rfl ?_
  refine j_if_lt C 16 d_ByteRow_holds_1 (by decide) (fun c5 => ?_) (fun c5 => ?_)
  · replace h := (if_pos c5).symm.trans h
    refine j_iconst C (v := 0) d_ByteRow_holds_16 (by decide) ?_
    obtain ⟨b1, h⟩ := zb_ok h
    obtain rfl := Option.some.inj h
    exact j_pretZ C hr d_ByteRow_holds_17 b1
  · replace h := (if_neg c5).symm.trans h
    refine j_iload_n C 1 d_ByteRow_holds_4 rfl ?_
    refine j_aload_n C 0 d_ByteRow_holds_5 rfl ?_
    refine gf_ByteRow_15 C 0 (v := .int B.1) rfl rfl d_ByteRow_holds_6 ?_
    refine j_icmp_ge C 16 d_ByteRow_holds_9 (by decide) (fun c4 => ?_) (fun c4 => ?_)
    · replace h := (if_pos c4).symm.trans h
      refine j_iconst C (v := 0) d_ByteRow_holds_16 (by decide) ?_
      obtain ⟨b2, h⟩ := zb_ok h
      obtain rfl := Option.some.inj h
      exact j_pretZ C hr d_ByteRow_holds_17 b2
    · replace h := (if_neg c4).symm.trans h
      refine j_iconst C (v := 1) d_ByteRow_holds_12 (by decide) ?_
      refine j_goto C 17 d_ByteRow_holds_13 (by decide) ?_
      obtain ⟨b3, h⟩ := zb_ok h
      obtain rfl := Option.some.inj h
      exact j_pretZ C hr d_ByteRow_holds_17 b3
def ByteRow_valueAt (B : ByS) (p1 : Int32) : Option Int32 :=
  (ByteRow_holds B p1).bind fun r1 =>
  (if r1 = 0 then some ((-1))
  else gd p1 B.2.1 (some (B.2.2 p1.toNatClampNeg)))
set_option maxRecDepth 100000 in
set_option maxHeartbeats 4000000 in
theorem c_ByteRow_valueAt (l : Launch) (D : va_G) (cI cR cZ : ClassId) (b : Nat) (q : Nat) (B : ByS) (p1 : Int32) {res : Int32} (h : ByteRow_valueAt B p1 = some res) : Met l y_ByteRow_valueAt (Cond.code y_ByteRow_valueAt b_ByteRow_valueAt 2 (some .int) :: BIG) rm_ByteRow_valueAt (PcP [.ref b, .int p1] D (tyG cI cR cZ) (wBy cI b q B)) (QcP res) 0 0 no := by
  refine met_P (by decide) (Nat.le_of_ble_eq_true rfl) (fun p e s m args below meth c C hr => ?_)
  have C : Cx p s m args meth c D (tyG cI cR cZ) b_ByteRow_valueAt 2 "MaskLayers$ByteRow" := C
  have hr : meth.sig.returnType = some .int := hr
  show J p l e rm_ByteRow_valueAt s m args below meth c D no (fun _ => True) 2 (MQ below (QcP res) args s 0 0 no) 0 0 (wBy cI b q B) [(0, .ref b), (1, .int p1)] [] 0
  unfold ByteRow_valueAt at h
  refine j_aload_n C 0 d_ByteRow_valueAt_0 rfl ?_
  refine j_iload_n C 1 d_ByteRow_valueAt_1 rfl ?_
  obtain ⟨r1, hr1, h⟩ := bd_ok h
  refine j_PV C [.int p1] 0 rfl rfl (c_ByteRow_holds l D cI cR cZ b q B p1 hr1) (cw_ByteRow_19 C ⟨Nat.le_of_ble_eq_true rfl, Nat.le_of_ble_eq_true rfl⟩) [0, 1] rfl rfl rfl (Nat.le_of_ble_eq_true rfl) d_ByteRow_valueAt_2 (by decide) ?_
  refine j_if_eq C 17 d_ByteRow_valueAt_5 (by decide) (fun c3 => ?_) (fun c3 => ?_)
  · replace h := (if_pos c3).symm.trans h
    refine j_iconst C (v := (-1)) d_ByteRow_valueAt_17 (by decide) ?_
    obtain rfl := Option.some.inj h
    exact j_pret C hr d_ByteRow_valueAt_18
  · replace h := (if_neg c3).symm.trans h
    refine j_aload_n C 0 d_ByteRow_valueAt_8 rfl ?_
    refine gf_ByteRow_9 C 0 (v := .ref q) rfl rfl d_ByteRow_valueAt_9 ?_
    refine j_iload_n C 1 d_ByteRow_valueAt_12 rfl ?_
    obtain ⟨b2, h⟩ := gd_ok h
    refine j_iald C (1) (t0 := 0) rfl rfl b2 d_ByteRow_valueAt_13 ?_
    refine j_goto C 18 d_ByteRow_valueAt_14 (by decide) ?_
    obtain rfl := Option.some.inj h
    exact j_pret C hr d_ByteRow_valueAt_18
def ByteRow_replace (B : ByS) (p1 : Int32) (p2 : Int32) : Option (Int32 × ByS) :=
  (ByteRow_valueAt B p1).bind fun r1 =>
  (ByteRow_holds B p1).bind fun r2 =>
  (if r2 = 0 then some (r1, B)
  else gd p1 B.2.1 (some (r1, (B.1, B.2.1, upd B.2.2 p1.toNatClampNeg p2))))
set_option maxRecDepth 100000 in
set_option maxHeartbeats 4000000 in
theorem c_ByteRow_replace (l : Launch) (D : va_G) (cI cR cZ : ClassId) (b : Nat) (q : Nat) (B : ByS) (p1 : Int32) (p2 : Int32) {res : (Int32 × ByS)} (h : ByteRow_replace B p1 p2 = some res) (sz : Nat) : Met l y_ByteRow_replace (Cond.code y_ByteRow_replace b_ByteRow_replace 4 (some .int) :: BIG) rm_ByteRow_replace (PcI [.ref b, .int p1, .int p2] D (tyG cI cR cZ) (wBy cI b q B) sz) (QcI D res.1 (fun _ : Nat => wBy cI b q res.2) (va_A (wBy cI b q B) sz)) 0 0 (va_A (wBy cI b q B) sz) := by
  refine met_I (by decide) (Nat.le_of_ble_eq_true rfl) (fun p e s m args below meth c A hA C hr => ?_)
  have C : Cx p s m args meth c D (tyG cI cR cZ) b_ByteRow_replace 4 "MaskLayers$ByteRow" := C
  have hr : meth.sig.returnType = some .int := hr
  show J p l e rm_ByteRow_replace s m args below meth c D A (va_D A) 4 (MQ below (QcI D res.1 (fun _ : Nat => wBy cI b q res.2) A) args s 0 0 A) 0 0 (wBy cI b q B) [(0, .ref b), (1, .int p1), (2, .int p2)] [] 0
  unfold ByteRow_replace at h
  refine j_aload_n C 0 d_ByteRow_replace_0 rfl ?_
  refine j_iload_n C 1 d_ByteRow_replace_1 rfl ?_
  obtain ⟨r1, hr1, h⟩ := bd_ok h
  refine j_PV C [.int p1] 0 rfl rfl (c_ByteRow_valueAt l D cI cR cZ b q B p1 hr1) (cw_ByteRow_39 C ⟨Nat.le_of_ble_eq_true rfl, Nat.le_of_ble_eq_true rfl⟩) [0, 1] rfl rfl rfl (Nat.le_of_ble_eq_true rfl) d_ByteRow_replace_2 (by decide) ?_
  refine j_istore_n C [(3, .int r1), (0, .ref b), (1, .int p1), (2, .int p2)] d_ByteRow_replace_5 (by decide) rfl ?_
  refine j_aload_n C 1 d_ByteRow_replace_6 rfl ?_
  refine j_iload_n C 2 d_ByteRow_replace_7 rfl ?_
  obtain ⟨r2, hr2, h⟩ := bd_ok h
  refine j_PV C [.int p1] 0 rfl rfl (c_ByteRow_holds l D cI cR cZ b q B p1 hr2) (cw_ByteRow_19 C ⟨Nat.le_of_ble_eq_true rfl, Nat.le_of_ble_eq_true rfl⟩) [0, 1] rfl rfl rfl (Nat.le_of_ble_eq_true rfl) d_ByteRow_replace_8 (by decide) ?_
  refine j_if_eq C 21 d_ByteRow_replace_11 (by decide) (fun c4 => ?_) (fun c4 => ?_)
  · replace h := (if_pos c4).symm.trans h
    refine j_iload_n C 0 d_ByteRow_replace_21 rfl ?_
    obtain rfl := Option.some.inj h
    exact j_iret C hr d_ByteRow_replace_22 0 rfl
  · replace h := (if_neg c4).symm.trans h
    refine j_aload_n C 1 d_ByteRow_replace_14 rfl ?_
    refine gf_ByteRow_9 C 0 (v := .ref q) rfl rfl d_ByteRow_replace_15 ?_
    refine j_iload_n C 2 d_ByteRow_replace_18 rfl ?_
    refine j_iload_n C 3 d_ByteRow_replace_19 rfl ?_
    obtain ⟨b3, h⟩ := gd_ok h
    refine j_iast C (1) (wBy cI b q ((B.1, B.2.1, upd B.2.2 p1.toNatClampNeg p2))) (t0 := 0) rfl rfl rfl b3 d_ByteRow_replace_20 ?_
    refine j_iload_n C 0 d_ByteRow_replace_21 rfl ?_
    obtain rfl := Option.some.inj h
    exact j_iret C hr d_ByteRow_replace_22 0 rfl
