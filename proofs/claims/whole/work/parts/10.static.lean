def ML_isByte (p1 : Int32) : Option Int32 :=
  (if p1 < 0 then zb 0 (some 0)
  else (if 255 < p1 then zb 0 (some 0)
  else zb 1 (some 1)))
set_option maxRecDepth 100000 in
set_option maxHeartbeats 4000000 in
theorem c_ML_isByte (l : Launch) (D : va_G) (cI cR cZ : ClassId)  (p1 : Int32) {res : Int32} (h : ML_isByte p1 = some res) : Met l y_ML_isByte (Cond.code y_ML_isByte b_ML_isByte 1 (some .boolean) :: BIG) rm_ML_isByte (PcP [.int p1] D (tyG cI cR cZ) ([])) (QcP res) 0 0 no := by
  refine met_P (by decide) (Nat.le_of_ble_eq_true rfl) (fun p e s m args below meth c C hr => ?_)
  have C : Cx p s m args meth c D (tyG cI cR cZ) b_ML_isByte 1 "MaskLayers" := C
  have hr : meth.sig.returnType = some .boolean := hr
  show J p l e rm_ML_isByte s m args below meth c D no (fun _ => True) 1 (MQ below (QcP res) args s 0 0 no) 0 0 ([]) [(0, .int p1)] [] 0
  unfold ML_isByte at h
  refine j_iload_n C 0 d_ML_isByte_0 rfl ?_
  refine j_if_lt C 15 d_ML_isByte_1 (by decide) (fun c5 => ?_) (fun c5 => ?_)
  · replace h := (if_pos c5).symm.trans h
    refine j_iconst C (v := 0) d_ML_isByte_15 (by decide) ?_
    obtain ⟨b1, h⟩ := zb_ok h
    obtain rfl := Option.some.inj h
    exact j_pretZ C hr d_ML_isByte_16 b1
  · replace h := (if_neg c5).symm.trans h
    refine j_iload_n C 0 d_ML_isByte_4 rfl ?_
    refine j_sipush C (v := 255) d_ML_isByte_5 (by decide) ?_
    refine j_icmp_gt C 15 d_ML_isByte_8 (by decide) (fun c4 => ?_) (fun c4 => ?_)
    · replace h := (if_pos c4).symm.trans h
      refine j_iconst C (v := 0) d_ML_isByte_15 (by decide) ?_
      obtain ⟨b2, h⟩ := zb_ok h
      obtain rfl := Option.some.inj h
      exact j_pretZ C hr d_ML_isByte_16 b2
    · replace h := (if_neg c4).symm.trans h
      refine j_iconst C (v := 1) d_ML_isByte_11 (by decide) ?_
      refine j_goto C 16 d_ML_isByte_12 (by decide) ?_
      obtain ⟨b3, h⟩ := zb_ok h
      obtain rfl := Option.some.inj h
      exact j_pretZ C hr d_ML_isByte_16 b3
def ML_parts (p1 : Int32) (p2 : Int32) : Option Int32 :=
  (if 1 ≤ p2 then dz p2 (some (((p1 + p2) - 1) / p2))
  else some 0)
set_option maxRecDepth 100000 in
set_option maxHeartbeats 4000000 in
theorem c_ML_parts (l : Launch) (D : va_G) (cI cR cZ : ClassId)  (p1 : Int32) (p2 : Int32) {res : Int32} (h : ML_parts p1 p2 = some res) : Met l y_ML_parts (Cond.code y_ML_parts b_ML_parts 2 (some .int) :: BIG) rm_ML_parts (PcP [.int p1, .int p2] D (tyG cI cR cZ) ([])) (QcP res) 0 0 no := by
  refine met_P (by decide) (Nat.le_of_ble_eq_true rfl) (fun p e s m args below meth c C hr => ?_)
  have C : Cx p s m args meth c D (tyG cI cR cZ) b_ML_parts 2 "MaskLayers" := C
  have hr : meth.sig.returnType = some .int := hr
  show J p l e rm_ML_parts s m args below meth c D no (fun _ => True) 2 (MQ below (QcP res) args s 0 0 no) 0 0 ([]) [(0, .int p1), (1, .int p2)] [] 0
  unfold ML_parts at h
  refine j_iload_n C 1 d_ML_parts_0 rfl ?_
  refine j_iconst C (v := 1) d_ML_parts_1 (by decide) ?_
  refine j_icmp_ge C 9 d_ML_parts_2 (by decide) (fun c2 => ?_) (fun c2 => ?_)
  · replace h := (if_pos c2).symm.trans h
    refine j_iload_n C 0 d_ML_parts_9 rfl ?_
    refine j_iload_n C 1 d_ML_parts_10 rfl ?_
    refine j_iadd C d_ML_parts_11 ?_
    refine j_iconst C (v := 1) d_ML_parts_12 (by decide) ?_
    refine j_isub C d_ML_parts_13 ?_
    refine j_iload_n C 1 d_ML_parts_14 rfl ?_
    obtain ⟨b1, h⟩ := dz_ok h
    refine j_idiv C d_ML_parts_15 b1 ?_
    obtain rfl := Option.some.inj h
    exact j_pret C hr d_ML_parts_16
  · replace h := (if_neg c2).symm.trans h
    refine j_iconst C (v := 0) d_ML_parts_5 (by decide) ?_
    refine j_goto C 16 d_ML_parts_6 (by decide) ?_
    obtain rfl := Option.some.inj h
    exact j_pret C hr d_ML_parts_16
def ML_red (p1 : Int32) : Option Int32 :=
  some ((p1 >>> ((16 : Int32) &&& 31)) &&& 255)
set_option maxRecDepth 100000 in
set_option maxHeartbeats 4000000 in
theorem c_ML_red (l : Launch) (D : va_G) (cI cR cZ : ClassId)  (p1 : Int32) {res : Int32} (h : ML_red p1 = some res) : Met l y_ML_red (Cond.code y_ML_red b_ML_red 1 (some .int) :: BIG) rm_ML_red (PcP [.int p1] D (tyG cI cR cZ) ([])) (QcP res) 0 0 no := by
  refine met_P (by decide) (Nat.le_of_ble_eq_true rfl) (fun p e s m args below meth c C hr => ?_)
  have C : Cx p s m args meth c D (tyG cI cR cZ) b_ML_red 1 "MaskLayers" := C
  have hr : meth.sig.returnType = some .int := hr
  show J p l e rm_ML_red s m args below meth c D no (fun _ => True) 1 (MQ below (QcP res) args s 0 0 no) 0 0 ([]) [(0, .int p1)] [] 0
  unfold ML_red at h
  refine j_iload_n C 0 d_ML_red_0 rfl ?_
  refine j_bipush C (v := 16) d_ML_red_1 (by decide) ?_
  refine j_ishr C d_ML_red_3 ?_
  refine j_sipush C (v := 255) d_ML_red_4 (by decide) ?_
  refine j_iand C d_ML_red_7 ?_
  obtain rfl := Option.some.inj h
  exact j_pret C hr d_ML_red_8
def ML_green (p1 : Int32) : Option Int32 :=
  some ((p1 >>> ((8 : Int32) &&& 31)) &&& 255)
set_option maxRecDepth 100000 in
set_option maxHeartbeats 4000000 in
theorem c_ML_green (l : Launch) (D : va_G) (cI cR cZ : ClassId)  (p1 : Int32) {res : Int32} (h : ML_green p1 = some res) : Met l y_ML_green (Cond.code y_ML_green b_ML_green 1 (some .int) :: BIG) rm_ML_green (PcP [.int p1] D (tyG cI cR cZ) ([])) (QcP res) 0 0 no := by
  refine met_P (by decide) (Nat.le_of_ble_eq_true rfl) (fun p e s m args below meth c C hr => ?_)
  have C : Cx p s m args meth c D (tyG cI cR cZ) b_ML_green 1 "MaskLayers" := C
  have hr : meth.sig.returnType = some .int := hr
  show J p l e rm_ML_green s m args below meth c D no (fun _ => True) 1 (MQ below (QcP res) args s 0 0 no) 0 0 ([]) [(0, .int p1)] [] 0
  unfold ML_green at h
  refine j_iload_n C 0 d_ML_green_0 rfl ?_
  refine j_bipush C (v := 8) d_ML_green_1 (by decide) ?_
  refine j_ishr C d_ML_green_3 ?_
  refine j_sipush C (v := 255) d_ML_green_4 (by decide) ?_
  refine j_iand C d_ML_green_7 ?_
  obtain rfl := Option.some.inj h
  exact j_pret C hr d_ML_green_8
def ML_blue (p1 : Int32) : Option Int32 :=
  some (p1 &&& 255)
set_option maxRecDepth 100000 in
set_option maxHeartbeats 4000000 in
theorem c_ML_blue (l : Launch) (D : va_G) (cI cR cZ : ClassId)  (p1 : Int32) {res : Int32} (h : ML_blue p1 = some res) : Met l y_ML_blue (Cond.code y_ML_blue b_ML_blue 1 (some .int) :: BIG) rm_ML_blue (PcP [.int p1] D (tyG cI cR cZ) ([])) (QcP res) 0 0 no := by
  refine met_P (by decide) (Nat.le_of_ble_eq_true rfl) (fun p e s m args below meth c C hr => ?_)
  have C : Cx p s m args meth c D (tyG cI cR cZ) b_ML_blue 1 "MaskLayers" := C
  have hr : meth.sig.returnType = some .int := hr
  show J p l e rm_ML_blue s m args below meth c D no (fun _ => True) 1 (MQ below (QcP res) args s 0 0 no) 0 0 ([]) [(0, .int p1)] [] 0
  unfold ML_blue at h
  refine j_iload_n C 0 d_ML_blue_0 rfl ?_
  refine j_sipush C (v := 255) d_ML_blue_1 (by decide) ?_
  refine j_iand C d_ML_blue_4 ?_
  obtain rfl := Option.some.inj h
  exact j_pret C hr d_ML_blue_5
def ML_colourOf (p1 : Int32) (p2 : Int32) (p3 : Int32) : Option Int32 :=
  some ((((p1 &&& 255) <<< ((16 : Int32) &&& 31)) ||| ((p2 &&& 255) <<< ((8 : Int32) &&& 31))) ||| (p3 &&& 255))
set_option maxRecDepth 100000 in
set_option maxHeartbeats 4000000 in
theorem c_ML_colourOf (l : Launch) (D : va_G) (cI cR cZ : ClassId)  (p1 : Int32) (p2 : Int32) (p3 : Int32) {res : Int32} (h : ML_colourOf p1 p2 p3 = some res) : Met l y_ML_colourOf (Cond.code y_ML_colourOf b_ML_colourOf 3 (some .int) :: BIG) rm_ML_colourOf (PcP [.int p1, .int p2, .int p3] D (tyG cI cR cZ) ([])) (QcP res) 0 0 no := by
  refine met_P (by decide) (Nat.le_of_ble_eq_true rfl) (fun p e s m args below meth c C hr => ?_)
  have C : Cx p s m args meth c D (tyG cI cR cZ) b_ML_colourOf 3 "MaskLayers" := C
  have hr : meth.sig.returnType = some .int := hr
  show J p l e rm_ML_colourOf s m args below meth c D no (fun _ => True) 3 (MQ below (QcP res) args s 0 0 no) 0 0 ([]) [(0, .int p1), (1, .int p2), (2, .int p3)] [] 0
  unfold ML_colourOf at h
  refine j_iload_n C 0 d_ML_colourOf_0 rfl ?_
  refine j_sipush C (v := 255) d_ML_colourOf_1 (by decide) ?_
  refine j_iand C d_ML_colourOf_4 ?_
  refine j_bipush C (v := 16) d_ML_colourOf_5 (by decide) ?_
  refine j_ishl C d_ML_colourOf_7 ?_
  refine j_iload_n C 1 d_ML_colourOf_8 rfl ?_
  refine j_sipush C (v := 255) d_ML_colourOf_9 (by decide) ?_
  refine j_iand C d_ML_colourOf_12 ?_
  refine j_bipush C (v := 8) d_ML_colourOf_13 (by decide) ?_
  refine j_ishl C d_ML_colourOf_15 ?_
  refine j_ior C d_ML_colourOf_16 ?_
  refine j_iload_n C 2 d_ML_colourOf_17 rfl ?_
  refine j_sipush C (v := 255) d_ML_colourOf_18 (by decide) ?_
  refine j_iand C d_ML_colourOf_21 ?_
  refine j_ior C d_ML_colourOf_22 ?_
  obtain rfl := Option.some.inj h
  exact j_pret C hr d_ML_colourOf_23
def ML_sum (p1 : Int32) (p2 : Int32) : Option Int32 :=
  (ML_red p1).bind fun r1 =>
  (ML_red p2).bind fun r2 =>
  (ML_green p1).bind fun r3 =>
  (ML_green p2).bind fun r4 =>
  (ML_blue p1).bind fun r5 =>
  (ML_blue p2).bind fun r6 =>
  (ML_colourOf (r1 + r2) (r3 + r4) (r5 + r6)).bind fun r7 =>
  some r7
set_option maxRecDepth 100000 in
set_option maxHeartbeats 4000000 in
theorem c_ML_sum (l : Launch) (D : va_G) (cI cR cZ : ClassId)  (p1 : Int32) (p2 : Int32) {res : Int32} (h : ML_sum p1 p2 = some res) : Met l y_ML_sum (Cond.code y_ML_sum b_ML_sum 2 (some .int) :: BIG) rm_ML_sum (PcP [.int p1, .int p2] D (tyG cI cR cZ) ([])) (QcP res) 0 0 no := by
  refine met_P (by decide) (Nat.le_of_ble_eq_true rfl) (fun p e s m args below meth c C hr => ?_)
  have C : Cx p s m args meth c D (tyG cI cR cZ) b_ML_sum 2 "MaskLayers" := C
  have hr : meth.sig.returnType = some .int := hr
  show J p l e rm_ML_sum s m args below meth c D no (fun _ => True) 2 (MQ below (QcP res) args s 0 0 no) 0 0 ([]) [(0, .int p1), (1, .int p2)] [] 0
  unfold ML_sum at h
  refine j_iload_n C 0 d_ML_sum_0 rfl ?_
  obtain ⟨r1, hr1, h⟩ := bd_ok h
  refine j_PS C [.int p1] (c_ML_red l D cI cR cZ p1 hr1) (cw_ML_206 C ⟨Nat.le_of_ble_eq_true rfl, Nat.le_of_ble_eq_true rfl⟩) [] rfl rfl rfl (Nat.le_of_ble_eq_true rfl) d_ML_sum_1 (by decide) ?_
  refine j_iload_n C 1 d_ML_sum_4 rfl ?_
  obtain ⟨r2, hr2, h⟩ := bd_ok h
  refine j_PS C [.int p2] (c_ML_red l D cI cR cZ p2 hr2) (cw_ML_206 C ⟨Nat.le_of_ble_eq_true rfl, Nat.le_of_ble_eq_true rfl⟩) [] rfl rfl rfl (Nat.le_of_ble_eq_true rfl) d_ML_sum_5 (by decide) ?_
  refine j_iadd C d_ML_sum_8 ?_
  refine j_iload_n C 0 d_ML_sum_9 rfl ?_
  obtain ⟨r3, hr3, h⟩ := bd_ok h
  refine j_PS C [.int p1] (c_ML_green l D cI cR cZ p1 hr3) (cw_ML_209 C ⟨Nat.le_of_ble_eq_true rfl, Nat.le_of_ble_eq_true rfl⟩) [] rfl rfl rfl (Nat.le_of_ble_eq_true rfl) d_ML_sum_10 (by decide) ?_
  refine j_iload_n C 1 d_ML_sum_13 rfl ?_
  obtain ⟨r4, hr4, h⟩ := bd_ok h
  refine j_PS C [.int p2] (c_ML_green l D cI cR cZ p2 hr4) (cw_ML_209 C ⟨Nat.le_of_ble_eq_true rfl, Nat.le_of_ble_eq_true rfl⟩) [] rfl rfl rfl (Nat.le_of_ble_eq_true rfl) d_ML_sum_14 (by decide) ?_
  refine j_iadd C d_ML_sum_17 ?_
  refine j_iload_n C 0 d_ML_sum_18 rfl ?_
  obtain ⟨r5, hr5, h⟩ := bd_ok h
  refine j_PS C [.int p1] (c_ML_blue l D cI cR cZ p1 hr5) (cw_ML_212 C ⟨Nat.le_of_ble_eq_true rfl, Nat.le_of_ble_eq_true rfl⟩) [] rfl rfl rfl (Nat.le_of_ble_eq_true rfl) d_ML_sum_19 (by decide) ?_
  refine j_iload_n C 1 d_ML_sum_22 rfl ?_
  obtain ⟨r6, hr6, h⟩ := bd_ok h
  refine j_PS C [.int p2] (c_ML_blue l D cI cR cZ p2 hr6) (cw_ML_212 C ⟨Nat.le_of_ble_eq_true rfl, Nat.le_of_ble_eq_true rfl⟩) [] rfl rfl rfl (Nat.le_of_ble_eq_true rfl) d_ML_sum_23 (by decide) ?_
  refine j_iadd C d_ML_sum_26 ?_
  obtain ⟨r7, hr7, h⟩ := bd_ok h
  refine j_PS C [.int (r1 + r2), .int (r3 + r4), .int (r5 + r6)] (c_ML_colourOf l D cI cR cZ (r1 + r2) (r3 + r4) (r5 + r6) hr7) (cw_ML_215 C ⟨Nat.le_of_ble_eq_true rfl, Nat.le_of_ble_eq_true rfl⟩) [] rfl rfl rfl (Nat.le_of_ble_eq_true rfl) d_ML_sum_27 (by decide) ?_
  obtain rfl := Option.some.inj h
  exact j_pret C hr d_ML_sum_30
def ML_difference (p1 : Int32) (p2 : Int32) : Option Int32 :=
  (ML_red p1).bind fun r1 =>
  (ML_red p2).bind fun r2 =>
  (ML_green p1).bind fun r3 =>
  (ML_green p2).bind fun r4 =>
  (ML_blue p1).bind fun r5 =>
  (ML_blue p2).bind fun r6 =>
  (ML_colourOf (r1 - r2) (r3 - r4) (r5 - r6)).bind fun r7 =>
  some r7
set_option maxRecDepth 100000 in
set_option maxHeartbeats 4000000 in
theorem c_ML_difference (l : Launch) (D : va_G) (cI cR cZ : ClassId)  (p1 : Int32) (p2 : Int32) {res : Int32} (h : ML_difference p1 p2 = some res) : Met l y_ML_difference (Cond.code y_ML_difference b_ML_difference 2 (some .int) :: BIG) rm_ML_difference (PcP [.int p1, .int p2] D (tyG cI cR cZ) ([])) (QcP res) 0 0 no := by
  refine met_P (by decide) (Nat.le_of_ble_eq_true rfl) (fun p e s m args below meth c C hr => ?_)
  have C : Cx p s m args meth c D (tyG cI cR cZ) b_ML_difference 2 "MaskLayers" := C
  have hr : meth.sig.returnType = some .int := hr
  show J p l e rm_ML_difference s m args below meth c D no (fun _ => True) 2 (MQ below (QcP res) args s 0 0 no) 0 0 ([]) [(0, .int p1), (1, .int p2)] [] 0
  unfold ML_difference at h
  refine j_iload_n C 0 d_ML_difference_0 rfl ?_
  obtain ⟨r1, hr1, h⟩ := bd_ok h
  refine j_PS C [.int p1] (c_ML_red l D cI cR cZ p1 hr1) (cw_ML_206 C ⟨Nat.le_of_ble_eq_true rfl, Nat.le_of_ble_eq_true rfl⟩) [] rfl rfl rfl (Nat.le_of_ble_eq_true rfl) d_ML_difference_1 (by decide) ?_
  refine j_iload_n C 1 d_ML_difference_4 rfl ?_
  obtain ⟨r2, hr2, h⟩ := bd_ok h
  refine j_PS C [.int p2] (c_ML_red l D cI cR cZ p2 hr2) (cw_ML_206 C ⟨Nat.le_of_ble_eq_true rfl, Nat.le_of_ble_eq_true rfl⟩) [] rfl rfl rfl (Nat.le_of_ble_eq_true rfl) d_ML_difference_5 (by decide) ?_
  refine j_isub C d_ML_difference_8 ?_
  refine j_iload_n C 0 d_ML_difference_9 rfl ?_
  obtain ⟨r3, hr3, h⟩ := bd_ok h
  refine j_PS C [.int p1] (c_ML_green l D cI cR cZ p1 hr3) (cw_ML_209 C ⟨Nat.le_of_ble_eq_true rfl, Nat.le_of_ble_eq_true rfl⟩) [] rfl rfl rfl (Nat.le_of_ble_eq_true rfl) d_ML_difference_10 (by decide) ?_
  refine j_iload_n C 1 d_ML_difference_13 rfl ?_
  obtain ⟨r4, hr4, h⟩ := bd_ok h
  refine j_PS C [.int p2] (c_ML_green l D cI cR cZ p2 hr4) (cw_ML_209 C ⟨Nat.le_of_ble_eq_true rfl, Nat.le_of_ble_eq_true rfl⟩) [] rfl rfl rfl (Nat.le_of_ble_eq_true rfl) d_ML_difference_14 (by decide) ?_
  refine j_isub C d_ML_difference_17 ?_
  refine j_iload_n C 0 d_ML_difference_18 rfl ?_
  obtain ⟨r5, hr5, h⟩ := bd_ok h
  refine j_PS C [.int p1] (c_ML_blue l D cI cR cZ p1 hr5) (cw_ML_212 C ⟨Nat.le_of_ble_eq_true rfl, Nat.le_of_ble_eq_true rfl⟩) [] rfl rfl rfl (Nat.le_of_ble_eq_true rfl) d_ML_difference_19 (by decide) ?_
  refine j_iload_n C 1 d_ML_difference_22 rfl ?_
  obtain ⟨r6, hr6, h⟩ := bd_ok h
  refine j_PS C [.int p2] (c_ML_blue l D cI cR cZ p2 hr6) (cw_ML_212 C ⟨Nat.le_of_ble_eq_true rfl, Nat.le_of_ble_eq_true rfl⟩) [] rfl rfl rfl (Nat.le_of_ble_eq_true rfl) d_ML_difference_23 (by decide) ?_
  refine j_isub C d_ML_difference_26 ?_
  obtain ⟨r7, hr7, h⟩ := bd_ok h
  refine j_PS C [.int (r1 - r2), .int (r3 - r4), .int (r5 - r6)] (c_ML_colourOf l D cI cR cZ (r1 - r2) (r3 - r4) (r5 - r6) hr7) (cw_ML_215 C ⟨Nat.le_of_ble_eq_true rfl, Nat.le_of_ble_eq_true rfl⟩) [] rfl rfl rfl (Nat.le_of_ble_eq_true rfl) d_ML_difference_27 (by decide) ?_
  obtain rfl := Option.some.inj h
  exact j_pret C hr d_ML_difference_30
def ML_middle (p1 : Int32) (p2 : Int32) : Option Int32 :=
  (ML_red p1).bind fun r1 =>
  (ML_red p2).bind fun r2 =>
  dz 2 ((ML_green p1).bind fun r4 =>
  (ML_green p2).bind fun r5 =>
  dz 2 ((ML_blue p1).bind fun r7 =>
  (ML_blue p2).bind fun r8 =>
  dz 2 ((ML_colourOf ((r1 + r2) / 2) ((r4 + r5) / 2) ((r7 + r8) / 2)).bind fun r10 =>
  some r10)))
set_option maxRecDepth 100000 in
set_option maxHeartbeats 4000000 in
theorem c_ML_middle (l : Launch) (D : va_G) (cI cR cZ : ClassId)  (p1 : Int32) (p2 : Int32) {res : Int32} (h : ML_middle p1 p2 = some res) : Met l y_ML_middle (Cond.code y_ML_middle b_ML_middle 2 (some .int) :: BIG) rm_ML_middle (PcP [.int p1, .int p2] D (tyG cI cR cZ) ([])) (QcP res) 0 0 no := by
  refine met_P (by decide) (Nat.le_of_ble_eq_true rfl) (fun p e s m args below meth c C hr => ?_)
  have C : Cx p s m args meth c D (tyG cI cR cZ) b_ML_middle 2 "MaskLayers" := C
  have hr : meth.sig.returnType = some .int := hr
  show J p l e rm_ML_middle s m args below meth c D no (fun _ => True) 2 (MQ below (QcP res) args s 0 0 no) 0 0 ([]) [(0, .int p1), (1, .int p2)] [] 0
  unfold ML_middle at h
  refine j_iload_n C 0 d_ML_middle_0 rfl ?_
  obtain ⟨r1, hr1, h⟩ := bd_ok h
  refine j_PS C [.int p1] (c_ML_red l D cI cR cZ p1 hr1) (cw_ML_206 C ⟨Nat.le_of_ble_eq_true rfl, Nat.le_of_ble_eq_true rfl⟩) [] rfl rfl rfl (Nat.le_of_ble_eq_true rfl) d_ML_middle_1 (by decide) ?_
  refine j_iload_n C 1 d_ML_middle_4 rfl ?_
  obtain ⟨r2, hr2, h⟩ := bd_ok h
  refine j_PS C [.int p2] (c_ML_red l D cI cR cZ p2 hr2) (cw_ML_206 C ⟨Nat.le_of_ble_eq_true rfl, Nat.le_of_ble_eq_true rfl⟩) [] rfl rfl rfl (Nat.le_of_ble_eq_true rfl) d_ML_middle_5 (by decide) ?_
  refine j_iadd C d_ML_middle_8 ?_
  refine j_iconst C (v := 2) d_ML_middle_9 (by decide) ?_
  obtain ⟨b3, h⟩ := dz_ok h
  refine j_idiv C d_ML_middle_10 b3 ?_
  refine j_iload_n C 0 d_ML_middle_11 rfl ?_
  obtain ⟨r4, hr4, h⟩ := bd_ok h
  refine j_PS C [.int p1] (c_ML_green l D cI cR cZ p1 hr4) (cw_ML_209 C ⟨Nat.le_of_ble_eq_true rfl, Nat.le_of_ble_eq_true rfl⟩) [] rfl rfl rfl (Nat.le_of_ble_eq_true rfl) d_ML_middle_12 (by decide) ?_
  refine j_iload_n C 1 d_ML_middle_15 rfl ?_
  obtain ⟨r5, hr5, h⟩ := bd_ok h
  refine j_PS C [.int p2] (c_ML_green l D cI cR cZ p2 hr5) (cw_ML_209 C ⟨Nat.le_of_ble_eq_true rfl, Nat.le_of_ble_eq_true rfl⟩) [] rfl rfl rfl (Nat.le_of_ble_eq_true rfl) d_ML_middle_16 (by decide) ?_
  refine j_iadd C d_ML_middle_19 ?_
  refine j_iconst C (v := 2) d_ML_middle_20 (by decide) ?_
  obtain ⟨b6, h⟩ := dz_ok h
  refine j_idiv C d_ML_middle_21 b6 ?_
  refine j_iload_n C 0 d_ML_middle_22 rfl ?_
  obtain ⟨r7, hr7, h⟩ := bd_ok h
  refine j_PS C [.int p1] (c_ML_blue l D cI cR cZ p1 hr7) (cw_ML_212 C ⟨Nat.le_of_ble_eq_true rfl, Nat.le_of_ble_eq_true rfl⟩) [] rfl rfl rfl (Nat.le_of_ble_eq_true rfl) d_ML_middle_23 (by decide) ?_
  refine j_iload_n C 1 d_ML_middle_26 rfl ?_
  obtain ⟨r8, hr8, h⟩ := bd_ok h
  refine j_PS C [.int p2] (c_ML_blue l D cI cR cZ p2 hr8) (cw_ML_212 C ⟨Nat.le_of_ble_eq_true rfl, Nat.le_of_ble_eq_true rfl⟩) [] rfl rfl rfl (Nat.le_of_ble_eq_true rfl) d_ML_middle_27 (by decide) ?_
  refine j_iadd C d_ML_middle_30 ?_
  refine j_iconst C (v := 2) d_ML_middle_31 (by decide) ?_
  obtain ⟨b9, h⟩ := dz_ok h
  refine j_idiv C d_ML_middle_32 b9 ?_
  obtain ⟨r10, hr10, h⟩ := bd_ok h
  refine j_PS C [.int ((r1 + r2) / 2), .int ((r4 + r5) / 2), .int ((r7 + r8) / 2)] (c_ML_colourOf l D cI cR cZ ((r1 + r2) / 2) ((r4 + r5) / 2) ((r7 + r8) / 2) hr10) (cw_ML_215 C ⟨Nat.le_of_ble_eq_true rfl, Nat.le_of_ble_eq_true rfl⟩) [] rfl rfl rfl (Nat.le_of_ble_eq_true rfl) d_ML_middle_33 (by decide) ?_
  obtain rfl := Option.some.inj h
  exact j_pret C hr d_ML_middle_36
def ML_mean (p1 : Int32) (p2 : Int32) : Option Int32 :=
  (if 1 ≤ p2 then dz (2 * p2) (some (((2 * p1) + p2) / (2 * p2)))
  else some 0)
set_option maxRecDepth 100000 in
set_option maxHeartbeats 4000000 in
theorem c_ML_mean (l : Launch) (D : va_G) (cI cR cZ : ClassId)  (p1 : Int32) (p2 : Int32) {res : Int32} (h : ML_mean p1 p2 = some res) : Met l y_ML_mean (Cond.code y_ML_mean b_ML_mean 2 (some .int) :: BIG) rm_ML_mean (PcP [.int p1, .int p2] D (tyG cI cR cZ) ([])) (QcP res) 0 0 no := by
  refine met_P (by decide) (Nat.le_of_ble_eq_true rfl) (fun p e s m args below meth c C hr => ?_)
  have C : Cx p s m args meth c D (tyG cI cR cZ) b_ML_mean 2 "MaskLayers" := C
  have hr : meth.sig.returnType = some .int := hr
  show J p l e rm_ML_mean s m args below meth c D no (fun _ => True) 2 (MQ below (QcP res) args s 0 0 no) 0 0 ([]) [(0, .int p1), (1, .int p2)] [] 0
  unfold ML_mean at h
  refine j_iload_n C 1 d_ML_mean_0 rfl ?_
  refine j_iconst C (v := 1) d_ML_mean_1 (by decide) ?_
  refine j_icmp_ge C 9 d_ML_mean_2 (by decide) (fun c2 => ?_) (fun c2 => ?_)
  · replace h := (if_pos c2).symm.trans h
    refine j_iconst C (v := 2) d_ML_mean_9 (by decide) ?_
    refine j_iload_n C 0 d_ML_mean_10 rfl ?_
    refine j_imul C d_ML_mean_11 ?_
    refine j_iload_n C 1 d_ML_mean_12 rfl ?_
    refine j_iadd C d_ML_mean_13 ?_
    refine j_iconst C (v := 2) d_ML_mean_14 (by decide) ?_
    refine j_iload_n C 1 d_ML_mean_15 rfl ?_
    refine j_imul C d_ML_mean_16 ?_
    obtain ⟨b1, h⟩ := dz_ok h
    refine j_idiv C d_ML_mean_17 b1 ?_
    obtain rfl := Option.some.inj h
    exact j_pret C hr d_ML_mean_18
  · replace h := (if_neg c2).symm.trans h
    refine j_iconst C (v := 0) d_ML_mean_5 (by decide) ?_
    refine j_goto C 18 d_ML_mean_6 (by decide) ?_
    obtain rfl := Option.some.inj h
    exact j_pret C hr d_ML_mean_18
def ML_plainBytes (p1 : Int32) (p2 : Int32) : Option Int32 :=
  (if p1 = 1 then (ML_parts p2 8).bind fun r1 =>
  some r1
  else some (3 * p2))
set_option maxRecDepth 100000 in
set_option maxHeartbeats 4000000 in
theorem c_ML_plainBytes (l : Launch) (D : va_G) (cI cR cZ : ClassId)  (p1 : Int32) (p2 : Int32) {res : Int32} (h : ML_plainBytes p1 p2 = some res) : Met l y_ML_plainBytes (Cond.code y_ML_plainBytes b_ML_plainBytes 2 (some .int) :: BIG) rm_ML_plainBytes (PcP [.int p1, .int p2] D (tyG cI cR cZ) ([])) (QcP res) 0 0 no := by
  refine met_P (by decide) (Nat.le_of_ble_eq_true rfl) (fun p e s m args below meth c C hr => ?_)
  have C : Cx p s m args meth c D (tyG cI cR cZ) b_ML_plainBytes 2 "MaskLayers" := C
  have hr : meth.sig.returnType = some .int := hr
  show J p l e rm_ML_plainBytes s m args below meth c D no (fun _ => True) 2 (MQ below (QcP res) args s 0 0 no) 0 0 ([]) [(0, .int p1), (1, .int p2)] [] 0
  unfold ML_plainBytes at h
  refine j_iload_n C 0 d_ML_plainBytes_0 rfl ?_
  refine j_iconst C (v := 1) d_ML_plainBytes_1 (by decide) ?_
  refine j_icmp_ne C 14 d_ML_plainBytes_2 (by decide) (fun c2 => ?_) (fun c2 => ?_)
  · replace h := (if_neg c2).symm.trans h
    refine j_iconst C (v := 3) d_ML_plainBytes_14 (by decide) ?_
    refine j_iload_n C 1 d_ML_plainBytes_15 rfl ?_
    refine j_imul C d_ML_plainBytes_16 ?_
    obtain rfl := Option.some.inj h
    exact j_pret C hr d_ML_plainBytes_17
  · replace h := (if_pos c2).symm.trans h
    refine j_iload_n C 1 d_ML_plainBytes_5 rfl ?_
    refine j_bipush C (v := 8) d_ML_plainBytes_6 (by decide) ?_
    obtain ⟨r1, hr1, h⟩ := bd_ok h
    refine j_PS C [.int p2, .int 8] (c_ML_parts l D cI cR cZ p2 8 hr1) (cw_ML_109 C ⟨Nat.le_of_ble_eq_true rfl, Nat.le_of_ble_eq_true rfl⟩) [] rfl rfl rfl (Nat.le_of_ble_eq_true rfl) d_ML_plainBytes_8 (by decide) ?_
    refine j_goto C 17 d_ML_plainBytes_11 (by decide) ?_
    obtain rfl := Option.some.inj h
    exact j_pret C hr d_ML_plainBytes_17
