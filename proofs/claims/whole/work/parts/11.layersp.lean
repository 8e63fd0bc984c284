def Layers_holdsStripe (n : Nat) (L : LyS) (p1 : Int32) : Option Int32 :=
  (if p1 < 0 then zb 0 (some 0)
  else (if 24 ≤ p1 then zb 0 (some 0)
  else zb 1 (some 1)))
set_option maxRecDepth 100000 in
set_option maxHeartbeats 4000000 in
theorem c_Layers_holdsStripe (l : Launch) (D : va_G) (cI cR cZ : ClassId) (a : (Nat → Nat)) (n : Nat) (L : LyS) (p1 : Int32) {res : Int32} (h : Layers_holdsStripe n L p1 = some res) : Met l y_Layers_holdsStripe (Cond.code y_Layers_holdsStripe b_Layers_holdsStripe 2 (some .boolean) :: BIG) rm_Layers_holdsStripe (PcP [.ref (a 0), .int p1] D (tyG cI cR cZ) (wLy cI cR a n L)) (QcP res) 0 0 no := by
  refine met_P (by decide) (Nat.le_of_ble_eq_true rfl) (fun p e s m args below meth c C hr => ?_)
  have C : Cx p s m args meth c D (tyG cI cR cZ) b_Layers_holdsStripe 2 "MaskLayers$Layers" := C
  have hr : meth.sig.returnType = some .boolean := hr
  show J p l e rm_Layers_holdsStripe s m args below meth c D no (fun _ => True) 2 (MQ below (QcP res) args s 0 0 no) 0 0 (wLy cI cR a n L) [(0, .ref (a 0)), (1, .int p1)] [] 0
  unfold Layers_holdsStripe at h
  refine j_iload_n C 1 d_Layers_holdsStripe_0 rfl ?_
  refine j_if_lt C 17 d_Layers_holdsStripe_1 (by decide) (fun c5 => ?_) (fun c5 => ?_)
  · replace h := (if_pos c5).symm.trans h
    refine j_iconst C (v := 0) d_Layers_holdsStripe_17 (by decide) ?_
    obtain ⟨b1, h⟩ := zb_ok h
    obtain rfl := Option.some.inj h
    exact j_pretZ C hr d_Layers_holdsStripe_18 b1
  · replace h := (if_neg c5).symm.trans h
    refine j_iload_n C 1 d_Layers_holdsStripe_4 rfl ?_
    refine j_aload_n C 0 d_Layers_holdsStripe_5 rfl ?_
    refine gf_Layers_16 C 0 (v := .ref (a 6)) rfl rfl d_Layers_holdsStripe_6 ?_
    refine j_alen C (6) (t0 := 0) (v := 24) rfl rfl rfl d_Layers_holdsStripe_9 ?_
    refine j_icmp_ge C 17 d_Layers_holdsStripe_10 (by decide) (fun c4 => ?_) (fun c4 => ?_)
    · replace h := (if_pos c4).symm.trans h
      refine j_iconst C (v := 0) d_Layers_holdsStripe_17 (by decide) ?_
      obtain ⟨b2, h⟩ := zb_ok h
      obtain rfl := Option.some.inj h
      exact j_pretZ C hr d_Layers_holdsStripe_18 b2
    · replace h := (if_neg c4).symm.trans h
      refine j_iconst C (v := 1) d_Layers_holdsStripe_13 (by decide) ?_
      refine j_goto C 18 d_Layers_holdsStripe_14 (by decide) ?_
      obtain ⟨b3, h⟩ := zb_ok h
      obtain rfl := Option.some.inj h
      exact j_pretZ C hr d_Layers_holdsStripe_18 b3
def Layers_has (n : Nat) (L : LyS) (p1 : Int32) (p2 : Int32) : Option Int32 :=
  (Layers_holdsStripe n L p1).bind fun r1 =>
  (if r1 = 0 then zb 0 (some 0)
  else gd p1 24 ((if (((L.2 4 p1.toNatClampNeg) >>> (p2 &&& 31)) &&& 1) = 1 then zb 1 (some 1)
  else zb 0 (some 0))))
set_option maxRecDepth 100000 in
set_option maxHeartbeats 4000000 in
theorem c_Layers_has (l : Launch) (D : va_G) (cI cR cZ : ClassId) (a : (Nat → Nat)) (n : Nat) (L : LyS) (p1 : Int32) (p2 : Int32) {res : Int32} (h : Layers_has n L p1 p2 = some res) : Met l y_Layers_has (Cond.code y_Layers_has b_Layers_has 3 (some .boolean) :: BIG) rm_Layers_has (PcP [.ref (a 0), .int p1, .int p2] D (tyG cI cR cZ) (wLy cI cR a n L)) (QcP res) 0 0 no := by
  refine met_P (by decide) (Nat.le_of_ble_eq_true rfl) (fun p e s m args below meth c C hr => ?_)
  have C : Cx p s m args meth c D (tyG cI cR cZ) b_Layers_has 3 "MaskLayers$Layers" := C
  have hr : meth.sig.returnType = some .boolean := hr
  show J p l e rm_Layers_has s m args below meth c D no (fun _ => True) 3 (MQ below (QcP res) args s 0 0 no) 0 0 (wLy cI cR a n L) [(0, .ref (a 0)), (1, .int p1), (2, .int p2)] [] 0
  unfold Layers_has at h
  refine j_aload_n C 0 d_Layers_has_0 rfl ?_
  refine j_iload_n C 1 d_Layers_has_1 rfl ?_
  obtain ⟨r1, hr1, h⟩ := bd_ok h
  refine j_PV C [.int p1] 0 rfl rfl (c_Layers_holdsStripe l D cI cR cZ a n L p1 hr1) (cw_Layers_45 C ⟨Nat.le_of_ble_eq_true rfl, Nat.le_of_ble_eq_true rfl⟩) [0, 1, 2, 3, 4, 5, 6] rfl rfl rfl (Nat.le_of_ble_eq_true rfl) d_Layers_has_2 (by decide) ?_
  refine j_if_eq C 26 d_Layers_has_5 (by decide) (fun c7 => ?_) (fun c7 => ?_)
  · replace h := (if_pos c7).symm.trans h
    refine j_iconst C (v := 0) d_Layers_has_26 (by decide) ?_
    obtain ⟨b2, h⟩ := zb_ok h
    obtain rfl := Option.some.inj h
    exact j_pretZ C hr d_Layers_has_27 b2
  · replace h := (if_neg c7).symm.trans h
    refine j_aload_n C 0 d_Layers_has_8 rfl ?_
    refine gf_Layers_16 C 0 (v := .ref (a 6)) rfl rfl d_Layers_has_9 ?_
    refine j_iload_n C 1 d_Layers_has_12 rfl ?_
    obtain ⟨b3, h⟩ := gd_ok h
    refine j_iald C (6) (t0 := 0) rfl rfl b3 d_Layers_has_13 ?_
    refine j_iload_n C 2 d_Layers_has_14 rfl ?_
    refine j_ishr C d_Layers_has_15 ?_
    refine j_iconst C (v := 1) d_Layers_has_16 (by decide) ?_
    refine j_iand C d_Layers_has_17 ?_
    refine j_iconst C (v := 1) d_Layers_has_18 (by decide) ?_
    refine j_icmp_ne C 26 d_Layers_has_19 (by decide) (fun c6 => ?_) (fun c6 => ?_)
    · replace h := (if_neg c6).symm.trans h
      refine j_iconst C (v := 0) d_Layers_has_26 (by decide) ?_
      obtain ⟨b4, h⟩ := zb_ok h
      obtain rfl := Option.some.inj h
      exact j_pretZ C hr d_Layers_has_27 b4
    · replace h := (if_pos c6).symm.trans h
      refine j_iconst C (v := 1) d_Layers_has_22 (by decide) ?_
      refine j_goto C 27 d_Layers_has_23 (by decide) ?_
      obtain ⟨b5, h⟩ := zb_ok h
      obtain rfl := Option.some.inj h
      exact j_pretZ C hr d_Layers_has_27 b5
def Layers_holdsPlace (n : Nat) (L : LyS) (p1 : Int32) (p2 : Int32) : Option Int32 :=
  (if p1 < 0 then zb 0 (some 0)
  else (if 4 ≤ p1 then zb 0 (some 0)
  else (if p2 < 0 then zb 0 (some 0)
  else gd p1 4 ((if (nI n) ≤ p2 then zb 0 (some 0)
  else zb 1 (some 1))))))
set_option maxRecDepth 100000 in
set_option maxHeartbeats 4000000 in
theorem c_Layers_holdsPlace (l : Launch) (D : va_G) (cI cR cZ : ClassId) (a : (Nat → Nat)) (n : Nat) (L : LyS) (p1 : Int32) (p2 : Int32) {res : Int32} (h : Layers_holdsPlace n L p1 p2 = some res) : Met l y_Layers_holdsPlace (Cond.code y_Layers_holdsPlace b_Layers_holdsPlace 3 (some .boolean) :: BIG) rm_Layers_holdsPlace (PcP [.ref (a 0), .int p1, .int p2] D (tyG cI cR cZ) (wLy cI cR a n L)) (QcP res) 0 0 no := by
  refine met_P (by decide) (Nat.le_of_ble_eq_true rfl) (fun p e s m args below meth c C hr => ?_)
  have C : Cx p s m args meth c D (tyG cI cR cZ) b_Layers_holdsPlace 3 "MaskLayers$Layers" := C
  have hr : meth.sig.returnType = some .boolean := hr
  show J p l e rm_Layers_holdsPlace s m args below meth c D no (fun _ => True) 3 (MQ below (QcP res) args s 0 0 no) 0 0 (wLy cI cR a n L) [(0, .ref (a 0)), (1, .int p1), (2, .int p2)] [] 0
  unfold Layers_holdsPlace at h
  refine j_iload_n C 1 d_Layers_holdsPlace_0 rfl ?_
  refine j_if_lt C 32 d_Layers_holdsPlace_1 (by decide) (fun c10 => ?_) (fun c10 => ?_)
  · replace h := (if_pos c10).symm.trans h
    refine j_iconst C (v := 0) d_Layers_holdsPlace_32 (by decide) ?_
    obtain ⟨b1, h⟩ := zb_ok h
    obtain rfl := Option.some.inj h
    exact j_pretZ C hr d_Layers_holdsPlace_33 b1
  · replace h := (if_neg c10).symm.trans h
    refine j_iload_n C 1 d_Layers_holdsPlace_4 rfl ?_
    refine j_aload_n C 0 d_Layers_holdsPlace_5 rfl ?_
    refine gf_Layers_11 C 0 (v := .ref (a 1)) rfl rfl d_Layers_holdsPlace_6 ?_
    refine j_alen C (1) (t0 := 2) (v := 4) rfl rfl rfl d_Layers_holdsPlace_9 ?_
    refine j_icmp_ge C 32 d_Layers_holdsPlace_10 (by decide) (fun c9 => ?_) (fun c9 => ?_)
    · replace h := (if_pos c9).symm.trans h
      refine j_iconst C (v := 0) d_Layers_holdsPlace_32 (by decide) ?_
      obtain ⟨b2, h⟩ := zb_ok h
      obtain rfl := Option.some.inj h
      exact j_pretZ C hr d_Layers_holdsPlace_33 b2
    · replace h := (if_neg c9).symm.trans h
      refine j_iload_n C 2 d_Layers_holdsPlace_13 rfl ?_
      refine j_if_lt C 32 d_Layers_holdsPlace_14 (by decide) (fun c8 => ?_) (fun c8 => ?_)
      · replace h := (if_pos c8).symm.trans h
        refine j_iconst C (v := 0) d_Layers_holdsPlace_32 (by decide) ?_
        obtain ⟨b3, h⟩ := zb_ok h
        obtain rfl := Option.some.inj h
        exact j_pretZ C hr d_Layers_holdsPlace_33 b3
      · replace h := (if_neg c8).symm.trans h
        refine j_iload_n C 2 d_Layers_holdsPlace_17 rfl ?_
        refine j_aload_n C 0 d_Layers_holdsPlace_18 rfl ?_
        refine gf_Layers_11 C 0 (v := .ref (a 1)) rfl rfl d_Layers_holdsPlace_19 ?_
        refine j_iload_n C 1 d_Layers_holdsPlace_22 rfl ?_
        obtain ⟨b4, h⟩ := gd_ok h
        refine j_aald C 1 (t0 := 2) rfl rfl b4 d_Layers_holdsPlace_23 ?_
        refine j_alen C (2 + p1.toNatClampNeg) (t0 := 0) (v := nI n) (co_4 (P := fun k => (wLy cI cR a n L)[2 + k]? = some (a (2 + k), .inl (cI, n, .inl (L.2 k)))) rfl rfl rfl rfl (in_lt b4)) rfl rfl d_Layers_holdsPlace_24 ?_
        refine j_icmp_ge C 32 d_Layers_holdsPlace_25 (by decide) (fun c7 => ?_) (fun c7 => ?_)
        · replace h := (if_pos c7).symm.trans h
          refine j_iconst C (v := 0) d_Layers_holdsPlace_32 (by decide) ?_
          obtain ⟨b5, h⟩ := zb_ok h
          obtain rfl := Option.some.inj h
          exact j_pretZ C hr d_Layers_holdsPlace_33 b5
        · replace h := (if_neg c7).symm.trans h
          refine j_iconst C (v := 1) d_Layers_holdsPlace_28 (by decide) ?_
          refine j_goto C 33 d_Layers_holdsPlace_29 (by decide) ?_
          obtain ⟨b6, h⟩ := zb_ok h
          obtain rfl := Option.some.inj h
          exact j_pretZ C hr d_Layers_holdsPlace_33 b6
def Layers_value (n : Nat) (L : LyS) (p1 : Int32) (p2 : Int32) : Option Int32 :=
  (Layers_holdsPlace n L p1 p2).bind fun r1 =>
  (if r1 = 0 then some ((-1))
  else gd p1 4 (gd p2 n (some (L.2 p1.toNatClampNeg p2.toNatClampNeg))))
set_option maxRecDepth 100000 in
set_option maxHeartbeats 4000000 in
theorem c_Layers_value (l : Launch) (D : va_G) (cI cR cZ : ClassId) (a : (Nat → Nat)) (n : Nat) (L : LyS) (p1 : Int32) (p2 : Int32) {res : Int32} (h : Layers_value n L p1 p2 = some res) : Met l y_Layers_value (Cond.code y_Layers_value b_Layers_value 3 (some .int) :: BIG) rm_Layers_value (PcP [.ref (a 0), .int p1, .int p2] D (tyG cI cR cZ) (wLy cI cR a n L)) (QcP res) 0 0 no := by
  refine met_P (by decide) (Nat.le_of_ble_eq_true rfl) (fun p e s m args below meth c C hr => ?_)
  have C : Cx p s m args meth c D (tyG cI cR cZ) b_Layers_value 3 "MaskLayers$Layers" := C
  have hr : meth.sig.returnType = some .int := hr
  show J p l e rm_Layers_value s m args below meth c D no (fun _ => True) 3 (MQ below (QcP res) args s 0 0 no) 0 0 (wLy cI cR a n L) [(0, .ref (a 0)), (1, .int p1), (2, .int p2)] [] 0
  unfold Layers_value at h
  refine j_aload_n C 0 d_Layers_value_0 rfl ?_
  refine j_iload_n C 1 d_Layers_value_1 rfl ?_
  refine j_iload_n C 2 d_Layers_value_2 rfl ?_
  obtain ⟨r1, hr1, h⟩ := bd_ok h
  refine j_PV C [.int p1, .int p2] 0 rfl rfl (c_Layers_holdsPlace l D cI cR cZ a n L p1 p2 hr1) (cw_Layers_49 C ⟨Nat.le_of_ble_eq_true rfl, Nat.le_of_ble_eq_true rfl⟩) [0, 1, 2, 3, 4, 5, 6] rfl rfl rfl (Nat.le_of_ble_eq_true rfl) d_Layers_value_3 (by decide) ?_
  refine j_if_eq C 20 d_Layers_value_6 (by decide) (fun c4 => ?_) (fun c4 => ?_)
  · replace h := (if_pos c4).symm.trans h
    refine j_iconst C (v := (-1)) d_Layers_value_20 (by decide) ?_
    obtain rfl := Option.some.inj h
    exact j_pret C hr d_Layers_value_21
  · replace h := (if_neg c4).symm.trans h
    refine j_aload_n C 0 d_Layers_value_9 rfl ?_
    refine gf_Layers_11 C 0 (v := .ref (a 1)) rfl rfl d_Layers_value_10 ?_
    refine j_iload_n C 1 d_Layers_value_13 rfl ?_
    obtain ⟨b2, h⟩ := gd_ok h
    refine j_aald C 1 (t0 := 2) rfl rfl b2 d_Layers_value_14 ?_
    refine j_iload_n C 2 d_Layers_value_15 rfl ?_
    obtain ⟨b3, h⟩ := gd_ok h
    refine j_iald C (2 + p1.toNatClampNeg) (t0 := 0) (co_4 (P := fun k => (wLy cI cR a n L)[2 + k]? = some (a (2 + k), .inl (cI, n, .inl (L.2 k)))) rfl rfl rfl rfl (in_lt b2)) rfl b3 d_Layers_value_16 ?_
    refine j_goto C 21 d_Layers_value_17 (by decide) ?_
    obtain rfl := Option.some.inj h
    exact j_pret C hr d_Layers_value_21
def Layers_hasSample (n : Nat) (L : LyS) (p1 : Int32) (p2 : Int32) : Option Int32 :=
  (if p1 < 0 then zb 0 (some 0)
  else (if (L.1 0) ≤ p1 then zb 0 (some 0)
  else (if p2 < 0 then zb 0 (some 0)
  else (if (L.1 1) ≤ p2 then zb 0 (some 0)
  else zb 1 (some 1)))))
set_option maxRecDepth 100000 in
set_option maxHeartbeats 4000000 in
theorem c_Layers_hasSample (l : Launch) (D : va_G) (cI cR cZ : ClassId) (a : (Nat → Nat)) (n : Nat) (L : LyS) (p1 : Int32) (p2 : Int32) {res : Int32} (h : Layers_hasSample n L p1 p2 = some res) : Met l y_Layers_hasSample (Cond.code y_Layers_hasSample b_Layers_hasSample 3 (some .boolean) :: BIG) rm_Layers_hasSample (PcP [.ref (a 0), .int p1, .int p2] D (tyG cI cR cZ) (wLy cI cR a n L)) (QcP res) 0 0 no := by
  refine met_P (by decide) (Nat.le_of_ble_eq_true rfl) (fun p e s m args below meth c C hr => ?_)
  have C : Cx p s m args meth c D (tyG cI cR cZ) b_Layers_hasSample 3 "MaskLayers$Layers" := C
  have hr : meth.sig.returnType = some .boolean := hr
  show J p l e rm_Layers_hasSample s m args below meth c D no (fun _ => True) 3 (MQ below (QcP res) args s 0 0 no) 0 0 (wLy cI cR a n L) [(0, .ref (a 0)), (1, .int p1), (2, .int p2)] [] 0
  unfold Layers_hasSample at h
  refine j_iload_n C 1 d_Layers_hasSample_0 rfl ?_
  refine j_if_lt C 28 d_Layers_hasSample_1 (by decide) (fun c9 => ?_) (fun c9 => ?_)
  · replace h := (if_pos c9).symm.trans h
    refine j_iconst C (v := 0) d_Layers_hasSample_28 (by decide) ?_
    obtain ⟨b1, h⟩ := zb_ok h
    obtain rfl := Option.some.inj h
    exact j_pretZ C hr d_Layers_hasSample_29 b1
  · replace h := (if_neg c9).symm.trans h
    refine j_iload_n C 1 d_Layers_hasSample_4 rfl ?_
    refine j_aload_n C 0 d_Layers_hasSample_5 rfl ?_
    refine gf_Layers_30 C 0 (v := .int (L.1 0)) rfl rfl d_Layers_hasSample_6 ?_
    refine j_icmp_ge C 28 d_Layers_hasSample_9 (by decide) (fun c8 => ?_) (fun c8 => ?_)
    · replace h := (if_pos c8).symm.trans h
      refine j_iconst C (v := 0) d_Layers_hasSample_28 (by decide) ?_
      obtain ⟨b2, h⟩ := zb_ok h
      obtain rfl := Option.some.inj h
      exact j_pretZ C hr d_Layers_hasSample_29 b2
    · replace h := (if_neg c8).symm.trans h
      refine j_iload_n C 2 d_Layers_hasSample_12 rfl ?_
      refine j_if_lt C 28 d_Layers_hasSample_13 (by decide) (fun c7 => ?_) (fun c7 => ?_)
      · replace h := (if_pos c7).symm.trans h
        refine j_iconst C (v := 0) d_Layers_hasSample_28 (by decide) ?_
        obtain ⟨b3, h⟩ := zb_ok h
        obtain rfl := Option.some.inj h
        exact j_pretZ C hr d_Layers_hasSample_29 b3
      · replace h := (if_neg c7).symm.trans h
        refine j_iload_n C 2 d_Layers_hasSample_16 rfl ?_
        refine j_aload_n C 0 d_Layers_hasSample_17 rfl ?_
        refine gf_Layers_33 C 0 (v := .int (L.1 1)) rfl rfl d_Layers_hasSample_18 ?_
        refine j_icmp_ge C 28 d_Layers_hasSample_21 (by decide) (fun c6 => ?_) (fun c6 => ?_)
        · replace h := (if_pos c6).symm.trans h
          refine j_iconst C (v := 0) d_Layers_hasSample_28 (by decide) ?_
          obtain ⟨b4, h⟩ := zb_ok h
          obtain rfl := Option.some.inj h
          exact j_pretZ C hr d_Layers_hasSample_29 b4
        · replace h := (if_neg c6).symm.trans h
          refine j_iconst C (v := 1) d_Layers_hasSample_24 (by decide) ?_
          refine j_goto C 29 d_Layers_hasSample_25 (by decide) ?_
          obtain ⟨b5, h⟩ := zb_ok h
          obtain rfl := Option.some.inj h
          exact j_pretZ C hr d_Layers_hasSample_29 b5
def Layers_stripes (n : Nat) (L : LyS) : Option Int32 :=
  (ML_parts (L.1 1) (L.1 2)).bind fun r1 =>
  some r1
set_option maxRecDepth 100000 in
set_option maxHeartbeats 4000000 in
theorem c_Layers_stripes (l : Launch) (D : va_G) (cI cR cZ : ClassId) (a : (Nat → Nat)) (n : Nat) (L : LyS) {res : Int32} (h : Layers_stripes n L = some res) : Met l y_Layers_stripes (Cond.code y_Layers_stripes b_Layers_stripes 1 (some .int) :: BIG) rm_Layers_stripes (PcP [.ref (a 0)] D (tyG cI cR cZ) (wLy cI cR a n L)) (QcP res) 0 0 no := by
  refine met_P (by decide) (Nat.le_of_ble_eq_true rfl) (fun p e s m args below meth c C hr => ?_)
  have C : Cx p s m args meth c D (tyG cI cR cZ) b_Layers_stripes 1 "MaskLayers$Layers" := C
  have hr : meth.sig.returnType = some .int := hr
  show J p l e rm_Layers_stripes s m args below meth c D no (fun _ => True) 1 (MQ below (QcP res) args s 0 0 no) 0 0 (wLy cI cR a n L) [(0, .ref (a 0))] [] 0
  unfold Layers_stripes at h
  refine j_aload_n C 0 d_Layers_stripes_0 rfl ?_
  refine gf_Layers_33 C 0 (v := .int (L.1 1)) rfl rfl d_Layers_stripes_1 ?_
  refine j_aload_n C 0 d_Layers_stripes_4 rfl ?_
  refine gf_Layers_36 C 0 (v := .int (L.1 2)) rfl rfl d_Layers_stripes_5 ?_
  obtain ⟨r1, hr1, h⟩ := bd_ok h
  refine j_PSN C [.int (L.1 1), .int (L.1 2)] (c_ML_parts l D cI cR cZ (L.1 1) (L.1 2) hr1) (cw_Layers_53 C ⟨Nat.le_of_ble_eq_true rfl, Nat.le_of_ble_eq_true rfl⟩) [] rfl rfl rfl (Nat.le_of_ble_eq_true rfl) d_Layers_stripes_8 (by decide) ?_
  obtain rfl := Option.some.inj h
  exact j_pret C hr d_Layers_stripes_11
def Layers_stripeOf (n : Nat) (L : LyS) (p1 : Int32) : Option Int32 :=
  (if 1 ≤ (L.1 2) then dz (L.1 2) (some (p1 / (L.1 2)))
  else some 0)
set_option maxRecDepth 100000 in
set_option maxHeartbeats 4000000 in
theorem c_Layers_stripeOf (l : Launch) (D : va_G) (cI cR cZ : ClassId) (a : (Nat → Nat)) (n : Nat) (L : LyS) (p1 : Int32) {res : Int32} (h : Layers_stripeOf n L p1 = some res) : Met l y_Layers_stripeOf (Cond.code y_Layers_stripeOf b_Layers_stripeOf 2 (some .int) :: BIG) rm_Layers_stripeOf (PcP [.ref (a 0), .int p1] D (tyG cI cR cZ) (wLy cI cR a n L)) (QcP res) 0 0 no := by
  refine met_P (by decide) (Nat.le_of_ble_eq_true rfl) (fun p e s m args below meth c C hr => ?_)
  have C : Cx p s m args meth c D (tyG cI cR cZ) b_Layers_stripeOf 2 "MaskLayers$Layers" := C
  have hr : meth.sig.returnType = some .int := hr
  show J p l e rm_Layers_stripeOf s m args below meth c D no (fun _ => True) 2 (MQ below (QcP res) args s 0 0 no) 0 0 (wLy cI cR a n L) [(0, .ref (a 0)), (1, .int p1)] [] 0
  unfold Layers_stripeOf at h
  refine j_aload_n C 0 d_Layers_stripeOf_0 rfl ?_
  refine gf_Layers_36 C 0 (v := .int (L.1 2)) rfl rfl d_Layers_stripeOf_1 ?_
  refine j_iconst C (v := 1) d_Layers_stripeOf_4 (by decide) ?_
  refine j_icmp_ge C 12 d_Layers_stripeOf_5 (by decide) (fun c2 => ?_) (fun c2 => ?_)
  · replace h := (if_pos c2).symm.trans h
    refine j_iload_n C 1 d_Layers_stripeOf_12 rfl ?_
    refine j_aload_n C 0 d_Layers_stripeOf_13 rfl ?_
    refine gf_Layers_36 C 0 (v := .int (L.1 2)) rfl rfl d_Layers_stripeOf_14 ?_
    obtain ⟨b1, h⟩ := dz_ok h
    refine j_idiv C d_Layers_stripeOf_17 b1 ?_
    obtain rfl := Option.some.inj h
    exact j_pret C hr d_Layers_stripeOf_18
  · replace h := (if_neg c2).symm.trans h
    refine j_iconst C (v := 0) d_Layers_stripeOf_8 (by decide) ?_
    refine j_goto C 18 d_Layers_stripeOf_9 (by decide) ?_
    obtain rfl := Option.some.inj h
    exact j_pret C hr d_Layers_stripeOf_18
def Layers_topOf (n : Nat) (L : LyS) (p1 : Int32) : Option Int32 :=
  some (p1 * (L.1 2))
set_option maxRecDepth 100000 in
set_option maxHeartbeats 4000000 in
theorem c_Layers_topOf (l : Launch) (D : va_G) (cI cR cZ : ClassId) (a : (Nat → Nat)) (n : Nat) (L : LyS) (p1 : Int32) {res : Int32} (h : Layers_topOf n L p1 = some res) : Met l y_Layers_topOf (Cond.code y_Layers_topOf b_Layers_topOf 2 (some .int) :: BIG) rm_Layers_topOf (PcP [.ref (a 0), .int p1] D (tyG cI cR cZ) (wLy cI cR a n L)) (QcP res) 0 0 no := by
  refine met_P (by decide) (Nat.le_of_ble_eq_true rfl) (fun p e s m args below meth c C hr => ?_)
  have C : Cx p s m args meth c D (tyG cI cR cZ) b_Layers_topOf 2 "MaskLayers$Layers" := C
  have hr : meth.sig.returnType = some .int := hr
  show J p l e rm_Layers_topOf s m args below meth c D no (fun _ => True) 2 (MQ below (QcP res) args s 0 0 no) 0 0 (wLy cI cR a n L) [(0, .ref (a 0)), (1, .int p1)] [] 0
  unfold Layers_topOf at h
  refine j_iload_n C 1 d_Layers_topOf_0 rfl ?_
  refine j_aload_n C 0 d_Layers_topOf_1 rfl ?_
  refine gf_Layers_36 C 0 (v := .int (L.1 2)) rfl rfl d_Layers_topOf_2 ?_
  refine j_imul C d_Layers_topOf_5 ?_
  obtain rfl := Option.some.inj h
  exact j_pret C hr d_Layers_topOf_6
def Layers_bottomOf (n : Nat) (L : LyS) (p1 : Int32) : Option Int32 :=
  some (mn ((p1 * (L.1 2)) + (L.1 2)) (L.1 1))
set_option maxRecDepth 100000 in
set_option maxHeartbeats 4000000 in
theorem c_Layers_bottomOf (l : Launch) (D : va_G) (cI cR cZ : ClassId) (a : (Nat → Nat)) (n : Nat) (L : LyS) (p1 : Int32) {res : Int32} (h : Layers_bottomOf n L p1 = some res) : Met l y_Layers_bottomOf (Cond.code y_Layers_bottomOf b_Layers_bottomOf 2 (some .int) :: BIG) rm_Layers_bottomOf (PcP [.ref (a 0), .int p1] D (tyG cI cR cZ) (wLy cI cR a n L)) (QcP res) 0 0 no := by
  refine met_P (by decide) (Nat.le_of_ble_eq_true rfl) (fun p e s m args below meth c C hr => ?_)
  have C : Cx p s m args meth c D (tyG cI cR cZ) b_Layers_bottomOf 2 "MaskLayers$Layers" := C
  have hr : meth.sig.returnType = some .int := hr
  show J p l e rm_Layers_bottomOf s m args below meth c D no (fun _ => True) 2 (MQ below (QcP res) args s 0 0 no) 0 0 (wLy cI cR a n L) [(0, .ref (a 0)), (1, .int p1)] [] 0
  unfold Layers_bottomOf at h
  refine j_iload_n C 1 d_Layers_bottomOf_0 rfl ?_
  refine j_aload_n C 0 d_Layers_bottomOf_1 rfl ?_
  refine gf_Layers_36 C 0 (v := .int (L.1 2)) rfl rfl d_Layers_bottomOf_2 ?_
  refine j_imul C d_Layers_bottomOf_5 ?_
  refine j_aload_n C 0 d_Layers_bottomOf_6 rfl ?_
  refine gf_Layers_36 C 0 (v := .int (L.1 2)) rfl rfl d_Layers_bottomOf_7 ?_
  refine j_iadd C d_Layers_bottomOf_10 ?_
  refine j_aload_n C 0 d_Layers_bottomOf_11 rfl ?_
  refine gf_Layers_33 C 0 (v := .int (L.1 1)) rfl rfl d_Layers_bottomOf_12 ?_
  refine j_mmin C mw_Layers_57 (Nat.le_of_ble_eq_true rfl) (Nat.le_of_ble_eq_true rfl) (by decide) d_Layers_bottomOf_15 ?_
  obtain rfl := Option.some.inj h
  exact j_pret C hr d_Layers_bottomOf_18
def Layers_scaleOf (n : Nat) (L : LyS) (p1 : Int32) : Option Int32 :=
  (if p1 = 2 then some (L.1 4)
  else (if p1 = 0 then some (L.1 5)
  else some 1))
set_option maxRecDepth 100000 in
set_option maxHeartbeats 4000000 in
theorem c_Layers_scaleOf (l : Launch) (D : va_G) (cI cR cZ : ClassId) (a : (Nat → Nat)) (n : Nat) (L : LyS) (p1 : Int32) {res : Int32} (h : Layers_scaleOf n L p1 = some res) : Met l y_Layers_scaleOf (Cond.code y_Layers_scaleOf b_Layers_scaleOf 2 (some .int) :: BIG) rm_Layers_scaleOf (PcP [.ref (a 0), .int p1] D (tyG cI cR cZ) (wLy cI cR a n L)) (QcP res) 0 0 no := by
  refine met_P (by decide) (Nat.le_of_ble_eq_true rfl) (fun p e s m args below meth c C hr => ?_)
  have C : Cx p s m args meth c D (tyG cI cR cZ) b_Layers_scaleOf 2 "MaskLayers$Layers" := C
  have hr : meth.sig.returnType = some .int := hr
  show J p l e rm_Layers_scaleOf s m args below meth c D no (fun _ => True) 2 (MQ below (QcP res) args s 0 0 no) 0 0 (wLy cI cR a n L) [(0, .ref (a 0)), (1, .int p1)] [] 0
  unfold Layers_scaleOf at h
  refine j_iload_n C 1 d_Layers_scaleOf_0 rfl ?_
  refine j_iconst C (v := 2) d_Layers_scaleOf_1 (by decide) ?_
  refine j_icmp_ne C 12 d_Layers_scaleOf_2 (by decide) (fun c2 => ?_) (fun c2 => ?_)
  · replace h := (if_neg c2).symm.trans h
    refine j_iload_n C 1 d_Layers_scaleOf_12 rfl ?_
    refine j_if_ne C 23 d_Layers_scaleOf_13 (by decide) (fun c1 => ?_) (fun c1 => ?_)
    · replace h := (if_neg c1).symm.trans h
      refine j_iconst C (v := 1) d_Layers_scaleOf_23 (by decide) ?_
      obtain rfl := Option.some.inj h
      exact j_pret C hr d_Layers_scaleOf_24
    · replace h := (if_pos c1).symm.trans h
      refine j_aload_n C 0 d_Layers_scaleOf_16 rfl ?_
      refine gf_Layers_42 C 0 (v := .int (L.1 5)) rfl rfl d_Layers_scaleOf_17 ?_
      refine j_goto C 24 d_Layers_scaleOf_20 (by decide) ?_
      obtain rfl := Option.some.inj h
      exact j_pret C hr d_Layers_scaleOf_24
  · replace h := (if_pos c2).symm.trans h
    refine j_aload_n C 0 d_Layers_scaleOf_5 rfl ?_
    refine gf_Layers_39 C 0 (v := .int (L.1 4)) rfl rfl d_Layers_scaleOf_6 ?_
    refine j_goto C 24 d_Layers_scaleOf_9 (by decide) ?_
    obtain rfl := Option.some.inj h
    exact j_pret C hr d_Layers_scaleOf_24
def Layers_columnsOf (n : Nat) (L : LyS) (p1 : Int32) : Option Int32 :=
  (Layers_scaleOf n L p1).bind fun r1 =>
  (ML_parts (L.1 0) r1).bind fun r2 =>
  some r2
set_option maxRecDepth 100000 in
set_option maxHeartbeats 4000000 in
theorem c_Layers_columnsOf (l : Launch) (D : va_G) (cI cR cZ : ClassId) (a : (Nat → Nat)) (n : Nat) (L : LyS) (p1 : Int32) {res : Int32} (h : Layers_columnsOf n L p1 = some res) : Met l y_Layers_columnsOf (Cond.code y_Layers_columnsOf b_Layers_columnsOf 2 (some .int) :: BIG) rm_Layers_columnsOf (PcP [.ref (a 0), .int p1] D (tyG cI cR cZ) (wLy cI cR a n L)) (QcP res) 0 0 no := by
  refine met_P (by decide) (Nat.le_of_ble_eq_true rfl) (fun p e s m args below meth c C hr => ?_)
  have C : Cx p s m args meth c D (tyG cI cR cZ) b_Layers_columnsOf 2 "MaskLayers$Layers" := C
  have hr : meth.sig.returnType = some .int := hr
  show J p l e rm_Layers_columnsOf s m args below meth c D no (fun _ => True) 2 (MQ below (QcP res) args s 0 0 no) 0 0 (wLy cI cR a n L) [(0, .ref (a 0)), (1, .int p1)] [] 0
  unfold Layers_columnsOf at h
  refine j_aload_n C 0 d_Layers_columnsOf_0 rfl ?_
  refine gf_Layers_30 C 0 (v := .int (L.1 0)) rfl rfl d_Layers_columnsOf_1 ?_
  refine j_aload_n C 0 d_Layers_columnsOf_4 rfl ?_
  refine j_iload_n C 1 d_Layers_columnsOf_5 rfl ?_
  obtain ⟨r1, hr1, h⟩ := bd_ok h
  refine j_PV C [.int p1] 0 rfl rfl (c_Layers_scaleOf l D cI cR cZ a n L p1 hr1) (cw_Layers_62 C ⟨Nat.le_of_ble_eq_true rfl, Nat.le_of_ble_eq_true rfl⟩) [0, 1, 2, 3, 4, 5, 6] rfl rfl rfl (Nat.le_of_ble_eq_true rfl) d_Layers_columnsOf_6 (by decide) ?_
  obtain ⟨r2, hr2, h⟩ := bd_ok h
  refine j_PSN C [.int (L.1 0), .int r1] (c_ML_parts l D cI cR cZ (L.1 0) r1 hr2) (cw_Layers_53 C ⟨Nat.le_of_ble_eq_true rfl, Nat.le_of_ble_eq_true rfl⟩) [] rfl rfl rfl (Nat.le_of_ble_eq_true rfl) d_Layers_columnsOf_9 (by decide) ?_
  obtain rfl := Option.some.inj h
  exact j_pret C hr d_Layers_columnsOf_12
def Layers_rowsOf (n : Nat) (L : LyS) (p1 : Int32) (p2 : Int32) : Option Int32 :=
  (Layers_bottomOf n L p1).bind fun r1 =>
  (Layers_topOf n L p1).bind fun r2 =>
  (Layers_scaleOf n L p2).bind fun r3 =>
  (ML_parts (r1 - r2) r3).bind fun r4 =>
  some r4
set_option maxRecDepth 100000 in
set_option maxHeartbeats 4000000 in
theorem c_Layers_rowsOf (l : Launch) (D : va_G) (cI cR cZ : ClassId) (a : (Nat → Nat)) (n : Nat) (L : LyS) (p1 : Int32) (p2 : Int32) {res : Int32} (h : Layers_rowsOf n L p1 p2 = some res) : Met l y_Layers_rowsOf (Cond.code y_Layers_rowsOf b_Layers_rowsOf 3 (some .int) :: BIG) rm_Layers_rowsOf (PcP [.ref (a 0), .int p1, .int p2] D (tyG cI cR cZ) (wLy cI cR a n L)) (QcP res) 0 0 no := by
  refine met_P (by decide) (Nat.le_of_ble_eq_true rfl) (fun p e s m args below meth c C hr => ?_)
  have C : Cx p s m args meth c D (tyG cI cR cZ) b_Layers_rowsOf 3 "MaskLayers$Layers" := C
  have hr : meth.sig.returnType = some .int := hr
  show J p l e rm_Layers_rowsOf s m args below meth c D no (fun _ => True) 3 (MQ below (QcP res) args s 0 0 no) 0 0 (wLy cI cR a n L) [(0, .ref (a 0)), (1, .int p1), (2, .int p2)] [] 0
  unfold Layers_rowsOf at h
  refine j_aload_n C 0 d_Layers_rowsOf_0 rfl ?_
  refine j_iload_n C 1 d_Layers_rowsOf_1 rfl ?_
  obtain ⟨r1, hr1, h⟩ := bd_ok h
  refine j_PV C [.int p1] 0 rfl rfl (c_Layers_bottomOf l D cI cR cZ a n L p1 hr1) (cw_Layers_66 C ⟨Nat.le_of_ble_eq_true rfl, Nat.le_of_ble_eq_true rfl⟩) [0, 1, 2, 3, 4, 5, 6] rfl rfl rfl (Nat.le_of_ble_eq_true rfl) d_Layers_rowsOf_2 (by decide) ?_
  refine j_aload_n C 0 d_Layers_rowsOf_5 rfl ?_
  refine j_iload_n C 1 d_Layers_rowsOf_6 rfl ?_
  obtain ⟨r2, hr2, h⟩ := bd_ok h
  refine j_PV C [.int p1] 0 rfl rfl (c_Layers_topOf l D cI cR cZ a n L p1 hr2) (cw_Layers_69 C ⟨Nat.le_of_ble_eq_true rfl, Nat.le_of_ble_eq_true rfl⟩) [0, 1, 2, 3, 4, 5, 6] rfl rfl rfl (Nat.le_of_ble_eq_true rfl) d_Layers_rowsOf_7 (by decide) ?_
  refine j_isub C d_Layers_rowsOf_10 ?_
  refine j_aload_n C 0 d_Layers_rowsOf_11 rfl ?_
  refine j_iload_n C 2 d_Layers_rowsOf_12 rfl ?_
  obtain ⟨r3, hr3, h⟩ := bd_ok h
  refine j_PV C [.int p2] 0 rfl rfl (c_Layers_scaleOf l D cI cR cZ a n L p2 hr3) (cw_Layers_62 C ⟨Nat.le_of_ble_eq_true rfl, Nat.le_of_ble_eq_true rfl⟩) [0, 1, 2, 3, 4, 5, 6] rfl rfl rfl (Nat.le_of_ble_eq_true rfl) d_Layers_rowsOf_13 (by decide) ?_
  obtain ⟨r4, hr4, h⟩ := bd_ok h
  refine j_PSN C [.int (r1 - r2), .int r3] (c_ML_parts l D cI cR cZ (r1 - r2) r3 hr4) (cw_Layers_53 C ⟨Nat.le_of_ble_eq_true rfl, Nat.le_of_ble_eq_true rfl⟩) [] rfl rfl rfl (Nat.le_of_ble_eq_true rfl) d_Layers_rowsOf_16 (by decide) ?_
  obtain rfl := Option.some.inj h
  exact j_pret C hr d_Layers_rowsOf_19
def Layers_startOf (n : Nat) (L : LyS) (p1 : Int32) : Option Int32 :=
  some ((p1 * (L.1 2)) * (L.1 0))
set_option maxRecDepth 100000 in
set_option maxHeartbeats 4000000 in
theorem c_Layers_startOf (l : Launch) (D : va_G) (cI cR cZ : ClassId) (a : (Nat → Nat)) (n : Nat) (L : LyS) (p1 : Int32) {res : Int32} (h : Layers_startOf n L p1 = some res) : Met l y_Layers_startOf (Cond.code y_Layers_startOf b_Layers_startOf 2 (some .int) :: BIG) rm_Layers_startOf (PcP [.ref (a 0), .int p1] D (tyG cI cR cZ) (wLy cI cR a n L)) (QcP res) 0 0 no := by
  refine met_P (by decide) (Nat.le_of_ble_eq_true rfl) (fun p e s m args below meth c C hr => ?_)
  have C : Cx p s m args meth c D (tyG cI cR cZ) b_Layers_startOf 2 "MaskLayers$Layers" := C
  have hr : meth.sig.returnType = some .int := hr
  show J p l e rm_Layers_startOf s m args below meth c D no (fun _ => True) 2 (MQ below (QcP res) args s 0 0 no) 0 0 (wLy cI cR a n L) [(0, .ref (a 0)), (1, .int p1)] [] 0
  unfold Layers_startOf at h
  refine j_iload_n C 1 d_Layers_startOf_0 rfl ?_
  refine j_aload_n C 0 d_Layers_startOf_1 rfl ?_
  refine gf_Layers_36 C 0 (v := .int (L.1 2)) rfl rfl d_Layers_startOf_2 ?_
  refine j_imul C d_Layers_startOf_5 ?_
  refine j_aload_n C 0 d_Layers_startOf_6 rfl ?_
  refine gf_Layers_30 C 0 (v := .int (L.1 0)) rfl rfl d_Layers_startOf_7 ?_
  refine j_imul C d_Layers_startOf_10 ?_
  obtain rfl := Option.some.inj h
  exact j_pret C hr d_Layers_startOf_11
def Layers_endOf (n : Nat) (L : LyS) (p1 : Int32) (p2 : Int32) : Option Int32 :=
  (Layers_startOf n L p1).bind fun r1 =>
  (Layers_columnsOf n L p2).bind fun r2 =>
  (Layers_rowsOf n L p1 p2).bind fun r3 =>
  some (r1 + (r2 * r3))
set_option maxRecDepth 100000 in
set_option maxHeartbeats 4000000 in
theorem c_Layers_endOf (l : Launch) (D : va_G) (cI cR cZ : ClassId) (a : (Nat → Nat)) (n : Nat) (L : LyS) (p1 : Int32) (p2 : Int32) {res : Int32} (h : Layers_endOf n L p1 p2 = some res) : Met l y_Layers_endOf (Cond.code y_Layers_endOf b_Layers_endOf 3 (some .int) :: BIG) rm_Layers_endOf (PcP [.ref (a 0), .int p1, .int p2] D (tyG cI cR cZ) (wLy cI cR a n L)) (QcP res) 0 0 no := by
  refine met_P (by decide) (Nat.le_of_ble_eq_true rfl) (fun p e s m args below meth c C hr => ?_)
  have C : Cx p s m args meth c D (tyG cI cR cZ) b_Layers_endOf 3 "MaskLayers$Layers" := C
  have hr : meth.sig.returnType = some .int := hr
  show J p l e rm_Layers_endOf s m args below meth c D no (fun _ => True) 3 (MQ below (QcP res) args s 0 0 no) 0 0 (wLy cI cR a n L) [(0, .ref (a 0)), (1, .int p1), (2, .int p2)] [] 0
  unfold Layers_endOf at h
  refine j_aload_n C 0 d_Layers_endOf_0 rfl ?_
  refine j_iload_n C 1 d_Layers_endOf_1 rfl ?_
  obtain ⟨r1, hr1, h⟩ := bd_ok h
  refine j_PV C [.int p1] 0 rfl rfl (c_Layers_startOf l D cI cR cZ a n L p1 hr1) (cw_Layers_72 C ⟨Nat.le_of_ble_eq_true rfl, Nat.le_of_ble_eq_true rfl⟩) [0, 1, 2, 3, 4, 5, 6] rfl rfl rfl (Nat.le_of_ble_eq_true rfl) d_Layers_endOf_2 (by decide) ?_
  refine j_aload_n C 0 d_Layers_endOf_5 rfl ?_
  refine j_iload_n C 2 d_Layers_endOf_6 rfl ?_
  obtain ⟨r2, hr2, h⟩ := bd_ok h
  refine j_PV C [.int p2] 0 rfl rfl (c_Layers_columnsOf l D cI cR cZ a n L p2 hr2) (cw_Layers_75 C ⟨Nat.le_of_ble_eq_true rfl, Nat.le_of_ble_eq_true rfl⟩) [0, 1, 2, 3, 4, 5, 6] rfl rfl rfl (Nat.le_of_ble_eq_true rfl) d_Layers_endOf_7 (by decide) ?_
  refine j_aload_n C 0 d_Layers_endOf_10 rfl ?_
  refine j_iload_n C 1 d_Layers_endOf_11 rfl ?_
  refine j_iload_n C 2 d_Layers_endOf_12 rfl ?_
  obtain ⟨r3, hr3, h⟩ := bd_ok h
  refine j_PV C [.int p1, .int p2] 0 rfl rfl (c_Layers_rowsOf l D cI cR cZ a n L p1 p2 hr3) (cw_Layers_78 C ⟨Nat.le_of_ble_eq_true rfl, Nat.le_of_ble_eq_true rfl⟩) [0, 1, 2, 3, 4, 5, 6] rfl rfl rfl (Nat.le_of_ble_eq_true rfl) d_Layers_endOf_13 (by decide) ?_
  refine j_imul C d_Layers_endOf_16 ?_
  refine j_iadd C d_Layers_endOf_17 ?_
  obtain rfl := Option.some.inj h
  exact j_pret C hr d_Layers_endOf_18
def Layers_placeOf (n : Nat) (L : LyS) (p1 : Int32) (p2 : Int32) (p3 : Int32) : Option Int32 :=
  (Layers_scaleOf n L p1).bind fun r1 =>
  (if 1 ≤ r1 then (Layers_stripeOf n L p3).bind fun r2 =>
  (Layers_topOf n L r2).bind fun r3 =>
  dz r1 ((Layers_columnsOf n L p1).bind fun r5 =>
  dz r1 (some (((r3 * (L.1 0)) + (((p3 - r3) / r1) * r5)) + (p2 / r1))))
  else some ((-1)))
set_option maxRecDepth 100000 in
set_option maxHeartbeats 4000000 in
theorem c_Layers_placeOf (l : Launch) (D : va_G) (cI cR cZ : ClassId) (a : (Nat → Nat)) (n : Nat) (L : LyS) (p1 : Int32) (p2 : Int32) (p3 : Int32) {res : Int32} (h : Layers_placeOf n L p1 p2 p3 = some res) : Met l y_Layers_placeOf (Cond.code y_Layers_placeOf b_Layers_placeOf 6 (some .int) :: BIG) rm_Layers_placeOf (PcP [.ref (a 0), .int p1, .int p2, .int p3] D (tyG cI cR cZ) (wLy cI cR a n L)) (QcP res) 0 0 no := by
  refine met_P (by decide) (Nat.le_of_ble_eq_true rfl) (fun p e s m args below meth c C hr => ?_)
  have C : Cx p s m args meth c D (tyG cI cR cZ) b_Layers_placeOf 6 "MaskLayers$Layers" := C
  have hr : meth.sig.returnType = some .int := hr
  show J p l e rm_Layers_placeOf s m args below meth c D no (fun _ => True) 6 (MQ below (QcP res) args s 0 0 no) 0 0 (wLy cI cR a n L) [(0, .ref (a 0)), (1, .int p1), (2, .int p2), (3, .int p3)] [] 0
  unfold Layers_placeOf at h
  refine j_aload_n C 0 d_Layers_placeOf_0 rfl ?_
  refine j_iload_n C 1 d_Layers_placeOf_1 rfl ?_
  obtain ⟨r1, hr1, h⟩ := bd_ok h
  refine j_PV C [.int p1] 0 rfl rfl (c_Layers_scaleOf l D cI cR cZ a n L p1 hr1) (cw_Layers_62 C ⟨Nat.le_of_ble_eq_true rfl, Nat.le_of_ble_eq_true rfl⟩) [0, 1, 2, 3, 4, 5, 6] rfl rfl rfl (Nat.le_of_ble_eq_true rfl) d_Layers_placeOf_2 (by decide) ?_
  refine j_istore C [(4, .int r1), (0, .ref (a 0)), (1, .int p1), (2, .int p2), (3, .int p3)] d_Layers_placeOf_5 (by decide) rfl ?_
  refine j_iload C 0 d_Layers_placeOf_7 rfl ?_
  refine j_iconst C (v := 1) d_Layers_placeOf_9 (by decide) ?_
  refine j_icmp_ge C 15 d_Layers_placeOf_10 (by decide) (fun c7 => ?_) (fun c7 => ?_)
  · replace h := (if_pos c7).symm.trans h
    refine j_aload_n C 1 d_Layers_placeOf_15 rfl ?_
    refine j_aload_n C 1 d_Layers_placeOf_16 rfl ?_
    refine j_iload_n C 4 d_Layers_placeOf_17 rfl ?_
    obtain ⟨r2, hr2, h⟩ := bd_ok h
    refine j_PV C [.int p3] 0 rfl rfl (c_Layers_stripeOf l D cI cR cZ a n L p3 hr2) (cw_Layers_81 C ⟨Nat.le_of_ble_eq_true rfl, Nat.le_of_ble_eq_true rfl⟩) [0, 1, 2, 3, 4, 5, 6] rfl rfl rfl (Nat.le_of_ble_eq_true rfl) d_Layers_placeOf_18 (by decide) ?_
    obtain ⟨r3, hr3, h⟩ := bd_ok h
    refine j_PV C [.int r2] 0 rfl rfl (c_Layers_topOf l D cI cR cZ a n L r2 hr3) (cw_Layers_69 C ⟨Nat.le_of_ble_eq_true rfl, Nat.le_of_ble_eq_true rfl⟩) [0, 1, 2, 3, 4, 5, 6] rfl rfl rfl (Nat.le_of_ble_eq_true rfl) d_Layers_placeOf_21 (by decide) ?_
    refine j_istore C [(5, .int r3), (4, .int r1), (0, .ref (a 0)), (1, .int p1), (2, .int p2), (3, .int p3)] d_Layers_placeOf_24 (by decide) rfl ?_
    refine j_iload C 0 d_Layers_placeOf_26 rfl ?_
    refine j_aload_n C 2 d_Layers_placeOf_28 rfl ?_
    refine gf_Layers_30 C 0 (v := .int (L.1 0)) rfl rfl d_Layers_placeOf_29 ?_
    refine j_imul C d_Layers_placeOf_32 ?_
    refine j_iload_n C 5 d_Layers_placeOf_33 rfl ?_
    refine j_iload C 0 d_Layers_placeOf_34 rfl ?_
    refine j_isub C d_Layers_placeOf_36 ?_
    refine j_iload C 1 d_Layers_placeOf_37 rfl ?_
    obtain ⟨b4, h⟩ := dz_ok h
    refine j_idiv C d_Layers_placeOf_39 b4 ?_
    refine j_aload_n C 2 d_Layers_placeOf_40 rfl ?_
    refine j_iload_n C 3 d_Layers_placeOf_41 rfl ?_
    obtain ⟨r5, hr5, h⟩ := bd_ok h
    refine j_PV C [.int p1] 0 rfl rfl (c_Layers_columnsOf l D cI cR cZ a n L p1 hr5) (cw_Layers_75 C ⟨Nat.le_of_ble_eq_true rfl, Nat.le_of_ble_eq_true rfl⟩) [0, 1, 2, 3, 4, 5, 6] rfl rfl rfl (Nat.le_of_ble_eq_true rfl) d_Layers_placeOf_42 (by decide) ?_
    refine j_imul C d_Layers_placeOf_45 ?_
    refine j_iadd C d_Layers_placeOf_46 ?_
    refine j_iload_n C 4 d_Layers_placeOf_47 rfl ?_
    refine j_iload C 1 d_Layers_placeOf_48 rfl ?_
    obtain ⟨b6, h⟩ := dz_ok h
    refine j_idiv C d_Layers_placeOf_50 b6 ?_
    refine j_iadd C d_Layers_placeOf_51 ?_
    obtain rfl := Option.some.inj h
    exact j_pret C hr d_Layers_placeOf_52
  · replace h := (if_neg c7).symm.trans h
    refine j_iconst C (v := (-1)) d_Layers_placeOf_13 (by decide) ?_
    obtain rfl := Option.some.inj h
    exact j_pret C hr d_Layers_placeOf_14
def Layers_valueAt (n : Nat) (L : LyS) (p1 : Int32) (p2 : Int32) (p3 : Int32) : Option Int32 :=
  (Layers_stripeOf n L p3).bind fun r1 =>
  (Layers_has n L r1 p1).bind fun r2 =>
  (if r2 = 0 then some ((-1))
  else (Layers_placeOf n L p1 p2 p3).bind fun r3 =>
  (Layers_value n L p1 r3).bind fun r4 =>
  some r4)
set_option maxRecDepth 100000 in
set_option maxHeartbeats 4000000 in
theorem c_Layers_valueAt (l : Launch) (D : va_G) (cI cR cZ : ClassId) (a : (Nat → Nat)) (n : Nat) (L : LyS) (p1 : Int32) (p2 : Int32) (p3 : Int32) {res : Int32} (h : Layers_valueAt n L p1 p2 p3 = some res) : Met l y_Layers_valueAt (Cond.code y_Layers_valueAt b_Layers_valueAt 4 (some .int) :: BIG) rm_Layers_valueAt (PcP [.ref (a 0), .int p1, .int p2, .int p3] D (tyG cI cR cZ) (wLy cI cR a n L)) (QcP res) 0 0 no := by
  refine met_P (by decide) (Nat.le_of_ble_eq_true rfl) (fun p e s m args below meth c C hr => ?_)
  have C : Cx p s m args meth c D (tyG cI cR cZ) b_Layers_valueAt 4 "MaskLayers$Layers" := C
  have hr : meth.sig.returnType = some .int := hr
  show J p l e rm_Layers_valueAt s m args below meth c D no (fun _ => True) 4 (MQ below (QcP res) args s 0 0 no) 0 0 (wLy cI cR a n L) [(0, .ref (a 0)), (1, .int p1), (2, .int p2), (3, .int p3)] [] 0
  unfold Layers_valueAt at h
  refine j_aload_n C 0 d_Layers_valueAt_0 rfl ?_
  refine j_aload_n C 0 d_Layers_valueAt_1 rfl ?_
  refine j_iload_n C 3 d_Layers_valueAt_2 rfl ?_
  obtain ⟨r1, hr1, h⟩ := bd_ok h
  refine j_PV C [.int p3] 0 rfl rfl (c_Layers_stripeOf l D cI cR cZ a n L p3 hr1) (cw_Layers_81 C ⟨Nat.le_of_ble_eq_true rfl, Nat.le_of_ble_eq_true rfl⟩) [0, 1, 2, 3, 4, 5, 6] rfl rfl rfl (Nat.le_of_ble_eq_true rfl) d_Layers_valueAt_3 (by decide) ?_
  refine j_iload_n C 1 d_Layers_valueAt_6 rfl ?_
  obtain ⟨r2, hr2, h⟩ := bd_ok h
  refine j_PV C [.int r1, .int p1] 0 rfl rfl (c_Layers_has l D cI cR cZ a n L r1 p1 hr2) (cw_Layers_84 C ⟨Nat.le_of_ble_eq_true rfl, Nat.le_of_ble_eq_true rfl⟩) [0, 1, 2, 3, 4, 5, 6] rfl rfl rfl (Nat.le_of_ble_eq_true rfl) d_Layers_valueAt_7 (by decide) ?_
  refine j_if_eq C 28 d_Layers_valueAt_10 (by decide) (fun c5 => ?_) (fun c5 => ?_)
  · replace h := (if_pos c5).symm.trans h
    refine j_iconst C (v := (-1)) d_Layers_valueAt_28 (by decide) ?_
    obtain rfl := Option.some.inj h
    exact j_pret C hr d_Layers_valueAt_29
  · replace h := (if_neg c5).symm.trans h
    refine j_aload_n C 0 d_Layers_valueAt_13 rfl ?_
    refine j_iload_n C 1 d_Layers_valueAt_14 rfl ?_
    refine j_aload_n C 0 d_Layers_valueAt_15 rfl ?_
    refine j_iload_n C 1 d_Layers_valueAt_16 rfl ?_
    refine j_iload_n C 2 d_Layers_valueAt_17 rfl ?_
    refine j_iload_n C 3 d_Layers_valueAt_18 rfl ?_
    obtain ⟨r3, hr3, h⟩ := bd_ok h
    refine j_PV C [.int p1, .int p2, .int p3] 0 rfl rfl (c_Layers_placeOf l D cI cR cZ a n L p1 p2 p3 hr3) (cw_Layers_87 C ⟨Nat.le_of_ble_eq_true rfl, Nat.le_of_ble_eq_true rfl⟩) [0, 1, 2, 3, 4, 5, 6] rfl rfl rfl (Nat.le_of_ble_eq_true rfl) d_Layers_valueAt_19 (by decide) ?_
    obtain ⟨r4, hr4, h⟩ := bd_ok h
    refine j_PV C [.int p1, .int r3] 0 rfl rfl (c_Layers_value l D cI cR cZ a n L p1 r3 hr4) (cw_Layers_91 C ⟨Nat.le_of_ble_eq_true rfl, Nat.le_of_ble_eq_true rfl⟩) [0, 1, 2, 3, 4, 5, 6] rfl rfl rfl (Nat.le_of_ble_eq_true rfl) d_Layers_valueAt_22 (by decide) ?_
    refine j_goto C 29 d_Layers_valueAt_25 (by decide) ?_
    obtain rfl := Option.some.inj h
    exact j_pret C hr d_Layers_valueAt_29
def Layers_joinedAt_b17 (n : Nat) (L : LyS) (v1 : Int32) (v2 : Int32) (s0 : Int32) : Option Int32 :=
  (Layers_valueAt n L s0 v1 v2).bind fun r2 =>
  (if r2 = ((-1)) then some 0
  else some r2)
def Layers_joinedAt (n : Nat) (L : LyS) (p1 : Int32) (p2 : Int32) : Option Int32 :=
  (Layers_valueAt n L 1 p1 p2).bind fun r1 =>
  (if r1 = 1 then Layers_joinedAt_b17 n L p1 p2 2
  else Layers_joinedAt_b17 n L p1 p2 0)
set_option maxRecDepth 100000 in
set_option maxHeartbeats 4000000 in
theorem t_Layers_joinedAt_b17 {p : Program} {l : Launch} {e : Env} {s : State} {m : MethodId} {args : Array Value} {below : List Frame} {meth : Method} {c : Code} {D : va_G} {cI cR cZ : ClassId} (C : Cx p s m args meth c D (tyG cI cR cZ) b_Layers_joinedAt 4 "MaskLayers$Layers") (hr : meth.sig.returnType = some .int) {a : (Nat → Nat)} {n : Nat} {L : LyS} {v1 : Int32} {v2 : Int32} {s0 : Int32} {res : Int32} (h : Layers_joinedAt_b17 n L v1 v2 s0 = some res) : J p l e rm_Layers_joinedAt s m args below meth c D no (fun _ => True) 4 (MQ below (QcP res) args s 0 0 no) 0 0 (wLy cI cR a n L) [(1, .int v1), (2, .int v2)] [.int s0, .ref (a 0)] 17 := by
  unfold Layers_joinedAt_b17 at h
  refine j_iload_n C 0 d_Layers_joinedAt_17 rfl ?_
  refine j_iload_n C 1 d_Layers_joinedAt_18 rfl ?_
  obtain ⟨r2, hr2, h⟩ := bd_ok h
  refine j_PV C [.int s0, .int v1, .int v2] 0 rfl rfl (c_Layers_valueAt l D cI cR cZ a n L s0 v1 v2 hr2) (cw_Layers_94 C ⟨Nat.le_of_ble_eq_true rfl, Nat.le_of_ble_eq_true rfl⟩) [0, 1, 2, 3, 4, 5, 6] rfl rfl rfl (Nat.le_of_ble_eq_true rfl) d_Layers_joinedAt_19 (by decide) ?_
  refine j_istore_n C [(3, .int r2), (1, .int v1), (2, .int v2)] d_Layers_joinedAt_22 (by decide) rfl ?_
  refine j_iload_n C 0 d_Layers_joinedAt_23 rfl ?_
  refine j_iconst C (v := (-1)) d_Layers_joinedAt_24 (by decide) ?_
  refine j_icmp_ne C 32 d_Layers_joinedAt_25 (by decide) (fun c3 => ?_) (fun c3 => ?_)
  · replace h := (if_neg c3).symm.trans h
    refine j_iload_n C 0 d_Layers_joinedAt_32 rfl ?_
    obtain rfl := Option.some.inj h
    exact j_pret C hr d_Layers_joinedAt_33
  · replace h := (if_pos c3).symm.trans h
    refine j_iconst C (v := 0) d_Layers_joinedAt_28 (by decide) ?_
    refine j_goto C 33 d_Layers_joinedAt_29 (by decide) ?_
    obtain rfl := Option.some.inj h
    exact j_pret C hr d_Layers_joinedAt_33
set_option maxRecDepth 100000 in
set_option maxHeartbeats 4000000 in
theorem c_Layers_joinedAt (l : Launch) (D : va_G) (cI cR cZ : ClassId) (a : (Nat → Nat)) (n : Nat) (L : LyS) (p1 : Int32) (p2 : Int32) {res : Int32} (h : Layers_joinedAt n L p1 p2 = some res) : Met l y_Layers_joinedAt (Cond.code y_Layers_joinedAt b_Layers_joinedAt 4 (some .int) :: BIG) rm_Layers_joinedAt (PcP [.ref (a 0), .int p1, .int p2] D (tyG cI cR cZ) (wLy cI cR a n L)) (QcP res) 0 0 no := by
  refine met_P (by decide) (Nat.le_of_ble_eq_true rfl) (fun p e s m args below meth c C hr => ?_)
  have C : Cx p s m args meth c D (tyG cI cR cZ) b_Layers_joinedAt 4 "MaskLayers$Layers" := C
  have hr : meth.sig.returnType = some .int := hr
  show J p l e rm_Layers_joinedAt s m args below meth c D no (fun _ => True) 4 (MQ below (QcP res) args s 0 0 no) 0 0 (wLy cI cR a n L) [(0, .ref (a 0)), (1, .int p1), (2, .int p2)] [] 0
  unfold Layers_joinedAt at h
  refine j_aload_n C 0 d_Layers_joinedAt_0 rfl ?_
  refine j_aload_n C 0 d_Layers_joinedAt_1 rfl ?_
  refine j_iconst C (v := 1) d_Layers_joinedAt_2 (by decide) ?_
  refine j_iload_n C 1 d_Layers_joinedAt_3 rfl ?_
  refine j_iload_n C 2 d_Layers_joinedAt_4 rfl ?_
  obtain ⟨r1, hr1, h⟩ := bd_ok h
  refine j_PV C [.int 1, .int p1, .int p2] 0 rfl rfl (c_Layers_valueAt l D cI cR cZ a n L 1 p1 p2 hr1) (cw_Layers_94 C ⟨Nat.le_of_ble_eq_true rfl, Nat.le_of_ble_eq_true rfl⟩) [0, 1, 2, 3, 4, 5, 6] rfl rfl rfl (Nat.le_of_ble_eq_true rfl) d_Layers_joinedAt_5 (by decide) ?_
  refine j_iconst C (v := 1) d_Layers_joinedAt_8 (by decide) ?_
  refine j_icmp_ne C 16 d_Layers_joinedAt_9 (by decide) (fun c4 => ?_) (fun c4 => ?_)
  · replace h := (if_neg c4).symm.trans h
    refine j_iconst C (v := 0) d_Layers_joinedAt_16 (by decide) ?_
    refine j_sub [1, 2] rfl ?_
    exact t_Layers_joinedAt_b17 C hr h
  · replace h := (if_pos c4).symm.trans h
    refine j_iconst C (v := 2) d_Layers_joinedAt_12 (by decide) ?_
    refine j_goto C 17 d_Layers_joinedAt_13 (by decide) ?_
    refine j_sub [1, 2] rfl ?_
    exact t_Layers_joinedAt_b17 C hr h
def Layers_exactAt (n : Nat) (L : LyS) (p1 : Int32) (p2 : Int32) : Option Int32 :=
  (Layers_valueAt n L 3 p1 p2).bind fun r1 =>
  (if r1 = ((-1)) then (Layers_joinedAt n L p1 p2).bind fun r4 =>
  some r4
  else (Layers_joinedAt n L p1 p2).bind fun r2 =>
  (ML_sum r2 r1).bind fun r3 =>
  some r3)
set_option maxRecDepth 100000 in
set_option maxHeartbeats 4000000 in
theorem c_Layers_exactAt (l : Launch) (D : va_G) (cI cR cZ : ClassId) (a : (Nat → Nat)) (n : Nat) (L : LyS) (p1 : Int32) (p2 : Int32) {res : Int32} (h : Layers_exactAt n L p1 p2 = some res) : Met l y_Layers_exactAt (Cond.code y_Layers_exactAt b_Layers_exactAt 4 (some .int) :: BIG) rm_Layers_exactAt (PcP [.ref (a 0), .int p1, .int p2] D (tyG cI cR cZ) (wLy cI cR a n L)) (QcP res) 0 0 no := by
  refine met_P (by decide) (Nat.le_of_ble_eq_true rfl) (fun p e s m args below meth c C hr => ?_)
  have C : Cx p s m args meth c D (tyG cI cR cZ) b_Layers_exactAt 4 "MaskLayers$Layers" := C
  have hr : meth.sig.returnType = some .int := hr
  show J p l e rm_Layers_exactAt s m args below meth c D no (fun _ => True) 4 (MQ below (QcP res) args s 0 0 no) 0 0 (wLy cI cR a n L) [(0, .ref (a 0)), (1, .int p1), (2, .int p2)] [] 0
  unfold Layers_exactAt at h
  refine j_aload_n C 0 d_Layers_exactAt_0 rfl ?_
  refine j_iconst C (v := 3) d_Layers_exactAt_1 (by decide) ?_
  refine j_iload_n C 1 d_Layers_exactAt_2 rfl ?_
  refine j_iload_n C 2 d_Layers_exactAt_3 rfl ?_
  obtain ⟨r1, hr1, h⟩ := bd_ok h
  refine j_PV C [.int 3, .int p1, .int p2] 0 rfl rfl (c_Layers_valueAt l D cI cR cZ a n L 3 p1 p2 hr1) (cw_Layers_94 C ⟨Nat.le_of_ble_eq_true rfl, Nat.le_of_ble_eq_true rfl⟩) [0, 1, 2, 3, 4, 5, 6] rfl rfl rfl (Nat.le_of_ble_eq_true rfl) d_Layers_exactAt_4 (by decide) ?_
  refine j_istore_n C [(3, .int r1), (0, .ref (a 0)), (1, .int p1), (2, .int p2)] d_Layers_exactAt_7 (by decide) rfl ?_
  refine j_iload_n C 0 d_Layers_exactAt_8 rfl ?_
  refine j_iconst C (v := (-1)) d_Layers_exactAt_9 (by decide) ?_
  refine j_icmp_ne C 22 d_Layers_exactAt_10 (by decide) (fun c5 => ?_) (fun c5 => ?_)
  · replace h := (if_neg c5).symm.trans h
    refine j_aload_n C 1 d_Layers_exactAt_22 rfl ?_
    refine j_iload_n C 2 d_Layers_exactAt_23 rfl ?_
    refine j_iload_n C 3 d_Layers_exactAt_24 rfl ?_
    obtain ⟨r2, hr2, h⟩ := bd_ok h
    refine j_PV C [.int p1, .int p2] 0 rfl rfl (c_Layers_joinedAt l D cI cR cZ a n L p1 p2 hr2) (cw_Layers_97 C ⟨Nat.le_of_ble_eq_true rfl, Nat.le_of_ble_eq_true rfl⟩) [0, 1, 2, 3, 4, 5, 6] rfl rfl rfl (Nat.le_of_ble_eq_true rfl) d_Layers_exactAt_25 (by decide) ?_
    refine j_iload_n C 0 d_Layers_exactAt_28 rfl ?_
    obtain ⟨r3, hr3, h⟩ := bd_ok h
    refine j_PSN C [.int r2, .int r1] (c_ML_sum l D cI cR cZ r2 r1 hr3) (cw_Layers_100 C ⟨Nat.le_of_ble_eq_true rfl, Nat.le_of_ble_eq_true rfl⟩) [] rfl rfl rfl (Nat.le_of_ble_eq_true rfl) d_Layers_exactAt_29 (by decide) ?_
    obtain rfl := Option.some.inj h
    exact j_pret C hr d_Layers_exactAt_32
  · replace h := (if_pos c5).symm.trans h
    refine j_aload_n C 1 d_Layers_exactAt_13 rfl ?_
    refine j_iload_n C 2 d_Layers_exactAt_14 rfl ?_
    refine j_iload_n C 3 d_Layers_exactAt_15 rfl ?_
    obtain ⟨r4, hr4, h⟩ := bd_ok h
    refine j_PV C [.int p1, .int p2] 0 rfl rfl (c_Layers_joinedAt l D cI cR cZ a n L p1 p2 hr4) (cw_Layers_97 C ⟨Nat.le_of_ble_eq_true rfl, Nat.le_of_ble_eq_true rfl⟩) [0, 1, 2, 3, 4, 5, 6] rfl rfl rfl (Nat.le_of_ble_eq_true rfl) d_Layers_exactAt_16 (by decide) ?_
    refine j_goto C 32 d_Layers_exactAt_19 (by decide) ?_
    obtain rfl := Option.some.inj h
    exact j_pret C hr d_Layers_exactAt_32
