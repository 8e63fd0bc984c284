def Maker_fillBetween_b12 (v0 : Int32) (v1 : Int32) : Option Int32 :=
  (if v0 = ((-1)) then some v1
  else (if v1 = ((-1)) then some v0
  else (ML_middle v0 v1).bind fun r1 =>
  some r1))
def Maker_fillBetween (p1 : Int32) (p2 : Int32) (p3 : Int32) : Option Int32 :=
  (if p1 = ((-1)) then (if p2 = ((-1)) then some p3
  else Maker_fillBetween_b12 p1 p2)
  else Maker_fillBetween_b12 p1 p2)
set_option maxRecDepth 100000 in
set_option maxHeartbeats 4000000 in
theorem t_Maker_fillBetween_b12 {p : Program} {l : Launch} {e : Env} {s : State} {m : MethodId} {args : Array Value} {below : List Frame} {meth : Method} {c : Code} {D : va_G} {cI cR cZ : ClassId} (C : Cx p s m args meth c D (tyG cI cR cZ) b_Maker_fillBetween 3 "MaskLayers$Maker") (hr : meth.sig.returnType = some .int)   {v0 : Int32} {v1 : Int32} {res : Int32} (h : Maker_fillBetween_b12 v0 v1 = some res) : J p l e rm_Maker_fillBetween s m args below meth c D no (fun _ => True) 3 (MQ below (QcP res) args s 0 0 no) 0 0 ([]) [(0, .int v0), (1, .int v1)] [] 12 := by
  unfold Maker_fillBetween_b12 at h
  refine j_iload_n C 0 d_Maker_fillBetween_12 rfl ?_
  refine j_iconst C (v := (-1)) d_Maker_fillBetween_13 (by decide) ?_
  refine j_icmp_ne C 19 d_Maker_fillBetween_14 (by decide) (fun c3 => ?_) (fun c3 => ?_)
  · replace h := (if_neg c3).symm.trans h
    refine j_iload_n C 1 d_Maker_fillBetween_19 rfl ?_
    refine j_iconst C (v := (-1)) d_Maker_fillBetween_20 (by decide) ?_
    refine j_icmp_ne C 28 d_Maker_fillBetween_21 (by decide) (fun c2 => ?_) (fun c2 => ?_)
    · replace h := (if_neg c2).symm.trans h
      refine j_iload_n C 0 d_Maker_fillBetween_28 rfl ?_
      refine j_iload_n C 1 d_Maker_fillBetween_29 rfl ?_
      obtain ⟨r1, hr1, h⟩ := bd_ok h
      refine j_PSN C [.int v0, .int v1] (c_ML_middle l D cI cR cZ v0 v1 hr1) (cw_Maker_146 C ⟨Nat.le_of_ble_eq_true rfl, Nat.le_of_ble_eq_true rfl⟩) [] rfl rfl rfl (Nat.le_of_ble_eq_true rfl) d_Maker_fillBetween_30 (by decide) ?_
      obtain rfl := Option.some.inj h
      exact j_pret C hr d_Maker_fillBetween_33
    · replace h := (if_pos c2).symm.trans h
      refine j_iload_n C 0 d_Maker_fillBetween_24 rfl ?_
      refine j_goto C 33 d_Maker_fillBetween_25 (by decide) ?_
      obtain rfl := Option.some.inj h
      exact j_pret C hr d_Maker_fillBetween_33
  · replace h := (if_pos c3).symm.trans h
    refine j_iload_n C 1 d_Maker_fillBetween_17 rfl ?_
    obtain rfl := Option.some.inj h
    exact j_pret C hr d_Maker_fillBetween_18
set_option maxRecDepth 100000 in
set_option maxHeartbeats 4000000 in
theorem c_Maker_fillBetween (l : Launch) (D : va_G) (cI cR cZ : ClassId)  (p1 : Int32) (p2 : Int32) (p3 : Int32) {res : Int32} (h : Maker_fillBetween p1 p2 p3 = some res) : Met l y_Maker_fillBetween (Cond.code y_Maker_fillBetween b_Maker_fillBetween 3 (some .int) :: BIG) rm_Maker_fillBetween (PcP [.int p1, .int p2, .int p3] D (tyG cI cR cZ) ([])) (QcP res) 0 0 no := by
  refine met_P (by decide) (Nat.le_of_ble_eq_true rfl) (fun p e s m args below meth c C hr => ?_)
  have C : Cx p s m args meth c D (tyG cI cR cZ) b_Maker_fillBetween 3 "MaskLayers$Maker" := C
  have hr : meth.sig.returnType = some .int := hr
  show J p l e rm_Maker_fillBetween s m args below meth c D no (fun _ => True) 3 (MQ below (QcP res) args s 0 0 no) 0 0 ([]) [(0, .int p1), (1, .int p2), (2, .int p3)] [] 0
  unfold Maker_fillBetween at h
  refine j_iload_n C 0 d_Maker_fillBetween_0 rfl ?_
  refine j_iconst C (v := (-1)) d_Maker_fillBetween_1 (by decide) ?_
  refine j_icmp_ne C 12 d_Maker_fillBetween_2 (by decide) (fun c5 => ?_) (fun c5 => ?_)
  · replace h := (if_neg c5).symm.trans h
    refine j_sub [0, 1] rfl ?_
    exact t_Maker_fillBetween_b12 C hr h
  · replace h := (if_pos c5).symm.trans h
    refine j_iload_n C 1 d_Maker_fillBetween_5 rfl ?_
    refine j_iconst C (v := (-1)) d_Maker_fillBetween_6 (by decide) ?_
    refine j_icmp_ne C 12 d_Maker_fillBetween_7 (by decide) (fun c4 => ?_) (fun c4 => ?_)
    · replace h := (if_neg c4).symm.trans h
      refine j_sub [0, 1] rfl ?_
      exact t_Maker_fillBetween_b12 C hr h
    · replace h := (if_pos c4).symm.trans h
      refine j_iload_n C 2 d_Maker_fillBetween_10 rfl ?_
      obtain rfl := Option.some.inj h
      exact j_pret C hr d_Maker_fillBetween_11
def Maker_holds (n : Nat) (v : (Nat → Int32)) (p2 : Int32) : Option Int32 :=
  (if p2 < 0 then zb 0 (some 0)
  else (if (nI n) ≤ p2 then zb 0 (some 0)
  else zb 1 (some 1)))
set_option maxRecDepth 100000 in
set_option maxHeartbeats 4000000 in
theorem c_Maker_holds (l : Launch) (D : va_G) (cI cR cZ : ClassId) (g : Nat) (n : Nat) (v : (Nat → Int32)) (p2 : Int32) {res : Int32} (h : Maker_holds n v p2 = some res) : Met l y_Maker_holds (Cond.code y_Maker_holds b_Maker_holds 2 (some .boolean) :: BIG) rm_Maker_holds (PcP [.ref g, .int p2] D (tyG cI cR cZ) ([(g, .inl (cI, n, .inl v))])) (QcP res) 0 0 no := by
  refine met_P (by decide) (Nat.le_of_ble_eq_true rfl) (fun p e s m args below meth c C hr => ?_)
  have C : Cx p s m args meth c D (tyG cI cR cZ) b_Maker_holds 2 "MaskLayers$Maker" := C
  have hr : meth.sig.returnType = some .boolean := hr
  show J p l e rm_Maker_holds s m args below meth c D no (fun _ => True) 2 (MQ below (QcP res) args s 0 0 no) 0 0 ([(g, .inl (cI, n, .inl v))]) [(0, .ref g), (1, .int p2)] [] 0
  unfold Maker_holds at h
  refine j_iload_n C 1 d_Maker_holds_0 rfl ?_
  refine j_if_lt C 14 d_Maker_holds_1 (by decide) (fun c5 => ?_) (fun c5 => ?_)
  · replace h := (if_pos c5).symm.trans h
    refine j_iconst C (v := 0) d_Maker_holds_14 (by decide) ?_
    obtain ⟨b1, h⟩ := zb_ok h
    obtain rfl := Option.some.inj h
    exact j_pretZ C hr d_Maker_holds_15 b1
  · replace h := (if_neg c5).symm.trans h
    refine j_iload_n C 1 d_Maker_holds_4 rfl ?_
    refine j_aload_n C 0 d_Maker_holds_5 rfl ?_
    refine j_alen C (0) (t0 := 0) (v := nI n) rfl rfl rfl d_Maker_holds_6 ?_
    refine j_icmp_ge C 14 d_Maker_holds_7 (by decide) (fun c4 => ?_) (fun c4 => ?_)
    · replace h := (if_pos c4).symm.trans h
      refine j_iconst C (v := 0) d_Maker_holds_14 (by decide) ?_
      obtain ⟨b2, h⟩ := zb_ok h
      obtain rfl := Option.some.inj h
      exact j_pretZ C hr d_Maker_holds_15 b2
    · replace h := (if_neg c4).symm.trans h
      refine j_iconst C (v := 1) d_Maker_holds_10 (by decide) ?_
      refine j_goto C 15 d_Maker_holds_11 (by decide) ?_
      obtain ⟨b3, h⟩ := zb_ok h
      obtain rfl := Option.some.inj h
      exact j_pretZ C hr d_Maker_holds_15 b3
def Maker_isMasked (n : Nat) (col : (Nat → Int32)) (msk : (Nat → Int32)) (bare : (Nat → Int32)) (L : LyS) (p1 : Int32) : Option Int32 :=
  (Maker_holds n msk p1).bind fun r1 =>
  (if r1 = 0 then zb 0 (some 0)
  else gd p1 n ((if (msk p1.toNatClampNeg) = 1 then zb 1 (some 1)
  else zb 0 (some 0))))
set_option maxRecDepth 100000 in
set_option maxHeartbeats 4000000 in
theorem c_Maker_isMasked (l : Launch) (D : va_G) (cI cR cZ : ClassId) (o0 : Nat) (hc : Nat) (hm : Nat) (hb : Nat) (a : (Nat → Nat)) (n : Nat) (col : (Nat → Int32)) (msk : (Nat → Int32)) (bare : (Nat → Int32)) (L : LyS) (p1 : Int32) {res : Int32} (h : Maker_isMasked n col msk bare L p1 = some res) : Met l y_Maker_isMasked (Cond.code y_Maker_isMasked b_Maker_isMasked 2 (some .boolean) :: BIG) rm_Maker_isMasked (PcP [.ref o0, .int p1] D (tyG cI cR cZ) (wMk cI cR o0 hc hm hb a n col msk bare L)) (QcP res) 0 0 no := by
  refine met_P (by decide) (Nat.le_of_ble_eq_true rfl) (fun p e s m args below meth c C hr => ?_)
  have C : Cx p s m args meth c D (tyG cI cR cZ) b_Maker_isMasked 2 "MaskLayers$Maker" := C
  have hr : meth.sig.returnType = some .boolean := hr
  show J p l e rm_Maker_isMasked s m args below meth c D no (fun _ => True) 2 (MQ below (QcP res) args s 0 0 no) 0 0 (wMk cI cR o0 hc hm hb a n col msk bare L) [(0, .ref o0), (1, .int p1)] [] 0
  unfold Maker_isMasked at h
  refine j_aload_n C 0 d_Maker_isMasked_0 rfl ?_
  refine gf_Maker_19 C 0 (v := .ref hm) rfl rfl d_Maker_isMasked_1 ?_
  refine j_iload_n C 1 d_Maker_isMasked_4 rfl ?_
  obtain ⟨r1, hr1, h⟩ := bd_ok h
  refine j_PS C [.ref hm, .int p1] (c_Maker_holds l D cI cR cZ hm n msk p1 hr1) (cw_Maker_60 C ⟨Nat.le_of_ble_eq_true rfl, Nat.le_of_ble_eq_true rfl⟩) [2] rfl rfl rfl (Nat.le_of_ble_eq_true rfl) d_Maker_isMasked_5 (by decide) ?_
  refine j_if_eq C 25 d_Maker_isMasked_8 (by decide) (fun c7 => ?_) (fun c7 => ?_)
  · replace h := (if_pos c7).symm.trans h
    refine j_iconst C (v := 0) d_Maker_isMasked_25 (by decide) ?_
    obtain ⟨b2, h⟩ := zb_ok h
    obtain rfl := Option.some.inj h
    exact j_pretZ C hr d_Maker_isMasked_26 b2
  · replace h := (if_neg c7).symm.trans h
    refine j_aload_n C 0 d_Maker_isMasked_11 rfl ?_
    refine gf_Maker_19 C 0 (v := .ref hm) rfl rfl d_Maker_isMasked_12 ?_
    refine j_iload_n C 1 d_Maker_isMasked_15 rfl ?_
    obtain ⟨b3, h⟩ := gd_ok h
    refine j_iald C (2) (t0 := 0) rfl rfl b3 d_Maker_isMasked_16 ?_
    refine j_iconst C (v := 1) d_Maker_isMasked_17 (by decide) ?_
    refine j_icmp_ne C 25 d_Maker_isMasked_18 (by decide) (fun c6 => ?_) (fun c6 => ?_)
    · replace h := (if_neg c6).symm.trans h
      refine j_iconst C (v := 0) d_Maker_isMasked_25 (by decide) ?_
      obtain ⟨b4, h⟩ := zb_ok h
      obtain rfl := Option.some.inj h
      exact j_pretZ C hr d_Maker_isMasked_26 b4
    · replace h := (if_pos c6).symm.trans h
      refine j_iconst C (v := 1) d_Maker_isMasked_21 (by decide) ?_
      refine j_goto C 26 d_Maker_isMasked_22 (by decide) ?_
      obtain ⟨b5, h⟩ := zb_ok h
      obtain rfl := Option.some.inj h
      exact j_pretZ C hr d_Maker_isMasked_26 b5
def Maker_colourAt (n : Nat) (col : (Nat → Int32)) (msk : (Nat → Int32)) (bare : (Nat → Int32)) (L : LyS) (p1 : Int32) : Option Int32 :=
  (Maker_holds n col p1).bind fun r1 =>
  (if r1 = 0 then some 0
  else gd p1 n (some (col p1.toNatClampNeg)))
set_option maxRecDepth 100000 in
set_option maxHeartbeats 4000000 in
theorem c_Maker_colourAt (l : Launch) (D : va_G) (cI cR cZ : ClassId) (o0 : Nat) (hc : Nat) (hm : Nat) (hb : Nat) (a : (Nat → Nat)) (n : Nat) (col : (Nat → Int32)) (msk : (Nat → Int32)) (bare : (Nat → Int32)) (L : LyS) (p1 : Int32) {res : Int32} (h : Maker_colourAt n col msk bare L p1 = some res) : Met l y_Maker_colourAt (Cond.code y_Maker_colourAt b_Maker_colourAt 2 (some .int) :: BIG) rm_Maker_colourAt (PcP [.ref o0, .int p1] D (tyG cI cR cZ) (wMk cI cR o0 hc hm hb a n col msk bare L)) (QcP res) 0 0 no := by
  refine met_P (by decide) (Nat.le_of_ble_eq_true rfl) (fun p e s m args below meth c C hr => ?_)
  have C : Cx p s m args meth c D (tyG cI cR cZ) b_Maker_colourAt 2 "MaskLayers$Maker" := C
  have hr : meth.sig.returnType = some .int := hr
  show J p l e rm_Maker_colourAt s m args below meth c D no (fun _ => True) 2 (MQ below (QcP res) args s 0 0 no) 0 0 (wMk cI cR o0 hc hm hb a n col msk bare L) [(0, .ref o0), (1, .int p1)] [] 0
  unfold Maker_colourAt at h
  refine j_aload_n C 0 d_Maker_colourAt_0 rfl ?_
  refine gf_Maker_15 C 0 (v := .ref hc) rfl rfl d_Maker_colourAt_1 ?_
  refine j_iload_n C 1 d_Maker_colourAt_4 rfl ?_
  obtain ⟨r1, hr1, h⟩ := bd_ok h
  refine j_PS C [.ref hc, .int p1] (c_Maker_holds l D cI cR cZ hc n col p1 hr1) (cw_Maker_60 C ⟨Nat.le_of_ble_eq_true rfl, Nat.le_of_ble_eq_true rfl⟩) [1] rfl rfl rfl (Nat.le_of_ble_eq_true rfl) d_Maker_colourAt_5 (by decide) ?_
  refine j_if_eq C 20 d_Maker_colourAt_8 (by decide) (fun c3 => ?_) (fun c3 => ?_)
  · replace h := (if_pos c3).symm.trans h
    refine j_iconst C (v := 0) d_Maker_colourAt_20 (by decide) ?_
    obtain rfl := Option.some.inj h
    exact j_pret C hr d_Maker_colourAt_21
  · replace h := (if_neg c3).symm.trans h
    refine j_aload_n C 0 d_Maker_colourAt_11 rfl ?_
    refine gf_Maker_15 C 0 (v := .ref hc) rfl rfl d_Maker_colourAt_12 ?_
    refine j_iload_n C 1 d_Maker_colourAt_15 rfl ?_
    obtain ⟨b2, h⟩ := gd_ok h
    refine j_iald C (1) (t0 := 0) rfl rfl b2 d_Maker_colourAt_16 ?_
    refine j_goto C 21 d_Maker_colourAt_17 (by decide) ?_
    obtain rfl := Option.some.inj h
    exact j_pret C hr d_Maker_colourAt_21
def Maker_wasFilled (n : Nat) (col : (Nat → Int32)) (msk : (Nat → Int32)) (bare : (Nat → Int32)) (L : LyS) (p1 : Int32) (p2 : Int32) (p3 : Int32) : Option Int32 :=
  (Layers_placeOf n L p1 p2 p3).bind fun r1 =>
  (Layers_stripeOf n L p3).bind fun r2 =>
  (Layers_has n L r2 p1).bind fun r3 =>
  (if r3 = 0 then zb 0 (some 0)
  else (Maker_holds n bare r1).bind fun r5 =>
  (if r5 = 0 then zb 0 (some 0)
  else gd r1 n ((if (((bare r1.toNatClampNeg) >>> (p1 &&& 31)) &&& 1) = 1 then zb 1 (some 1)
  else zb 0 (some 0)))))
set_option maxRecDepth 100000 in
set_option maxHeartbeats 4000000 in
theorem c_Maker_wasFilled (l : Launch) (D : va_G) (cI cR cZ : ClassId) (o0 : Nat) (hc : Nat) (hm : Nat) (hb : Nat) (a : (Nat → Nat)) (n : Nat) (col : (Nat → Int32)) (msk : (Nat → Int32)) (bare : (Nat → Int32)) (L : LyS) (p1 : Int32) (p2 : Int32) (p3 : Int32) {res : Int32} (h : Maker_wasFilled n col msk bare L p1 p2 p3 = some res) : Met l y_Maker_wasFilled (Cond.code y_Maker_wasFilled b_Maker_wasFilled 5 (some .boolean) :: BIG) rm_Maker_wasFilled (PcP [.ref o0, .int p1, .int p2, .int p3] D (tyG cI cR cZ) (wMk cI cR o0 hc hm hb a n col msk bare L)) (QcP res) 0 0 no := by
  refine met_P (by decide) (Nat.le_of_ble_eq_true rfl) (fun p e s m args below meth c C hr => ?_)
  have C : Cx p s m args meth c D (tyG cI cR cZ) b_Maker_wasFilled 5 "MaskLayers$Maker" := C
  have hr : meth.sig.returnType = some .boolean := hr
  show J p l e rm_Maker_wasFilled s m args below meth c D no (fun _ => True) 5 (MQ below (QcP res) args s 0 0 no) 0 0 (wMk cI cR o0 hc hm hb a n col msk bare L) [(0, .ref o0), (1, .int p1), (2, .int p2), (3, .int p3)] [] 0
  unfold Maker_wasFilled at h
  refine j_aload_n C 0 d_Maker_wasFilled_0 rfl ?_
  refine gf_Maker_9 C 0 (v := .ref (a 0)) rfl rfl d_Maker_wasFilled_1 ?_
  refine j_iload_n C 1 d_Maker_wasFilled_4 rfl ?_
  refine j_iload_n C 2 d_Maker_wasFilled_5 rfl ?_
  refine j_iload_n C 3 d_Maker_wasFilled_6 rfl ?_
  obtain ⟨r1, hr1, h⟩ := bd_ok h
  refine j_PV C [.int p1, .int p2, .int p3] 4 rfl rfl (c_Layers_placeOf l D cI cR cZ a n L p1 p2 p3 hr1) (cw_Maker_48 C ⟨Nat.le_of_ble_eq_true rfl, Nat.le_of_ble_eq_true rfl⟩) [4, 5, 6, 7, 8, 9, 10] rfl rfl rfl (Nat.le_of_ble_eq_true rfl) d_Maker_wasFilled_7 (by decide) ?_
  refine j_istore C [(4, .int r1), (0, .ref o0), (1, .int p1), (2, .int p2), (3, .int p3)] d_Maker_wasFilled_10 (by decide) rfl ?_
  refine j_aload_n C 1 d_Maker_wasFilled_12 rfl ?_
  refine gf_Maker_9 C 0 (v := .ref (a 0)) rfl rfl d_Maker_wasFilled_13 ?_
  refine j_aload_n C 1 d_Maker_wasFilled_16 rfl ?_
  refine gf_Maker_9 C 0 (v := .ref (a 0)) rfl rfl d_Maker_wasFilled_17 ?_
  refine j_iload_n C 4 d_Maker_wasFilled_20 rfl ?_
  obtain ⟨r2, hr2, h⟩ := bd_ok h
  refine j_PV C [.int p3] 4 rfl rfl (c_Layers_stripeOf l D cI cR cZ a n L p3 hr2) (cw_Maker_52 C ⟨Nat.le_of_ble_eq_true rfl, Nat.le_of_ble_eq_true rfl⟩) [4, 5, 6, 7, 8, 9, 10] rfl rfl rfl (Nat.le_of_ble_eq_true rfl) d_Maker_wasFilled_21 (by decide) ?_
  refine j_iload_n C 2 d_Maker_wasFilled_24 rfl ?_
  obtain ⟨r3, hr3, h⟩ := bd_ok h
  refine j_PV C [.int r2, .int p1] 4 rfl rfl (c_Layers_has l D cI cR cZ a n L r2 p1 hr3) (cw_Maker_56 C ⟨Nat.le_of_ble_eq_true rfl, Nat.le_of_ble_eq_true rfl⟩) [4, 5, 6, 7, 8, 9, 10] rfl rfl rfl (Nat.le_of_ble_eq_true rfl) d_Maker_wasFilled_25 (by decide) ?_
  refine j_if_eq C 62 d_Maker_wasFilled_28 (by decide) (fun c12 => ?_) (fun c12 => ?_)
  · replace h := (if_pos c12).symm.trans h
    refine j_iconst C (v := 0) d_Maker_wasFilled_62 (by decide) ?_
    obtain ⟨b4, h⟩ := zb_ok h
    obtain rfl := Option.some.inj h
    exact j_pretZ C hr d_Maker_wasFilled_63 b4
  · replace h := (if_neg c12).symm.trans h
    refine j_aload_n C 1 d_Maker_wasFilled_31 rfl ?_
    refine gf_Maker_22 C 0 (v := .ref hb) rfl rfl d_Maker_wasFilled_32 ?_
    refine j_iload C 0 d_Maker_wasFilled_35 rfl ?_
    obtain ⟨r5, hr5, h⟩ := bd_ok h
    refine j_PS C [.ref hb, .int r1] (c_Maker_holds l D cI cR cZ hb n bare r1 hr5) (cw_Maker_60 C ⟨Nat.le_of_ble_eq_true rfl, Nat.le_of_ble_eq_true rfl⟩) [3] rfl rfl rfl (Nat.le_of_ble_eq_true rfl) d_Maker_wasFilled_37 (by decide) ?_
    refine j_if_eq C 62 d_Maker_wasFilled_40 (by decide) (fun c11 => ?_) (fun c11 => ?_)
    · replace h := (if_pos c11).symm.trans h
      refine j_iconst C (v := 0) d_Maker_wasFilled_62 (by decide) ?_
      obtain ⟨b6, h⟩ := zb_ok h
      obtain rfl := Option.some.inj h
      exact j_pretZ C hr d_Maker_wasFilled_63 b6
    · replace h := (if_neg c11).symm.trans h
      refine j_aload_n C 1 d_Maker_wasFilled_43 rfl ?_
      refine gf_Maker_22 C 0 (v := .ref hb) rfl rfl d_Maker_wasFilled_44 ?_
      refine j_iload C 0 d_Maker_wasFilled_47 rfl ?_
      obtain ⟨b7, h⟩ := gd_ok h
      refine j_iald C (3) (t0 := 0) rfl rfl b7 d_Maker_wasFilled_49 ?_
      refine j_iload_n C 2 d_Maker_wasFilled_50 rfl ?_
      refine j_ishr C d_Maker_wasFilled_51 ?_
      refine j_iconst C (v := 1) d_Maker_wasFilled_52 (by decide) ?_
      refine j_iand C d_Maker_wasFilled_53 ?_
      refine j_iconst C (v := 1) d_Maker_wasFilled_54 (by decide) ?_
      refine j_icmp_ne C 62 d_Maker_wasFilled_55 (by decide) (fun c10 => ?_) (fun c10 => ?_)
      · replace h := (if_neg c10).symm.trans h
        refine j_iconst C (v := 0) d_Maker_wasFilled_62 (by decide) ?_
        obtain ⟨b8, h⟩ := zb_ok h
        obtain rfl := Option.some.inj h
        exact j_pretZ C hr d_Maker_wasFilled_63 b8
      · replace h := (if_pos c10).symm.trans h
        refine j_iconst C (v := 1) d_Maker_wasFilled_58 (by decide) ?_
        refine j_goto C 63 d_Maker_wasFilled_59 (by decide) ?_
        obtain ⟨b9, h⟩ := zb_ok h
        obtain rfl := Option.some.inj h
        exact j_pretZ C hr d_Maker_wasFilled_63 b9
def Maker_meanOfBlock_l94 (n : Nat) (col : (Nat → Int32)) (msk : (Nat → Int32)) (bare : (Nat → Int32)) (L : LyS) (v2 : Int32) (v7 : Int32) (v8 : Int32) (v9 : Int32) (v14 : Int32) : Nat → Int32 → Int32 → Int32 → Int32 → Int32 → Option (Nat × Int32 × Int32 × Int32 × Int32)
  | 0, _, _, _, _, _ => none
  | k + 1, v10, v11, v12, v13, v15 =>
  (if v9 ≤ v15 then some (0, v10, v11, v12, v13)
  else (Maker_isMasked n col msk bare L ((v14 * (L.1 0)) + v15)).bind fun r4 =>
  (if v2 = 2 then some ((1 : Int32))
  else some ((0 : Int32))).bind fun r5 =>
  (if r4 = r5 then (Maker_colourAt n col msk bare L ((v14 * (L.1 0)) + v15)).bind fun r6 =>
  (ML_red r6).bind fun r7 =>
  (ML_green r6).bind fun r8 =>
  (ML_blue r6).bind fun r9 =>
  Maker_meanOfBlock_l94 n col msk bare L v2 v7 v8 v9 v14 k (v10 + 1) (v11 + r7) (v12 + r8) (v13 + r9) (v15 + 1)
  else Maker_meanOfBlock_l94 n col msk bare L v2 v7 v8 v9 v14 k v10 v11 v12 v13 (v15 + 1)))
def Maker_meanOfBlock_l83 (fu : Nat) (n : Nat) (col : (Nat → Int32)) (msk : (Nat → Int32)) (bare : (Nat → Int32)) (L : LyS) (v2 : Int32) (v7 : Int32) (v8 : Int32) (v9 : Int32) : Nat → Int32 → Int32 → Int32 → Int32 → Int32 → Option (Nat × Int32 × Int32 × Int32 × Int32)
  | 0, _, _, _, _, _ => none
  | k + 1, v10, v11, v12, v13, v14 =>
  (if v7 ≤ v14 then some (0, v10, v11, v12, v13)
  else (Maker_meanOfBlock_l94 n col msk bare L v2 v7 v8 v9 v14 fu v10 v11 v12 v13 v8).bind fun r13 =>
  Maker_meanOfBlock_l83 fu n col msk bare L v2 v7 v8 v9 k r13.2.1 r13.2.2.1 r13.2.2.2.1 r13.2.2.2.2 (v14 + 1))
def Maker_meanOfBlock (fu : Nat) (n : Nat) (col : (Nat → Int32)) (msk : (Nat → Int32)) (bare : (Nat → Int32)) (L : LyS) (p1 : Int32) (p2 : Int32) (p3 : Int32) (p4 : Int32) : Option Int32 :=
  (Layers_scaleOf n L p2).bind fun r1 =>
  (Layers_topOf n L p1).bind fun r2 =>
  (Layers_bottomOf n L p1).bind fun r3 =>
  (Maker_meanOfBlock_l83 fu n col msk bare L p2 (mn ((r2 + (p4 * r1)) + r1) r3) (p3 * r1) (mn ((p3 * r1) + r1) (L.1 0)) fu 0 0 0 0 (r2 + (p4 * r1))).bind fun r16 =>
  (if r16.2.1 = 0 then some ((-1))
  else (ML_mean r16.2.2.1 r16.2.1).bind fun r17 =>
  (ML_mean r16.2.2.2.1 r16.2.1).bind fun r18 =>
  (ML_mean r16.2.2.2.2 r16.2.1).bind fun r19 =>
  (ML_colourOf r17 r18 r19).bind fun r20 =>
  some r20)
set_option maxRecDepth 100000 in
set_option maxHeartbeats 4000000 in
theorem t_Maker_meanOfBlock_l94 {p : Program} {l : Launch} {e : Env} {s : State} {m : MethodId} {args : Array Value} {below : List Frame} {meth : Method} {c : Code} {D : va_G} {cI cR cZ : ClassId} {Q : State → Prop} (C : Cx p s m args meth c D (tyG cI cR cZ) b_Maker_meanOfBlock 18 "MaskLayers$Maker") {o0 : Nat} {hc : Nat} {hm : Nat} {hb : Nat} {a : (Nat → Nat)} {n : Nat} {col : (Nat → Int32)} {msk : (Nat → Int32)} {bare : (Nat → Int32)} {L : LyS} {v2 : Int32} {v7 : Int32} {v8 : Int32} {v9 : Int32} {v14 : Int32} {out : Nat × Int32 × Int32 × Int32 × Int32} : ∀ (k : Nat) (v10 : Int32) (v11 : Int32) (v12 : Int32) (v13 : Int32) (v15 : Int32), Maker_meanOfBlock_l94 n col msk bare L v2 v7 v8 v9 v14 k v10 v11 v12 v13 v15 = some out → (out.1 = 0 → J p l e rm_Maker_meanOfBlock s m args below meth c D no (fun _ => True) 18 Q 0 0 (wMk cI cR o0 hc hm hb a n col msk bare L) [(0, .ref o0), (2, .int v2), (7, .int v7), (8, .int v8), (9, .int v9), (10, .int out.2.1), (11, .int out.2.2.1), (12, .int out.2.2.2.1), (13, .int out.2.2.2.2), (14, .int v14)] [] 182) → J p l e rm_Maker_meanOfBlock s m args below meth c D no (fun _ => True) 18 Q 0 0 (wMk cI cR o0 hc hm hb a n col msk bare L) [(0, .ref o0), (2, .int v2), (7, .int v7), (8, .int v8), (9, .int v9), (10, .int v10), (11, .int v11), (12, .int v12), (13, .int v13), (14, .int v14), (15, .int v15)] [] 94 := by
  intro k
  induction k with
  | zero => intro v10 v11 v12 v13 v15 h; cases (show none = some out from h)
  | succ k ih =>
    intro v10 v11 v12 v13 v15 h x0
    rw [Maker_meanOfBlock_l94] at h
    refine j_iload C 10 d_Maker_meanOfBlock_94 rfl ?_
    refine j_iload C 4 d_Maker_meanOfBlock_96 rfl ?_
    refine j_icmp_ge C 182 d_Maker_meanOfBlock_98 (by decide) (fun c12 => ?_) (fun c12 => ?_)
    · replace h := (if_pos c12).symm.trans h
      obtain rfl := Option.some.inj h
      refine j_sub [0, 1, 2, 3, 4, 5, 6, 7, 8, 9] rfl ?_
      exact x0 rfl
    · replace h := (if_neg c12).symm.trans h
      refine j_iload C 9 d_Maker_meanOfBlock_101 rfl ?_
      refine j_aload_n C 0 d_Maker_meanOfBlock_103 rfl ?_
      refine gf_Maker_9 C 0 (v := .ref (a 0)) rfl rfl d_Maker_meanOfBlock_104 ?_
      refine gf_Maker_119 C 4 (v := .int (L.1 0)) rfl rfl d_Maker_meanOfBlock_107 ?_
      refine j_imul C d_Maker_meanOfBlock_110 ?_
      refine j_iload C 10 d_Maker_meanOfBlock_111 rfl ?_
      refine j_iadd C d_Maker_meanOfBlock_113 ?_
      refine j_istore C [(16, .int ((v14 * (L.1 0)) + v15)), (0, .ref o0), (2, .int v2), (7, .int v7), (8, .int v8), (9, .int v9), (10, .int v10), (11, .int v11), (12, .int v12), (13, .int v13), (14, .int v14), (15, .int v15)] d_Maker_meanOfBlock_114 (by decide) rfl ?_
      refine j_aload_n C 1 d_Maker_meanOfBlock_116 rfl ?_
      refine j_iload C 0 d_Maker_meanOfBlock_117 rfl ?_
      obtain ⟨r4, hr4, h⟩ := bd_ok h
      refine j_PV C [.int ((v14 * (L.1 0)) + v15)] 0 rfl rfl (c_Maker_isMasked l D cI cR cZ o0 hc hm hb a n col msk bare L ((v14 * (L.1 0)) + v15) hr4) (cw_Maker_89 C ⟨Nat.le_of_ble_eq_true rfl, Nat.le_of_ble_eq_true rfl⟩) [0, 1, 2, 3, 4, 5, 6, 7, 8, 9, 10] rfl rfl rfl (Nat.le_of_ble_eq_true rfl) d_Maker_meanOfBlock_119 (by decide) ?_
      refine j_iload_n C 2 d_Maker_meanOfBlock_122 rfl ?_
      refine j_iconst C (v := 2) d_Maker_meanOfBlock_123 (by decide) ?_
      obtain ⟨r5, hr5, gr5⟩ := bd_ok h
      refine j_let (ws' := wMk cI cR o0 hc hm hb a n col msk bare L) (lv' := [(0, .ref o0), (2, .int v2), (7, .int v7), (8, .int v8), (9, .int v9), (10, .int v10), (11, .int v11), (12, .int v12), (13, .int v13), (14, .int v14), (15, .int v15), (16, .int ((v14 * (L.1 0)) + v15))]) (st' := [.int r5, .int r4]) (pc' := 132) ?_ (fun Kr5 => ?_)
      · replace h := gr5
        refine j_icmp_ne C 176 d_Maker_meanOfBlock_132 (by decide) (fun c10 => ?_) (fun c10 => ?_)
        · replace h := (if_neg c10).symm.trans h
          refine j_iinc C [(15, .int (v15 + 1)), (0, .ref o0), (2, .int v2), (7, .int v7), (8, .int v8), (9, .int v9), (10, .int v10), (11, .int v11), (12, .int v12), (13, .int v13), (14, .int v14), (16, .int ((v14 * (L.1 0)) + v15))] 10 (v15 + 1) d_Maker_meanOfBlock_176 rfl rfl (by decide) rfl ?_
          refine j_goto C 94 d_Maker_meanOfBlock_179 (by decide) ?_
          refine j_sub [1, 2, 3, 4, 5, 6, 7, 8, 9, 10, 0] rfl ?_
          exact ih v10 v11 v12 v13 (v15 + 1) h x0
        · replace h := (if_pos c10).symm.trans h
          refine j_aload_n C 0 d_Maker_meanOfBlock_135 rfl ?_
          refine j_iload C 11 d_Maker_meanOfBlock_136 rfl ?_
          obtain ⟨r6, hr6, h⟩ := bd_ok h
          refine j_PV C [.int ((v14 * (L.1 0)) + v15)] 0 rfl rfl (c_Maker_colourAt l D cI cR cZ o0 hc hm hb a n col msk bare L ((v14 * (L.1 0)) + v15) hr6) (cw_Maker_122 C ⟨Nat.le_of_ble_eq_true rfl, Nat.le_of_ble_eq_true rfl⟩) [0, 1, 2, 3, 4, 5, 6, 7, 8, 9, 10] rfl rfl rfl (Nat.le_of_ble_eq_true rfl) d_Maker_meanOfBlock_138 (by decide) ?_
          refine j_istore C [(17, .int r6), (0, .ref o0), (2, .int v2), (7, .int v7), (8, .int v8), (9, .int v9), (10, .int v10), (11, .int v11), (12, .int v12), (13, .int v13), (14, .int v14), (15, .int v15), (16, .int ((v14 * (L.1 0)) + v15))] d_Maker_meanOfBlock_141 (by decide) rfl ?_
          refine j_iinc C [(10, .int (v10 + 1)), (17, .int r6), (0, .ref o0), (2, .int v2), (7, .int v7), (8, .int v8), (9, .int v9), (11, .int v11), (12, .int v12), (13, .int v13), (14, .int v14), (15, .int v15), (16, .int ((v14 * (L.1 0)) + v15))] 6 (v10 + 1) d_Maker_meanOfBlock_143 rfl rfl (by decide) rfl ?_
          refine j_iload C 7 d_Maker_meanOfBlock_146 rfl ?_
          refine j_iload C 1 d_Maker_meanOfBlock_148 rfl ?_
          obtain ⟨r7, hr7, h⟩ := bd_ok h
          refine j_PSN C [.int r6] (c_ML_red l D cI cR cZ r6 hr7) (cw_Maker_125 C ⟨Nat.le_of_ble_eq_true rfl, Nat.le_of_ble_eq_true rfl⟩) [] rfl rfl rfl (Nat.le_of_ble_eq_true rfl) d_Maker_meanOfBlock_150 (by decide) ?_
          refine j_iadd C d_Maker_meanOfBlock_153 ?_
          refine j_istore C [(11, .int (v11 + r7)), (10, .int (v10 + 1)), (17, .int r6), (0, .ref o0), (2, .int v2), (7, .int v7), (8, .int v8), (9, .int v9), (12, .int v12), (13, .int v13), (14, .int v14), (15, .int v15), (16, .int ((v14 * (L.1 0)) + v15))] d_Maker_meanOfBlock_154 (by decide) rfl ?_
          refine j_iload C 8 d_Maker_meanOfBlock_156 rfl ?_
          refine j_iload C 2 d_Maker_meanOfBlock_158 rfl ?_
          obtain ⟨r8, hr8, h⟩ := bd_ok h
          refine j_PSN C [.int r6] (c_ML_green l D cI cR cZ r6 hr8) (cw_Maker_128 C ⟨Nat.le_of_ble_eq_true rfl, Nat.le_of_ble_eq_true rfl⟩) [] rfl rfl rfl (Nat.le_of_ble_eq_true rfl) d_Maker_meanOfBlock_160 (by decide) ?_
          refine j_iadd C d_Maker_meanOfBlock_163 ?_
          refine j_istore C [(12, .int (v12 + r8)), (11, .int (v11 + r7)), (10, .int (v10 + 1)), (17, .int r6), (0, .ref o0), (2, .int v2), (7, .int v7), (8, .int v8), (9, .int v9), (13, .int v13), (14, .int v14), (15, .int v15), (16, .int ((v14 * (L.1 0)) + v15))] d_Maker_meanOfBlock_164 (by decide) rfl ?_
          refine j_iload C 9 d_Maker_meanOfBlock_166 rfl ?_
          refine j_iload C 3 d_Maker_meanOfBlock_168 rfl ?_
          obtain ⟨r9, hr9, h⟩ := bd_ok h
          refine j_PSN C [.int r6] (c_ML_blue l D cI cR cZ r6 hr9) (cw_Maker_131 C ⟨Nat.le_of_ble_eq_true rfl, Nat.le_of_ble_eq_true rfl⟩) [] rfl rfl rfl (Nat.le_of_ble_eq_true rfl) d_Maker_meanOfBlock_170 (by decide) ?_
          refine j_iadd C d_Maker_meanOfBlock_173 ?_
          refine j_istore C [(13, .int (v13 + r9)), (12, .int (v12 + r8)), (11, .int (v11 + r7)), (10, .int (v10 + 1)), (17, .int r6), (0, .ref o0), (2, .int v2), (7, .int v7), (8, .int v8), (9, .int v9), (14, .int v14), (15, .int v15), (16, .int ((v14 * (L.1 0)) + v15))] d_Maker_meanOfBlock_174 (by decide) rfl ?_
          refine j_iinc C [(15, .int (v15 + 1)), (13, .int (v13 + r9)), (12, .int (v12 + r8)), (11, .int (v11 + r7)), (10, .int (v10 + 1)), (17, .int r6), (0, .ref o0), (2, .int v2), (7, .int v7), (8, .int v8), (9, .int v9), (14, .int v14), (16, .int ((v14 * (L.1 0)) + v15))] 11 (v15 + 1) d_Maker_meanOfBlock_176 rfl rfl (by decide) rfl ?_
          refine j_goto C 94 d_Maker_meanOfBlock_179 (by decide) ?_
          refine j_sub [6, 7, 8, 9, 10, 4, 3, 2, 1, 11, 0] rfl ?_
          exact ih (v10 + 1) (v11 + r7) (v12 + r8) (v13 + r9) (v15 + 1) h x0
      · replace h := hr5
        refine j_icmp_ne C 131 d_Maker_meanOfBlock_124 (by decide) (fun c11 => ?_) (fun c11 => ?_)
        · replace h := (if_neg c11).symm.trans h
          refine j_iconst C (v := 0) d_Maker_meanOfBlock_131 (by decide) ?_
          obtain rfl := Option.some.inj h
          refine j_sub [1, 2, 3, 4, 5, 6, 7, 8, 9, 10, 11, 0] rfl ?_
          exact Kr5
        · replace h := (if_pos c11).symm.trans h
          refine j_iconst C (v := 1) d_Maker_meanOfBlock_127 (by decide) ?_
          refine j_goto C 132 d_Maker_meanOfBlock_128 (by decide) ?_
          obtain rfl := Option.some.inj h
          refine j_sub [1, 2, 3, 4, 5, 6, 7, 8, 9, 10, 11, 0] rfl ?_
          exact Kr5
set_option maxRecDepth 100000 in
set_option maxHeartbeats 4000000 in
theorem t_Maker_meanOfBlock_l83 {p : Program} {l : Launch} {e : Env} {s : State} {m : MethodId} {args : Array Value} {below : List Frame} {meth : Method} {c : Code} {D : va_G} {cI cR cZ : ClassId} {Q : State → Prop} (C : Cx p s m args meth c D (tyG cI cR cZ) b_Maker_meanOfBlock 18 "MaskLayers$Maker") {o0 : Nat} {hc : Nat} {hm : Nat} {hb : Nat} {a : (Nat → Nat)} {n : Nat} {fu : Nat} {col : (Nat → Int32)} {msk : (Nat → Int32)} {bare : (Nat → Int32)} {L : LyS} {v2 : Int32} {v7 : Int32} {v8 : Int32} {v9 : Int32} {out : Nat × Int32 × Int32 × Int32 × Int32} : ∀ (k : Nat) (v10 : Int32) (v11 : Int32) (v12 : Int32) (v13 : Int32) (v14 : Int32), Maker_meanOfBlock_l83 fu n col msk bare L v2 v7 v8 v9 k v10 v11 v12 v13 v14 = some out → (out.1 = 0 → J p l e rm_Maker_meanOfBlock s m args below meth c D no (fun _ => True) 18 Q 0 0 (wMk cI cR o0 hc hm hb a n col msk bare L) [(10, .int out.2.1), (11, .int out.2.2.1), (12, .int out.2.2.2.1), (13, .int out.2.2.2.2)] [] 188) → J p l e rm_Maker_meanOfBlock s m args below meth c D no (fun _ => True) 18 Q 0 0 (wMk cI cR o0 hc hm hb a n col msk bare L) [(0, .ref o0), (2, .int v2), (7, .int v7), (8, .int v8), (9, .int v9), (10, .int v10), (11, .int v11), (12, .int v12), (13, .int v13), (14, .int v14)] [] 83 := by
  intro k
  induction k with
  | zero => intro v10 v11 v12 v13 v14 h; cases (show none = some out from h)
  | succ k ih =>
    intro v10 v11 v12 v13 v14 h x0
    rw [Maker_meanOfBlock_l83] at h
    refine j_iload C 9 d_Maker_meanOfBlock_83 rfl ?_
    refine j_iload C 2 d_Maker_meanOfBlock_85 rfl ?_
    refine j_icmp_ge C 188 d_Maker_meanOfBlock_87 (by decide) (fun c15 => ?_) (fun c15 => ?_)
    · replace h := (if_pos c15).symm.trans h
      obtain rfl := Option.some.inj h
      refine j_sub [5, 6, 7, 8] rfl ?_
      exact x0 rfl
    · replace h := (if_neg c15).symm.trans h
      refine j_iload C 3 d_Maker_meanOfBlock_90 rfl ?_
      refine j_istore C [(15, .int v8), (0, .ref o0), (2, .int v2), (7, .int v7), (8, .int v8), (9, .int v9), (10, .int v10), (11, .int v11), (12, .int v12), (13, .int v13), (14, .int v14)] d_Maker_meanOfBlock_92 (by decide) rfl ?_
      obtain ⟨r13, hr13, h⟩ := bd_ok h
      refine j_sub [1, 2, 3, 4, 5, 6, 7, 8, 9, 10, 0] rfl ?_
      refine t_Maker_meanOfBlock_l94 C fu v10 v11 v12 v13 v8 hr13 (fun e14 => ?_)
      · refine j_iinc C [(14, .int (v14 + 1)), (0, .ref o0), (2, .int v2), (7, .int v7), (8, .int v8), (9, .int v9), (10, .int r13.2.1), (11, .int r13.2.2.1), (12, .int r13.2.2.2.1), (13, .int r13.2.2.2.2)] 9 (v14 + 1) d_Maker_meanOfBlock_182 rfl rfl (by decide) rfl ?_
        refine j_goto C 83 d_Maker_meanOfBlock_185 (by decide) ?_
        refine j_sub [1, 2, 3, 4, 5, 6, 7, 8, 9, 0] rfl ?_
        exact ih r13.2.1 r13.2.2.1 r13.2.2.2.1 r13.2.2.2.2 (v14 + 1) h x0
set_option maxRecDepth 100000 in
set_option maxHeartbeats 4000000 in
theorem c_Maker_meanOfBlock (l : Launch) (D : va_G) (cI cR cZ : ClassId) (fu : Nat) (o0 : Nat) (hc : Nat) (hm : Nat) (hb : Nat) (a : (Nat → Nat)) (n : Nat) (col : (Nat → Int32)) (msk : (Nat → Int32)) (bare : (Nat → Int32)) (L : LyS) (p1 : Int32) (p2 : Int32) (p3 : Int32) (p4 : Int32) {res : Int32} (h : Maker_meanOfBlock fu n col msk bare L p1 p2 p3 p4 = some res) : Met l y_Maker_meanOfBlock (Cond.code y_Maker_meanOfBlock b_Maker_meanOfBlock 18 (some .int) :: BIG) rm_Maker_meanOfBlock (PcP [.ref o0, .int p1, .int p2, .int p3, .int p4] D (tyG cI cR cZ) (wMk cI cR o0 hc hm hb a n col msk bare L)) (QcP res) 0 0 no := by
  refine met_P (by decide) (Nat.le_of_ble_eq_true rfl) (fun p e s m args below meth c C hr => ?_)
  have C : Cx p s m args meth c D (tyG cI cR cZ) b_Maker_meanOfBlock 18 "MaskLayers$Maker" := C
  have hr : meth.sig.returnType = some .int := hr
  show J p l e rm_Maker_meanOfBlock s m args below meth c D no (fun _ => True) 18 (MQ below (QcP res) args s 0 0 no) 0 0 (wMk cI cR o0 hc hm hb a n col msk bare L) [(0, .ref o0), (1, .int p1), (2, .int p2), (3, .int p3), (4, .int p4)] [] 0
  unfold Maker_meanOfBlock at h
  refine j_aload_n C 0 d_Maker_meanOfBlock_0 rfl ?_
  refine gf_Maker_9 C 0 (v := .ref (a 0)) rfl rfl d_Maker_meanOfBlock_1 ?_
  refine j_iload_n C 2 d_Maker_meanOfBlock_4 rfl ?_
  obtain ⟨r1, hr1, h⟩ := bd_ok h
  refine j_PV C [.int p2] 4 rfl rfl (c_Layers_scaleOf l D cI cR cZ a n L p2 hr1) (cw_Maker_105 C ⟨Nat.le_of_ble_eq_true rfl, Nat.le_of_ble_eq_true rfl⟩) [4, 5, 6, 7, 8, 9, 10] rfl rfl rfl (Nat.le_of_ble_eq_true rfl) d_Maker_meanOfBlock_5 (by decide) ?_
  refine j_istore C [(5, .int r1), (0, .ref o0), (1, .int p1), (2, .int p2), (3, .int p3), (4, .int p4)] d_Maker_meanOfBlock_8 (by decide) rfl ?_
  refine j_aload_n C 1 d_Maker_meanOfBlock_10 rfl ?_
  refine gf_Maker_9 C 0 (v := .ref (a 0)) rfl rfl d_Maker_meanOfBlock_11 ?_
  refine j_iload_n C 2 d_Maker_meanOfBlock_14 rfl ?_
  obtain ⟨r2, hr2, h⟩ := bd_ok h
  refine j_PV C [.int p1] 4 rfl rfl (c_Layers_topOf l D cI cR cZ a n L p1 hr2) (cw_Maker_108 C ⟨Nat.le_of_ble_eq_true rfl, Nat.le_of_ble_eq_true rfl⟩) [4, 5, 6, 7, 8, 9, 10] rfl rfl rfl (Nat.le_of_ble_eq_true rfl) d_Maker_meanOfBlock_15 (by decide) ?_
  refine j_iload C 5 d_Maker_meanOfBlock_18 rfl ?_
  refine j_iload C 0 d_Maker_meanOfBlock_20 rfl ?_
  refine j_imul C d_Maker_meanOfBlock_22 ?_
  refine j_iadd C d_Maker_meanOfBlock_23 ?_
  refine j_istore C [(6, .int (r2 + (p4 * r1))), (5, .int r1), (0, .ref o0), (1, .int p1), (2, .int p2), (3, .int p3), (4, .int p4)] d_Maker_meanOfBlock_24 (by decide) rfl ?_
  refine j_iload C 0 d_Maker_meanOfBlock_26 rfl ?_
  refine j_iload C 1 d_Maker_meanOfBlock_28 rfl ?_
  refine j_iadd C d_Maker_meanOfBlock_30 ?_
  refine j_aload_n C 2 d_Maker_meanOfBlock_31 rfl ?_
  refine gf_Maker_9 C 0 (v := .ref (a 0)) rfl rfl d_Maker_meanOfBlock_32 ?_
  refine j_iload_n C 3 d_Maker_meanOfBlock_35 rfl ?_
  obtain ⟨r3, hr3, h⟩ := bd_ok h
  refine j_PV C [.int p1] 4 rfl rfl (c_Layers_bottomOf l D cI cR cZ a n L p1 hr3) (cw_Maker_111 C ⟨Nat.le_of_ble_eq_true rfl, Nat.le_of_ble_eq_true rfl⟩) [4, 5, 6, 7, 8, 9, 10] rfl rfl rfl (Nat.le_of_ble_eq_true rfl) d_Maker_meanOfBlock_36 (by decide) ?_
  refine j_mmin C mw_Maker_114 (Nat.le_of_ble_eq_true rfl) (Nat.le_of_ble_eq_true rfl) (by decide) d_Maker_meanOfBlock_39 ?_
  refine j_istore C [(7, .int (mn ((r2 + (p4 * r1)) + r1) r3)), (6, .int (r2 + (p4 * r1))), (5, .int r1), (0, .ref o0), (1, .int p1), (2, .int p2), (3, .int p3), (4, .int p4)] d_Maker_meanOfBlock_42 (by decide) rfl ?_
  refine j_iload_n C 6 d_Maker_meanOfBlock_44 rfl ?_
  refine j_iload C 2 d_Maker_meanOfBlock_45 rfl ?_
  refine j_imul C d_Maker_meanOfBlock_47 ?_
  refine j_istore C [(8, .int (p3 * r1)), (7, .int (mn ((r2 + (p4 * r1)) + r1) r3)), (6, .int (r2 + (p4 * r1))), (5, .int r1), (0, .ref o0), (1, .int p1), (2, .int p2), (3, .int p3), (4, .int p4)] d_Maker_meanOfBlock_48 (by decide) rfl ?_
  refine j_iload C 0 d_Maker_meanOfBlock_50 rfl ?_
  refine j_iload C 3 d_Maker_meanOfBlock_52 rfl ?_
  refine j_iadd C d_Maker_meanOfBlock_54 ?_
  refine j_aload_n C 4 d_Maker_meanOfBlock_55 rfl ?_
  refine gf_Maker_9 C 0 (v := .ref (a 0)) rfl rfl d_Maker_meanOfBlock_56 ?_
  refine gf_Maker_119 C 4 (v := .int (L.1 0)) rfl rfl d_Maker_meanOfBlock_59 ?_
  refine j_mmin C mw_Maker_114 (Nat.le_of_ble_eq_true rfl) (Nat.le_of_ble_eq_true rfl) (by decide) d_Maker_meanOfBlock_62 ?_
  refine j_istore C [(9, .int (mn ((p3 * r1) + r1) (L.1 0))), (8, .int (p3 * r1)), (7, .int (mn ((r2 + (p4 * r1)) + r1) r3)), (6, .int (r2 + (p4 * r1))), (5, .int r1), (0, .ref o0), (1, .int p1), (2, .int p2), (3, .int p3), (4, .int p4)] d_Maker_meanOfBlock_65 (by decide) rfl ?_
  refine j_iconst C (v := 0) d_Maker_meanOfBlock_67 (by decide) ?_
  refine j_istore C [(10, .int 0), (9, .int (mn ((p3 * r1) + r1) (L.1 0))), (8, .int (p3 * r1)), (7, .int (mn ((r2 + (p4 * r1)) + r1) r3)), (6, .int (r2 + (p4 * r1))), (5, .int r1), (0, .ref o0), (1, .int p1), (2, .int p2), (3, .int p3), (4, .int p4)] d_Maker_meanOfBlock_68 (by decide) rfl ?_
  refine j_iconst C (v := 0) d_Maker_meanOfBlock_70 (by decide) ?_
  refine j_istore C [(11, .int 0), (10, .int 0), (9, .int (mn ((p3 * r1) + r1) (L.1 0))), (8, .int (p3 * r1)), (7, .int (mn ((r2 + (p4 * r1)) + r1) r3)), (6, .int (r2 + (p4 * r1))), (5, .int r1), (0, .ref o0), (1, .int p1), (2, .int p2), (3, .int p3), (4, .int p4)] d_Maker_meanOfBlock_71 (by decide) rfl ?_
  refine j_iconst C (v := 0) d_Maker_meanOfBlock_73 (by decide) ?_
  refine j_istore C [(12, .int 0), (11, .int 0), (10, .int 0), (9, .int (mn ((p3 * r1) + r1) (L.1 0))), (8, .int (p3 * r1)), (7, .int (mn ((r2 + (p4 * r1)) + r1) r3)), (6, .int (r2 + (p4 * r1))), (5, .int r1), (0, .ref o0), (1, .int p1), (2, .int p2), (3, .int p3), (4, .int p4)] d_Maker_meanOfBlock_74 (by decide) rfl ?_
  refine j_iconst C (v := 0) d_Maker_meanOfBlock_76 (by decide) ?_
  refine j_istore C [(13, .int 0), (12, .int 0), (11, .int 0), (10, .int 0), (9, .int (mn ((p3 * r1) + r1) (L.1 0))), (8, .int (p3 * r1)), (7, .int (mn ((r2 + (p4 * r1)) + r1) r3)), (6, .int (r2 + (p4 * r1))), (5, .int r1), (0, .ref o0), (1, .int p1), (2, .int p2), (3, .int p3), (4, .int p4)] d_Maker_meanOfBlock_77 (by decide) rfl ?_
  refine j_iload C 7 d_Maker_meanOfBlock_79 rfl ?_
  refine j_istore C [(14, .int (r2 + (p4 * r1))), (13, .int 0), (12, .int 0), (11, .int 0), (10, .int 0), (9, .int (mn ((p3 * r1) + r1) (L.1 0))), (8, .int (p3 * r1)), (7, .int (mn ((r2 + (p4 * r1)) + r1) r3)), (6, .int (r2 + (p4 * r1))), (5, .int r1), (0, .ref o0), (1, .int p1), (2, .int p2), (3, .int p3), (4, .int p4)] d_Maker_meanOfBlock_81 (by decide) rfl ?_
  obtain ⟨r16, hr16, h⟩ := bd_ok h
  refine j_sub [10, 12, 7, 6, 5, 4, 3, 2, 1, 0] rfl ?_
  refine t_Maker_meanOfBlock_l83 C fu 0 0 0 0 (r2 + (p4 * r1)) hr16 (fun e22 => ?_)
  · refine j_iload C 0 d_Maker_meanOfBlock_188 rfl ?_
    refine j_if_ne C 197 d_Maker_meanOfBlock_190 (by decide) (fun c21 => ?_) (fun c21 => ?_)
    · replace h := (if_neg c21).symm.trans h
      refine j_iload C 1 d_Maker_meanOfBlock_197 rfl ?_
      refine j_iload C 0 d_Maker_meanOfBlock_199 rfl ?_
      obtain ⟨r17, hr17, h⟩ := bd_ok h
      refine j_PSN C [.int r16.2.2.1, .int r16.2.1] (c_ML_mean l D cI cR cZ r16.2.2.1 r16.2.1 hr17) (cw_Maker_134 C ⟨Nat.le_of_ble_eq_true rfl, Nat.le_of_ble_eq_true rfl⟩) [] rfl rfl rfl (Nat.le_of_ble_eq_true rfl) d_Maker_meanOfBlock_201 (by decide) ?_
      refine j_iload C 2 d_Maker_meanOfBlock_204 rfl ?_
      refine j_iload C 0 d_Maker_meanOfBlock_206 rfl ?_
      obtain ⟨r18, hr18, h⟩ := bd_ok h
      refine j_PSN C [.int r16.2.2.2.1, .int r16.2.1] (c_ML_mean l D cI cR cZ r16.2.2.2.1 r16.2.1 hr18) (cw_Maker_134 C ⟨Nat.le_of_ble_eq_true rfl, Nat.le_of_ble_eq_true rfl⟩) [] rfl rfl rfl (Nat.le_of_ble_eq_true rfl) d_Maker_meanOfBlock_208 (by decide) ?_
      refine j_iload C 3 d_Maker_meanOfBlock_211 rfl ?_
      refine j_iload C 0 d_Maker_meanOfBlock_213 rfl ?_
      obtain ⟨r19, hr19, h⟩ := bd_ok h
      refine j_PSN C [.int r16.2.2.2.2, .int r16.2.1] (c_ML_mean l D cI cR cZ r16.2.2.2.2 r16.2.1 hr19) (cw_Maker_134 C ⟨Nat.le_of_ble_eq_true rfl, Nat.le_of_ble_eq_true rfl⟩) [] rfl rfl rfl (Nat.le_of_ble_eq_true rfl) d_Maker_meanOfBlock_215 (by decide) ?_
      obtain ⟨r20, hr20, h⟩ := bd_ok h
      refine j_PSN C [.int r17, .int r18, .int r19] (c_ML_colourOf l D cI cR cZ r17 r18 r19 hr20) (cw_Maker_137 C ⟨Nat.le_of_ble_eq_true rfl, Nat.le_of_ble_eq_true rfl⟩) [] rfl rfl rfl (Nat.le_of_ble_eq_true rfl) d_Maker_meanOfBlock_218 (by decide) ?_
      obtain rfl := Option.some.inj h
      exact j_pret C hr d_Maker_meanOfBlock_221
    · replace h := (if_pos c21).symm.trans h
      refine j_iconst C (v := (-1)) d_Maker_meanOfBlock_193 (by decide) ?_
      refine j_goto C 221 d_Maker_meanOfBlock_194 (by decide) ?_
      obtain rfl := Option.some.inj h
      exact j_pret C hr d_Maker_meanOfBlock_221
def Maker_takeMask_l22 (n : Nat) (col : (Nat → Int32)) (msk : (Nat → Int32)) (bare : (Nat → Int32)) (v3 : Int32) : Nat → Int32 → Int32 → LyS → Option (Nat × Int32 × LyS)
  | 0, _, _, _ => none
  | k + 1, v2, v4, L =>
  (if v3 ≤ v4 then some (0, v2, L)
  else (Maker_isMasked n col msk bare L v4).bind fun r3 =>
  (if r3 = 0 then some ((0 : Int32))
  else some ((1 : Int32))).bind fun r4 =>
  (Layers_set n L 1 v4 r4).bind fun r5 =>
  Maker_takeMask_l22 n col msk bare v3 k (v2 + r4) (v4 + 1) r5)
def Maker_takeMask (fu : Nat) (n : Nat) (col : (Nat → Int32)) (msk : (Nat → Int32)) (bare : (Nat → Int32)) (L : LyS) (p1 : Int32) : Option (Int32 × LyS) :=
  (Layers_endOf n L p1 1).bind fun r1 =>
  (Layers_startOf n L p1).bind fun r2 =>
  (Maker_takeMask_l22 n col msk bare r1 fu 0 r2 L).bind fun r8 =>
  some (r8.2.1, r8.2.2)
set_option maxRecDepth 100000 in
set_option maxHeartbeats 4000000 in
theorem t_Maker_takeMask_l22 {p : Program} {l : Launch} {e : Env} {s : State} {m : MethodId} {args : Array Value} {below : List Frame} {meth : Method} {c : Code} {D : va_G} {cI cR cZ : ClassId} {A : Nat → Prop} {Q : State → Prop} (C : Cx p s m args meth c D (tyG cI cR cZ) b_Maker_takeMask 6 "MaskLayers$Maker") (hA : ∀ q : Nat, s.heap.size ≤ q → A q) {o0 : Nat} {hc : Nat} {hm : Nat} {hb : Nat} {a : (Nat → Nat)} {n : Nat} {col : (Nat → Int32)} {msk : (Nat → Int32)} {bare : (Nat → Int32)} {v3 : Int32} {out : Nat × Int32 × LyS} : ∀ (k : Nat) (v2 : Int32) (v4 : Int32) (L : LyS), Maker_takeMask_l22 n col msk bare v3 k v2 v4 L = some out → (out.1 = 0 → J p l e rm_Maker_takeMask s m args below meth c D A (va_D A) 6 Q 0 0 (wMk cI cR o0 hc hm hb a n col msk bare out.2.2) [(2, .int out.2.1)] [] 67) → J p l e rm_Maker_takeMask s m args below meth c D A (va_D A) 6 Q 0 0 (wMk cI cR o0 hc hm hb a n col msk bare L) [(0, .ref o0), (2, .int v2), (3, .int v3), (4, .int v4)] [] 22 := by
  intro k
  induction k with
  | zero => intro v2 v4 L h; cases (show none = some out from h)
  | succ k ih =>
    intro v2 v4 L h x0
    rw [Maker_takeMask_l22] at h
    refine j_iload C 3 d_Maker_takeMask_22 rfl ?_
    refine j_iload_n C 2 d_Maker_takeMask_24 rfl ?_
    refine j_icmp_ge C 67 d_Maker_takeMask_25 (by decide) (fun c7 => ?_) (fun c7 => ?_)
    · replace h := (if_pos c7).symm.trans h
      obtain rfl := Option.some.inj h
      refine j_sub [1] rfl ?_
      exact x0 rfl
    · replace h := (if_neg c7).symm.trans h
      refine j_aload_n C 0 d_Maker_takeMask_28 rfl ?_
      refine j_iload C 3 d_Maker_takeMask_29 rfl ?_
      obtain ⟨r3, hr3, h⟩ := bd_ok h
      refine j_PV C [.int v4] 0 rfl rfl (c_Maker_isMasked l D cI cR cZ o0 hc hm hb a n col msk bare L v4 hr3) (cw_Maker_89 C ⟨Nat.le_of_ble_eq_true rfl, Nat.le_of_ble_eq_true rfl⟩) [0, 1, 2, 3, 4, 5, 6, 7, 8, 9, 10] rfl rfl rfl (Nat.le_of_ble_eq_true rfl) d_Maker_takeMask_31 (by decide) ?_
      obtain ⟨r4, hr4, gr4⟩ := bd_ok h
      refine j_let (ws' := wMk cI cR o0 hc hm hb a n col msk bare L) (lv' := [(0, .ref o0), (2, .int v2), (3, .int v3), (4, .int v4)]) (st' := [.int r4]) (pc' := 42) ?_ (fun Kr4 => ?_)
      · replace h := gr4
        refine j_istore C [(5, .int r4), (0, .ref o0), (2, .int v2), (3, .int v3), (4, .int v4)] d_Maker_takeMask_42 (by decide) rfl ?_
        refine j_aload_n C 1 d_Maker_takeMask_44 rfl ?_
        refine gf_Maker_9 C 0 (v := .ref (a 0)) rfl rfl d_Maker_takeMask_45 ?_
        refine j_iconst C (v := 1) d_Maker_takeMask_48 (by decide) ?_
        refine j_iload C 4 d_Maker_takeMask_49 rfl ?_
        refine j_iload C 0 d_Maker_takeMask_51 rfl ?_
        obtain ⟨r5, hr5, h⟩ := bd_ok h
        refine j_VV C [.int 1, .int v4, .int r4] hA 4 rfl rfl (c_Layers_set l D cI cR cZ a n L 1 v4 r4 hr5) (cw_Maker_92 C ⟨Nat.le_of_ble_eq_true rfl, Nat.le_of_ble_eq_true rfl⟩) [4, 5, 6, 7, 8, 9, 10] [0, 1, 2, 3] rfl rfl (by decide) (by decide) (by decide) rfl rfl (Nat.le_of_ble_eq_true rfl) d_Maker_takeMask_53 (by decide) (fun _ => ?_)
        refine j_ws (ws' := wMk cI cR o0 hc hm hb a n col msk bare r5) rfl ?_
        refine j_iload_n C 2 d_Maker_takeMask_56 rfl ?_
        refine j_iload C 0 d_Maker_takeMask_57 rfl ?_
        refine j_iadd C d_Maker_takeMask_59 ?_
        refine j_istore_n C [(2, .int (v2 + r4)), (5, .int r4), (0, .ref o0), (3, .int v3), (4, .int v4)] d_Maker_takeMask_60 (by decide) rfl ?_
        refine j_iinc C [(4, .int (v4 + 1)), (2, .int (v2 + r4)), (5, .int r4), (0, .ref o0), (3, .int v3)] 4 (v4 + 1) d_Maker_takeMask_61 rfl rfl (by decide) rfl ?_
        refine j_goto C 22 d_Maker_takeMask_64 (by decide) ?_
        refine j_sub [3, 1, 4, 0] rfl ?_
        exact ih (v2 + r4) (v4 + 1) r5 h x0
      · replace h := hr4
        refine j_if_eq C 41 d_Maker_takeMask_34 (by decide) (fun c6 => ?_) (fun c6 => ?_)
        · replace h := (if_pos c6).symm.trans h
          refine j_iconst C (v := 0) d_Maker_takeMask_41 (by decide) ?_
          obtain rfl := Option.some.inj h
          refine j_sub [0, 1, 2, 3] rfl ?_
          exact Kr4
        · replace h := (if_neg c6).symm.trans h
          refine j_iconst C (v := 1) d_Maker_takeMask_37 (by decide) ?_
          refine j_goto C 42 d_Maker_takeMask_38 (by decide) ?_
          obtain rfl := Option.some.inj h
          refine j_sub [0, 1, 2, 3] rfl ?_
          exact Kr4
set_option maxRecDepth 100000 in
set_option maxHeartbeats 4000000 in
theorem c_Maker_takeMask (l : Launch) (D : va_G) (cI cR cZ : ClassId) (fu : Nat) (o0 : Nat) (hc : Nat) (hm : Nat) (hb : Nat) (a : (Nat → Nat)) (n : Nat) (col : (Nat → Int32)) (msk : (Nat → Int32)) (bare : (Nat → Int32)) (L : LyS) (p1 : Int32) {res : (Int32 × LyS)} (h : Maker_takeMask fu n col msk bare L p1 = some res) (sz : Nat) : Met l y_Maker_takeMask (Cond.code y_Maker_takeMask b_Maker_takeMask 6 (some .int) :: BIG) rm_Maker_takeMask (PcI [.ref o0, .int p1] D (tyG cI cR cZ) (wMk cI cR o0 hc hm hb a n col msk bare L) sz) (QcI D res.1 (fun _ : Nat => wMk cI cR o0 hc hm hb a n col msk bare res.2) (va_A (wMk cI cR o0 hc hm hb a n col msk bare L) sz)) 0 0 (va_A (wMk cI cR o0 hc hm hb a n col msk bare L) sz) := by
  refine met_I (by decide) (Nat.le_of_ble_eq_true rfl) (fun p e s m args below meth c A hA C hr => ?_)
  have C : Cx p s m args meth c D (tyG cI cR cZ) b_Maker_takeMask 6 "MaskLayers$Maker" := C
  have hr : meth.sig.returnType = some .int := hr
  show J p l e rm_Maker_takeMask s m args below meth c D A (va_D A) 6 (MQ below (QcI D res.1 (fun _ : Nat => wMk cI cR o0 hc hm hb a n col msk bare res.2) A) args s 0 0 A) 0 0 (wMk cI cR o0 hc hm hb a n col msk bare L) [(0, .ref o0), (1, .int p1)] [] 0
  unfold Maker_takeMask at h
  refine j_iconst C (v := 0) d_Maker_takeMask_0 (by decide) ?_
  refine j_istore_n C [(2, .int 0), (0, .ref o0), (1, .int p1)] d_Maker_takeMask_1 (by decide) rfl ?_
  refine j_aload_n C 1 d_Maker_takeMask_2 rfl ?_
  refine gf_Maker_9 C 0 (v := .ref (a 0)) rfl rfl d_Maker_takeMask_3 ?_
  refine j_iload_n C 2 d_Maker_takeMask_6 rfl ?_
  refine j_iconst C (v := 1) d_Maker_takeMask_7 (by decide) ?_
  obtain ⟨r1, hr1, h⟩ := bd_ok h
  refine j_PV C [.int p1, .int 1] 4 rfl rfl (c_Layers_endOf l D cI cR cZ a n L p1 1 hr1) (cw_Maker_67 C ⟨Nat.le_of_ble_eq_true rfl, Nat.le_of_ble_eq_true rfl⟩) [4, 5, 6, 7, 8, 9, 10] rfl rfl rfl (Nat.le_of_ble_eq_true rfl) d_Maker_takeMask_8 (by decide) ?_
  refine j_istore_n C [(3, .int r1), (2, .int 0), (0, .ref o0), (1, .int p1)] d_Maker_takeMask_11 (by decide) rfl ?_
  refine j_aload_n C 2 d_Maker_takeMask_12 rfl ?_
  refine gf_Maker_9 C 0 (v := .ref (a 0)) rfl rfl d_Maker_takeMask_13 ?_
  refine j_iload_n C 3 d_Maker_takeMask_16 rfl ?_
  obtain ⟨r2, hr2, h⟩ := bd_ok h
  refine j_PV C [.int p1] 4 rfl rfl (c_Layers_startOf l D cI cR cZ a n L p1 hr2) (cw_Maker_71 C ⟨Nat.le_of_ble_eq_true rfl, Nat.le_of_ble_eq_true rfl⟩) [4, 5, 6, 7, 8, 9, 10] rfl rfl rfl (Nat.le_of_ble_eq_true rfl) d_Maker_takeMask_17 (by decide) ?_
  refine j_istore C [(4, .int r2), (3, .int r1), (2, .int 0), (0, .ref o0), (1, .int p1)] d_Maker_takeMask_20 (by decide) rfl ?_
  obtain ⟨r8, hr8, h⟩ := bd_ok h
  refine j_sub [3, 2, 1, 0] rfl ?_
  refine t_Maker_takeMask_l22 C hA fu 0 r2 L hr8 (fun e9 => ?_)
  · refine j_iload_n C 0 d_Maker_takeMask_67 rfl ?_
    obtain rfl := Option.some.inj h
    exact j_iret C hr d_Maker_takeMask_68 0 rfl
def Maker_makeBlocks_l45 (fu : Nat) (n : Nat) (col : (Nat → Int32)) (msk : (Nat → Int32)) (bare : (Nat → Int32)) (v1 : Int32) (v2 : Int32) (v3 : Int32) (v4 : Int32) (v7 : Int32) : Nat → Int32 → Int32 → Int32 → LyS → Option (Nat × Int32 × Int32 × LyS)
  | 0, _, _, _, _ => none
  | k + 1, v5, v6, v8, L =>
  (if v4 ≤ v8 then some (0, v5, v6, L)
  else (Maker_meanOfBlock fu n col msk bare L v1 v2 v8 v7).bind fun r4 =>
  (Layers_set n L v2 v5 r4).bind fun r5 =>
  (if v6 = ((-1)) then Maker_makeBlocks_l45 fu n col msk bare v1 v2 v3 v4 v7 k (v5 + 1) r4 (v8 + 1) r5
  else Maker_makeBlocks_l45 fu n col msk bare v1 v2 v3 v4 v7 k (v5 + 1) v6 (v8 + 1) r5))
def Maker_makeBlocks_l36 (fu : Nat) (n : Nat) (col : (Nat → Int32)) (msk : (Nat → Int32)) (bare : (Nat → Int32)) (v1 : Int32) (v2 : Int32) (v3 : Int32) (v4 : Int32) : Nat → Int32 → Int32 → Int32 → LyS → Option (Nat × Int32 × LyS)
  | 0, _, _, _, _ => none
  | k + 1, v5, v6, v7, L =>
  (if v3 ≤ v7 then some (0, v6, L)
  else (Maker_makeBlocks_l45 fu n col msk bare v1 v2 v3 v4 v7 fu v5 v6 0 L).bind fun r8 =>
  Maker_makeBlocks_l36 fu n col msk bare v1 v2 v3 v4 k r8.2.1 r8.2.2.1 (v7 + 1) r8.2.2.2)
def Maker_makeBlocks (fu : Nat) (n : Nat) (col : (Nat → Int32)) (msk : (Nat → Int32)) (bare : (Nat → Int32)) (L : LyS) (p1 : Int32) (p2 : Int32) : Option (Int32 × LyS) :=
  (Layers_rowsOf n L p1 p2).bind fun r1 =>
  (Layers_columnsOf n L p2).bind fun r2 =>
  (Layers_startOf n L p1).bind fun r3 =>
  (Maker_makeBlocks_l36 fu n col msk bare p1 p2 r1 r2 fu r3 ((-1)) 0 L).bind fun r11 =>
  some (r11.2.1, r11.2.2)
set_option maxRecDepth 100000 in
set_option maxHeartbeats 4000000 in
theorem t_Maker_makeBlocks_l45 {p : Program} {l : Launch} {e : Env} {s : State} {m : MethodId} {args : Array Value} {below : List Frame} {meth : Method} {c : Code} {D : va_G} {cI cR cZ : ClassId} {A : Nat → Prop} {Q : State → Prop} (C : Cx p s m args meth c D (tyG cI cR cZ) b_Maker_makeBlocks 10 "MaskLayers$Maker") (hA : ∀ q : Nat, s.heap.size ≤ q → A q) {o0 : Nat} {hc : Nat} {hm : Nat} {hb : Nat} {a : (Nat → Nat)} {n : Nat} {fu : Nat} {col : (Nat → Int32)} {msk : (Nat → Int32)} {bare : (Nat → Int32)} {v1 : Int32} {v2 : Int32} {v3 : Int32} {v4 : Int32} {v7 : Int32} {out : Nat × Int32 × Int32 × LyS} : ∀ (k : Nat) (v5 : Int32) (v6 : Int32) (v8 : Int32) (L : LyS), Maker_makeBlocks_l45 fu n col msk bare v1 v2 v3 v4 v7 k v5 v6 v8 L = some out → (out.1 = 0 → J p l e rm_Maker_makeBlocks s m args below meth c D A (va_D A) 10 Q 0 0 (wMk cI cR o0 hc hm hb a n col msk bare out.2.2.2) [(0, .ref o0), (1, .int v1), (2, .int v2), (3, .int v3), (4, .int v4), (5, .int out.2.1), (6, .int out.2.2.1), (7, .int v7)] [] 100) → J p l e rm_Maker_makeBlocks s m args below meth c D A (va_D A) 10 Q 0 0 (wMk cI cR o0 hc hm hb a n col msk bare L) [(0, .ref o0), (1, .int v1), (2, .int v2), (3, .int v3), (4, .int v4), (5, .int v5), (6, .int v6), (7, .int v7), (8, .int v8)] [] 45 := by
  intro k
  induction k with
  | zero => intro v5 v6 v8 L h; cases (show none = some out from h)
  | succ k ih =>
    intro v5 v6 v8 L h x0
    rw [Maker_makeBlocks_l45] at h
    refine j_iload C 8 d_Maker_makeBlocks_45 rfl ?_
    refine j_iload C 4 d_Maker_makeBlocks_47 rfl ?_
    refine j_icmp_ge C 100 d_Maker_makeBlocks_49 (by decide) (fun c7 => ?_) (fun c7 => ?_)
    · replace h := (if_pos c7).symm.trans h
      obtain rfl := Option.some.inj h
      refine j_sub [0, 1, 2, 3, 4, 5, 6, 7] rfl ?_
      exact x0 rfl
    · replace h := (if_neg c7).symm.trans h
      refine j_aload_n C 0 d_Maker_makeBlocks_52 rfl ?_
      refine j_iload_n C 1 d_Maker_makeBlocks_53 rfl ?_
      refine j_iload_n C 2 d_Maker_makeBlocks_54 rfl ?_
      refine j_iload C 8 d_Maker_makeBlocks_55 rfl ?_
      refine j_iload C 7 d_Maker_makeBlocks_57 rfl ?_
      obtain ⟨r4, hr4, h⟩ := bd_ok h
      refine j_PV C [.int v1, .int v2, .int v8, .int v7] 0 rfl rfl (c_Maker_meanOfBlock l D cI cR cZ fu o0 hc hm hb a n col msk bare L v1 v2 v8 v7 hr4) (cw_Maker_101 C ⟨Nat.le_of_ble_eq_true rfl, Nat.le_of_ble_eq_true rfl⟩) [0, 1, 2, 3, 4, 5, 6, 7, 8, 9, 10] rfl rfl rfl (Nat.le_of_ble_eq_true rfl) d_Maker_makeBlocks_59 (by decide) ?_
      refine j_istore C [(9, .int r4), (0, .ref o0), (1, .int v1), (2, .int v2), (3, .int v3), (4, .int v4), (5, .int v5), (6, .int v6), (7, .int v7), (8, .int v8)] d_Maker_makeBlocks_62 (by decide) rfl ?_
      refine j_aload_n C 1 d_Maker_makeBlocks_64 rfl ?_
      refine gf_Maker_9 C 0 (v := .ref (a 0)) rfl rfl d_Maker_makeBlocks_65 ?_
      refine j_iload_n C 3 d_Maker_makeBlocks_68 rfl ?_
      refine j_iload C 6 d_Maker_makeBlocks_69 rfl ?_
      refine j_iload C 0 d_Maker_makeBlocks_71 rfl ?_
      obtain ⟨r5, hr5, h⟩ := bd_ok h
      refine j_VV C [.int v2, .int v5, .int r4] hA 4 rfl rfl (c_Layers_set l D cI cR cZ a n L v2 v5 r4 hr5) (cw_Maker_92 C ⟨Nat.le_of_ble_eq_true rfl, Nat.le_of_ble_eq_true rfl⟩) [4, 5, 6, 7, 8, 9, 10] [0, 1, 2, 3] rfl rfl (by decide) (by decide) (by decide) rfl rfl (Nat.le_of_ble_eq_true rfl) d_Maker_makeBlocks_73 (by decide) (fun _ => ?_)
      refine j_ws (ws' := wMk cI cR o0 hc hm hb a n col msk bare r5) rfl ?_
      refine j_iload C 7 d_Maker_makeBlocks_76 rfl ?_
      refine j_iconst C (v := (-1)) d_Maker_makeBlocks_78 (by decide) ?_
      refine j_icmp_ne C 87 d_Maker_makeBlocks_79 (by decide) (fun c6 => ?_) (fun c6 => ?_)
      · replace h := (if_neg c6).symm.trans h
        refine j_iload C 7 d_Maker_makeBlocks_87 rfl ?_
        refine j_istore C [(6, .int v6), (9, .int r4), (0, .ref o0), (1, .int v1), (2, .int v2), (3, .int v3), (4, .int v4), (5, .int v5), (7, .int v7), (8, .int v8)] d_Maker_makeBlocks_89 (by decide) rfl ?_
        refine j_iinc C [(5, .int (v5 + 1)), (6, .int v6), (9, .int r4), (0, .ref o0), (1, .int v1), (2, .int v2), (3, .int v3), (4, .int v4), (7, .int v7), (8, .int v8)] 7 (v5 + 1) d_Maker_makeBlocks_91 rfl rfl (by decide) rfl ?_
        refine j_iinc C [(8, .int (v8 + 1)), (5, .int (v5 + 1)), (6, .int v6), (9, .int r4), (0, .ref o0), (1, .int v1), (2, .int v2), (3, .int v3), (4, .int v4), (7, .int v7)] 9 (v8 + 1) d_Maker_makeBlocks_94 rfl rfl (by decide) rfl ?_
        refine j_goto C 45 d_Maker_makeBlocks_97 (by decide) ?_
        refine j_sub [4, 5, 6, 7, 8, 1, 2, 9, 0] rfl ?_
        exact ih (v5 + 1) v6 (v8 + 1) r5 h x0
      · replace h := (if_pos c6).symm.trans h
        refine j_iload C 0 d_Maker_makeBlocks_82 rfl ?_
        refine j_goto C 89 d_Maker_makeBlocks_84 (by decide) ?_
        refine j_istore C [(6, .int r4), (9, .int r4), (0, .ref o0), (1, .int v1), (2, .int v2), (3, .int v3), (4, .int v4), (5, .int v5), (7, .int v7), (8, .int v8)] d_Maker_makeBlocks_89 (by decide) rfl ?_
        refine j_iinc C [(5, .int (v5 + 1)), (6, .int r4), (9, .int r4), (0, .ref o0), (1, .int v1), (2, .int v2), (3, .int v3), (4, .int v4), (7, .int v7), (8, .int v8)] 7 (v5 + 1) d_Maker_makeBlocks_91 rfl rfl (by decide) rfl ?_
        refine j_iinc C [(8, .int (v8 + 1)), (5, .int (v5 + 1)), (6, .int r4), (9, .int r4), (0, .ref o0), (1, .int v1), (2, .int v2), (3, .int v3), (4, .int v4), (7, .int v7)] 9 (v8 + 1) d_Maker_makeBlocks_94 rfl rfl (by decide) rfl ?_
        refine j_goto C 45 d_Maker_makeBlocks_97 (by decide) ?_
        refine j_sub [4, 5, 6, 7, 8, 1, 2, 9, 0] rfl ?_
        exact ih (v5 + 1) r4 (v8 + 1) r5 h x0
set_option maxRecDepth 100000 in
set_option maxHeartbeats 4000000 in
theorem t_Maker_makeBlocks_l36 {p : Program} {l : Launch} {e : Env} {s : State} {m : MethodId} {args : Array Value} {below : List Frame} {meth : Method} {c : Code} {D : va_G} {cI cR cZ : ClassId} {A : Nat → Prop} {Q : State → Prop} (C : Cx p s m args meth c D (tyG cI cR cZ) b_Maker_makeBlocks 10 "MaskLayers$Maker") (hA : ∀ q : Nat, s.heap.size ≤ q → A q) {o0 : Nat} {hc : Nat} {hm : Nat} {hb : Nat} {a : (Nat → Nat)} {n : Nat} {fu : Nat} {col : (Nat → Int32)} {msk : (Nat → Int32)} {bare : (Nat → Int32)} {v1 : Int32} {v2 : Int32} {v3 : Int32} {v4 : Int32} {out : Nat × Int32 × LyS} : ∀ (k : Nat) (v5 : Int32) (v6 : Int32) (v7 : Int32) (L : LyS), Maker_makeBlocks_l36 fu n col msk bare v1 v2 v3 v4 k v5 v6 v7 L = some out → (out.1 = 0 → J p l e rm_Maker_makeBlocks s m args below meth c D A (va_D A) 10 Q 0 0 (wMk cI cR o0 hc hm hb a n col msk bare out.2.2) [(6, .int out.2.1)] [] 106) → J p l e rm_Maker_makeBlocks s m args below meth c D A (va_D A) 10 Q 0 0 (wMk cI cR o0 hc hm hb a n col msk bare L) [(0, .ref o0), (1, .int v1), (2, .int v2), (3, .int v3), (4, .int v4), (5, .int v5), (6, .int v6), (7, .int v7)] [] 36 := by
  intro k
  induction k with
  | zero => intro v5 v6 v7 L h; cases (show none = some out from h)
  | succ k ih =>
    intro v5 v6 v7 L h x0
    rw [Maker_makeBlocks_l36] at h
    refine j_iload C 7 d_Maker_makeBlocks_36 rfl ?_
    refine j_iload_n C 3 d_Maker_makeBlocks_38 rfl ?_
    refine j_icmp_ge C 106 d_Maker_makeBlocks_39 (by decide) (fun c10 => ?_) (fun c10 => ?_)
    · replace h := (if_pos c10).symm.trans h
      obtain rfl := Option.some.inj h
      refine j_sub [6] rfl ?_
      exact x0 rfl
    · replace h := (if_neg c10).symm.trans h
      refine j_iconst C (v := 0) d_Maker_makeBlocks_42 (by decide) ?_
      refine j_istore C [(8, .int 0), (0, .ref o0), (1, .int v1), (2, .int v2), (3, .int v3), (4, .int v4), (5, .int v5), (6, .int v6), (7, .int v7)] d_Maker_makeBlocks_43 (by decide) rfl ?_
      obtain ⟨r8, hr8, h⟩ := bd_ok h
      refine j_sub [1, 2, 3, 4, 5, 6, 7, 8, 0] rfl ?_
      refine t_Maker_makeBlocks_l45 C hA fu v5 v6 0 L hr8 (fun e9 => ?_)
      · refine j_iinc C [(7, .int (v7 + 1)), (0, .ref o0), (1, .int v1), (2, .int v2), (3, .int v3), (4, .int v4), (5, .int r8.2.1), (6, .int r8.2.2.1)] 7 (v7 + 1) d_Maker_makeBlocks_100 rfl rfl (by decide) rfl ?_
        refine j_goto C 36 d_Maker_makeBlocks_103 (by decide) ?_
        refine j_sub [1, 2, 3, 4, 5, 6, 7, 0] rfl ?_
        exact ih r8.2.1 r8.2.2.1 (v7 + 1) r8.2.2.2 h x0
set_option maxRecDepth 100000 in
set_option maxHeartbeats 4000000 in
theorem c_Maker_makeBlocks (l : Launch) (D : va_G) (cI cR cZ : ClassId) (fu : Nat) (o0 : Nat) (hc : Nat) (hm : Nat) (hb : Nat) (a : (Nat → Nat)) (n : Nat) (col : (Nat → Int32)) (msk : (Nat → Int32)) (bare : (Nat → Int32)) (L : LyS) (p1 : Int32) (p2 : Int32) {res : (Int32 × LyS)} (h : Maker_makeBlocks fu n col msk bare L p1 p2 = some res) (sz : Nat) : Met l y_Maker_makeBlocks (Cond.code y_Maker_makeBlocks b_Maker_makeBlocks 10 (some .int) :: BIG) rm_Maker_makeBlocks (PcI [.ref o0, .int p1, .int p2] D (tyG cI cR cZ) (wMk cI cR o0 hc hm hb a n col msk bare L) sz) (QcI D res.1 (fun _ : Nat => wMk cI cR o0 hc hm hb a n col msk bare res.2) (va_A (wMk cI cR o0 hc hm hb a n col msk bare L) sz)) 0 0 (va_A (wMk cI cR o0 hc hm hb a n col msk bare L) sz) := by
  refine met_I (by decide) (Nat.le_of_ble_eq_true rfl) (fun p e s m args below meth c A hA C hr => ?_)
  have C : Cx p s m args meth c D (tyG cI cR cZ) b_Maker_makeBlocks 10 "MaskLayers$Maker" := C
  have hr : meth.sig.returnType = some .int := hr
  show J p l e rm_Maker_makeBlocks s m args below meth c D A (va_D A) 10 (MQ below (QcI D res.1 (fun _ : Nat => wMk cI cR o0 hc hm hb a n col msk bare res.2) A) args s 0 0 A) 0 0 (wMk cI cR o0 hc hm hb a n col msk bare L) [(0, .ref o0), (1, .int p1), (2, .int p2)] [] 0
  unfold Maker_makeBlocks at h
  refine j_aload_n C 0 d_Maker_makeBlocks_0 rfl ?_
  refine gf_Maker_9 C 0 (v := .ref (a 0)) rfl rfl d_Maker_makeBlocks_1 ?_
  refine j_iload_n C 1 d_Maker_makeBlocks_4 rfl ?_
  refine j_iload_n C 2 d_Maker_makeBlocks_5 rfl ?_
  obtain ⟨r1, hr1, h⟩ := bd_ok h
  refine j_PV C [.int p1, .int p2] 4 rfl rfl (c_Layers_rowsOf l D cI cR cZ a n L p1 p2 hr1) (cw_Maker_95 C ⟨Nat.le_of_ble_eq_true rfl, Nat.le_of_ble_eq_true rfl⟩) [4, 5, 6, 7, 8, 9, 10] rfl rfl rfl (Nat.le_of_ble_eq_true rfl) d_Maker_makeBlocks_6 (by decide) ?_
  refine j_istore_n C [(3, .int r1), (0, .ref o0), (1, .int p1), (2, .int p2)] d_Maker_makeBlocks_9 (by decide) rfl ?_
  refine j_aload_n C 1 d_Maker_makeBlocks_10 rfl ?_
  refine gf_Maker_9 C 0 (v := .ref (a 0)) rfl rfl d_Maker_makeBlocks_11 ?_
  refine j_iload_n C 3 d_Maker_makeBlocks_14 rfl ?_
  obtain ⟨r2, hr2, h⟩ := bd_ok h
  refine j_PV C [.int p2] 4 rfl rfl (c_Layers_columnsOf l D cI cR cZ a n L p2 hr2) (cw_Maker_98 C ⟨Nat.le_of_ble_eq_true rfl, Nat.le_of_ble_eq_true rfl⟩) [4, 5, 6, 7, 8, 9, 10] rfl rfl rfl (Nat.le_of_ble_eq_true rfl) d_Maker_makeBlocks_15 (by decide) ?_
  refine j_istore C [(4, .int r2), (3, .int r1), (0, .ref o0), (1, .int p1), (2, .int p2)] d_Maker_makeBlocks_18 (by decide) rfl ?_
  refine j_aload_n C 2 d_Maker_makeBlocks_20 rfl ?_
  refine gf_Maker_9 C 0 (v := .ref (a 0)) rfl rfl d_Maker_makeBlocks_21 ?_
  refine j_iload_n C 3 d_Maker_makeBlocks_24 rfl ?_
  obtain ⟨r3, hr3, h⟩ := bd_ok h
  refine j_PV C [.int p1] 4 rfl rfl (c_Layers_startOf l D cI cR cZ a n L p1 hr3) (cw_Maker_71 C ⟨Nat.le_of_ble_eq_true rfl, Nat.le_of_ble_eq_true rfl⟩) [4, 5, 6, 7, 8, 9, 10] rfl rfl rfl (Nat.le_of_ble_eq_true rfl) d_Maker_makeBlocks_25 (by decide) ?_
  refine j_istore C [(5, .int r3), (4, .int r2), (3, .int r1), (0, .ref o0), (1, .int p1), (2, .int p2)] d_Maker_makeBlocks_28 (by decide) rfl ?_
  refine j_iconst C (v := (-1)) d_Maker_makeBlocks_30 (by decide) ?_
  refine j_istore C [(6, .int ((-1))), (5, .int r3), (4, .int r2), (3, .int r1), (0, .ref o0), (1, .int p1), (2, .int p2)] d_Maker_makeBlocks_31 (by decide) rfl ?_
  refine j_iconst C (v := 0) d_Maker_makeBlocks_33 (by decide) ?_
  refine j_istore C [(7, .int 0), (6, .int ((-1))), (5, .int r3), (4, .int r2), (3, .int r1), (0, .ref o0), (1, .int p1), (2, .int p2)] d_Maker_makeBlocks_34 (by decide) rfl ?_
  obtain ⟨r11, hr11, h⟩ := bd_ok h
  refine j_sub [5, 6, 7, 4, 3, 2, 1, 0] rfl ?_
  refine t_Maker_makeBlocks_l36 C hA fu r3 ((-1)) 0 L hr11 (fun e12 => ?_)
  · refine j_iload C 0 d_Maker_makeBlocks_106 rfl ?_
    obtain rfl := Option.some.inj h
    exact j_iret C hr d_Maker_makeBlocks_108 0 rfl
