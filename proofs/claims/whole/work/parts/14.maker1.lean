def Maker_fillBetween_b12 (v0 : Int32) (v1 : Int32) : Option Int32 :=
  (if v0 = ((-1)) then some v1
  else (if v1 = ((-1)) then some v0
  else (ML_middle v0 v1).bind fun r1 =>
  some r1))
def Maker_fillBetween (p1 : Int32) (p2 : Int32) (p3 : Int32) : Option Int32 :=
  (if p1 = ((-1)) then (if p2 = ((-1)) then some p3
  else Maker_fillBetween_b12 p1 p2)
  else Maker_fillBetween_b12 p1 p2)
set_option maxRecDepth 100000 in
set_option maxHeartbeats 4000000 in
theorem t_Maker_fillBetween_b12 {p : Program} {l : Launch} {e : Env} {s : State} {m : MethodId} {args : Array Value} {below : List Frame} {meth : Method} {c : Code} {D : va_G} {cI cR cZ : ClassId} (C : Cx p s m args meth c D (tyG cI cR cZ) b_Maker_fillBetween 3 "MaskLayers$Maker") (hr : meth.sig.returnType = some .int)   {v0 : Int32} {v1 : Int32} {res : Int32} (h : Maker_fillBetween_b12 v0 v1 = some res) : J p l e rm_Maker_fillBetween s m args below meth c D no (fun _ => True) 3 (MQ below (QcP res) args s 0 0 no) 0 0 ([]) [(0, .int v0), (1, .int v1)] [] 12 := by
  unfold Maker_fillBetween_b12 at h
  refine j_iload_n C 0 d_Maker_fillBetween_12 rfl ?_
  refine j_iconst C (v := (-1)) d_Maker_fillBetween_13 (by decide) ?_
  refine j_icmp_ne C 19 d_Maker_fillBetween_14 (by decide) (fun c3 => ?_) (fun c3 => ?_)
  · replace h := (if_neg c3).symm.trans h
    refine j_iload_n C 1 d_Maker_fillBetween_19 rfl ?_
    refine j_iconst C (v := (-1)) d_Maker_fillBetween_20 (by decide) ?_
    refine j_icmp_ne C 28 d_Maker_fillBetween_21 (by decide) (fun c2 => ?_) (fun c2 => ?_)
    · replace h := (if_neg c2).symm.trans h
      refine j_iload_n C 0 d_Maker_fillBetween_28 rfl ?_
      refine j_iload_n C 1 d_Maker_fillBetween_29 rfl ?_
      obtain ⟨r1, hr1, h⟩ := bd_ok h
      refine j_PSN C [.int v0, .int v1] (c_ML_middle l D cI cR cZ v0 v1 hr1) (cw_Maker_134 C ⟨Nat.le_of_ble_eq_true rfl, Nat.le_of_ble_eq_true rfl⟩) [] rfl rfl rfl (Nat.le_of_ble_eq_true rfl) d_Maker_fillBetween_30 (by decide) ?_
      obtain rfl := Option.some.inj h
      exact j_pret C hr d_Maker_fillBetween_33
    · replace h := (if_pos c2).symm.trans h
      refine j_iload_n C 0 d_Maker_fillBetween_24 rfl ?_
      refine j_goto C 33 d_Maker_fillBetween_25 (by decide) ?_
      obtain rfl := Option.some.inj h
      exact j_pret C hr d_Maker_fillBetween_33
  · replace h := (if_pos c3).symm.trans h
    refine j_iload_n C 1 d_Maker_fillBetween_17 rfl ?_
    obtain rfl := Option.some.inj h
    exact j_pret C hr d_Maker_fillBetween_18
set_option maxRecDepth 100000 in
set_option maxHeartbeats 4000000 in
theorem c_Maker_fillBetween (l : Launch) (D : va_G) (cI cR cZ : ClassId)  (p1 : Int32) (p2 : Int32) (p3 : Int32) {res : Int32} (h : Maker_fillBetween p1 p2 p3 = some res) : Met l y_Maker_fillBetween (Cond.code y_Maker_fillBetween b_Maker_fillBetween 3 (some .int) :: BIG) rm_Maker_fillBetween (PcP [.int p1, .int p2, .int p3] D (tyG cI cR cZ) ([])) (QcP res) 0 0 no := by
  refine met_P (by decide) (Nat.le_of_ble_eq_true rfl) (fun p e s m args below meth c C hr => ?_)
  have C : Cx p s m args meth c D (tyG cI cR cZ) b_Maker_fillBetween 3 "MaskLayers$Maker" := C
  have hr : meth.sig.returnType = some .int := hr
  show J p l e rm_Maker_fillBetween s m args below meth c D no (fun _ => True) 3 (MQ below (QcP res) args s 0 0 no) 0 0 ([]) [(0, .int p1), (1, .int p2), (2, .int p3)] [] 0
  unfold Maker_fillBetween at h
  refine j_iload_n C 0 d_Maker_fillBetween_0 rfl ?_
  refine j_iconst C (v := (-1)) d_Maker_fillBetween_1 (by decide) ?_
  refine j_icmp_ne C 12 d_Maker_fillBetween_2 (by decide) (fun c5 => ?_) (fun c5 => ?_)
  · replace h := (if_neg c5).symm.trans h
    refine j_sub [0, 1] rfl ?_
    exact t_Maker_fillBetween_b12 C hr h
  · replace h := (if_pos c5).symm.trans h
    refine j_iload_n C 1 d_Maker_fillBetween_5 rfl ?_
    refine j_iconst C (v := (-1)) d_Maker_fillBetween_6 (by decide) ?_
    refine j_icmp_ne C 12 d_Maker_fillBetween_7 (by decide) (fun c4 => ?_) (fun c4 => ?_)
    · replace h := (if_neg c4).symm.trans h
      refine j_sub [0, 1] rfl ?_
      exact t_Maker_fillBetween_b12 C hr h
    · replace h := (if_pos c4).symm.trans h
      refine j_iload_n C 2 d_Maker_fillBetween_10 rfl ?_
      obtain rfl := Option.some.inj h
      exact j_pret C hr d_Maker_fillBetween_11
def Maker_wasFilled (n : Nat) (col : (Nat → Int32)) (msk : (Nat → Int32)) (bare : (Nat → Int32)) (L : LyS) (p1 : Int32) (p2 : Int32) (p3 : Int32) : Option Int32 :=
  (Layers_stripeOf n L p3).bind fun r1 =>
  (Layers_has n L r1 p1).bind fun r2 =>
  (if r2 = 0 then zb 0 (some 0)
  else (Layers_placeOf n L p1 p2 p3).bind fun r4 =>
  gd r4 n ((if (((bare r4.toNatClampNeg) >>> (p1 &&& 31)) &&& 1) = 1 then zb 1 (some 1)
  else zb 0 (some 0))))
set_option maxRecDepth 100000 in
set_option maxHeartbeats 4000000 in
theorem c_Maker_wasFilled (l : Launch) (D : va_G) (cI cR cZ : ClassId) (o0 : Nat) (hc : Nat) (hm : Nat) (hb : Nat) (a : (Nat → Nat)) (n : Nat) (col : (Nat → Int32)) (msk : (Nat → Int32)) (bare : (Nat → Int32)) (L : LyS) (p1 : Int32) (p2 : Int32) (p3 : Int32) {res : Int32} (h : Maker_wasFilled n col msk bare L p1 p2 p3 = some res) : Met l y_Maker_wasFilled (Cond.code y_Maker_wasFilled b_Maker_wasFilled 4 (some .boolean) :: BIG) rm_Maker_wasFilled (PcP [.ref o0, .int p1, .int p2, .int p3] D (tyG cI cR cZ) (wMk cI cR o0 hc hm hb a n col msk bare L)) (QcP res) 0 0 no := by
  refine met_P (by decide) (Nat.le_of_ble_eq_true rfl) (fun p e s m args below meth c C hr => ?_)
  have C : Cx p s m args meth c D (tyG cI cR cZ) b_Maker_wasFilled 4 "MaskLayers$Maker" := C
  have hr : meth.sig.returnType = some .boolean := hr
  show J p l e rm_Maker_wasFilled s m args below meth c D no (fun _ => True) 4 (MQ below (QcP res) args s 0 0 no) 0 0 (wMk cI cR o0 hc hm hb a n col msk bare L) [(0, .ref o0), (1, .int p1), (2, .int p2), (3, .int p3)] [] 0
  unfold Maker_wasFilled at h
  refine j_aload_n C 0 d_Maker_wasFilled_0 rfl ?_
  refine gf_Maker_9 C 0 (v := .ref (a 0)) rfl rfl d_Maker_wasFilled_1 ?_
  refine j_aload_n C 0 d_Maker_wasFilled_4 rfl ?_
  refine gf_Maker_9 C 0 (v := .ref (a 0)) rfl rfl d_Maker_wasFilled_5 ?_
  refine j_iload_n C 3 d_Maker_wasFilled_8 rfl ?_
  obtain ⟨r1, hr1, h⟩ := bd_ok h
  refine j_PV C [.int p3] 4 rfl rfl (c_Layers_stripeOf l D cI cR cZ a n L p3 hr1) (cw_Maker_48 C ⟨Nat.le_of_ble_eq_true rfl, Nat.le_of_ble_eq_true rfl⟩) [4, 5, 6, 7, 8, 9, 10, 11, 12] rfl rfl rfl (Nat.le_of_ble_eq_true rfl) d_Maker_wasFilled_9 (by decide) ?_
  refine j_iload_n C 1 d_Maker_wasFilled_12 rfl ?_
  obtain ⟨r2, hr2, h⟩ := bd_ok h
  refine j_PV C [.int r1, .int p1] 4 rfl rfl (c_Layers_has l D cI cR cZ a n L r1 p1 hr2) (cw_Maker_52 C ⟨Nat.le_of_ble_eq_true rfl, Nat.le_of_ble_eq_true rfl⟩) [4, 5, 6, 7, 8, 9, 10, 11, 12] rfl rfl rfl (Nat.le_of_ble_eq_true rfl) d_Maker_wasFilled_13 (by decide) ?_
  refine j_if_eq C 46 d_Maker_wasFilled_16 (by decide) (fun c9 => ?_) (fun c9 => ?_)
  · replace h := (if_pos c9).symm.trans h
    refine j_iconst C (v := 0) d_Maker_wasFilled_46 (by decide) ?_
    obtain ⟨b3, h⟩ := zb_ok h
    obtain rfl := Option.some.inj h
    exact j_pretZ C hr d_Maker_wasFilled_47 b3
  · replace h := (if_neg c9).symm.trans h
    refine j_aload_n C 0 d_Maker_wasFilled_19 rfl ?_
    refine gf_Maker_22 C 0 (v := .ref hb) rfl rfl d_Maker_wasFilled_20 ?_
    refine j_aload_n C 0 d_Maker_wasFilled_23 rfl ?_
    refine gf_Maker_9 C 0 (v := .ref (a 0)) rfl rfl d_Maker_wasFilled_24 ?_
    refine j_iload_n C 1 d_Maker_wasFilled_27 rfl ?_
    refine j_iload_n C 2 d_Maker_wasFilled_28 rfl ?_
    refine j_iload_n C 3 d_Maker_wasFilled_29 rfl ?_
    obtain ⟨r4, hr4, h⟩ := bd_ok h
    refine j_PV C [.int p1, .int p2, .int p3] 4 rfl rfl (c_Layers_placeOf l D cI cR cZ a n L p1 p2 p3 hr4) (cw_Maker_56 C ⟨Nat.le_of_ble_eq_true rfl, Nat.le_of_ble_eq_true rfl⟩) [4, 5, 6, 7, 8, 9, 10, 11, 12] rfl rfl rfl (Nat.le_of_ble_eq_true rfl) d_Maker_wasFilled_30 (by decide) ?_
    obtain ⟨b5, h⟩ := gd_ok h
    refine j_iald C (3) (t0 := 0) rfl rfl b5 d_Maker_wasFilled_33 ?_
    refine j_iload_n C 1 d_Maker_wasFilled_34 rfl ?_
    refine j_ishr C d_Maker_wasFilled_35 ?_
    refine j_iconst C (v := 1) d_Maker_wasFilled_36 (by decide) ?_
    refine j_iand C d_Maker_wasFilled_37 ?_
    refine j_iconst C (v := 1) d_Maker_wasFilled_38 (by decide) ?_
    refine j_icmp_ne C 46 d_Maker_wasFilled_39 (by decide) (fun c8 => ?_) (fun c8 => ?_)
    · replace h := (if_neg c8).symm.trans h
      refine j_iconst C (v := 0) d_Maker_wasFilled_46 (by decide) ?_
      obtain ⟨b6, h⟩ := zb_ok h
      obtain rfl := Option.some.inj h
      exact j_pretZ C hr d_Maker_wasFilled_47 b6
    · replace h := (if_pos c8).symm.trans h
      refine j_iconst C (v := 1) d_Maker_wasFilled_42 (by decide) ?_
      refine j_goto C 47 d_Maker_wasFilled_43 (by decide) ?_
      obtain ⟨b7, h⟩ := zb_ok h
      obtain rfl := Option.some.inj h
      exact j_pretZ C hr d_Maker_wasFilled_47 b7
def Maker_meanOfBlock_l133 (n : Nat) (col : (Nat → Int32)) (msk : (Nat → Int32)) (bare : (Nat → Int32)) (L : LyS) (v7 : Int32) (v8 : Int32) (v9 : Int32) (v10 : Int32) (v15 : Int32) (v16 : Int32) : Nat → Int32 → Int32 → Int32 → Int32 → Int32 → Option (Nat × Int32 × Int32 × Int32 × Int32)
  | 0, _, _, _, _, _ => none
  | k + 1, v11, v12, v13, v14, v17 =>
  (if v16 ≤ v17 then some (0, v11, v12, v13, v14)
  else gd v17 n ((if (msk v17.toNatClampNeg) = v10 then gd v17 n ((ML_red (col v17.toNatClampNeg)).bind fun r6 =>
  gd v17 n ((ML_green (col v17.toNatClampNeg)).bind fun r8 =>
  gd v17 n ((ML_blue (col v17.toNatClampNeg)).bind fun r10 =>
  Maker_meanOfBlock_l133 n col msk bare L v7 v8 v9 v10 v15 v16 k (v11 + 1) (v12 + r6) (v13 + r8) (v14 + r10) (v17 + 1))))
  else Maker_meanOfBlock_l133 n col msk bare L v7 v8 v9 v10 v15 v16 k v11 v12 v13 v14 (v17 + 1))))
def Maker_meanOfBlock_l96 (fu : Nat) (n : Nat) (col : (Nat → Int32)) (msk : (Nat → Int32)) (bare : (Nat → Int32)) (L : LyS) (v7 : Int32) (v8 : Int32) (v9 : Int32) (v10 : Int32) : Nat → Int32 → Int32 → Int32 → Int32 → Int32 → Option (Nat × Int32 × Int32 × Int32 × Int32)
  | 0, _, _, _, _, _ => none
  | k + 1, v11, v12, v13, v14, v15 =>
  (if v7 ≤ v15 then some (0, v11, v12, v13, v14)
  else (Maker_meanOfBlock_l133 n col msk bare L v7 v8 v9 v10 v15 ((v15 * (L.1 0)) + v9) fu v11 v12 v13 v14 ((v15 * (L.1 0)) + v8)).bind fun r13 =>
  Maker_meanOfBlock_l96 fu n col msk bare L v7 v8 v9 v10 k r13.2.1 r13.2.2.1 r13.2.2.2.1 r13.2.2.2.2 (v15 + 1))
def Maker_meanOfBlock_b78 (fu : Nat) (n : Nat) (col : (Nat → Int32)) (msk : (Nat → Int32)) (bare : (Nat → Int32)) (L : LyS) (v6 : Int32) (v7 : Int32) (v8 : Int32) (v9 : Int32) (s0 : Int32) : Option Int32 :=
  (Maker_meanOfBlock_l96 fu n col msk bare L v7 v8 v9 s0 fu 0 0 0 0 v6).bind fun r16 =>
  (if r16.2.1 = 0 then some ((-1))
  else (ML_mean r16.2.2.1 r16.2.1).bind fun r17 =>
  (ML_mean r16.2.2.2.1 r16.2.1).bind fun r18 =>
  (ML_mean r16.2.2.2.2 r16.2.1).bind fun r19 =>
  (ML_colourOf r17 r18 r19).bind fun r20 =>
  some r20)
def Maker_meanOfBlock (fu : Nat) (n : Nat) (col : (Nat → Int32)) (msk : (Nat → Int32)) (bare : (Nat → Int32)) (L : LyS) (p1 : Int32) (p2 : Int32) (p3 : Int32) (p4 : Int32) : Option Int32 :=
  gd p2 4 ((Layers_topOf n L p1).bind fun r2 =>
  (Layers_bottomOf n L p1).bind fun r3 =>
  (if p2 = 2 then Maker_meanOfBlock_b78 fu n col msk bare L (r2 + (p4 * (L.2 5 p2.toNatClampNeg))) (mn ((r2 + (p4 * (L.2 5 p2.toNatClampNeg))) + (L.2 5 p2.toNatClampNeg)) r3) (p3 * (L.2 5 p2.toNatClampNeg)) (mn ((p3 * (L.2 5 p2.toNatClampNeg)) + (L.2 5 p2.toNatClampNeg)) (L.1 0)) 1
  else Maker_meanOfBlock_b78 fu n col msk bare L (r2 + (p4 * (L.2 5 p2.toNatClampNeg))) (mn ((r2 + (p4 * (L.2 5 p2.toNatClampNeg))) + (L.2 5 p2.toNatClampNeg)) r3) (p3 * (L.2 5 p2.toNatClampNeg)) (mn ((p3 * (L.2 5 p2.toNatClampNeg)) + (L.2 5 p2.toNatClampNeg)) (L.1 0)) 0))
set_option maxRecDepth 100000 in
set_option maxHeartbeats 4000000 in
theorem t_Maker_meanOfBlock_l133 {p : Program} {l : Launch} {e : Env} {s : State} {m : MethodId} {args : Array Value} {below : List Frame} {meth : Method} {c : Code} {D : va_G} {cI cR cZ : ClassId} {Q : State → Prop} (C : Cx p s m args meth c D (tyG cI cR cZ) b_Maker_meanOfBlock 18 "MaskLayers$Maker") {o0 : Nat} {hc : Nat} {hm : Nat} {hb : Nat} {a : (Nat → Nat)} {n : Nat} {col : (Nat → Int32)} {msk : (Nat → Int32)} {bare : (Nat → Int32)} {L : LyS} {v7 : Int32} {v8 : Int32} {v9 : Int32} {v10 : Int32} {v15 : Int32} {v16 : Int32} {out : Nat × Int32 × Int32 × Int32 × Int32} : ∀ (k : Nat) (v11 : Int32) (v12 : Int32) (v13 : Int32) (v14 : Int32) (v17 : Int32), Maker_meanOfBlock_l133 n col msk bare L v7 v8 v9 v10 v15 v16 k v11 v12 v13 v14 v17 = some out → (out.1 = 0 → J p l e rm_Maker_meanOfBlock s m args below meth c D no (fun _ => True) 18 Q 0 0 (wMk cI cR o0 hc hm hb a n col msk bare L) [(0, .ref o0), (7, .int v7), (8, .int v8), (9, .int v9), (10, .int v10), (11, .int out.2.1), (12, .int out.2.2.1), (13, .int out.2.2.2.1), (14, .int out.2.2.2.2), (15, .int v15)] [] 206) → J p l e rm_Maker_meanOfBlock s m args below meth c D no (fun _ => True) 18 Q 0 0 (wMk cI cR o0 hc hm hb a n col msk bare L) [(0, .ref o0), (7, .int v7), (8, .int v8), (9, .int v9), (10, .int v10), (11, .int v11), (12, .int v12), (13, .int v13), (14, .int v14), (15, .int v15), (16, .int v16), (17, .int v17)] [] 133 := by
  intro k
  induction k with
  | zero => intro v11 v12 v13 v14 v17 h; cases (show none = some out from h)
  | succ k ih =>
    intro v11 v12 v13 v14 v17 h x0
    rw [Maker_meanOfBlock_l133] at h
    refine j_iload C 11 d_Maker_meanOfBlock_133 rfl ?_
    refine j_iload C 10 d_Maker_meanOfBlock_135 rfl ?_
    refine j_icmp_ge C 206 d_Maker_meanOfBlock_137 (by decide) (fun c12 => ?_) (fun c12 => ?_)
    · replace h := (if_pos c12).symm.trans h
      obtain rfl := Option.some.inj h
      refine j_sub [0, 1, 2, 3, 4, 5, 6, 7, 8, 9] rfl ?_
      exact x0 rfl
    · replace h := (if_neg c12).symm.trans h
      refine j_aload_n C 0 d_Maker_meanOfBlock_140 rfl ?_
      refine gf_Maker_19 C 0 (v := .ref hm) rfl rfl d_Maker_meanOfBlock_141 ?_
      refine j_iload C 11 d_Maker_meanOfBlock_144 rfl ?_
      obtain ⟨b4, h⟩ := gd_ok h
      refine j_iald C (2) (t0 := 0) rfl rfl b4 d_Maker_meanOfBlock_146 ?_
      refine j_iload C 4 d_Maker_meanOfBlock_147 rfl ?_
      refine j_icmp_ne C 200 d_Maker_meanOfBlock_149 (by decide) (fun c11 => ?_) (fun c11 => ?_)
      · replace h := (if_neg c11).symm.trans h
        refine j_iinc C [(17, .int (v17 + 1)), (0, .ref o0), (7, .int v7), (8, .int v8), (9, .int v9), (10, .int v10), (11, .int v11), (12, .int v12), (13, .int v13), (14, .int v14), (15, .int v15), (16, .int v16)] 11 (v17 + 1) d_Maker_meanOfBlock_200 rfl rfl (by decide) rfl ?_
        refine j_goto C 133 d_Maker_meanOfBlock_203 (by decide) ?_
        refine j_sub [1, 2, 3, 4, 5, 6, 7, 8, 9, 10, 11, 0] rfl ?_
        exact ih v11 v12 v13 v14 (v17 + 1) h x0
      · replace h := (if_pos c11).symm.trans h
        refine j_iinc C [(11, .int (v11 + 1)), (0, .ref o0), (7, .int v7), (8, .int v8), (9, .int v9), (10, .int v10), (12, .int v12), (13, .int v13), (14, .int v14), (15, .int v15), (16, .int v16), (17, .int v17)] 5 (v11 + 1) d_Maker_meanOfBlock_152 rfl rfl (by decide) rfl ?_
        refine j_iload C 6 d_Maker_meanOfBlock_155 rfl ?_
        refine j_aload_n C 1 d_Maker_meanOfBlock_157 rfl ?_
        refine gf_Maker_15 C 0 (v := .ref hc) rfl rfl d_Maker_meanOfBlock_158 ?_
        refine j_iload C 11 d_Maker_meanOfBlock_161 rfl ?_
        obtain ⟨b5, h⟩ := gd_ok h
        refine j_iald C (1) (t0 := 0) rfl rfl b5 d_Maker_meanOfBlock_163 ?_
        obtain ⟨r6, hr6, h⟩ := bd_ok h
        refine j_PSN C [.int (col v17.toNatClampNeg)] (c_ML_red l D cI cR cZ (col v17.toNatClampNeg) hr6) (cw_Maker_116 C ⟨Nat.le_of_ble_eq_true rfl, Nat.le_of_ble_eq_true rfl⟩) [] rfl rfl rfl (Nat.le_of_ble_eq_true rfl) d_Maker_meanOfBlock_164 (by decide) ?_
        refine j_iadd C d_Maker_meanOfBlock_167 ?_
        refine j_istore C [(12, .int (v12 + r6)), (11, .int (v11 + 1)), (0, .ref o0), (7, .int v7), (8, .int v8), (9, .int v9), (10, .int v10), (13, .int v13), (14, .int v14), (15, .int v15), (16, .int v16), (17, .int v17)] d_Maker_meanOfBlock_168 (by decide) rfl ?_
        refine j_iload C 7 d_Maker_meanOfBlock_170 rfl ?_
        refine j_aload_n C 2 d_Maker_meanOfBlock_172 rfl ?_
        refine gf_Maker_15 C 0 (v := .ref hc) rfl rfl d_Maker_meanOfBlock_173 ?_
        refine j_iload C 11 d_Maker_meanOfBlock_176 rfl ?_
        obtain ⟨b7, h⟩ := gd_ok h
        refine j_iald C (1) (t0 := 0) rfl rfl b7 d_Maker_meanOfBlock_178 ?_
        obtain ⟨r8, hr8, h⟩ := bd_ok h
        refine j_PSN C [.int (col v17.toNatClampNeg)] (c_ML_green l D cI cR cZ (col v17.toNatClampNeg) hr8) (cw_Maker_119 C ⟨Nat.le_of_ble_eq_true rfl, Nat.le_of_ble_eq_true rfl⟩) [] rfl rfl rfl (Nat.le_of_ble_eq_true rfl) d_Maker_meanOfBlock_179 (by decide) ?_
        refine j_iadd C d_Maker_meanOfBlock_182 ?_
        refine j_istore C [(13, .int (v13 + r8)), (12, .int (v12 + r6)), (11, .int (v11 + 1)), (0, .ref o0), (7, .int v7), (8, .int v8), (9, .int v9), (10, .int v10), (14, .int v14), (15, .int v15), (16, .int v16), (17, .int v17)] d_Maker_meanOfBlock_183 (by decide) rfl ?_
        refine j_iload C 8 d_Maker_meanOfBlock_185 rfl ?_
        refine j_aload_n C 3 d_Maker_meanOfBlock_187 rfl ?_
        refine gf_Maker_15 C 0 (v := .ref hc) rfl rfl d_Maker_meanOfBlock_188 ?_
        refine j_iload C 11 d_Maker_meanOfBlock_191 rfl ?_
        obtain ⟨b9, h⟩ := gd_ok h
        refine j_iald C (1) (t0 := 0) rfl rfl b9 d_Maker_meanOfBlock_193 ?_
        obtain ⟨r10, hr10, h⟩ := bd_ok h
        refine j_PSN C [.int (col v17.toNatClampNeg)] (c_ML_blue l D cI cR cZ (col v17.toNatClampNeg) hr10) (cw_Maker_122 C ⟨Nat.le_of_ble_eq_true rfl, Nat.le_of_ble_eq_true rfl⟩) [] rfl rfl rfl (Nat.le_of_ble_eq_true rfl) d_Maker_meanOfBlock_194 (by decide) ?_
        refine j_iadd C d_Maker_meanOfBlock_197 ?_
        refine j_istore C [(14, .int (v14 + r10)), (13, .int (v13 + r8)), (12, .int (v12 + r6)), (11, .int (v11 + 1)), (0, .ref o0), (7, .int v7), (8, .int v8), (9, .int v9), (10, .int v10), (15, .int v15), (16, .int v16), (17, .int v17)] d_Maker_meanOfBlock_198 (by decide) rfl ?_
        refine j_iinc C [(17, .int (v17 + 1)), (14, .int (v14 + r10)), (13, .int (v13 + r8)), (12, .int (v12 + r6)), (11, .int (v11 + 1)), (0, .ref o0), (7, .int v7), (8, .int v8), (9, .int v9), (10, .int v10), (15, .int v15), (16, .int v16)] 11 (v17 + 1) d_Maker_meanOfBlock_200 rfl rfl (by decide) rfl ?_
        refine j_goto C 133 d_Maker_meanOfBlock_203 (by decide) ?_
        refine j_sub [5, 6, 7, 8, 9, 4, 3, 2, 1, 10, 11, 0] rfl ?_
        exact ih (v11 + 1) (v12 + r6) (v13 + r8) (v14 + r10) (v17 + 1) h x0
set_option maxRecDepth 100000 in
set_option maxHeartbeats 4000000 in
theorem t_Maker_meanOfBlock_l96 {p : Program} {l : Launch} {e : Env} {s : State} {m : MethodId} {args : Array Value} {below : List Frame} {meth : Method} {c : Code} {D : va_G} {cI cR cZ : ClassId} {Q : State → Prop} (C : Cx p s m args meth c D (tyG cI cR cZ) b_Maker_meanOfBlock 18 "MaskLayers$Maker") {o0 : Nat} {hc : Nat} {hm : Nat} {hb : Nat} {a : (Nat → Nat)} {n : Nat} {fu : Nat} {col : (Nat → Int32)} {msk : (Nat → Int32)} {bare : (Nat → Int32)} {L : LyS} {v7 : Int32} {v8 : Int32} {v9 : Int32} {v10 : Int32} {out : Nat × Int32 × Int32 × Int32 × Int32} : ∀ (k : Nat) (v11 : Int32) (v12 : Int32) (v13 : Int32) (v14 : Int32) (v15 : Int32), Maker_meanOfBlock_l96 fu n col msk bare L v7 v8 v9 v10 k v11 v12 v13 v14 v15 = some out → (out.1 = 0 → J p l e rm_Maker_meanOfBlock s m args below meth c D no (fun _ => True) 18 Q 0 0 (wMk cI cR o0 hc hm hb a n col msk bare L) [(11, .int out.2.1), (12, .int out.2.2.1), (13, .int out.2.2.2.1), (14, .int out.2.2.2.2)] [] 212) → J p l e rm_Maker_meanOfBlock s m args below meth c D no (fun _ => True) 18 Q 0 0 (wMk cI cR o0 hc hm hb a n col msk bare L) [(0, .ref o0), (7, .int v7), (8, .int v8), (9, .int v9), (10, .int v10), (11, .int v11), (12, .int v12), (13, .int v13), (14, .int v14), (15, .int v15)] [] 96 := by
  intro k
  induction k with
  | zero => intro v11 v12 v13 v14 v15 h; cases (show none = some out from h)
  | succ k ih =>
    intro v11 v12 v13 v14 v15 h x0
    rw [Maker_meanOfBlock_l96] at h
    refine j_iload C 9 d_Maker_meanOfBlock_96 rfl ?_
    refine j_iload C 1 d_Maker_meanOfBlock_98 rfl ?_
    refine j_icmp_ge C 212 d_Maker_meanOfBlock_100 (by decide) (fun c15 => ?_) (fun c15 => ?_)
    · replace h := (if_pos c15).symm.trans h
      obtain rfl := Option.some.inj h
      refine j_sub [5, 6, 7, 8] rfl ?_
      exact x0 rfl
    · replace h := (if_neg c15).symm.trans h
      refine j_iload C 9 d_Maker_meanOfBlock_103 rfl ?_
      refine j_aload_n C 0 d_Maker_meanOfBlock_105 rfl ?_
      refine gf_Maker_9 C 0 (v := .ref (a 0)) rfl rfl d_Maker_meanOfBlock_106 ?_
      refine gf_Maker_113 C 4 (v := .int (L.1 0)) rfl rfl d_Maker_meanOfBlock_109 ?_
      refine j_imul C d_Maker_meanOfBlock_112 ?_
      refine j_iload C 3 d_Maker_meanOfBlock_113 rfl ?_
      refine j_iadd C d_Maker_meanOfBlock_115 ?_
      refine j_istore C [(16, .int ((v15 * (L.1 0)) + v9)), (0, .ref o0), (7, .int v7), (8, .int v8), (9, .int v9), (10, .int v10), (11, .int v11), (12, .int v12), (13, .int v13), (14, .int v14), (15, .int v15)] d_Maker_meanOfBlock_116 (by decide) rfl ?_
      refine j_iload C 10 d_Maker_meanOfBlock_118 rfl ?_
      refine j_aload_n C 1 d_Maker_meanOfBlock_120 rfl ?_
      refine gf_Maker_9 C 0 (v := .ref (a 0)) rfl rfl d_Maker_meanOfBlock_121 ?_
      refine gf_Maker_113 C 4 (v := .int (L.1 0)) rfl rfl d_Maker_meanOfBlock_124 ?_
      refine j_imul C d_Maker_meanOfBlock_127 ?_
      refine j_iload C 3 d_Maker_meanOfBlock_128 rfl ?_
      refine j_iadd C d_Maker_meanOfBlock_130 ?_
      refine j_istore C [(17, .int ((v15 * (L.1 0)) + v8)), (16, .int ((v15 * (L.1 0)) + v9)), (0, .ref o0), (7, .int v7), (8, .int v8), (9, .int v9), (10, .int v10), (11, .int v11), (12, .int v12), (13, .int v13), (14, .int v14), (15, .int v15)] d_Maker_meanOfBlock_131 (by decide) rfl ?_
      obtain ⟨r13, hr13, h⟩ := bd_ok h
      refine j_sub [2, 3, 4, 5, 6, 7, 8, 9, 10, 11, 1, 0] rfl ?_
      refine t_Maker_meanOfBlock_l133 C fu v11 v12 v13 v14 ((v15 * (L.1 0)) + v8) hr13 (fun e14 => ?_)
      · refine j_iinc C [(15, .int (v15 + 1)), (0, .ref o0), (7, .int v7), (8, .int v8), (9, .int v9), (10, .int v10), (11, .int r13.2.1), (12, .int r13.2.2.1), (13, .int r13.2.2.2.1), (14, .int r13.2.2.2.2)] 9 (v15 + 1) d_Maker_meanOfBlock_206 rfl rfl (by decide) rfl ?_
        refine j_goto C 96 d_Maker_meanOfBlock_209 (by decide) ?_
        refine j_sub [1, 2, 3, 4, 5, 6, 7, 8, 9, 0] rfl ?_
        exact ih r13.2.1 r13.2.2.1 r13.2.2.2.1 r13.2.2.2.2 (v15 + 1) h x0
set_option maxRecDepth 100000 in
set_option maxHeartbeats 4000000 in
theorem t_Maker_meanOfBlock_b78 {p : Program} {l : Launch} {e : Env} {s : State} {m : MethodId} {args : Array Value} {below : List Frame} {meth : Method} {c : Code} {D : va_G} {cI cR cZ : ClassId} (C : Cx p s m args meth c D (tyG cI cR cZ) b_Maker_meanOfBlock 18 "MaskLayers$Maker") (hr : meth.sig.returnType = some .int) {o0 : Nat} {hc : Nat} {hm : Nat} {hb : Nat} {a : (Nat → Nat)} {n : Nat} {col : (Nat → Int32)} {msk : (Nat → Int32)} {bare : (Nat → Int32)} {L : LyS} {fu : Nat} {v6 : Int32} {v7 : Int32} {v8 : Int32} {v9 : Int32} {s0 : Int32} {res : Int32} (h : Maker_meanOfBlock_b78 fu n col msk bare L v6 v7 v8 v9 s0 = some res) : J p l e rm_Maker_meanOfBlock s m args below meth c D no (fun _ => True) 18 (MQ below (QcP res) args s 0 0 no) 0 0 (wMk cI cR o0 hc hm hb a n col msk bare L) [(0, .ref o0), (6, .int v6), (7, .int v7), (8, .int v8), (9, .int v9)] [.int s0] 78 := by
  unfold Maker_meanOfBlock_b78 at h
  refine j_istore C [(10, .int s0), (0, .ref o0), (6, .int v6), (7, .int v7), (8, .int v8), (9, .int v9)] d_Maker_meanOfBlock_78 (by decide) rfl ?_
  refine j_iconst C (v := 0) d_Maker_meanOfBlock_80 (by decide) ?_
  refine j_istore C [(11, .int 0), (10, .int s0), (0, .ref o0), (6, .int v6), (7, .int v7), (8, .int v8), (9, .int v9)] d_Maker_meanOfBlock_81 (by decide) rfl ?_
  refine j_iconst C (v := 0) d_Maker_meanOfBlock_83 (by decide) ?_
  refine j_istore C [(12, .int 0), (11, .int 0), (10, .int s0), (0, .ref o0), (6, .int v6), (7, .int v7), (8, .int v8), (9, .int v9)] d_Maker_meanOfBlock_84 (by decide) rfl ?_
  refine j_iconst C (v := 0) d_Maker_meanOfBlock_86 (by decide) ?_
  refine j_istore C [(13, .int 0), (12, .int 0), (11, .int 0), (10, .int s0), (0, .ref o0), (6, .int v6), (7, .int v7), (8, .int v8), (9, .int v9)] d_Maker_meanOfBlock_87 (by decide) rfl ?_
  refine j_iconst C (v := 0) d_Maker_meanOfBlock_89 (by decide) ?_
  refine j_istore C [(14, .int 0), (13, .int 0), (12, .int 0), (11, .int 0), (10, .int s0), (0, .ref o0), (6, .int v6), (7, .int v7), (8, .int v8), (9, .int v9)] d_Maker_meanOfBlock_90 (by decide) rfl ?_
  refine j_iload C 6 d_Maker_meanOfBlock_92 rfl ?_
  refine j_istore C [(15, .int v6), (14, .int 0), (13, .int 0), (12, .int 0), (11, .int 0), (10, .int s0), (0, .ref o0), (6, .int v6), (7, .int v7), (8, .int v8), (9, .int v9)] d_Maker_meanOfBlock_94 (by decide) rfl ?_
  obtain ⟨r16, hr16, h⟩ := bd_ok h
  refine j_sub [6, 8, 9, 10, 5, 4, 3, 2, 1, 0] rfl ?_
  refine t_Maker_meanOfBlock_l96 C fu 0 0 0 0 v6 hr16 (fun e22 => ?_)
  · refine j_iload C 0 d_Maker_meanOfBlock_212 rfl ?_
    refine j_if_ne C 221 d_Maker_meanOfBlock_214 (by decide) (fun c21 => ?_) (fun c21 => ?_)
    · replace h := (if_neg c21).symm.trans h
      refine j_iload C 1 d_Maker_meanOfBlock_221 rfl ?_
      refine j_iload C 0 d_Maker_meanOfBlock_223 rfl ?_
      obtain ⟨r17, hr17, h⟩ := bd_ok h
      refine j_PSN C [.int r16.2.2.1, .int r16.2.1] (c_ML_mean l D cI cR cZ r16.2.2.1 r16.2.1 hr17) (cw_Maker_125 C ⟨Nat.le_of_ble_eq_true rfl, Nat.le_of_ble_eq_true rfl⟩) [] rfl rfl rfl (Nat.le_of_ble_eq_true rfl) d_Maker_meanOfBlock_225 (by decide) ?_
      refine j_iload C 2 d_Maker_meanOfBlock_228 rfl ?_
      refine j_iload C 0 d_Maker_meanOfBlock_230 rfl ?_
      obtain ⟨r18, hr18, h⟩ := bd_ok h
      refine j_PSN C [.int r16.2.2.2.1, .int r16.2.1] (c_ML_mean l D cI cR cZ r16.2.2.2.1 r16.2.1 hr18) (cw_Maker_125 C ⟨Nat.le_of_ble_eq_true rfl, Nat.le_of_ble_eq_true rfl⟩) [] rfl rfl rfl (Nat.le_of_ble_eq_true rfl) d_Maker_meanOfBlock_232 (by decide) ?_
      refine j_iload C 3 d_Maker_meanOfBlock_235 rfl ?_
      refine j_iload C 0 d_Maker_meanOfBlock_237 rfl ?_
      obtain ⟨r19, hr19, h⟩ := bd_ok h
      refine j_PSN C [.int r16.2.2.2.2, .int r16.2.1] (c_ML_mean l D cI cR cZ r16.2.2.2.2 r16.2.1 hr19) (cw_Maker_125 C ⟨Nat.le_of_ble_eq_true rfl, Nat.le_of_ble_eq_true rfl⟩) [] rfl rfl rfl (Nat.le_of_ble_eq_true rfl) d_Maker_meanOfBlock_239 (by decide) ?_
      obtain ⟨r20, hr20, h⟩ := bd_ok h
      refine j_PSN C [.int r17, .int r18, .int r19] (c_ML_colourOf l D cI cR cZ r17 r18 r19 hr20) (cw_Maker_128 C ⟨Nat.le_of_ble_eq_true rfl, Nat.le_of_ble_eq_true rfl⟩) [] rfl rfl rfl (Nat.le_of_ble_eq_true rfl) d_Maker_meanOfBlock_242 (by decide) ?_
      obtain rfl := Option.some.inj h
      exact j_pret C hr d_Maker_meanOfBlock_245
    · replace h := (if_pos c21).symm.trans h
      refine j_iconst C (v := (-1)) d_Maker_meanOfBlock_217 (by decide) ?_
      refine j_goto C 245 d_Maker_meanOfBlock_218 (by decide) ?_
      obtain rfl := Option.some.inj h
      exact j_pret C hr d_Maker_meanOfBlock_245
set_option maxRecDepth 100000 in
set_option maxHeartbeats 4000000 in
theorem c_Maker_meanOfBlock (l : Launch) (D : va_G) (cI cR cZ : ClassId) (fu : Nat) (o0 : Nat) (hc : Nat) (hm : Nat) (hb : Nat) (a : (Nat → Nat)) (n : Nat) (col : (Nat → Int32)) (msk : (Nat → Int32)) (bare : (Nat → Int32)) (L : LyS) (p1 : Int32) (p2 : Int32) (p3 : Int32) (p4 : Int32) {res : Int32} (h : Maker_meanOfBlock fu n col msk bare L p1 p2 p3 p4 = some res) : Met l y_Maker_meanOfBlock (Cond.code y_Maker_meanOfBlock b_Maker_meanOfBlock 18 (some .int) :: BIG) rm_Maker_meanOfBlock (PcP [.ref o0, .int p1, .int p2, .int p3, .int p4] D (tyG cI cR cZ) (wMk cI cR o0 hc hm hb a n col msk bare L)) (QcP res) 0 0 no := by
  refine met_P (by decide) (Nat.le_of_ble_eq_true rfl) (fun p e s m args below meth c C hr => ?_)
  have C : Cx p s m args meth c D (tyG cI cR cZ) b_Maker_meanOfBlock 18 "MaskLayers$Maker" := C
  have hr : meth.sig.returnType = some .int := hr
  show J p l e rm_Maker_meanOfBlock s m args below meth c D no (fun _ => True) 18 (MQ below (QcP res) args s 0 0 no) 0 0 (wMk cI cR o0 hc hm hb a n col msk bare L) [(0, .ref o0), (1, .int p1), (2, .int p2), (3, .int p3), (4, .int p4)] [] 0
  unfold Maker_meanOfBlock at h
  refine j_aload_n C 0 d_Maker_meanOfBlock_0 rfl ?_
  refine gf_Maker_9 C 0 (v := .ref (a 0)) rfl rfl d_Maker_meanOfBlock_1 ?_
  refine gf_Maker_99 C 4 (v := .ref (a 7)) rfl rfl d_Maker_meanOfBlock_4 ?_
  refine j_iload_n C 2 d_Maker_meanOfBlock_7 rfl ?_
  obtain ⟨b1, h⟩ := gd_ok h
  refine j_iald C (11) (t0 := 0) rfl rfl b1 d_Maker_meanOfBlock_8 ?_
  refine j_istore C [(5, .int (L.2 5 p2.toNatClampNeg)), (0, .ref o0), (1, .int p1), (2, .int p2), (3, .int p3), (4, .int p4)] d_Maker_meanOfBlock_9 (by decide) rfl ?_
  refine j_aload_n C 1 d_Maker_meanOfBlock_11 rfl ?_
  refine gf_Maker_9 C 0 (v := .ref (a 0)) rfl rfl d_Maker_meanOfBlock_12 ?_
  refine j_iload_n C 2 d_Maker_meanOfBlock_15 rfl ?_
  obtain ⟨r2, hr2, h⟩ := bd_ok h
  refine j_PV C [.int p1] 4 rfl rfl (c_Layers_topOf l D cI cR cZ a n L p1 hr2) (cw_Maker_102 C ⟨Nat.le_of_ble_eq_true rfl, Nat.le_of_ble_eq_true rfl⟩) [4, 5, 6, 7, 8, 9, 10, 11, 12] rfl rfl rfl (Nat.le_of_ble_eq_true rfl) d_Maker_meanOfBlock_16 (by decide) ?_
  refine j_iload C 5 d_Maker_meanOfBlock_19 rfl ?_
  refine j_iload C 0 d_Maker_meanOfBlock_21 rfl ?_
  refine j_imul C d_Maker_meanOfBlock_23 ?_
  refine j_iadd C d_Maker_meanOfBlock_24 ?_
  refine j_istore C [(6, .int (r2 + (p4 * (L.2 5 p2.toNatClampNeg)))), (5, .int (L.2 5 p2.toNatClampNeg)), (0, .ref o0), (1, .int p1), (2, .int p2), (3, .int p3), (4, .int p4)] d_Maker_meanOfBlock_25 (by decide) rfl ?_
  refine j_iload C 0 d_Maker_meanOfBlock_27 rfl ?_
  refine j_iload C 1 d_Maker_meanOfBlock_29 rfl ?_
  refine j_iadd C d_Maker_meanOfBlock_31 ?_
  refine j_aload_n C 2 d_Maker_meanOfBlock_32 rfl ?_
  refine gf_Maker_9 C 0 (v := .ref (a 0)) rfl rfl d_Maker_meanOfBlock_33 ?_
  refine j_iload_n C 3 d_Maker_meanOfBlock_36 rfl ?_
  obtain ⟨r3, hr3, h⟩ := bd_ok h
  refine j_PV C [.int p1] 4 rfl rfl (c_Layers_bottomOf l D cI cR cZ a n L p1 hr3) (cw_Maker_105 C ⟨Nat.le_of_ble_eq_true rfl, Nat.le_of_ble_eq_true rfl⟩) [4, 5, 6, 7, 8, 9, 10, 11, 12] rfl rfl rfl (Nat.le_of_ble_eq_true rfl) d_Maker_meanOfBlock_37 (by decide) ?_
  refine j_mmin C mw_Maker_108 (Nat.le_of_ble_eq_true rfl) (Nat.le_of_ble_eq_true rfl) (by decide) d_Maker_meanOfBlock_40 ?_
  refine j_istore C [(7, .int (mn ((r2 + (p4 * (L.2 5 p2.toNatClampNeg))) + (L.2 5 p2.toNatClampNeg)) r3)), (6, .int (r2 + (p4 * (L.2 5 p2.toNatClampNeg)))), (5, .int (L.2 5 p2.toNatClampNeg)), (0, .ref o0), (1, .int p1), (2, .int p2), (3, .int p3), (4, .int p4)] d_Maker_meanOfBlock_43 (by decide) rfl ?_
  refine j_iload_n C 6 d_Maker_meanOfBlock_45 rfl ?_
  refine j_iload C 2 d_Maker_meanOfBlock_46 rfl ?_
  refine j_imul C d_Maker_meanOfBlock_48 ?_
  refine j_istore C [(8, .int (p3 * (L.2 5 p2.toNatClampNeg))), (7, .int (mn ((r2 + (p4 * (L.2 5 p2.toNatClampNeg))) + (L.2 5 p2.toNatClampNeg)) r3)), (6, .int (r2 + (p4 * (L.2 5 p2.toNatClampNeg)))), (5, .int (L.2 5 p2.toNatClampNeg)), (0, .ref o0), (1, .int p1), (2, .int p2), (3, .int p3), (4, .int p4)] d_Maker_meanOfBlock_49 (by decide) rfl ?_
  refine j_iload C 0 d_Maker_meanOfBlock_51 rfl ?_
  refine j_iload C 3 d_Maker_meanOfBlock_53 rfl ?_
  refine j_iadd C d_Maker_meanOfBlock_55 ?_
  refine j_aload_n C 4 d_Maker_meanOfBlock_56 rfl ?_
  refine gf_Maker_9 C 0 (v := .ref (a 0)) rfl rfl d_Maker_meanOfBlock_57 ?_
  refine gf_Maker_113 C 4 (v := .int (L.1 0)) rfl rfl d_Maker_meanOfBlock_60 ?_
  refine j_mmin C mw_Maker_108 (Nat.le_of_ble_eq_true rfl) (Nat.le_of_ble_eq_true rfl) (by decide) d_Maker_meanOfBlock_63 ?_
  refine j_istore C [(9, .int (mn ((p3 * (L.2 5 p2.toNatClampNeg)) + (L.2 5 p2.toNatClampNeg)) (L.1 0))), (8, .int (p3 * (L.2 5 p2.toNatClampNeg))), (7, .int (mn ((r2 + (p4 * (L.2 5 p2.toNatClampNeg))) + (L.2 5 p2.toNatClampNeg)) r3)), (6, .int (r2 + (p4 * (L.2 5 p2.toNatClampNeg)))), (5, .int (L.2 5 p2.toNatClampNeg)), (0, .ref o0), (1, .int p1), (2, .int p2), (3, .int p3), (4, .int p4)] d_Maker_meanOfBlock_66 (by decide) rfl ?_
  refine j_iload_n C 7 d_Maker_meanOfBlock_68 rfl ?_
  refine j_iconst C (v := 2) d_Maker_meanOfBlock_69 (by decide) ?_
  refine j_icmp_ne C 77 d_Maker_meanOfBlock_70 (by decide) (fun c23 => ?_) (fun c23 => ?_)
  · replace h := (if_neg c23).symm.trans h
    refine j_iconst C (v := 0) d_Maker_meanOfBlock_77 (by decide) ?_
    refine j_sub [5, 3, 2, 1, 0] rfl ?_
    exact t_Maker_meanOfBlock_b78 C hr h
  · replace h := (if_pos c23).symm.trans h
    refine j_iconst C (v := 1) d_Maker_meanOfBlock_73 (by decide) ?_
    refine j_goto C 78 d_Maker_meanOfBlock_74 (by decide) ?_
    refine j_sub [5, 3, 2, 1, 0] rfl ?_
    exact t_Maker_meanOfBlock_b78 C hr h
def Maker_takeMask_l22 (n : Nat) (col : (Nat → Int32)) (msk : (Nat → Int32)) (bare : (Nat → Int32)) (v3 : Int32) : Nat → Int32 → Int32 → LyS → Option (Nat × Int32 × LyS)
  | 0, _, _, _ => none
  | k + 1, v2, v4, L =>
  (if v3 ≤ v4 then some (0, v2, L)
  else gd 1 4 (gd v4 n (gd v4 n (gd v4 n (Maker_takeMask_l22 n col msk bare v3 k (v2 + (msk v4.toNatClampNeg)) (v4 + 1) (Ls L ((1 : Int32).toNatClampNeg) v4.toNatClampNeg (msk v4.toNatClampNeg)))))))
def Maker_takeMask (fu : Nat) (n : Nat) (col : (Nat → Int32)) (msk : (Nat → Int32)) (bare : (Nat → Int32)) (L : LyS) (p1 : Int32) : Option (Int32 × LyS) :=
  (Layers_endOf n L p1 1).bind fun r1 =>
  (Layers_startOf n L p1).bind fun r2 =>
  (Maker_takeMask_l22 n col msk bare r1 fu 0 r2 L).bind fun r8 =>
  some (r8.2.1, r8.2.2)
set_option maxRecDepth 100000 in
set_option maxHeartbeats 4000000 in
theorem t_Maker_takeMask_l22 {p : Program} {l : Launch} {e : Env} {s : State} {m : MethodId} {args : Array Value} {below : List Frame} {meth : Method} {c : Code} {D : va_G} {cI cR cZ : ClassId} {A : Nat → Prop} {Q : State → Prop} (C : Cx p s m args meth c D (tyG cI cR cZ) b_Maker_takeMask 5 "MaskLayers$Maker") (hA : ∀ q : Nat, s.heap.size ≤ q → A q) {o0 : Nat} {hc : Nat} {hm : Nat} {hb : Nat} {a : (Nat → Nat)} {n : Nat} {col : (Nat → Int32)} {msk : (Nat → Int32)} {bare : (Nat → Int32)} {v3 : Int32} {out : Nat × Int32 × LyS} : ∀ (k : Nat) (v2 : Int32) (v4 : Int32) (L : LyS), Maker_takeMask_l22 n col msk bare v3 k v2 v4 L = some out → (out.1 = 0 → J p l e rm_Maker_takeMask s m args below meth c D A (va_D A) 5 Q 0 0 (wMk cI cR o0 hc hm hb a n col msk bare out.2.2) [(2, .int out.2.1)] [] 63) → J p l e rm_Maker_takeMask s m args below meth c D A (va_D A) 5 Q 0 0 (wMk cI cR o0 hc hm hb a n col msk bare L) [(0, .ref o0), (2, .int v2), (3, .int v3), (4, .int v4)] [] 22 := by
  intro k
  induction k with
  | zero => intro v2 v4 L h; cases (show none = some out from h)
  | succ k ih =>
    intro v2 v4 L h x0
    rw [Maker_takeMask_l22] at h
    refine j_iload C 3 d_Maker_takeMask_22 rfl ?_
    refine j_iload_n C 2 d_Maker_takeMask_24 rfl ?_
    refine j_icmp_ge C 63 d_Maker_takeMask_25 (by decide) (fun c7 => ?_) (fun c7 => ?_)
    · replace h := (if_pos c7).symm.trans h
      obtain rfl := Option.some.inj h
      refine j_sub [1] rfl ?_
      exact x0 rfl
    · replace h := (if_neg c7).symm.trans h
      refine j_aload_n C 0 d_Maker_takeMask_28 rfl ?_
      refine gf_Maker_9 C 0 (v := .ref (a 0)) rfl rfl d_Maker_takeMask_29 ?_
      refine gf_Maker_85 C 4 (v := .ref (a 1)) rfl rfl d_Maker_takeMask_32 ?_
      refine j_iconst C (v := 1) d_Maker_takeMask_35 (by decide) ?_
      obtain ⟨b3, h⟩ := gd_ok h
      refine j_aald C 5 (t0 := 2) rfl rfl b3 d_Maker_takeMask_36 ?_
      refine j_iload C 3 d_Maker_takeMask_37 rfl ?_
      refine j_aload_n C 0 d_Maker_takeMask_39 rfl ?_
      refine gf_Maker_19 C 0 (v := .ref hm) rfl rfl d_Maker_takeMask_40 ?_
      refine j_iload C 3 d_Maker_takeMask_43 rfl ?_
      obtain ⟨b4, h⟩ := gd_ok h
      refine j_iald C (2) (t0 := 0) rfl rfl b4 d_Maker_takeMask_45 ?_
      obtain ⟨b5, h⟩ := gd_ok h
      refine j_iast C (6 + (1 : Int32).toNatClampNeg) (wMk cI cR o0 hc hm hb a n col msk bare (Ls L ((1 : Int32).toNatClampNeg) v4.toNatClampNeg (msk v4.toNatClampNeg))) (t0 := 0) (co_4 (P := fun k => (wMk cI cR o0 hc hm hb a n col msk bare L)[6 + k]? = some (a (2 + k), .inl (cI, n, .inl (L.2 k)))) rfl rfl rfl rfl (in_lt b3)) (co_4 (P := fun k => (wMk cI cR o0 hc hm hb a n col msk bare L).set (6 + k) (a (2 + k), .inl (cI, n, .inl (upd (L.2 k) v4.toNatClampNeg (msk v4.toNatClampNeg)))) = wMk cI cR o0 hc hm hb a n col msk bare (Ls L k v4.toNatClampNeg (msk v4.toNatClampNeg))) rfl rfl rfl rfl (in_lt b3)) rfl b5 d_Maker_takeMask_46 ?_
      refine j_iload_n C 1 d_Maker_takeMask_47 rfl ?_
      refine j_aload_n C 0 d_Maker_takeMask_48 rfl ?_
      refine gf_Maker_19 C 0 (v := .ref hm) rfl rfl d_Maker_takeMask_49 ?_
      refine j_iload C 3 d_Maker_takeMask_52 rfl ?_
      obtain ⟨b6, h⟩ := gd_ok h
      refine j_iald C (2) (t0 := 0) rfl rfl b6 d_Maker_takeMask_54 ?_
      refine j_iadd C d_Maker_takeMask_55 ?_
      refine j_istore_n C [(2, .int (v2 + (msk v4.toNatClampNeg))), (0, .ref o0), (3, .int v3), (4, .int v4)] d_Maker_takeMask_56 (by decide) rfl ?_
      refine j_iinc C [(4, .int (v4 + 1)), (2, .int (v2 + (msk v4.toNatClampNeg))), (0, .ref o0), (3, .int v3)] 3 (v4 + 1) d_Maker_takeMask_57 rfl rfl (by decide) rfl ?_
      refine j_goto C 22 d_Maker_takeMask_60 (by decide) ?_
      refine j_sub [2, 1, 3, 0] rfl ?_
      exact ih (v2 + (msk v4.toNatClampNeg)) (v4 + 1) (Ls L ((1 : Int32).toNatClampNeg) v4.toNatClampNeg (msk v4.toNatClampNeg)) h x0
set_option maxRecDepth 100000 in
set_option maxHeartbeats 4000000 in
theorem c_Maker_takeMask (l : Launch) (D : va_G) (cI cR cZ : ClassId) (fu : Nat) (o0 : Nat) (hc : Nat) (hm : Nat) (hb : Nat) (a : (Nat → Nat)) (n : Nat) (col : (Nat → Int32)) (msk : (Nat → Int32)) (bare : (Nat → Int32)) (L : LyS) (p1 : Int32) {res : (Int32 × LyS)} (h : Maker_takeMask fu n col msk bare L p1 = some res) (sz : Nat) : Met l y_Maker_takeMask (Cond.code y_Maker_takeMask b_Maker_takeMask 5 (some .int) :: BIG) rm_Maker_takeMask (PcI [.ref o0, .int p1] D (tyG cI cR cZ) (wMk cI cR o0 hc hm hb a n col msk bare L) sz) (QcI D res.1 (fun _ : Nat => wMk cI cR o0 hc hm hb a n col msk bare res.2) (va_A (wMk cI cR o0 hc hm hb a n col msk bare L) sz)) 0 0 (va_A (wMk cI cR o0 hc hm hb a n col msk bare L) sz) := by
  refine met_I (by decide) (Nat.le_of_ble_eq_true rfl) (fun p e s m args below meth c A hA C hr => ?_)
  have C : Cx p s m args meth c D (tyG cI cR cZ) b_Maker_takeMask 5 "MaskLayers$Maker" := C
  have hr : meth.sig.returnType = some .int := hr
  show J p l e rm_Maker_takeMask s m args below meth c D A (va_D A) 5 (MQ below (QcI D res.1 (fun _ : Nat => wMk cI cR o0 hc hm hb a n col msk bare res.2) A) args s 0 0 A) 0 0 (wMk cI cR o0 hc hm hb a n col msk bare L) [(0, .ref o0), (1, .int p1)] [] 0
  unfold Maker_takeMask at h
  refine j_iconst C (v := 0) d_Maker_takeMask_0 (by decide) ?_
  refine j_istore_n C [(2, .int 0), (0, .ref o0), (1, .int p1)] d_Maker_takeMask_1 (by decide) rfl ?_
  refine j_aload_n C 1 d_Maker_takeMask_2 rfl ?_
  refine gf_Maker_9 C 0 (v := .ref (a 0)) rfl rfl d_Maker_takeMask_3 ?_
  refine j_iload_n C 2 d_Maker_takeMask_6 rfl ?_
  refine j_iconst C (v := 1) d_Maker_takeMask_7 (by decide) ?_
  obtain ⟨r1, hr1, h⟩ := bd_ok h
  refine j_PV C [.int p1, .int 1] 4 rfl rfl (c_Layers_endOf l D cI cR cZ a n L p1 1 hr1) (cw_Maker_63 C ⟨Nat.le_of_ble_eq_true rfl, Nat.le_of_ble_eq_true rfl⟩) [4, 5, 6, 7, 8, 9, 10, 11, 12] rfl rfl rfl (Nat.le_of_ble_eq_true rfl) d_Maker_takeMask_8 (by decide) ?_
  refine j_istore_n C [(3, .int r1), (2, .int 0), (0, .ref o0), (1, .int p1)] d_Maker_takeMask_11 (by decide) rfl ?_
  refine j_aload_n C 2 d_Maker_takeMask_12 rfl ?_
  refine gf_Maker_9 C 0 (v := .ref (a 0)) rfl rfl d_Maker_takeMask_13 ?_
  refine j_iload_n C 3 d_Maker_takeMask_16 rfl ?_
  obtain ⟨r2, hr2, h⟩ := bd_ok h
  refine j_PV C [.int p1] 4 rfl rfl (c_Layers_startOf l D cI cR cZ a n L p1 hr2) (cw_Maker_67 C ⟨Nat.le_of_ble_eq_true rfl, Nat.le_of_ble_eq_true rfl⟩) [4, 5, 6, 7, 8, 9, 10, 11, 12] rfl rfl rfl (Nat.le_of_ble_eq_true rfl) d_Maker_takeMask_17 (by decide) ?_
  refine j_istore C [(4, .int r2), (3, .int r1), (2, .int 0), (0, .ref o0), (1, .int p1)] d_Maker_takeMask_20 (by decide) rfl ?_
  obtain ⟨r8, hr8, h⟩ := bd_ok h
  refine j_sub [3, 2, 1, 0] rfl ?_
  refine t_Maker_takeMask_l22 C hA fu 0 r2 L hr8 (fun e9 => ?_)
  · refine j_iload_n C 0 d_Maker_takeMask_63 rfl ?_
    obtain rfl := Option.some.inj h
    exact j_iret C hr d_Maker_takeMask_64 0 rfl
def Maker_makeBlocks_l58 (fu : Nat) (n : Nat) (col : (Nat → Int32)) (msk : (Nat → Int32)) (bare : (Nat → Int32)) (w3 : Nat) (v1 : Int32) (v2 : Int32) (v4 : Int32) (v5 : Int32) (v8 : Int32) : Nat → Int32 → Int32 → Int32 → LyS → Option (Nat × Int32 × Int32 × LyS)
  | 0, _, _, _, _ => none
  | k + 1, v6, v7, v9, L =>
  (if v5 ≤ v9 then some (0, v6, v7, L)
  else (Maker_meanOfBlock fu n col msk bare L v1 v2 v9 v8).bind fun r5 =>
  gd v6 n ((if v7 = ((-1)) then gd v6 n (Maker_makeBlocks_l58 fu n col msk bare w3 v1 v2 v4 v5 v8 k (v6 + 1) ((Ls L w3 v6.toNatClampNeg r5).2 w3 v6.toNatClampNeg) (v9 + 1) (Ls L w3 v6.toNatClampNeg r5))
  else Maker_makeBlocks_l58 fu n col msk bare w3 v1 v2 v4 v5 v8 k (v6 + 1) v7 (v9 + 1) (Ls L w3 v6.toNatClampNeg r5))))
def Maker_makeBlocks_l48 (fu : Nat) (n : Nat) (col : (Nat → Int32)) (msk : (Nat → Int32)) (bare : (Nat → Int32)) (w3 : Nat) (v1 : Int32) (v2 : Int32) (v4 : Int32) (v5 : Int32) : Nat → Int32 → Int32 → Int32 → LyS → Option (Nat × Int32 × LyS)
  | 0, _, _, _, _ => none
  | k + 1, v6, v7, v8, L =>
  (if v4 ≤ v8 then some (0, v7, L)
  else (Maker_makeBlocks_l58 fu n col msk bare w3 v1 v2 v4 v5 v8 fu v6 v7 0 L).bind fun r10 =>
  Maker_makeBlocks_l48 fu n col msk bare w3 v1 v2 v4 v5 k r10.2.1 r10.2.2.1 (v8 + 1) r10.2.2.2)
def Maker_makeBlocks (fu : Nat) (n : Nat) (col : (Nat → Int32)) (msk : (Nat → Int32)) (bare : (Nat → Int32)) (L : LyS) (p1 : Int32) (p2 : Int32) : Option (Int32 × LyS) :=
  gd p2 4 ((Layers_rowsOf n L p1 p2).bind fun r2 =>
  gd p2 4 ((Layers_startOf n L p1).bind fun r4 =>
  (Maker_makeBlocks_l48 fu n col msk bare p2.toNatClampNeg p1 p2 r2 (L.2 6 p2.toNatClampNeg) fu r4 ((-1)) 0 L).bind fun r13 =>
  some (r13.2.1, r13.2.2)))
set_option maxRecDepth 100000 in
set_option maxHeartbeats 4000000 in
theorem t_Maker_makeBlocks_l58 {p : Program} {l : Launch} {e : Env} {s : State} {m : MethodId} {args : Array Value} {below : List Frame} {meth : Method} {c : Code} {D : va_G} {cI cR cZ : ClassId} {A : Nat → Prop} {Q : State → Prop} (C : Cx p s m args meth c D (tyG cI cR cZ) b_Maker_makeBlocks 10 "MaskLayers$Maker") (hA : ∀ q : Nat, s.heap.size ≤ q → A q) {o0 : Nat} {hc : Nat} {hm : Nat} {hb : Nat} {a : (Nat → Nat)} {n : Nat} {fu : Nat} {col : (Nat → Int32)} {msk : (Nat → Int32)} {bare : (Nat → Int32)} {w3 : Nat} (hw3 : w3 < 4) {v1 : Int32} {v2 : Int32} {v4 : Int32} {v5 : Int32} {v8 : Int32} {out : Nat × Int32 × Int32 × LyS} : ∀ (k : Nat) (v6 : Int32) (v7 : Int32) (v9 : Int32) (L : LyS), Maker_makeBlocks_l58 fu n col msk bare w3 v1 v2 v4 v5 v8 k v6 v7 v9 L = some out → (out.1 = 0 → J p l e rm_Maker_makeBlocks s m args below meth c D A (va_D A) 10 Q 0 0 (wMk cI cR o0 hc hm hb a n col msk bare out.2.2.2) [(0, .ref o0), (1, .int v1), (2, .int v2), (3, .ref (a (2 + w3))), (4, .int v4), (5, .int v5), (6, .int out.2.1), (7, .int out.2.2.1), (8, .int v8)] [] 105) → J p l e rm_Maker_makeBlocks s m args below meth c D A (va_D A) 10 Q 0 0 (wMk cI cR o0 hc hm hb a n col msk bare L) [(0, .ref o0), (1, .int v1), (2, .int v2), (3, .ref (a (2 + w3))), (4, .int v4), (5, .int v5), (6, .int v6), (7, .int v7), (8, .int v8), (9, .int v9)] [] 58 := by
  intro k
  induction k with
  | zero => intro v6 v7 v9 L h; cases (show none = some out from h)
  | succ k ih =>
    intro v6 v7 v9 L h x0
    rw [Maker_makeBlocks_l58] at h
    refine j_iload C 9 d_Maker_makeBlocks_58 rfl ?_
    refine j_iload C 5 d_Maker_makeBlocks_60 rfl ?_
    refine j_icmp_ge C 105 d_Maker_makeBlocks_62 (by decide) (fun c9 => ?_) (fun c9 => ?_)
    · replace h := (if_pos c9).symm.trans h
      obtain rfl := Option.some.inj h
      refine j_sub [0, 1, 2, 3, 4, 5, 6, 7, 8] rfl ?_
      exact x0 rfl
    · replace h := (if_neg c9).symm.trans h
      refine j_aload_n C 3 d_Maker_makeBlocks_65 rfl ?_
      refine j_iload C 6 d_Maker_makeBlocks_66 rfl ?_
      refine j_aload_n C 0 d_Maker_makeBlocks_68 rfl ?_
      refine j_iload_n C 1 d_Maker_makeBlocks_69 rfl ?_
      refine j_iload_n C 2 d_Maker_makeBlocks_70 rfl ?_
      refine j_iload C 9 d_Maker_makeBlocks_71 rfl ?_
      refine j_iload C 8 d_Maker_makeBlocks_73 rfl ?_
      obtain ⟨r5, hr5, h⟩ := bd_ok h
      refine j_PV C [.int v1, .int v2, .int v9, .int v8] 0 rfl rfl (c_Maker_meanOfBlock l D cI cR cZ fu o0 hc hm hb a n col msk bare L v1 v2 v9 v8 hr5) (cw_Maker_95 C ⟨Nat.le_of_ble_eq_true rfl, Nat.le_of_ble_eq_true rfl⟩) [0, 1, 2, 3, 4, 5, 6, 7, 8, 9, 10, 11, 12] rfl rfl rfl (Nat.le_of_ble_eq_true rfl) d_Maker_makeBlocks_75 (by decide) ?_
      obtain ⟨b6, h⟩ := gd_ok h
      refine j_iast C (6 + w3) (wMk cI cR o0 hc hm hb a n col msk bare (Ls L w3 v6.toNatClampNeg r5)) (t0 := 0) (co_4 (P := fun k => (wMk cI cR o0 hc hm hb a n col msk bare L)[6 + k]? = some (a (2 + k), .inl (cI, n, .inl (L.2 k)))) rfl rfl rfl rfl hw3) (co_4 (P := fun k => (wMk cI cR o0 hc hm hb a n col msk bare L).set (6 + k) (a (2 + k), .inl (cI, n, .inl (upd (L.2 k) v6.toNatClampNeg r5))) = wMk cI cR o0 hc hm hb a n col msk bare (Ls L k v6.toNatClampNeg r5)) rfl rfl rfl rfl hw3) rfl b6 d_Maker_makeBlocks_78 ?_
      refine j_iload C 7 d_Maker_makeBlocks_79 rfl ?_
      refine j_iconst C (v := (-1)) d_Maker_makeBlocks_81 (by decide) ?_
      refine j_icmp_ne C 92 d_Maker_makeBlocks_82 (by decide) (fun c8 => ?_) (fun c8 => ?_)
      · replace h := (if_neg c8).symm.trans h
        refine j_iload C 7 d_Maker_makeBlocks_92 rfl ?_
        refine j_istore C [(7, .int v7), (0, .ref o0), (1, .int v1), (2, .int v2), (3, .ref (a (2 + w3))), (4, .int v4), (5, .int v5), (6, .int v6), (8, .int v8), (9, .int v9)] d_Maker_makeBlocks_94 (by decide) rfl ?_
        refine j_iinc C [(6, .int (v6 + 1)), (7, .int v7), (0, .ref o0), (1, .int v1), (2, .int v2), (3, .ref (a (2 + w3))), (4, .int v4), (5, .int v5), (8, .int v8), (9, .int v9)] 7 (v6 + 1) d_Maker_makeBlocks_96 rfl rfl (by decide) rfl ?_
        refine j_iinc C [(9, .int (v9 + 1)), (6, .int (v6 + 1)), (7, .int v7), (0, .ref o0), (1, .int v1), (2, .int v2), (3, .ref (a (2 + w3))), (4, .int v4), (5, .int v5), (8, .int v8)] 9 (v9 + 1) d_Maker_makeBlocks_99 rfl rfl (by decide) rfl ?_
        refine j_goto C 58 d_Maker_makeBlocks_102 (by decide) ?_
        refine j_sub [3, 4, 5, 6, 7, 8, 1, 2, 9, 0] rfl ?_
        exact ih (v6 + 1) v7 (v9 + 1) (Ls L w3 v6.toNatClampNeg r5) h x0
      · replace h := (if_pos c8).symm.trans h
        refine j_aload_n C 3 d_Maker_makeBlocks_85 rfl ?_
        refine j_iload C 6 d_Maker_makeBlocks_86 rfl ?_
        obtain ⟨b7, h⟩ := gd_ok h
        refine j_iald C (6 + w3) (t0 := 0) (co_4 (P := fun k => (wMk cI cR o0 hc hm hb a n col msk bare (Ls L w3 v6.toNatClampNeg r5))[6 + k]? = some (a (2 + k), .inl (cI, n, .inl ((Ls L w3 v6.toNatClampNeg r5).2 k)))) rfl rfl rfl rfl hw3) rfl b7 d_Maker_makeBlocks_88 ?_
        refine j_goto C 94 d_Maker_makeBlocks_89 (by decide) ?_
        refine j_istore C [(7, .int ((Ls L w3 v6.toNatClampNeg r5).2 w3 v6.toNatClampNeg)), (0, .ref o0), (1, .int v1), (2, .int v2), (3, .ref (a (2 + w3))), (4, .int v4), (5, .int v5), (6, .int v6), (8, .int v8), (9, .int v9)] d_Maker_makeBlocks_94 (by decide) rfl ?_
        refine j_iinc C [(6, .int (v6 + 1)), (7, .int ((Ls L w3 v6.toNatClampNeg r5).2 w3 v6.toNatClampNeg)), (0, .ref o0), (1, .int v1), (2, .int v2), (3, .ref (a (2 + w3))), (4, .int v4), (5, .int v5), (8, .int v8), (9, .int v9)] 7 (v6 + 1) d_Maker_makeBlocks_96 rfl rfl (by decide) rfl ?_
        refine j_iinc C [(9, .int (v9 + 1)), (6, .int (v6 + 1)), (7, .int ((Ls L w3 v6.toNatClampNeg r5).2 w3 v6.toNatClampNeg)), (0, .ref o0), (1, .int v1), (2, .int v2), (3, .ref (a (2 + w3))), (4, .int v4), (5, .int v5), (8, .int v8)] 9 (v9 + 1) d_Maker_makeBlocks_99 rfl rfl (by decide) rfl ?_
        refine j_goto C 58 d_Maker_makeBlocks_102 (by decide) ?_
        refine j_sub [3, 4, 5, 6, 7, 8, 1, 2, 9, 0] rfl ?_
        exact ih (v6 + 1) ((Ls L w3 v6.toNatClampNeg r5).2 w3 v6.toNatClampNeg) (v9 + 1) (Ls L w3 v6.toNatClampNeg r5) h x0
set_option maxRecDepth 100000 in
set_option maxHeartbeats 4000000 in
theorem t_Maker_makeBlocks_l48 {p : Program} {l : Launch} {e : Env} {s : State} {m : MethodId} {args : Array Value} {below : List Frame} {meth : Method} {c : Code} {D : va_G} {cI cR cZ : ClassId} {A : Nat → Prop} {Q : State → Prop} (C : Cx p s m args meth c D (tyG cI cR cZ) b_Maker_makeBlocks 10 "MaskLayers$Maker") (hA : ∀ q : Nat, s.heap.size ≤ q → A q) {o0 : Nat} {hc : Nat} {hm : Nat} {hb : Nat} {a : (Nat → Nat)} {n : Nat} {fu : Nat} {col : (Nat → Int32)} {msk : (Nat → Int32)} {bare : (Nat → Int32)} {w3 : Nat} (hw3 : w3 < 4) {v1 : Int32} {v2 : Int32} {v4 : Int32} {v5 : Int32} {out : Nat × Int32 × LyS} : ∀ (k : Nat) (v6 : Int32) (v7 : Int32) (v8 : Int32) (L : LyS), Maker_makeBlocks_l48 fu n col msk bare w3 v1 v2 v4 v5 k v6 v7 v8 L = some out → (out.1 = 0 → J p l e rm_Maker_makeBlocks s m args below meth c D A (va_D A) 10 Q 0 0 (wMk cI cR o0 hc hm hb a n col msk bare out.2.2) [(7, .int out.2.1)] [] 111) → J p l e rm_Maker_makeBlocks s m args below meth c D A (va_D A) 10 Q 0 0 (wMk cI cR o0 hc hm hb a n col msk bare L) [(0, .ref o0), (1, .int v1), (2, .int v2), (3, .ref (a (2 + w3))), (4, .int v4), (5, .int v5), (6, .int v6), (7, .int v7), (8, .int v8)] [] 48 := by
  intro k
  induction k with
  | zero => intro v6 v7 v8 L h; cases (show none = some out from h)
  | succ k ih =>
    intro v6 v7 v8 L h x0
    rw [Maker_makeBlocks_l48] at h
    refine j_iload C 8 d_Maker_makeBlocks_48 rfl ?_
    refine j_iload C 4 d_Maker_makeBlocks_50 rfl ?_
    refine j_icmp_ge C 111 d_Maker_makeBlocks_52 (by decide) (fun c12 => ?_) (fun c12 => ?_)
    · replace h := (if_pos c12).symm.trans h
      obtain rfl := Option.some.inj h
      refine j_sub [7] rfl ?_
      exact x0 rfl
    · replace h := (if_neg c12).symm.trans h
      refine j_iconst C (v := 0) d_Maker_makeBlocks_55 (by decide) ?_
      refine j_istore C [(9, .int 0), (0, .ref o0), (1, .int v1), (2, .int v2), (3, .ref (a (2 + w3))), (4, .int v4), (5, .int v5), (6, .int v6), (7, .int v7), (8, .int v8)] d_Maker_makeBlocks_56 (by decide) rfl ?_
      obtain ⟨r10, hr10, h⟩ := bd_ok h
      refine j_sub [1, 2, 3, 4, 5, 6, 7, 8, 9, 0] rfl ?_
      refine t_Maker_makeBlocks_l58 C hA hw3 fu v6 v7 0 L hr10 (fun e11 => ?_)
      · refine j_iinc C [(8, .int (v8 + 1)), (0, .ref o0), (1, .int v1), (2, .int v2), (3, .ref (a (2 + w3))), (4, .int v4), (5, .int v5), (6, .int r10.2.1), (7, .int r10.2.2.1)] 8 (v8 + 1) d_Maker_makeBlocks_105 rfl rfl (by decide) rfl ?_
        refine j_goto C 48 d_Maker_makeBlocks_108 (by decide) ?_
        refine j_sub [1, 2, 3, 4, 5, 6, 7, 8, 0] rfl ?_
        exact ih r10.2.1 r10.2.2.1 (v8 + 1) r10.2.2.2 h x0
set_option maxRecDepth 100000 in
set_option maxHeartbeats 4000000 in
theorem c_Maker_makeBlocks (l : Launch) (D : va_G) (cI cR cZ : ClassId) (fu : Nat) (o0 : Nat) (hc : Nat) (hm : Nat) (hb : Nat) (a : (Nat → Nat)) (n : Nat) (col : (Nat → Int32)) (msk : (Nat → Int32)) (bare : (Nat → Int32)) (L : LyS) (p1 : Int32) (p2 : Int32) {res : (Int32 × LyS)} (h : Maker_makeBlocks fu n col msk bare L p1 p2 = some res) (sz : Nat) : Met l y_Maker_makeBlocks (Cond.code y_Maker_makeBlocks b_Maker_makeBlocks 10 (some .int) :: BIG) rm_Maker_makeBlocks (PcI [.ref o0, .int p1, .int p2] D (tyG cI cR cZ) (wMk cI cR o0 hc hm hb a n col msk bare L) sz) (QcI D res.1 (fun _ : Nat => wMk cI cR o0 hc hm hb a n col msk bare res.2) (va_A (wMk cI cR o0 hc hm hb a n col msk bare L) sz)) 0 0 (va_A (wMk cI cR o0 hc hm hb a n col msk bare L) sz) := by
  refine met_I (by decide) (Nat.le_of_ble_eq_true rfl) (fun p e s m args below meth c A hA C hr => ?_)
  have C : Cx p s m args meth c D (tyG cI cR cZ) b_Maker_makeBlocks 10 "MaskLayers$Maker" := C
  have hr : meth.sig.returnType = some .int := hr
  show J p l e rm_Maker_makeBlocks s m args below meth c D A (va_D A) 10 (MQ below (QcI D res.1 (fun _ : Nat => wMk cI cR o0 hc hm hb a n col msk bare res.2) A) args s 0 0 A) 0 0 (wMk cI cR o0 hc hm hb a n col msk bare L) [(0, .ref o0), (1, .int p1), (2, .int p2)] [] 0
  unfold Maker_makeBlocks at h
  refine j_aload_n C 0 d_Maker_makeBlocks_0 rfl ?_
  refine gf_Maker_9 C 0 (v := .ref (a 0)) rfl rfl d_Maker_makeBlocks_1 ?_
  refine gf_Maker_85 C 4 (v := .ref (a 1)) rfl rfl d_Maker_makeBlocks_4 ?_
  refine j_iload_n C 2 d_Maker_makeBlocks_7 rfl ?_
  obtain ⟨b1, h⟩ := gd_ok h
  refine j_aald C 5 (t0 := 2) rfl rfl b1 d_Maker_makeBlocks_8 ?_
  refine j_astore_n C [(3, .ref (a (2 + p2.toNatClampNeg))), (0, .ref o0), (1, .int p1), (2, .int p2)] d_Maker_makeBlocks_9 (by decide) rfl ?_
  refine j_aload_n C 1 d_Maker_makeBlocks_10 rfl ?_
  refine gf_Maker_9 C 0 (v := .ref (a 0)) rfl rfl d_Maker_makeBlocks_11 ?_
  refine j_iload_n C 2 d_Maker_makeBlocks_14 rfl ?_
  refine j_iload_n C 3 d_Maker_makeBlocks_15 rfl ?_
  obtain ⟨r2, hr2, h⟩ := bd_ok h
  refine j_PV C [.int p1, .int p2] 4 rfl rfl (c_Layers_rowsOf l D cI cR cZ a n L p1 p2 hr2) (cw_Maker_89 C ⟨Nat.le_of_ble_eq_true rfl, Nat.le_of_ble_eq_true rfl⟩) [4, 5, 6, 7, 8, 9, 10, 11, 12] rfl rfl rfl (Nat.le_of_ble_eq_true rfl) d_Maker_makeBlocks_16 (by decide) ?_
  refine j_istore C [(4, .int r2), (3, .ref (a (2 + p2.toNatClampNeg))), (0, .ref o0), (1, .int p1), (2, .int p2)] d_Maker_makeBlocks_19 (by decide) rfl ?_
  refine j_aload_n C 2 d_Maker_makeBlocks_21 rfl ?_
  refine gf_Maker_9 C 0 (v := .ref (a 0)) rfl rfl d_Maker_makeBlocks_22 ?_
  refine gf_Maker_92 C 4 (v := .ref (a 8)) rfl rfl d_Maker_makeBlocks_25 ?_
  refine j_iload_n C 4 d_Maker_makeBlocks_28 rfl ?_
  obtain ⟨b3, h⟩ := gd_ok h
  refine j_iald C (12) (t0 := 0) rfl rfl b3 d_Maker_makeBlocks_29 ?_
  refine j_istore C [(5, .int (L.2 6 p2.toNatClampNeg)), (4, .int r2), (3, .ref (a (2 + p2.toNatClampNeg))), (0, .ref o0), (1, .int p1), (2, .int p2)] d_Maker_makeBlocks_30 (by decide) rfl ?_
  refine j_aload_n C 3 d_Maker_makeBlocks_32 rfl ?_
  refine gf_Maker_9 C 0 (v := .ref (a 0)) rfl rfl d_Maker_makeBlocks_33 ?_
  refine j_iload_n C 4 d_Maker_makeBlocks_36 rfl ?_
  obtain ⟨r4, hr4, h⟩ := bd_ok h
  refine j_PV C [.int p1] 4 rfl rfl (c_Layers_startOf l D cI cR cZ a n L p1 hr4) (cw_Maker_67 C ⟨Nat.le_of_ble_eq_true rfl, Nat.le_of_ble_eq_true rfl⟩) [4, 5, 6, 7, 8, 9, 10, 11, 12] rfl rfl rfl (Nat.le_of_ble_eq_true rfl) d_Maker_makeBlocks_37 (by decide) ?_
  refine j_istore C [(6, .int r4), (5, .int (L.2 6 p2.toNatClampNeg)), (4, .int r2), (3, .ref (a (2 + p2.toNatClampNeg))), (0, .ref o0), (1, .int p1), (2, .int p2)] d_Maker_makeBlocks_40 (by decide) rfl ?_
  refine j_iconst C (v := (-1)) d_Maker_makeBlocks_42 (by decide) ?_
  refine j_istore C [(7, .int ((-1))), (6, .int r4), (5, .int (L.2 6 p2.toNatClampNeg)), (4, .int r2), (3, .ref (a (2 + p2.toNatClampNeg))), (0, .ref o0), (1, .int p1), (2, .int p2)] d_Maker_makeBlocks_43 (by decide) rfl ?_
  refine j_iconst C (v := 0) d_Maker_makeBlocks_45 (by decide) ?_
  refine j_istore C [(8, .int 0), (7, .int ((-1))), (6, .int r4), (5, .int (L.2 6 p2.toNatClampNeg)), (4, .int r2), (3, .ref (a (2 + p2.toNatClampNeg))), (0, .ref o0), (1, .int p1), (2, .int p2)] d_Maker_makeBlocks_46 (by decide) rfl ?_
  obtain ⟨r13, hr13, h⟩ := bd_ok h
  refine j_sub [6, 7, 8, 5, 4, 3, 2, 1, 0] rfl ?_
  refine t_Maker_makeBlocks_l48 C hA (in_lt b1) fu r4 ((-1)) 0 L hr13 (fun e14 => ?_)
  · refine j_iload C 0 d_Maker_makeBlocks_111 rfl ?_
    obtain rfl := Option.some.inj h
    exact j_iret C hr d_Maker_makeBlocks_113 0 rfl
