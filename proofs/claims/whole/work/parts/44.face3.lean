def ML_put_t (fu : Nat) (n : Nat) (wd : Int32) (ht : Int32) (stp : Int32) (col : (Nat → Int32)) (msk : (Nat → Int32)) (bare : (Nat → Int32)) (M : LyS) (F : LyS) (Bw : ByS) (Bf : ByS) (pl : Int32) (rf : Int32) (hd : (Nat → Int32)) (p1 : Int32) (p2 : Int32) (p3 : Int32) (p4 : Int32) : Option String :=
  (ML_hasSample n wd ht stp col msk bare M F Bw Bf pl rf hd p1 p2).bind fun r1 =>
  (if r1 = 0 then some "java/lang/IndexOutOfBoundsException"
  else (if p3 < 1 then some "java/lang/IllegalArgumentException"
  else (if p4 < 0 then some "java/lang/IllegalArgumentException"
  else (if p4 ≤ 16777215 then none
  else some "java/lang/IllegalArgumentException"))))
set_option maxRecDepth 100000 in
set_option maxHeartbeats 4000000 in
theorem c_ML_put_t (l : Launch) (hl : l.stackTraces = false) (D : va_G) (cI cR cZ : ClassId) (fu : Nat) (o0 : Nat) (hc : Nat) (hm : Nat) (om : Nat) (hb : Nat) (ow : Nat) (or_ : Nat) (hh : Nat) (aM : (Nat → Nat)) (aF : (Nat → Nat)) (bw : Nat) (qw : Nat) (bf : Nat) (qf : Nat) (n : Nat) (wd : Int32) (ht : Int32) (stp : Int32) (col : (Nat → Int32)) (msk : (Nat → Int32)) (bare : (Nat → Int32)) (M : LyS) (F : LyS) (Bw : ByS) (Bf : ByS) (pl : Int32) (rf : Int32) (hd : (Nat → Int32)) (p1 : Int32) (p2 : Int32) (p3 : Int32) (p4 : Int32) {res : String} (h : ML_put_t fu n wd ht stp col msk bare M F Bw Bf pl rf hd p1 p2 p3 p4 = some res) : MetT l y_ML_put (Cond.code y_ML_put b_ML_put 5 (some .int) :: BIG) rm_ML_put_t (PcT [.ref o0, .int p1, .int p2, .int p3, .int p4] D (tyG cI cR cZ) (wML cI cR o0 hc hm om hb ow or_ hh aM aF bw qw bf qf n wd ht stp col msk bare M F Bw Bf pl rf hd)) res := by
  refine met_T hl (by decide) (Nat.le_of_ble_eq_true rfl) (fun p e s m args below meth c hF C => ?_)
  have C : Cx p s m args meth c D (tyG cI cR cZ) b_ML_put 5 "MaskLayers" := C
  show J p l e rm_ML_put_t s m args below meth c D no (fun _ => True) 5 (MQT below res args s) 0 0 (wML cI cR o0 hc hm om hb ow or_ hh aM aF bw qw bf qf n wd ht stp col msk bare M F Bw Bf pl rf hd) [(0, .ref o0), (1, .int p1), (2, .int p2), (3, .int p3), (4, .int p4)] [] 0
  unfold ML_put_t at h
  refine j_aload_n C 0 d_ML_put_0 rfl ?_
  refine j_iload_n C 1 d_ML_put_1 rfl ?_
  refine j_iload_n C 2 d_ML_put_2 rfl ?_
  obtain ⟨r1, hr1, h⟩ := bd_ok h
  refine j_PV C [.int p1, .int p2] 0 rfl rfl (c_ML_hasSample l D cI cR cZ o0 hc hm om hb ow or_ hh aM aF bw qw bf qf n wd ht stp col msk bare M F Bw Bf pl rf hd p1 p2 hr1) (cw_ML_84 C ⟨Nat.le_of_ble_eq_true rfl, Nat.le_of_ble_eq_true rfl⟩) [0, 1, 2, 3, 4, 5, 6, 7, 8, 9, 10, 11, 12, 13, 14, 15, 16, 17, 18, 19, 20, 21, 22, 23, 24, 25] rfl rfl rfl (Nat.le_of_ble_eq_true rfl) d_ML_put_3 (by decide) ?_
  refine j_if_ne C 19 d_ML_put_6 (by decide) (fun c5 => ?_) (fun c5 => ?_)
  · replace h := (if_neg c5).symm.trans h
    refine j_iload_n C 3 d_ML_put_19 rfl ?_
    refine j_iconst C (v := 1) d_ML_put_20 (by decide) ?_
    refine j_icmp_lt C 36 d_ML_put_21 (by decide) (fun c4 => ?_) (fun c4 => ?_)
    · replace h := (if_pos c4).symm.trans h
      obtain rfl := Option.some.inj h
      exact j_throw C rfl hF (by decide +kernel) tc_100 (mb (List.mem_of_getElem? (i := 483) (by decide +kernel)) rfl) (mb (List.mem_of_getElem? (i := 484) (by decide +kernel)) rfl) (mb (List.mem_of_getElem? (i := 75) (by decide +kernel)) rfl) (tx := "n is below 1, or there is no such colour") (by decide) d_ML_put_36 d_ML_put_39 d_ML_put_40 d_ML_put_42 d_ML_put_45 (Nat.le_of_ble_eq_true rfl) (Nat.le_of_ble_eq_true rfl) (Nat.le_of_ble_eq_true rfl) (Nat.le_of_ble_eq_true rfl)
    · replace h := (if_neg c4).symm.trans h
      refine j_iload C 4 d_ML_put_24 rfl ?_
      refine j_if_lt C 36 d_ML_put_26 (by decide) (fun c3 => ?_) (fun c3 => ?_)
      · replace h := (if_pos c3).symm.trans h
        obtain rfl := Option.some.inj h
        exact j_throw C rfl hF (by decide +kernel) tc_100 (mb (List.mem_of_getElem? (i := 483) (by decide +kernel)) rfl) (mb (List.mem_of_getElem? (i := 484) (by decide +kernel)) rfl) (mb (List.mem_of_getElem? (i := 75) (by decide +kernel)) rfl) (tx := "n is below 1, or there is no such colour") (by decide) d_ML_put_36 d_ML_put_39 d_ML_put_40 d_ML_put_42 d_ML_put_45 (Nat.le_of_ble_eq_true rfl) (Nat.le_of_ble_eq_true rfl) (Nat.le_of_ble_eq_true rfl) (Nat.le_of_ble_eq_true rfl)
      · replace h := (if_neg c3).symm.trans h
        refine j_iload C 4 d_ML_put_29 rfl ?_
        refine j_ldc C (v := 16777215) (mb (by decide +kernel) rfl) d_ML_put_31 ?_
        refine j_icmp_le C 46 d_ML_put_33 (by decide) (fun c2 => ?_) (fun c2 => ?_)
        · replace h := (if_pos c2).symm.trans h
          refine j_aload_n C 0 d_ML_put_46 rfl ?_
          refine j_aload_n C 0 d_ML_put_47 rfl ?_
          refine gf_ML_25 C 0 (v := .ref hc) rfl rfl d_ML_put_48 ?_
          refine j_iload_n C 1 d_ML_put_51 rfl ?_
          refine j_iload_n C 2 d_ML_put_52 rfl ?_
          refine j_iload_n C 3 d_ML_put_53 rfl ?_
          refine j_iload C 4 d_ML_put_54 rfl ?_
          cases h
        · replace h := (if_neg c2).symm.trans h
          obtain rfl := Option.some.inj h
          exact j_throw C rfl hF (by decide +kernel) tc_100 (mb (List.mem_of_getElem? (i := 483) (by decide +kernel)) rfl) (mb (List.mem_of_getElem? (i := 484) (by decide +kernel)) rfl) (mb (List.mem_of_getElem? (i := 75) (by decide +kernel)) rfl) (tx := "n is below 1, or there is no such colour") (by decide) d_ML_put_36 d_ML_put_39 d_ML_put_40 d_ML_put_42 d_ML_put_45 (Nat.le_of_ble_eq_true rfl) (Nat.le_of_ble_eq_true rfl) (Nat.le_of_ble_eq_true rfl) (Nat.le_of_ble_eq_true rfl)
  · replace h := (if_pos c5).symm.trans h
    obtain rfl := Option.some.inj h
    exact j_throw C rfl hF (by decide +kernel) tc_92 (mb (List.mem_of_getElem? (i := 413) (by decide +kernel)) rfl) (mb (List.mem_of_getElem? (i := 414) (by decide +kernel)) rfl) (mb (List.mem_of_getElem? (i := 74) (by decide +kernel)) rfl) (tx := "there is no such sample") (by decide) d_ML_put_9 d_ML_put_12 d_ML_put_13 d_ML_put_15 d_ML_put_18 (Nat.le_of_ble_eq_true rfl) (Nat.le_of_ble_eq_true rfl) (Nat.le_of_ble_eq_true rfl) (Nat.le_of_ble_eq_true rfl)
def ML_mask_t (fu : Nat) (n : Nat) (wd : Int32) (ht : Int32) (stp : Int32) (col : (Nat → Int32)) (msk : (Nat → Int32)) (bare : (Nat → Int32)) (M : LyS) (F : LyS) (Bw : ByS) (Bf : ByS) (pl : Int32) (rf : Int32) (hd : (Nat → Int32)) (p1 : Int32) (p2 : Int32) (p3 : Int32) (p4 : Int32) : Option String :=
  (ML_hasSample n wd ht stp col msk bare M F Bw Bf pl rf hd p1 p2).bind fun r1 =>
  (if r1 = 0 then some "java/lang/IndexOutOfBoundsException"
  else (if 1 ≤ p3 then (if p4 = 0 then none
  else none)
  else some "java/lang/IllegalArgumentException"))
set_option maxRecDepth 100000 in
set_option maxHeartbeats 4000000 in
theorem c_ML_mask_t (l : Launch) (hl : l.stackTraces = false) (D : va_G) (cI cR cZ : ClassId) (fu : Nat) (o0 : Nat) (hc : Nat) (hm : Nat) (om : Nat) (hb : Nat) (ow : Nat) (or_ : Nat) (hh : Nat) (aM : (Nat → Nat)) (aF : (Nat → Nat)) (bw : Nat) (qw : Nat) (bf : Nat) (qf : Nat) (n : Nat) (wd : Int32) (ht : Int32) (stp : Int32) (col : (Nat → Int32)) (msk : (Nat → Int32)) (bare : (Nat → Int32)) (M : LyS) (F : LyS) (Bw : ByS) (Bf : ByS) (pl : Int32) (rf : Int32) (hd : (Nat → Int32)) (p1 : Int32) (p2 : Int32) (p3 : Int32) (p4 : Int32) {res : String} (h : ML_mask_t fu n wd ht stp col msk bare M F Bw Bf pl rf hd p1 p2 p3 p4 = some res) : MetT l y_ML_mask (Cond.code y_ML_mask b_ML_mask 5 (some .int) :: BIG) rm_ML_mask_t (PcT [.ref o0, .int p1, .int p2, .int p3, .int p4] D (tyG cI cR cZ) (wML cI cR o0 hc hm om hb ow or_ hh aM aF bw qw bf qf n wd ht stp col msk bare M F Bw Bf pl rf hd)) res := by
  refine met_T hl (by decide) (Nat.le_of_ble_eq_true rfl) (fun p e s m args below meth c hF C => ?_)
  have C : Cx p s m args meth c D (tyG cI cR cZ) b_ML_mask 5 "MaskLayers" := C
  show J p l e rm_ML_mask_t s m args below meth c D no (fun _ => True) 5 (MQT below res args s) 0 0 (wML cI cR o0 hc hm om hb ow or_ hh aM aF bw qw bf qf n wd ht stp col msk bare M F Bw Bf pl rf hd) [(0, .ref o0), (1, .int p1), (2, .int p2), (3, .int p3), (4, .int p4)] [] 0
  unfold ML_mask_t at h
  refine j_aload_n C 0 d_ML_mask_0 rfl ?_
  refine j_iload_n C 1 d_ML_mask_1 rfl ?_
  refine j_iload_n C 2 d_ML_mask_2 rfl ?_
  obtain ⟨r1, hr1, h⟩ := bd_ok h
  refine j_PV C [.int p1, .int p2] 0 rfl rfl (c_ML_hasSample l D cI cR cZ o0 hc hm om hb ow or_ hh aM aF bw qw bf qf n wd ht stp col msk bare M F Bw Bf pl rf hd p1 p2 hr1) (cw_ML_84 C ⟨Nat.le_of_ble_eq_true rfl, Nat.le_of_ble_eq_true rfl⟩) [0, 1, 2, 3, 4, 5, 6, 7, 8, 9, 10, 11, 12, 13, 14, 15, 16, 17, 18, 19, 20, 21, 22, 23, 24, 25] rfl rfl rfl (Nat.le_of_ble_eq_true rfl) d_ML_mask_3 (by decide) ?_
  refine j_if_ne C 19 d_ML_mask_6 (by decide) (fun c4 => ?_) (fun c4 => ?_)
  · replace h := (if_neg c4).symm.trans h
    refine j_iload_n C 3 d_ML_mask_19 rfl ?_
    refine j_iconst C (v := 1) d_ML_mask_20 (by decide) ?_
    refine j_icmp_ge C 34 d_ML_mask_21 (by decide) (fun c3 => ?_) (fun c3 => ?_)
    · replace h := (if_pos c3).symm.trans h
      refine j_aload_n C 0 d_ML_mask_34 rfl ?_
      refine j_aload_n C 0 d_ML_mask_35 rfl ?_
      refine gf_ML_29 C 0 (v := .ref hm) rfl rfl d_ML_mask_36 ?_
      refine j_iload_n C 1 d_ML_mask_39 rfl ?_
      refine j_iload_n C 2 d_ML_mask_40 rfl ?_
      refine j_iload_n C 3 d_ML_mask_41 rfl ?_
      refine j_iload C 4 d_ML_mask_42 rfl ?_
      refine j_if_eq C 51 d_ML_mask_44 (by decide) (fun c2 => ?_) (fun c2 => ?_)
      · replace h := (if_pos c2).symm.trans h
        refine j_iconst C (v := 0) d_ML_mask_51 (by decide) ?_
        cases h
      · replace h := (if_neg c2).symm.trans h
        refine j_iconst C (v := 1) d_ML_mask_47 (by decide) ?_
        refine j_goto C 52 d_ML_mask_48 (by decide) ?_
        cases h
    · replace h := (if_neg c3).symm.trans h
      obtain rfl := Option.some.inj h
      exact j_throw C rfl hF (by decide +kernel) tc_100 (mb (List.mem_of_getElem? (i := 483) (by decide +kernel)) rfl) (mb (List.mem_of_getElem? (i := 484) (by decide +kernel)) rfl) (mb (List.mem_of_getElem? (i := 75) (by decide +kernel)) rfl) (tx := "n is below 1") (by decide) d_ML_mask_24 d_ML_mask_27 d_ML_mask_28 d_ML_mask_30 d_ML_mask_33 (Nat.le_of_ble_eq_true rfl) (Nat.le_of_ble_eq_true rfl) (Nat.le_of_ble_eq_true rfl) (Nat.le_of_ble_eq_true rfl)
  · replace h := (if_pos c4).symm.trans h
    obtain rfl := Option.some.inj h
    exact j_throw C rfl hF (by decide +kernel) tc_92 (mb (List.mem_of_getElem? (i := 413) (by decide +kernel)) rfl) (mb (List.mem_of_getElem? (i := 414) (by decide +kernel)) rfl) (mb (List.mem_of_getElem? (i := 74) (by decide +kernel)) rfl) (tx := "there is no such sample") (by decide) d_ML_mask_9 d_ML_mask_12 d_ML_mask_13 d_ML_mask_15 d_ML_mask_18 (Nat.le_of_ble_eq_true rfl) (Nat.le_of_ble_eq_true rfl) (Nat.le_of_ble_eq_true rfl) (Nat.le_of_ble_eq_true rfl)
def ML_stripe_t (n : Nat) (wd : Int32) (ht : Int32) (stp : Int32) (col : (Nat → Int32)) (msk : (Nat → Int32)) (bare : (Nat → Int32)) (M : LyS) (F : LyS) (Bw : ByS) (Bf : ByS) (pl : Int32) (rf : Int32) (hd : (Nat → Int32)) (p1 : Int32) : Option String :=
  (if p1 < 1 then some "java/lang/IllegalArgumentException"
  else (if p1 ≤ 24 then none
  else some "java/lang/IllegalArgumentException"))
set_option maxRecDepth 100000 in
set_option maxHeartbeats 4000000 in
theorem c_ML_stripe_t (l : Launch) (hl : l.stackTraces = false) (D : va_G) (cI cR cZ : ClassId) (o0 : Nat) (hc : Nat) (hm : Nat) (om : Nat) (hb : Nat) (ow : Nat) (or_ : Nat) (hh : Nat) (aM : (Nat → Nat)) (aF : (Nat → Nat)) (bw : Nat) (qw : Nat) (bf : Nat) (qf : Nat) (n : Nat) (wd : Int32) (ht : Int32) (stp : Int32) (col : (Nat → Int32)) (msk : (Nat → Int32)) (bare : (Nat → Int32)) (M : LyS) (F : LyS) (Bw : ByS) (Bf : ByS) (pl : Int32) (rf : Int32) (hd : (Nat → Int32)) (p1 : Int32) {res : String} (h : ML_stripe_t n wd ht stp col msk bare M F Bw Bf pl rf hd p1 = some res) : MetT l y_ML_stripe (Cond.code y_ML_stripe b_ML_stripe 2 (some .int) :: BIG) rm_ML_stripe_t (PcT [.ref o0, .int p1] D (tyG cI cR cZ) (wML cI cR o0 hc hm om hb ow or_ hh aM aF bw qw bf qf n wd ht stp col msk bare M F Bw Bf pl rf hd)) res := by
  refine met_T hl (by decide) (Nat.le_of_ble_eq_true rfl) (fun p e s m args below meth c hF C => ?_)
  have C : Cx p s m args meth c D (tyG cI cR cZ) b_ML_stripe 2 "MaskLayers" := C
  show J p l e rm_ML_stripe_t s m args below meth c D no (fun _ => True) 2 (MQT below res args s) 0 0 (wML cI cR o0 hc hm om hb ow or_ hh aM aF bw qw bf qf n wd ht stp col msk bare M F Bw Bf pl rf hd) [(0, .ref o0), (1, .int p1)] [] 0
  unfold ML_stripe_t at h
  refine j_iload_n C 1 d_ML_stripe_0 rfl ?_
  refine j_iconst C (v := 1) d_ML_stripe_1 (by decide) ?_
  refine j_icmp_lt C 11 d_ML_stripe_2 (by decide) (fun c2 => ?_) (fun c2 => ?_)
  · replace h := (if_pos c2).symm.trans h
    obtain rfl := Option.some.inj h
    exact j_throw C rfl hF (by decide +kernel) tc_100 (mb (List.mem_of_getElem? (i := 483) (by decide +kernel)) rfl) (mb (List.mem_of_getElem? (i := 484) (by decide +kernel)) rfl) (mb (List.mem_of_getElem? (i := 75) (by decide +kernel)) rfl) (tx := "there is no such step") (by decide) d_ML_stripe_11 d_ML_stripe_14 d_ML_stripe_15 d_ML_stripe_17 d_ML_stripe_20 (Nat.le_of_ble_eq_true rfl) (Nat.le_of_ble_eq_true rfl) (Nat.le_of_ble_eq_true rfl) (Nat.le_of_ble_eq_true rfl)
  · replace h := (if_neg c2).symm.trans h
    refine j_iload_n C 1 d_ML_stripe_5 rfl ?_
    refine j_bipush C (v := 24) d_ML_stripe_6 (by decide) ?_
    refine j_icmp_le C 21 d_ML_stripe_8 (by decide) (fun c1 => ?_) (fun c1 => ?_)
    · replace h := (if_pos c1).symm.trans h
      refine j_aload_n C 0 d_ML_stripe_21 rfl ?_
      refine j_iload_n C 1 d_ML_stripe_22 rfl ?_
      cases h
    · replace h := (if_neg c1).symm.trans h
      obtain rfl := Option.some.inj h
      exact j_throw C rfl hF (by decide +kernel) tc_100 (mb (List.mem_of_getElem? (i := 483) (by decide +kernel)) rfl) (mb (List.mem_of_getElem? (i := 484) (by decide +kernel)) rfl) (mb (List.mem_of_getElem? (i := 75) (by decide +kernel)) rfl) (tx := "there is no such step") (by decide) d_ML_stripe_11 d_ML_stripe_14 d_ML_stripe_15 d_ML_stripe_17 d_ML_stripe_20 (Nat.le_of_ble_eq_true rfl) (Nat.le_of_ble_eq_true rfl) (Nat.le_of_ble_eq_true rfl) (Nat.le_of_ble_eq_true rfl)
def ML_run_t (fu : Nat) (n : Nat) (wd : Int32) (ht : Int32) (stp : Int32) (col : (Nat → Int32)) (msk : (Nat → Int32)) (bare : (Nat → Int32)) (M : LyS) (F : LyS) (Bw : ByS) (Bf : ByS) (pl : Int32) (rf : Int32) (hd : (Nat → Int32)) (p1 : Int32) (p2 : Int32) (p3 : Int32) : Option String :=
  (if p1 < 1 then some "java/lang/IllegalArgumentException"
  else (if 8 < p1 then some "java/lang/IllegalArgumentException"
  else (if p2 < 1 then some "java/lang/IllegalArgumentException"
  else (if p2 ≤ 8 then none
  else some "java/lang/IllegalArgumentException"))))
set_option maxRecDepth 100000 in
set_option maxHeartbeats 4000000 in
theorem c_ML_run_t (l : Launch) (hl : l.stackTraces = false) (D : va_G) (cI cR cZ : ClassId) (fu : Nat) (o0 : Nat) (hc : Nat) (hm : Nat) (om : Nat) (hb : Nat) (ow : Nat) (or_ : Nat) (hh : Nat) (aM : (Nat → Nat)) (aF : (Nat → Nat)) (bw : Nat) (qw : Nat) (bf : Nat) (qf : Nat) (n : Nat) (wd : Int32) (ht : Int32) (stp : Int32) (col : (Nat → Int32)) (msk : (Nat → Int32)) (bare : (Nat → Int32)) (M : LyS) (F : LyS) (Bw : ByS) (Bf : ByS) (pl : Int32) (rf : Int32) (hd : (Nat → Int32)) (p1 : Int32) (p2 : Int32) (p3 : Int32) {res : String} (h : ML_run_t fu n wd ht stp col msk bare M F Bw Bf pl rf hd p1 p2 p3 = some res) : MetT l y_ML_run (Cond.code y_ML_run b_ML_run 4 (some .int) :: BIG) rm_ML_run_t (PcT [.ref o0, .int p1, .int p2, .int p3] D (tyG cI cR cZ) (wML cI cR o0 hc hm om hb ow or_ hh aM aF bw qw bf qf n wd ht stp col msk bare M F Bw Bf pl rf hd)) res := by
  refine met_T hl (by decide) (Nat.le_of_ble_eq_true rfl) (fun p e s m args below meth c hF C => ?_)
  have C : Cx p s m args meth c D (tyG cI cR cZ) b_ML_run 4 "MaskLayers" := C
  show J p l e rm_ML_run_t s m args below meth c D no (fun _ => True) 4 (MQT below res args s) 0 0 (wML cI cR o0 hc hm om hb ow or_ hh aM aF bw qw bf qf n wd ht stp col msk bare M F Bw Bf pl rf hd) [(0, .ref o0), (1, .int p1), (2, .int p2), (3, .int p3)] [] 0
  unfold ML_run_t at h
  refine j_iload_n C 1 d_ML_run_0 rfl ?_
  refine j_iconst C (v := 1) d_ML_run_1 (by decide) ?_
  refine j_icmp_lt C 22 d_ML_run_2 (by decide) (fun c4 => ?_) (fun c4 => ?_)
  · replace h := (if_pos c4).symm.trans h
    obtain rfl := Option.some.inj h
    exact j_throw C rfl hF (by decide +kernel) tc_100 (mb (List.mem_of_getElem? (i := 483) (by decide +kernel)) rfl) (mb (List.mem_of_getElem? (i := 484) (by decide +kernel)) rfl) (mb (List.mem_of_getElem? (i := 75) (by decide +kernel)) rfl) (tx := "there is no such scale") (by decide) d_ML_run_22 d_ML_run_25 d_ML_run_26 d_ML_run_28 d_ML_run_31 (Nat.le_of_ble_eq_true rfl) (Nat.le_of_ble_eq_true rfl) (Nat.le_of_ble_eq_true rfl) (Nat.le_of_ble_eq_true rfl)
  · replace h := (if_neg c4).symm.trans h
    refine j_iload_n C 1 d_ML_run_5 rfl ?_
    refine j_bipush C (v := 8) d_ML_run_6 (by decide) ?_
    refine j_icmp_gt C 22 d_ML_run_8 (by decide) (fun c3 => ?_) (fun c3 => ?_)
    · replace h := (if_pos c3).symm.trans h
      obtain rfl := Option.some.inj h
      exact j_throw C rfl hF (by decide +kernel) tc_100 (mb (List.mem_of_getElem? (i := 483) (by decide +kernel)) rfl) (mb (List.mem_of_getElem? (i := 484) (by decide +kernel)) rfl) (mb (List.mem_of_getElem? (i := 75) (by decide +kernel)) rfl) (tx := "there is no such scale") (by decide) d_ML_run_22 d_ML_run_25 d_ML_run_26 d_ML_run_28 d_ML_run_31 (Nat.le_of_ble_eq_true rfl) (Nat.le_of_ble_eq_true rfl) (Nat.le_of_ble_eq_true rfl) (Nat.le_of_ble_eq_true rfl)
    · replace h := (if_neg c3).symm.trans h
      refine j_iload_n C 2 d_ML_run_11 rfl ?_
      refine j_iconst C (v := 1) d_ML_run_12 (by decide) ?_
      refine j_icmp_lt C 22 d_ML_run_13 (by decide) (fun c2 => ?_) (fun c2 => ?_)
      · replace h := (if_pos c2).symm.trans h
        obtain rfl := Option.some.inj h
        exact j_throw C rfl hF (by decide +kernel) tc_100 (mb (List.mem_of_getElem? (i := 483) (by decide +kernel)) rfl) (mb (List.mem_of_getElem? (i := 484) (by decide +kernel)) rfl) (mb (List.mem_of_getElem? (i := 75) (by decide +kernel)) rfl) (tx := "there is no such scale") (by decide) d_ML_run_22 d_ML_run_25 d_ML_run_26 d_ML_run_28 d_ML_run_31 (Nat.le_of_ble_eq_true rfl) (Nat.le_of_ble_eq_true rfl) (Nat.le_of_ble_eq_true rfl) (Nat.le_of_ble_eq_true rfl)
      · replace h := (if_neg c2).symm.trans h
        refine j_iload_n C 2 d_ML_run_16 rfl ?_
        refine j_bipush C (v := 8) d_ML_run_17 (by decide) ?_
        refine j_icmp_le C 32 d_ML_run_19 (by decide) (fun c1 => ?_) (fun c1 => ?_)
        · replace h := (if_pos c1).symm.trans h
          refine j_aload_n C 0 d_ML_run_32 rfl ?_
          refine gf_ML_37 C 0 (v := .ref (aM 0)) rfl rfl d_ML_run_33 ?_
          refine j_aload_n C 0 d_ML_run_36 rfl ?_
          refine gf_ML_18 C 0 (v := .int wd) rfl rfl d_ML_run_37 ?_
          refine j_aload_n C 0 d_ML_run_40 rfl ?_
          refine gf_ML_22 C 0 (v := .int ht) rfl rfl d_ML_run_41 ?_
          refine j_aload_n C 0 d_ML_run_44 rfl ?_
          refine gf_ML_81 C 0 (v := .int stp) rfl rfl d_ML_run_45 ?_
          refine j_iload_n C 1 d_ML_run_48 rfl ?_
          refine j_iload_n C 2 d_ML_run_49 rfl ?_
          cases h
        · replace h := (if_neg c1).symm.trans h
          obtain rfl := Option.some.inj h
          exact j_throw C rfl hF (by decide +kernel) tc_100 (mb (List.mem_of_getElem? (i := 483) (by decide +kernel)) rfl) (mb (List.mem_of_getElem? (i := 484) (by decide +kernel)) rfl) (mb (List.mem_of_getElem? (i := 75) (by decide +kernel)) rfl) (tx := "there is no such scale") (by decide) d_ML_run_22 d_ML_run_25 d_ML_run_26 d_ML_run_28 d_ML_run_31 (Nat.le_of_ble_eq_true rfl) (Nat.le_of_ble_eq_true rfl) (Nat.le_of_ble_eq_true rfl) (Nat.le_of_ble_eq_true rfl)
def ML_layer_t (n : Nat) (wd : Int32) (ht : Int32) (stp : Int32) (col : (Nat → Int32)) (msk : (Nat → Int32)) (bare : (Nat → Int32)) (M : LyS) (F : LyS) (Bw : ByS) (Bf : ByS) (pl : Int32) (rf : Int32) (hd : (Nat → Int32)) (p1 : Int32) (p2 : Int32) (p3 : Int32) : Option String :=
  (if (M.1 3) = 0 then some "java/lang/IllegalStateException"
  else (Layers_hasSample n M p2 p3).bind fun r1 =>
  (if r1 = 0 then some "java/lang/IndexOutOfBoundsException"
  else (if p1 < 0 then some "java/lang/IllegalArgumentException"
  else (if p1 ≤ 3 then (Layers_valueAt n M p1 p2 p3).bind fun r2 =>
  none
  else some "java/lang/IllegalArgumentException"))))
set_option maxRecDepth 100000 in
set_option maxHeartbeats 4000000 in
theorem c_ML_layer_t (l : Launch) (hl : l.stackTraces = false) (D : va_G) (cI cR cZ : ClassId) (o0 : Nat) (hc : Nat) (hm : Nat) (om : Nat) (hb : Nat) (ow : Nat) (or_ : Nat) (hh : Nat) (aM : (Nat → Nat)) (aF : (Nat → Nat)) (bw : Nat) (qw : Nat) (bf : Nat) (qf : Nat) (n : Nat) (wd : Int32) (ht : Int32) (stp : Int32) (col : (Nat → Int32)) (msk : (Nat → Int32)) (bare : (Nat → Int32)) (M : LyS) (F : LyS) (Bw : ByS) (Bf : ByS) (pl : Int32) (rf : Int32) (hd : (Nat → Int32)) (p1 : Int32) (p2 : Int32) (p3 : Int32) {res : String} (h : ML_layer_t n wd ht stp col msk bare M F Bw Bf pl rf hd p1 p2 p3 = some res) : MetT l y_ML_layer (Cond.code y_ML_layer b_ML_layer 4 (some .int) :: BIG) rm_ML_layer_t (PcT [.ref o0, .int p1, .int p2, .int p3] D (tyG cI cR cZ) (wML cI cR o0 hc hm om hb ow or_ hh aM aF bw qw bf qf n wd ht stp col msk bare M F Bw Bf pl rf hd)) res := by
  refine met_T hl (by decide) (Nat.le_of_ble_eq_true rfl) (fun p e s m args below meth c hF C => ?_)
  have C : Cx p s m args meth c D (tyG cI cR cZ) b_ML_layer 4 "MaskLayers" := C
  show J p l e rm_ML_layer_t s m args below meth c D no (fun _ => True) 4 (MQT below res args s) 0 0 (wML cI cR o0 hc hm om hb ow or_ hh aM aF bw qw bf qf n wd ht stp col msk bare M F Bw Bf pl rf hd) [(0, .ref o0), (1, .int p1), (2, .int p2), (3, .int p3)] [] 0
  unfold ML_layer_t at h
  refine j_aload_n C 0 d_ML_layer_0 rfl ?_
  refine gf_ML_37 C 0 (v := .ref (aM 0)) rfl rfl d_ML_layer_1 ?_
  refine gf_ML_122 C 8 (v := .int (M.1 3)) rfl rfl d_ML_layer_4 ?_
  refine j_if_ne C 20 d_ML_layer_7 (by decide) (fun c6 => ?_) (fun c6 => ?_)
  · replace h := (if_neg c6).symm.trans h
    refine j_aload_n C 0 d_ML_layer_20 rfl ?_
    refine gf_ML_37 C 0 (v := .ref (aM 0)) rfl rfl d_ML_layer_21 ?_
    refine j_iload_n C 2 d_ML_layer_24 rfl ?_
    refine j_iload_n C 3 d_ML_layer_25 rfl ?_
    obtain ⟨r1, hr1, h⟩ := bd_ok h
    refine j_PV C [.int p2, .int p3] 8 rfl rfl (c_Layers_hasSample l D cI cR cZ aM n M p2 p3 hr1) (cw_ML_130 C ⟨Nat.le_of_ble_eq_true rfl, Nat.le_of_ble_eq_true rfl⟩) [8, 9, 10, 11, 12, 13, 14] rfl rfl rfl (Nat.le_of_ble_eq_true rfl) d_ML_layer_26 (by decide) ?_
    refine j_if_ne C 42 d_ML_layer_29 (by decide) (fun c5 => ?_) (fun c5 => ?_)
    · replace h := (if_neg c5).symm.trans h
      refine j_iload_n C 1 d_ML_layer_42 rfl ?_
      refine j_if_lt C 51 d_ML_layer_43 (by decide) (fun c4 => ?_) (fun c4 => ?_)
      · replace h := (if_pos c4).symm.trans h
        obtain rfl := Option.some.inj h
        exact j_throw C rfl hF (by decide +kernel) tc_100 (mb (List.mem_of_getElem? (i := 483) (by decide +kernel)) rfl) (mb (List.mem_of_getElem? (i := 484) (by decide +kernel)) rfl) (mb (List.mem_of_getElem? (i := 75) (by decide +kernel)) rfl) (tx := "there is no such layer") (by decide) d_ML_layer_51 d_ML_layer_54 d_ML_layer_55 d_ML_layer_57 d_ML_layer_60 (Nat.le_of_ble_eq_true rfl) (Nat.le_of_ble_eq_true rfl) (Nat.le_of_ble_eq_true rfl) (Nat.le_of_ble_eq_true rfl)
      · replace h := (if_neg c4).symm.trans h
        refine j_iload_n C 1 d_ML_layer_46 rfl ?_
        refine j_iconst C (v := 3) d_ML_layer_47 (by decide) ?_
        refine j_icmp_le C 61 d_ML_layer_48 (by decide) (fun c3 => ?_) (fun c3 => ?_)
        · replace h := (if_pos c3).symm.trans h
          refine j_aload_n C 0 d_ML_layer_61 rfl ?_
          refine gf_ML_37 C 0 (v := .ref (aM 0)) rfl rfl d_ML_layer_62 ?_
          refine j_iload_n C 1 d_ML_layer_65 rfl ?_
          refine j_iload_n C 2 d_ML_layer_66 rfl ?_
          refine j_iload_n C 3 d_ML_layer_67 rfl ?_
          obtain ⟨r2, hr2, h⟩ := bd_ok h
          refine j_PV C [.int p1, .int p2, .int p3] 8 rfl rfl (c_Layers_valueAt l D cI cR cZ aM n M p1 p2 p3 hr2) (cw_ML_133 C ⟨Nat.le_of_ble_eq_true rfl, Nat.le_of_ble_eq_true rfl⟩) [8, 9, 10, 11, 12, 13, 14] rfl rfl rfl (Nat.le_of_ble_eq_true rfl) d_ML_layer_68 (by decide) ?_
          cases h
        · replace h := (if_neg c3).symm.trans h
          obtain rfl := Option.some.inj h
          exact j_throw C rfl hF (by decide +kernel) tc_100 (mb (List.mem_of_getElem? (i := 483) (by decide +kernel)) rfl) (mb (List.mem_of_getElem? (i := 484) (by decide +kernel)) rfl) (mb (List.mem_of_getElem? (i := 75) (by decide +kernel)) rfl) (tx := "there is no such layer") (by decide) d_ML_layer_51 d_ML_layer_54 d_ML_layer_55 d_ML_layer_57 d_ML_layer_60 (Nat.le_of_ble_eq_true rfl) (Nat.le_of_ble_eq_true rfl) (Nat.le_of_ble_eq_true rfl) (Nat.le_of_ble_eq_true rfl)
    · replace h := (if_pos c5).symm.trans h
      obtain rfl := Option.some.inj h
      exact j_throw C rfl hF (by decide +kernel) tc_92 (mb (List.mem_of_getElem? (i := 413) (by decide +kernel)) rfl) (mb (List.mem_of_getElem? (i := 414) (by decide +kernel)) rfl) (mb (List.mem_of_getElem? (i := 74) (by decide +kernel)) rfl) (tx := "there is no such sample") (by decide) d_ML_layer_32 d_ML_layer_35 d_ML_layer_36 d_ML_layer_38 d_ML_layer_41 (Nat.le_of_ble_eq_true rfl) (Nat.le_of_ble_eq_true rfl) (Nat.le_of_ble_eq_true rfl) (Nat.le_of_ble_eq_true rfl)
  · replace h := (if_pos c6).symm.trans h
    obtain rfl := Option.some.inj h
    exact j_throw C rfl hF (by decide +kernel) tc_129 (mb (List.mem_of_getElem? (i := 626) (by decide +kernel)) rfl) (mb (List.mem_of_getElem? (i := 627) (by decide +kernel)) rfl) (mb (List.mem_of_getElem? (i := 77) (by decide +kernel)) rfl) (tx := "nothing was run") (by decide) d_ML_layer_10 d_ML_layer_13 d_ML_layer_14 d_ML_layer_16 d_ML_layer_19 (Nat.le_of_ble_eq_true rfl) (Nat.le_of_ble_eq_true rfl) (Nat.le_of_ble_eq_true rfl) (Nat.le_of_ble_eq_true rfl)
def ML_filled_t (n : Nat) (wd : Int32) (ht : Int32) (stp : Int32) (col : (Nat → Int32)) (msk : (Nat → Int32)) (bare : (Nat → Int32)) (M : LyS) (F : LyS) (Bw : ByS) (Bf : ByS) (pl : Int32) (rf : Int32) (hd : (Nat → Int32)) (p1 : Int32) (p2 : Int32) (p3 : Int32) : Option String :=
  (if (M.1 3) = 0 then some "java/lang/IllegalStateException"
  else (Layers_hasSample n M p2 p3).bind fun r1 =>
  (if r1 = 0 then some "java/lang/IndexOutOfBoundsException"
  else (if p1 = 0 then (Maker_wasFilled n col msk bare M p1 p2 p3).bind fun r2 =>
  none
  else (if p1 = 2 then (Maker_wasFilled n col msk bare M p1 p2 p3).bind fun r3 =>
  none
  else some "java/lang/IllegalArgumentException"))))
set_option maxRecDepth 100000 in
set_option maxHeartbeats 4000000 in
theorem c_ML_filled_t (l : Launch) (hl : l.stackTraces = false) (D : va_G) (cI cR cZ : ClassId) (o0 : Nat) (hc : Nat) (hm : Nat) (om : Nat) (hb : Nat) (ow : Nat) (or_ : Nat) (hh : Nat) (aM : (Nat → Nat)) (aF : (Nat → Nat)) (bw : Nat) (qw : Nat) (bf : Nat) (qf : Nat) (n : Nat) (wd : Int32) (ht : Int32) (stp : Int32) (col : (Nat → Int32)) (msk : (Nat → Int32)) (bare : (Nat → Int32)) (M : LyS) (F : LyS) (Bw : ByS) (Bf : ByS) (pl : Int32) (rf : Int32) (hd : (Nat → Int32)) (p1 : Int32) (p2 : Int32) (p3 : Int32) {res : String} (h : ML_filled_t n wd ht stp col msk bare M F Bw Bf pl rf hd p1 p2 p3 = some res) : MetT l y_ML_filled (Cond.code y_ML_filled b_ML_filled 4 (some .boolean) :: BIG) rm_ML_filled_t (PcT [.ref o0, .int p1, .int p2, .int p3] D (tyG cI cR cZ) (wML cI cR o0 hc hm om hb ow or_ hh aM aF bw qw bf qf n wd ht stp col msk bare M F Bw Bf pl rf hd)) res := by
  refine met_T hl (by decide) (Nat.le_of_ble_eq_true rfl) (fun p e s m args below meth c hF C => ?_)
  have C : Cx p s m args meth c D (tyG cI cR cZ) b_ML_filled 4 "MaskLayers" := C
  show J p l e rm_ML_filled_t s m args below meth c D no (fun _ => True) 4 (MQT below res args s) 0 0 (wML cI cR o0 hc hm om hb ow or_ hh aM aF bw qw bf qf n wd ht stp col msk bare M F Bw Bf pl rf hd) [(0, .ref o0), (1, .int p1), (2, .int p2), (3, .int p3)] [] 0
  unfold ML_filled_t at h
  refine j_aload_n C 0 d_ML_filled_0 rfl ?_
  refine gf_ML_37 C 0 (v := .ref (aM 0)) rfl rfl d_ML_filled_1 ?_
  refine gf_ML_122 C 8 (v := .int (M.1 3)) rfl rfl d_ML_filled_4 ?_
  refine j_if_ne C 20 d_ML_filled_7 (by decide) (fun c7 => ?_) (fun c7 => ?_)
  · replace h := (if_neg c7).symm.trans h
    refine j_aload_n C 0 d_ML_filled_20 rfl ?_
    refine gf_ML_37 C 0 (v := .ref (aM 0)) rfl rfl d_ML_filled_21 ?_
    refine j_iload_n C 2 d_ML_filled_24 rfl ?_
    refine j_iload_n C 3 d_ML_filled_25 rfl ?_
    obtain ⟨r1, hr1, h⟩ := bd_ok h
    refine j_PV C [.int p2, .int p3] 8 rfl rfl (c_Layers_hasSample l D cI cR cZ aM n M p2 p3 hr1) (cw_ML_130 C ⟨Nat.le_of_ble_eq_true rfl, Nat.le_of_ble_eq_true rfl⟩) [8, 9, 10, 11, 12, 13, 14] rfl rfl rfl (Nat.le_of_ble_eq_true rfl) d_ML_filled_26 (by decide) ?_
    refine j_if_ne C 42 d_ML_filled_29 (by decide) (fun c6 => ?_) (fun c6 => ?_)
    · replace h := (if_neg c6).symm.trans h
      refine j_iload_n C 1 d_ML_filled_42 rfl ?_
      refine j_if_eq C 61 d_ML_filled_43 (by decide) (fun c5 => ?_) (fun c5 => ?_)
      · replace h := (if_pos c5).symm.trans h
        refine j_aload_n C 0 d_ML_filled_61 rfl ?_
        refine gf_ML_59 C 0 (v := .ref om) rfl rfl d_ML_filled_62 ?_
        refine j_iload_n C 1 d_ML_filled_65 rfl ?_
        refine j_iload_n C 2 d_ML_filled_66 rfl ?_
        refine j_iload_n C 3 d_ML_filled_67 rfl ?_
        obtain ⟨r2, hr2, h⟩ := bd_ok h
        refine j_PV C [.int p1, .int p2, .int p3] 3 rfl rfl (c_Maker_wasFilled l D cI cR cZ om hc hm hb aM n col msk bare M p1 p2 p3 hr2) (cw_ML_139 C ⟨Nat.le_of_ble_eq_true rfl, Nat.le_of_ble_eq_true rfl⟩) [3, 1, 2, 4, 8, 9, 10, 11, 12, 13, 14] rfl rfl rfl (Nat.le_of_ble_eq_true rfl) d_ML_filled_68 (by decide) ?_
        cases h
      · replace h := (if_neg c5).symm.trans h
        refine j_iload_n C 1 d_ML_filled_46 rfl ?_
        refine j_iconst C (v := 2) d_ML_filled_47 (by decide) ?_
        refine j_icmp_eq C 61 d_ML_filled_48 (by decide) (fun c4 => ?_) (fun c4 => ?_)
        · replace h := (if_pos c4).symm.trans h
          refine j_aload_n C 0 d_ML_filled_61 rfl ?_
          refine gf_ML_59 C 0 (v := .ref om) rfl rfl d_ML_filled_62 ?_
          refine j_iload_n C 1 d_ML_filled_65 rfl ?_
          refine j_iload_n C 2 d_ML_filled_66 rfl ?_
          refine j_iload_n C 3 d_ML_filled_67 rfl ?_
          obtain ⟨r3, hr3, h⟩ := bd_ok h
          refine j_PV C [.int p1, .int p2, .int p3] 3 rfl rfl (c_Maker_wasFilled l D cI cR cZ om hc hm hb aM n col msk bare M p1 p2 p3 hr3) (cw_ML_139 C ⟨Nat.le_of_ble_eq_true rfl, Nat.le_of_ble_eq_true rfl⟩) [3, 1, 2, 4, 8, 9, 10, 11, 12, 13, 14] rfl rfl rfl (Nat.le_of_ble_eq_true rfl) d_ML_filled_68 (by decide) ?_
          cases h
        · replace h := (if_neg c4).symm.trans h
          obtain rfl := Option.some.inj h
          exact j_throw C rfl hF (by decide +kernel) tc_100 (mb (List.mem_of_getElem? (i := 483) (by decide +kernel)) rfl) (mb (List.mem_of_getElem? (i := 484) (by decide +kernel)) rfl) (mb (List.mem_of_getElem? (i := 75) (by decide +kernel)) rfl) (tx := "the layer has no blocks") (by decide) d_ML_filled_51 d_ML_filled_54 d_ML_filled_55 d_ML_filled_57 d_ML_filled_60 (Nat.le_of_ble_eq_true rfl) (Nat.le_of_ble_eq_true rfl) (Nat.le_of_ble_eq_true rfl) (Nat.le_of_ble_eq_true rfl)
    · replace h := (if_pos c6).symm.trans h
      obtain rfl := Option.some.inj h
      exact j_throw C rfl hF (by decide +kernel) tc_92 (mb (List.mem_of_getElem? (i := 413) (by decide +kernel)) rfl) (mb (List.mem_of_getElem? (i := 414) (by decide +kernel)) rfl) (mb (List.mem_of_getElem? (i := 74) (by decide +kernel)) rfl) (tx := "there is no such sample") (by decide) d_ML_filled_32 d_ML_filled_35 d_ML_filled_36 d_ML_filled_38 d_ML_filled_41 (Nat.le_of_ble_eq_true rfl) (Nat.le_of_ble_eq_true rfl) (Nat.le_of_ble_eq_true rfl) (Nat.le_of_ble_eq_true rfl)
  · replace h := (if_pos c7).symm.trans h
    obtain rfl := Option.some.inj h
    exact j_throw C rfl hF (by decide +kernel) tc_129 (mb (List.mem_of_getElem? (i := 626) (by decide +kernel)) rfl) (mb (List.mem_of_getElem? (i := 627) (by decide +kernel)) rfl) (mb (List.mem_of_getElem? (i := 77) (by decide +kernel)) rfl) (tx := "nothing was run") (by decide) d_ML_filled_10 d_ML_filled_13 d_ML_filled_14 d_ML_filled_16 d_ML_filled_19 (Nat.le_of_ble_eq_true rfl) (Nat.le_of_ble_eq_true rfl) (Nat.le_of_ble_eq_true rfl) (Nat.le_of_ble_eq_true rfl)
def ML_joined_t (n : Nat) (wd : Int32) (ht : Int32) (stp : Int32) (col : (Nat → Int32)) (msk : (Nat → Int32)) (bare : (Nat → Int32)) (M : LyS) (F : LyS) (Bw : ByS) (Bf : ByS) (pl : Int32) (rf : Int32) (hd : (Nat → Int32)) (p1 : Int32) (p2 : Int32) : Option String :=
  (if (M.1 3) = 0 then some "java/lang/IllegalStateException"
  else (Layers_hasSample n M p1 p2).bind fun r1 =>
  (if r1 = 0 then some "java/lang/IndexOutOfBoundsException"
  else (Layers_joinedAt n M p1 p2).bind fun r2 =>
  none))
set_option maxRecDepth 100000 in
set_option maxHeartbeats 4000000 in
theorem c_ML_joined_t (l : Launch) (hl : l.stackTraces = false) (D : va_G) (cI cR cZ : ClassId) (o0 : Nat) (hc : Nat) (hm : Nat) (om : Nat) (hb : Nat) (ow : Nat) (or_ : Nat) (hh : Nat) (aM : (Nat → Nat)) (aF : (Nat → Nat)) (bw : Nat) (qw : Nat) (bf : Nat) (qf : Nat) (n : Nat) (wd : Int32) (ht : Int32) (stp : Int32) (col : (Nat → Int32)) (msk : (Nat → Int32)) (bare : (Nat → Int32)) (M : LyS) (F : LyS) (Bw : ByS) (Bf : ByS) (pl : Int32) (rf : Int32) (hd : (Nat → Int32)) (p1 : Int32) (p2 : Int32) {res : String} (h : ML_joined_t n wd ht stp col msk bare M F Bw Bf pl rf hd p1 p2 = some res) : MetT l y_ML_joined (Cond.code y_ML_joined b_ML_joined 3 (some .int) :: BIG) rm_ML_joined_t (PcT [.ref o0, .int p1, .int p2] D (tyG cI cR cZ) (wML cI cR o0 hc hm om hb ow or_ hh aM aF bw qw bf qf n wd ht stp col msk bare M F Bw Bf pl rf hd)) res := by
  refine met_T hl (by decide) (Nat.le_of_ble_eq_true rfl) (fun p e s m args below meth c hF C => ?_)
  have C : Cx p s m args meth c D (tyG cI cR cZ) b_ML_joined 3 "MaskLayers" := C
  show J p l e rm_ML_joined_t s m args below meth c D no (fun _ => True) 3 (MQT below res args s) 0 0 (wML cI cR o0 hc hm om hb ow or_ hh aM aF bw qw bf qf n wd ht stp col msk bare M F Bw Bf pl rf hd) [(0, .ref o0), (1, .int p1), (2, .int p2)] [] 0
  unfold ML_joined_t at h
  refine j_aload_n C 0 d_ML_joined_0 rfl ?_
  refine gf_ML_37 C 0 (v := .ref (aM 0)) rfl rfl d_ML_joined_1 ?_
  refine gf_ML_122 C 8 (v := .int (M.1 3)) rfl rfl d_ML_joined_4 ?_
  refine j_if_ne C 20 d_ML_joined_7 (by decide) (fun c4 => ?_) (fun c4 => ?_)
  · replace h := (if_neg c4).symm.trans h
    refine j_aload_n C 0 d_ML_joined_20 rfl ?_
    refine gf_ML_37 C 0 (v := .ref (aM 0)) rfl rfl d_ML_joined_21 ?_
    refine j_iload_n C 1 d_ML_joined_24 rfl ?_
    refine j_iload_n C 2 d_ML_joined_25 rfl ?_
    obtain ⟨r1, hr1, h⟩ := bd_ok h
    refine j_PV C [.int p1, .int p2] 8 rfl rfl (c_Layers_hasSample l D cI cR cZ aM n M p1 p2 hr1) (cw_ML_130 C ⟨Nat.le_of_ble_eq_true rfl, Nat.le_of_ble_eq_true rfl⟩) [8, 9, 10, 11, 12, 13, 14] rfl rfl rfl (Nat.le_of_ble_eq_true rfl) d_ML_joined_26 (by decide) ?_
    refine j_if_ne C 42 d_ML_joined_29 (by decide) (fun c3 => ?_) (fun c3 => ?_)
    · replace h := (if_neg c3).symm.trans h
      refine j_aload_n C 0 d_ML_joined_42 rfl ?_
      refine gf_ML_37 C 0 (v := .ref (aM 0)) rfl rfl d_ML_joined_43 ?_
      refine j_iload_n C 1 d_ML_joined_46 rfl ?_
      refine j_iload_n C 2 d_ML_joined_47 rfl ?_
      obtain ⟨r2, hr2, h⟩ := bd_ok h
      refine j_PV C [.int p1, .int p2] 8 rfl rfl (c_Layers_joinedAt l D cI cR cZ aM n M p1 p2 hr2) (cw_ML_143 C ⟨Nat.le_of_ble_eq_true rfl, Nat.le_of_ble_eq_true rfl⟩) [8, 9, 10, 11, 12, 13, 14] rfl rfl rfl (Nat.le_of_ble_eq_true rfl) d_ML_joined_48 (by decide) ?_
      cases h
    · replace h := (if_pos c3).symm.trans h
      obtain rfl := Option.some.inj h
      exact j_throw C rfl hF (by decide +kernel) tc_92 (mb (List.mem_of_getElem? (i := 413) (by decide +kernel)) rfl) (mb (List.mem_of_getElem? (i := 414) (by decide +kernel)) rfl) (mb (List.mem_of_getElem? (i := 74) (by decide +kernel)) rfl) (tx := "there is no such sample") (by decide) d_ML_joined_32 d_ML_joined_35 d_ML_joined_36 d_ML_joined_38 d_ML_joined_41 (Nat.le_of_ble_eq_true rfl) (Nat.le_of_ble_eq_true rfl) (Nat.le_of_ble_eq_true rfl) (Nat.le_of_ble_eq_true rfl)
  · replace h := (if_pos c4).symm.trans h
    obtain rfl := Option.some.inj h
    exact j_throw C rfl hF (by decide +kernel) tc_129 (mb (List.mem_of_getElem? (i := 626) (by decide +kernel)) rfl) (mb (List.mem_of_getElem? (i := 627) (by decide +kernel)) rfl) (mb (List.mem_of_getElem? (i := 77) (by decide +kernel)) rfl) (tx := "nothing was run") (by decide) d_ML_joined_10 d_ML_joined_13 d_ML_joined_14 d_ML_joined_16 d_ML_joined_19 (Nat.le_of_ble_eq_true rfl) (Nat.le_of_ble_eq_true rfl) (Nat.le_of_ble_eq_true rfl) (Nat.le_of_ble_eq_true rfl)
def ML_write_t (fu : Nat) (n : Nat) (wd : Int32) (ht : Int32) (stp : Int32) (col : (Nat → Int32)) (msk : (Nat → Int32)) (bare : (Nat → Int32)) (M : LyS) (F : LyS) (Bw : ByS) (Bf : ByS) (pl : Int32) (rf : Int32) (hd : (Nat → Int32)) : Option String :=
  (if (M.1 3) = 0 then some "java/lang/IllegalStateException"
  else none)
set_option maxRecDepth 100000 in
set_option maxHeartbeats 4000000 in
theorem c_ML_write_t (l : Launch) (hl : l.stackTraces = false) (D : va_G) (cI cR cZ : ClassId) (fu : Nat) (o0 : Nat) (hc : Nat) (hm : Nat) (om : Nat) (hb : Nat) (ow : Nat) (or_ : Nat) (hh : Nat) (aM : (Nat → Nat)) (aF : (Nat → Nat)) (bw : Nat) (qw : Nat) (bf : Nat) (qf : Nat) (n : Nat) (wd : Int32) (ht : Int32) (stp : Int32) (col : (Nat → Int32)) (msk : (Nat → Int32)) (bare : (Nat → Int32)) (M : LyS) (F : LyS) (Bw : ByS) (Bf : ByS) (pl : Int32) (rf : Int32) (hd : (Nat → Int32)) {res : String} (h : ML_write_t fu n wd ht stp col msk bare M F Bw Bf pl rf hd = some res) : MetT l y_ML_write (Cond.code y_ML_write b_ML_write 1 (some .int) :: BIG) rm_ML_write_t (PcT [.ref o0] D (tyG cI cR cZ) (wML cI cR o0 hc hm om hb ow or_ hh aM aF bw qw bf qf n wd ht stp col msk bare M F Bw Bf pl rf hd)) res := by
  refine met_T hl (by decide) (Nat.le_of_ble_eq_true rfl) (fun p e s m args below meth c hF C => ?_)
  have C : Cx p s m args meth c D (tyG cI cR cZ) b_ML_write 1 "MaskLayers" := C
  show J p l e rm_ML_write_t s m args below meth c D no (fun _ => True) 1 (MQT below res args s) 0 0 (wML cI cR o0 hc hm om hb ow or_ hh aM aF bw qw bf qf n wd ht stp col msk bare M F Bw Bf pl rf hd) [(0, .ref o0)] [] 0
  unfold ML_write_t at h
  refine j_aload_n C 0 d_ML_write_0 rfl ?_
  refine gf_ML_37 C 0 (v := .ref (aM 0)) rfl rfl d_ML_write_1 ?_
  refine gf_ML_122 C 8 (v := .int (M.1 3)) rfl rfl d_ML_write_4 ?_
  refine j_if_ne C 20 d_ML_write_7 (by decide) (fun c1 => ?_) (fun c1 => ?_)
  · replace h := (if_neg c1).symm.trans h
    refine j_aload_n C 0 d_ML_write_20 rfl ?_
    refine gf_ML_68 C 0 (v := .ref ow) rfl rfl d_ML_write_21 ?_
    cases h
  · replace h := (if_pos c1).symm.trans h
    obtain rfl := Option.some.inj h
    exact j_throw C rfl hF (by decide +kernel) tc_129 (mb (List.mem_of_getElem? (i := 626) (by decide +kernel)) rfl) (mb (List.mem_of_getElem? (i := 627) (by decide +kernel)) rfl) (mb (List.mem_of_getElem? (i := 77) (by decide +kernel)) rfl) (tx := "nothing was run") (by decide) d_ML_write_10 d_ML_write_13 d_ML_write_14 d_ML_write_16 d_ML_write_19 (Nat.le_of_ble_eq_true rfl) (Nat.le_of_ble_eq_true rfl) (Nat.le_of_ble_eq_true rfl) (Nat.le_of_ble_eq_true rfl)
def ML_byteAt_t (n : Nat) (wd : Int32) (ht : Int32) (stp : Int32) (col : (Nat → Int32)) (msk : (Nat → Int32)) (bare : (Nat → Int32)) (M : LyS) (F : LyS) (Bw : ByS) (Bf : ByS) (pl : Int32) (rf : Int32) (hd : (Nat → Int32)) (p1 : Int32) : Option String :=
  (ByteRow_holds Bw p1).bind fun r1 =>
  (if r1 = 0 then some "java/lang/IndexOutOfBoundsException"
  else (ByteRow_valueAt Bw p1).bind fun r2 =>
  none)
set_option maxRecDepth 100000 in
set_option maxHeartbeats 4000000 in
theorem c_ML_byteAt_t (l : Launch) (hl : l.stackTraces = false) (D : va_G) (cI cR cZ : ClassId) (o0 : Nat) (hc : Nat) (hm : Nat) (om : Nat) (hb : Nat) (ow : Nat) (or_ : Nat) (hh : Nat) (aM : (Nat → Nat)) (aF : (Nat → Nat)) (bw : Nat) (qw : Nat) (bf : Nat) (qf : Nat) (n : Nat) (wd : Int32) (ht : Int32) (stp : Int32) (col : (Nat → Int32)) (msk : (Nat → Int32)) (bare : (Nat → Int32)) (M : LyS) (F : LyS) (Bw : ByS) (Bf : ByS) (pl : Int32) (rf : Int32) (hd : (Nat → Int32)) (p1 : Int32) {res : String} (h : ML_byteAt_t n wd ht stp col msk bare M F Bw Bf pl rf hd p1 = some res) : MetT l y_ML_byteAt (Cond.code y_ML_byteAt b_ML_byteAt 2 (some .int) :: BIG) rm_ML_byteAt_t (PcT [.ref o0, .int p1] D (tyG cI cR cZ) (wML cI cR o0 hc hm om hb ow or_ hh aM aF bw qw bf qf n wd ht stp col msk bare M F Bw Bf pl rf hd)) res := by
  refine met_T hl (by decide) (Nat.le_of_ble_eq_true rfl) (fun p e s m args below meth c hF C => ?_)
  have C : Cx p s m args meth c D (tyG cI cR cZ) b_ML_byteAt 2 "MaskLayers" := C
  show J p l e rm_ML_byteAt_t s m args below meth c D no (fun _ => True) 2 (MQT below res args s) 0 0 (wML cI cR o0 hc hm om hb ow or_ hh aM aF bw qw bf qf n wd ht stp col msk bare M F Bw Bf pl rf hd) [(0, .ref o0), (1, .int p1)] [] 0
  unfold ML_byteAt_t at h
  refine j_aload_n C 0 d_ML_byteAt_0 rfl ?_
  refine gf_ML_47 C 0 (v := .ref bw) rfl rfl d_ML_byteAt_1 ?_
  refine j_iload_n C 1 d_ML_byteAt_4 rfl ?_
  obtain ⟨r1, hr1, h⟩ := bd_ok h
  refine j_PV C [.int p1] 22 rfl rfl (c_ByteRow_holds l D cI cR cZ bw qw Bw p1 hr1) (cw_ML_150 C ⟨Nat.le_of_ble_eq_true rfl, Nat.le_of_ble_eq_true rfl⟩) [22, 23] rfl rfl rfl (Nat.le_of_ble_eq_true rfl) d_ML_byteAt_5 (by decide) ?_
  refine j_if_ne C 21 d_ML_byteAt_8 (by decide) (fun c3 => ?_) (fun c3 => ?_)
  · replace h := (if_neg c3).symm.trans h
    refine j_aload_n C 0 d_ML_byteAt_21 rfl ?_
    refine gf_ML_47 C 0 (v := .ref bw) rfl rfl d_ML_byteAt_22 ?_
    refine j_iload_n C 1 d_ML_byteAt_25 rfl ?_
    obtain ⟨r2, hr2, h⟩ := bd_ok h
    refine j_PV C [.int p1] 22 rfl rfl (c_ByteRow_valueAt l D cI cR cZ bw qw Bw p1 hr2) (cw_ML_156 C ⟨Nat.le_of_ble_eq_true rfl, Nat.le_of_ble_eq_true rfl⟩) [22, 23] rfl rfl rfl (Nat.le_of_ble_eq_true rfl) d_ML_byteAt_26 (by decide) ?_
    cases h
  · replace h := (if_pos c3).symm.trans h
    obtain rfl := Option.some.inj h
    exact j_throw C rfl hF (by decide +kernel) tc_92 (mb (List.mem_of_getElem? (i := 413) (by decide +kernel)) rfl) (mb (List.mem_of_getElem? (i := 414) (by decide +kernel)) rfl) (mb (List.mem_of_getElem? (i := 74) (by decide +kernel)) rfl) (tx := "there is no such byte") (by decide) d_ML_byteAt_11 d_ML_byteAt_14 d_ML_byteAt_15 d_ML_byteAt_17 d_ML_byteAt_20 (Nat.le_of_ble_eq_true rfl) (Nat.le_of_ble_eq_true rfl) (Nat.le_of_ble_eq_true rfl) (Nat.le_of_ble_eq_true rfl)
def ML_feed_t (n : Nat) (wd : Int32) (ht : Int32) (stp : Int32) (col : (Nat → Int32)) (msk : (Nat → Int32)) (bare : (Nat → Int32)) (M : LyS) (F : LyS) (Bw : ByS) (Bf : ByS) (pl : Int32) (rf : Int32) (hd : (Nat → Int32)) (p1 : Int32) : Option String :=
  (ML_isByte p1).bind fun r1 =>
  (if r1 = 0 then some "java/lang/IllegalArgumentException"
  else (ByteRow_room Bf).bind fun r2 =>
  (if 1 ≤ r2 then none
  else some "java/lang/UnsupportedOperationException"))
set_option maxRecDepth 100000 in
set_option maxHeartbeats 4000000 in
theorem c_ML_feed_t (l : Launch) (hl : l.stackTraces = false) (D : va_G) (cI cR cZ : ClassId) (o0 : Nat) (hc : Nat) (hm : Nat) (om : Nat) (hb : Nat) (ow : Nat) (or_ : Nat) (hh : Nat) (aM : (Nat → Nat)) (aF : (Nat → Nat)) (bw : Nat) (qw : Nat) (bf : Nat) (qf : Nat) (n : Nat) (wd : Int32) (ht : Int32) (stp : Int32) (col : (Nat → Int32)) (msk : (Nat → Int32)) (bare : (Nat → Int32)) (M : LyS) (F : LyS) (Bw : ByS) (Bf : ByS) (pl : Int32) (rf : Int32) (hd : (Nat → Int32)) (p1 : Int32) {res : String} (h : ML_feed_t n wd ht stp col msk bare M F Bw Bf pl rf hd p1 = some res) : MetT l y_ML_feed (Cond.code y_ML_feed b_ML_feed 2 (some .int) :: BIG) rm_ML_feed_t (PcT [.ref o0, .int p1] D (tyG cI cR cZ) (wML cI cR o0 hc hm om hb ow or_ hh aM aF bw qw bf qf n wd ht stp col msk bare M F Bw Bf pl rf hd)) res := by
  refine met_T hl (by decide) (Nat.le_of_ble_eq_true rfl) (fun p e s m args below meth c hF C => ?_)
  have C : Cx p s m args meth c D (tyG cI cR cZ) b_ML_feed 2 "MaskLayers" := C
  show J p l e rm_ML_feed_t s m args below meth c D no (fun _ => True) 2 (MQT below res args s) 0 0 (wML cI cR o0 hc hm om hb ow or_ hh aM aF bw qw bf qf n wd ht stp col msk bare M F Bw Bf pl rf hd) [(0, .ref o0), (1, .int p1)] [] 0
  unfold ML_feed_t at h
  refine j_iload_n C 1 d_ML_feed_0 rfl ?_
  obtain ⟨r1, hr1, h⟩ := bd_ok h
  refine j_PS C [.int p1] (c_ML_isByte l D cI cR cZ p1 hr1) (cw_ML_159 C ⟨Nat.le_of_ble_eq_true rfl, Nat.le_of_ble_eq_true rfl⟩) [] rfl rfl rfl (Nat.le_of_ble_eq_true rfl) d_ML_feed_1 (by decide) ?_
  refine j_if_ne C 17 d_ML_feed_4 (by decide) (fun c4 => ?_) (fun c4 => ?_)
  · replace h := (if_neg c4).symm.trans h
    refine j_aload_n C 0 d_ML_feed_17 rfl ?_
    refine gf_ML_51 C 0 (v := .ref bf) rfl rfl d_ML_feed_18 ?_
    obtain ⟨r2, hr2, h⟩ := bd_ok h
    refine j_PV C [] 24 rfl rfl (c_ByteRow_room l D cI cR cZ bf qf Bf hr2) (cw_ML_164 C ⟨Nat.le_of_ble_eq_true rfl, Nat.le_of_ble_eq_true rfl⟩) [24, 25] rfl rfl rfl (Nat.le_of_ble_eq_true rfl) d_ML_feed_21 (by decide) ?_
    refine j_iconst C (v := 1) d_ML_feed_24 (by decide) ?_
    refine j_icmp_ge C 38 d_ML_feed_25 (by decide) (fun c3 => ?_) (fun c3 => ?_)
    · replace h := (if_pos c3).symm.trans h
      refine j_aload_n C 0 d_ML_feed_38 rfl ?_
      refine gf_ML_51 C 0 (v := .ref bf) rfl rfl d_ML_feed_39 ?_
      refine j_iload_n C 1 d_ML_feed_42 rfl ?_
      cases h
    · replace h := (if_neg c3).symm.trans h
      obtain rfl := Option.some.inj h
      exact j_throw C rfl hF (by decide +kernel) tc_171 (mb (List.mem_of_getElem? (i := 787) (by decide +kernel)) rfl) (mb (List.mem_of_getElem? (i := 788) (by decide +kernel)) rfl) (mb (List.mem_of_getElem? (i := 79) (by decide +kernel)) rfl) (tx := "there is no room") (by decide) d_ML_feed_28 d_ML_feed_31 d_ML_feed_32 d_ML_feed_34 d_ML_feed_37 (Nat.le_of_ble_eq_true rfl) (Nat.le_of_ble_eq_true rfl) (Nat.le_of_ble_eq_true rfl) (Nat.le_of_ble_eq_true rfl)
  · replace h := (if_pos c4).symm.trans h
    obtain rfl := Option.some.inj h
    exact j_throw C rfl hF (by decide +kernel) tc_100 (mb (List.mem_of_getElem? (i := 483) (by decide +kernel)) rfl) (mb (List.mem_of_getElem? (i := 484) (by decide +kernel)) rfl) (mb (List.mem_of_getElem? (i := 75) (by decide +kernel)) rfl) (tx := "this is no byte") (by decide) d_ML_feed_7 d_ML_feed_10 d_ML_feed_11 d_ML_feed_13 d_ML_feed_16 (Nat.le_of_ble_eq_true rfl) (Nat.le_of_ble_eq_true rfl) (Nat.le_of_ble_eq_true rfl) (Nat.le_of_ble_eq_true rfl)
def ML_pass_t (fu : Nat) (n : Nat) (wd : Int32) (ht : Int32) (stp : Int32) (col : (Nat → Int32)) (msk : (Nat → Int32)) (bare : (Nat → Int32)) (M : LyS) (F : LyS) (Bw : ByS) (Bf : ByS) (pl : Int32) (rf : Int32) (hd : (Nat → Int32)) (p1 : Int32) (p2 : Int32) : Option String :=
  (ByteRow_holds Bw p1).bind fun r1 =>
  (if r1 = 0 then some "java/lang/IndexOutOfBoundsException"
  else (if 0 ≤ p2 then (ByteRow_room Bf).bind fun r2 =>
  (if (mn p2 (Bw.1 - p1)) ≤ r2 then none
  else some "java/lang/UnsupportedOperationException")
  else some "java/lang/IllegalArgumentException"))
set_option maxRecDepth 100000 in
set_option maxHeartbeats 4000000 in
theorem c_ML_pass_t (l : Launch) (hl : l.stackTraces = false) (D : va_G) (cI cR cZ : ClassId) (fu : Nat) (o0 : Nat) (hc : Nat) (hm : Nat) (om : Nat) (hb : Nat) (ow : Nat) (or_ : Nat) (hh : Nat) (aM : (Nat → Nat)) (aF : (Nat → Nat)) (bw : Nat) (qw : Nat) (bf : Nat) (qf : Nat) (n : Nat) (wd : Int32) (ht : Int32) (stp : Int32) (col : (Nat → Int32)) (msk : (Nat → Int32)) (bare : (Nat → Int32)) (M : LyS) (F : LyS) (Bw : ByS) (Bf : ByS) (pl : Int32) (rf : Int32) (hd : (Nat → Int32)) (p1 : Int32) (p2 : Int32) {res : String} (h : ML_pass_t fu n wd ht stp col msk bare M F Bw Bf pl rf hd p1 p2 = some res) : MetT l y_ML_pass (Cond.code y_ML_pass b_ML_pass 5 (some .int) :: BIG) rm_ML_pass_t (PcT [.ref o0, .int p1, .int p2] D (tyG cI cR cZ) (wML cI cR o0 hc hm om hb ow or_ hh aM aF bw qw bf qf n wd ht stp col msk bare M F Bw Bf pl rf hd)) res := by
  refine met_T hl (by decide) (Nat.le_of_ble_eq_true rfl) (fun p e s m args below meth c hF C => ?_)
  have C : Cx p s m args meth c D (tyG cI cR cZ) b_ML_pass 5 "MaskLayers" := C
  show J p l e rm_ML_pass_t s m args below meth c D no (fun _ => True) 5 (MQT below res args s) 0 0 (wML cI cR o0 hc hm om hb ow or_ hh aM aF bw qw bf qf n wd ht stp col msk bare M F Bw Bf pl rf hd) [(0, .ref o0), (1, .int p1), (2, .int p2)] [] 0
  unfold ML_pass_t at h
  refine j_aload_n C 0 d_ML_pass_0 rfl ?_
  refine gf_ML_47 C 0 (v := .ref bw) rfl rfl d_ML_pass_1 ?_
  refine j_iload_n C 1 d_ML_pass_4 rfl ?_
  obtain ⟨r1, hr1, h⟩ := bd_ok h
  refine j_PV C [.int p1] 22 rfl rfl (c_ByteRow_holds l D cI cR cZ bw qw Bw p1 hr1) (cw_ML_150 C ⟨Nat.le_of_ble_eq_true rfl, Nat.le_of_ble_eq_true rfl⟩) [22, 23] rfl rfl rfl (Nat.le_of_ble_eq_true rfl) d_ML_pass_5 (by decide) ?_
  refine j_if_ne C 21 d_ML_pass_8 (by decide) (fun c5 => ?_) (fun c5 => ?_)
  · replace h := (if_neg c5).symm.trans h
    refine j_iload_n C 2 d_ML_pass_21 rfl ?_
    refine j_if_ge C 35 d_ML_pass_22 (by decide) (fun c4 => ?_) (fun c4 => ?_)
    · replace h := (if_pos c4).symm.trans h
      refine j_iload_n C 2 d_ML_pass_35 rfl ?_
      refine j_aload_n C 0 d_ML_pass_36 rfl ?_
      refine gf_ML_47 C 0 (v := .ref bw) rfl rfl d_ML_pass_37 ?_
      refine gf_ML_175 C 22 (v := .int Bw.1) rfl rfl d_ML_pass_40 ?_
      refine j_iload_n C 1 d_ML_pass_43 rfl ?_
      refine j_isub C d_ML_pass_44 ?_
      refine j_mmin C mw_ML_9 (Nat.le_of_ble_eq_true rfl) (Nat.le_of_ble_eq_true rfl) (by decide) d_ML_pass_45 ?_
      refine j_istore_n C [(3, .int (mn p2 (Bw.1 - p1))), (0, .ref o0), (1, .int p1), (2, .int p2)] d_ML_pass_48 (by decide) rfl ?_
      refine j_aload_n C 1 d_ML_pass_49 rfl ?_
      refine gf_ML_51 C 0 (v := .ref bf) rfl rfl d_ML_pass_50 ?_
      obtain ⟨r2, hr2, h⟩ := bd_ok h
      refine j_PV C [] 24 rfl rfl (c_ByteRow_room l D cI cR cZ bf qf Bf hr2) (cw_ML_164 C ⟨Nat.le_of_ble_eq_true rfl, Nat.le_of_ble_eq_true rfl⟩) [24, 25] rfl rfl rfl (Nat.le_of_ble_eq_true rfl) d_ML_pass_53 (by decide) ?_
      refine j_iload_n C 0 d_ML_pass_56 rfl ?_
      refine j_icmp_ge C 70 d_ML_pass_57 (by decide) (fun c3 => ?_) (fun c3 => ?_)
      · replace h := (if_pos c3).symm.trans h
        refine j_iconst C (v := 0) d_ML_pass_70 (by decide) ?_
        refine j_istore C [(4, .int 0), (3, .int (mn p2 (Bw.1 - p1))), (0, .ref o0), (1, .int p1), (2, .int p2)] d_ML_pass_71 (by decide) rfl ?_
        cases h
      · replace h := (if_neg c3).symm.trans h
        obtain rfl := Option.some.inj h
        exact j_throw C rfl hF (by decide +kernel) tc_171 (mb (List.mem_of_getElem? (i := 787) (by decide +kernel)) rfl) (mb (List.mem_of_getElem? (i := 788) (by decide +kernel)) rfl) (mb (List.mem_of_getElem? (i := 79) (by decide +kernel)) rfl) (tx := "there is no room") (by decide) d_ML_pass_60 d_ML_pass_63 d_ML_pass_64 d_ML_pass_66 d_ML_pass_69 (Nat.le_of_ble_eq_true rfl) (Nat.le_of_ble_eq_true rfl) (Nat.le_of_ble_eq_true rfl) (Nat.le_of_ble_eq_true rfl)
    · replace h := (if_neg c4).symm.trans h
      obtain rfl := Option.some.inj h
      exact j_throw C rfl hF (by decide +kernel) tc_100 (mb (List.mem_of_getElem? (i := 483) (by decide +kernel)) rfl) (mb (List.mem_of_getElem? (i := 484) (by decide +kernel)) rfl) (mb (List.mem_of_getElem? (i := 75) (by decide +kernel)) rfl) (tx := "n is below 0") (by decide) d_ML_pass_25 d_ML_pass_28 d_ML_pass_29 d_ML_pass_31 d_ML_pass_34 (Nat.le_of_ble_eq_true rfl) (Nat.le_of_ble_eq_true rfl) (Nat.le_of_ble_eq_true rfl) (Nat.le_of_ble_eq_true rfl)
  · replace h := (if_pos c5).symm.trans h
    obtain rfl := Option.some.inj h
    exact j_throw C rfl hF (by decide +kernel) tc_92 (mb (List.mem_of_getElem? (i := 413) (by decide +kernel)) rfl) (mb (List.mem_of_getElem? (i := 414) (by decide +kernel)) rfl) (mb (List.mem_of_getElem? (i := 74) (by decide +kernel)) rfl) (tx := "there is no such byte") (by decide) d_ML_pass_11 d_ML_pass_14 d_ML_pass_15 d_ML_pass_17 d_ML_pass_20 (Nat.le_of_ble_eq_true rfl) (Nat.le_of_ble_eq_true rfl) (Nat.le_of_ble_eq_true rfl) (Nat.le_of_ble_eq_true rfl)
def ML_alter_t (n : Nat) (wd : Int32) (ht : Int32) (stp : Int32) (col : (Nat → Int32)) (msk : (Nat → Int32)) (bare : (Nat → Int32)) (M : LyS) (F : LyS) (Bw : ByS) (Bf : ByS) (pl : Int32) (rf : Int32) (hd : (Nat → Int32)) (p1 : Int32) (p2 : Int32) : Option String :=
  (ByteRow_holds Bf p1).bind fun r1 =>
  (if r1 = 0 then some "java/lang/IndexOutOfBoundsException"
  else (ML_isByte p2).bind fun r2 =>
  (if r2 = 0 then some "java/lang/IllegalArgumentException"
  else none))
set_option maxRecDepth 100000 in
set_option maxHeartbeats 4000000 in
theorem c_ML_alter_t (l : Launch) (hl : l.stackTraces = false) (D : va_G) (cI cR cZ : ClassId) (o0 : Nat) (hc : Nat) (hm : Nat) (om : Nat) (hb : Nat) (ow : Nat) (or_ : Nat) (hh : Nat) (aM : (Nat → Nat)) (aF : (Nat → Nat)) (bw : Nat) (qw : Nat) (bf : Nat) (qf : Nat) (n : Nat) (wd : Int32) (ht : Int32) (stp : Int32) (col : (Nat → Int32)) (msk : (Nat → Int32)) (bare : (Nat → Int32)) (M : LyS) (F : LyS) (Bw : ByS) (Bf : ByS) (pl : Int32) (rf : Int32) (hd : (Nat → Int32)) (p1 : Int32) (p2 : Int32) {res : String} (h : ML_alter_t n wd ht stp col msk bare M F Bw Bf pl rf hd p1 p2 = some res) : MetT l y_ML_alter (Cond.code y_ML_alter b_ML_alter 3 (some .int) :: BIG) rm_ML_alter_t (PcT [.ref o0, .int p1, .int p2] D (tyG cI cR cZ) (wML cI cR o0 hc hm om hb ow or_ hh aM aF bw qw bf qf n wd ht stp col msk bare M F Bw Bf pl rf hd)) res := by
  refine met_T hl (by decide) (Nat.le_of_ble_eq_true rfl) (fun p e s m args below meth c hF C => ?_)
  have C : Cx p s m args meth c D (tyG cI cR cZ) b_ML_alter 3 "MaskLayers" := C
  show J p l e rm_ML_alter_t s m args below meth c D no (fun _ => True) 3 (MQT below res args s) 0 0 (wML cI cR o0 hc hm om hb ow or_ hh aM aF bw qw bf qf n wd ht stp col msk bare M F Bw Bf pl rf hd) [(0, .ref o0), (1, .int p1), (2, .int p2)] [] 0
  unfold ML_alter_t at h
  refine j_aload_n C 0 d_ML_alter_0 rfl ?_
  refine gf_ML_51 C 0 (v := .ref bf) rfl rfl d_ML_alter_1 ?_
  refine j_iload_n C 1 d_ML_alter_4 rfl ?_
  obtain ⟨r1, hr1, h⟩ := bd_ok h
  refine j_PV C [.int p1] 24 rfl rfl (c_ByteRow_holds l D cI cR cZ bf qf Bf p1 hr1) (cw_ML_150 C ⟨Nat.le_of_ble_eq_true rfl, Nat.le_of_ble_eq_true rfl⟩) [24, 25] rfl rfl rfl (Nat.le_of_ble_eq_true rfl) d_ML_alter_5 (by decide) ?_
  refine j_if_ne C 21 d_ML_alter_8 (by decide) (fun c4 => ?_) (fun c4 => ?_)
  · replace h := (if_neg c4).symm.trans h
    refine j_iload_n C 2 d_ML_alter_21 rfl ?_
    obtain ⟨r2, hr2, h⟩ := bd_ok h
    refine j_PS C [.int p2] (c_ML_isByte l D cI cR cZ p2 hr2) (cw_ML_159 C ⟨Nat.le_of_ble_eq_true rfl, Nat.le_of_ble_eq_true rfl⟩) [] rfl rfl rfl (Nat.le_of_ble_eq_true rfl) d_ML_alter_22 (by decide) ?_
    refine j_if_ne C 38 d_ML_alter_25 (by decide) (fun c3 => ?_) (fun c3 => ?_)
    · replace h := (if_neg c3).symm.trans h
      refine j_aload_n C 0 d_ML_alter_38 rfl ?_
      refine gf_ML_51 C 0 (v := .ref bf) rfl rfl d_ML_alter_39 ?_
      refine j_iload_n C 1 d_ML_alter_42 rfl ?_
      refine j_iload_n C 2 d_ML_alter_43 rfl ?_
      cases h
    · replace h := (if_pos c3).symm.trans h
      obtain rfl := Option.some.inj h
      exact j_throw C rfl hF (by decide +kernel) tc_100 (mb (List.mem_of_getElem? (i := 483) (by decide +kernel)) rfl) (mb (List.mem_of_getElem? (i := 484) (by decide +kernel)) rfl) (mb (List.mem_of_getElem? (i := 75) (by decide +kernel)) rfl) (tx := "this is no byte") (by decide) d_ML_alter_28 d_ML_alter_31 d_ML_alter_32 d_ML_alter_34 d_ML_alter_37 (Nat.le_of_ble_eq_true rfl) (Nat.le_of_ble_eq_true rfl) (Nat.le_of_ble_eq_true rfl) (Nat.le_of_ble_eq_true rfl)
  · replace h := (if_pos c4).symm.trans h
    obtain rfl := Option.some.inj h
    exact j_throw C rfl hF (by decide +kernel) tc_92 (mb (List.mem_of_getElem? (i := 413) (by decide +kernel)) rfl) (mb (List.mem_of_getElem? (i := 414) (by decide +kernel)) rfl) (mb (List.mem_of_getElem? (i := 74) (by decide +kernel)) rfl) (tx := "there is no such byte") (by decide) d_ML_alter_11 d_ML_alter_14 d_ML_alter_15 d_ML_alter_17 d_ML_alter_20 (Nat.le_of_ble_eq_true rfl) (Nat.le_of_ble_eq_true rfl) (Nat.le_of_ble_eq_true rfl) (Nat.le_of_ble_eq_true rfl)
def ML_at_t (n : Nat) (wd : Int32) (ht : Int32) (stp : Int32) (col : (Nat → Int32)) (msk : (Nat → Int32)) (bare : (Nat → Int32)) (M : LyS) (F : LyS) (Bw : ByS) (Bf : ByS) (pl : Int32) (rf : Int32) (hd : (Nat → Int32)) (p1 : Int32) (p2 : Int32) : Option String :=
  (if (F.1 3) = 0 then some "java/lang/IllegalStateException"
  else (Layers_hasSample 576 F p1 p2).bind fun r1 =>
  (if r1 = 0 then some "java/lang/IndexOutOfBoundsException"
  else (Layers_exactAt 576 F p1 p2).bind fun r2 =>
  none))
set_option maxRecDepth 100000 in
set_option maxHeartbeats 4000000 in
theorem c_ML_at_t (l : Launch) (hl : l.stackTraces = false) (D : va_G) (cI cR cZ : ClassId) (o0 : Nat) (hc : Nat) (hm : Nat) (om : Nat) (hb : Nat) (ow : Nat) (or_ : Nat) (hh : Nat) (aM : (Nat → Nat)) (aF : (Nat → Nat)) (bw : Nat) (qw : Nat) (bf : Nat) (qf : Nat) (n : Nat) (wd : Int32) (ht : Int32) (stp : Int32) (col : (Nat → Int32)) (msk : (Nat → Int32)) (bare : (Nat → Int32)) (M : LyS) (F : LyS) (Bw : ByS) (Bf : ByS) (pl : Int32) (rf : Int32) (hd : (Nat → Int32)) (p1 : Int32) (p2 : Int32) {res : String} (h : ML_at_t n wd ht stp col msk bare M F Bw Bf pl rf hd p1 p2 = some res) : MetT l y_ML_at (Cond.code y_ML_at b_ML_at 3 (some .int) :: BIG) rm_ML_at_t (PcT [.ref o0, .int p1, .int p2] D (tyG cI cR cZ) (wML cI cR o0 hc hm om hb ow or_ hh aM aF bw qw bf qf n wd ht stp col msk bare M F Bw Bf pl rf hd)) res := by
  refine met_T hl (by decide) (Nat.le_of_ble_eq_true rfl) (fun p e s m args below meth c hF C => ?_)
  have C : Cx p s m args meth c D (tyG cI cR cZ) b_ML_at 3 "MaskLayers" := C
  show J p l e rm_ML_at_t s m args below meth c D no (fun _ => True) 3 (MQT below res args s) 0 0 (wML cI cR o0 hc hm om hb ow or_ hh aM aF bw qw bf qf n wd ht stp col msk bare M F Bw Bf pl rf hd) [(0, .ref o0), (1, .int p1), (2, .int p2)] [] 0
  unfold ML_at_t at h
  refine j_aload_n C 0 d_ML_at_0 rfl ?_
  refine gf_ML_41 C 0 (v := .ref (aF 0)) rfl rfl d_ML_at_1 ?_
  refine gf_ML_122 C 15 (v := .int (F.1 3)) rfl rfl d_ML_at_4 ?_
  refine j_if_ne C 20 d_ML_at_7 (by decide) (fun c4 => ?_) (fun c4 => ?_)
  · replace h := (if_neg c4).symm.trans h
    refine j_aload_n C 0 d_ML_at_20 rfl ?_
    refine gf_ML_41 C 0 (v := .ref (aF 0)) rfl rfl d_ML_at_21 ?_
    refine j_iload_n C 1 d_ML_at_24 rfl ?_
    refine j_iload_n C 2 d_ML_at_25 rfl ?_
    obtain ⟨r1, hr1, h⟩ := bd_ok h
    refine j_PV C [.int p1, .int p2] 15 rfl rfl (c_Layers_hasSample l D cI cR cZ aF 576 F p1 p2 hr1) (cw_ML_130 C ⟨Nat.le_of_ble_eq_true rfl, Nat.le_of_ble_eq_true rfl⟩) [15, 16, 17, 18, 19, 20, 21] rfl rfl rfl (Nat.le_of_ble_eq_true rfl) d_ML_at_26 (by decide) ?_
    refine j_if_ne C 42 d_ML_at_29 (by decide) (fun c3 => ?_) (fun c3 => ?_)
    · replace h := (if_neg c3).symm.trans h
      refine j_aload_n C 0 d_ML_at_42 rfl ?_
      refine gf_ML_41 C 0 (v := .ref (aF 0)) rfl rfl d_ML_at_43 ?_
      refine j_iload_n C 1 d_ML_at_46 rfl ?_
      refine j_iload_n C 2 d_ML_at_47 rfl ?_
      obtain ⟨r2, hr2, h⟩ := bd_ok h
      refine j_PV C [.int p1, .int p2] 15 rfl rfl (c_Layers_exactAt l D cI cR cZ aF 576 F p1 p2 hr2) (cw_ML_186 C ⟨Nat.le_of_ble_eq_true rfl, Nat.le_of_ble_eq_true rfl⟩) [15, 16, 17, 18, 19, 20, 21] rfl rfl rfl (Nat.le_of_ble_eq_true rfl) d_ML_at_48 (by decide) ?_
      cases h
    · replace h := (if_pos c3).symm.trans h
      obtain rfl := Option.some.inj h
      exact j_throw C rfl hF (by decide +kernel) tc_92 (mb (List.mem_of_getElem? (i := 413) (by decide +kernel)) rfl) (mb (List.mem_of_getElem? (i := 414) (by decide +kernel)) rfl) (mb (List.mem_of_getElem? (i := 74) (by decide +kernel)) rfl) (tx := "there is no such sample") (by decide) d_ML_at_32 d_ML_at_35 d_ML_at_36 d_ML_at_38 d_ML_at_41 (Nat.le_of_ble_eq_true rfl) (Nat.le_of_ble_eq_true rfl) (Nat.le_of_ble_eq_true rfl) (Nat.le_of_ble_eq_true rfl)
  · replace h := (if_pos c4).symm.trans h
    obtain rfl := Option.some.inj h
    exact j_throw C rfl hF (by decide +kernel) tc_129 (mb (List.mem_of_getElem? (i := 626) (by decide +kernel)) rfl) (mb (List.mem_of_getElem? (i := 627) (by decide +kernel)) rfl) (mb (List.mem_of_getElem? (i := 77) (by decide +kernel)) rfl) (tx := "nothing was read") (by decide) d_ML_at_10 d_ML_at_13 d_ML_at_14 d_ML_at_16 d_ML_at_19 (Nat.le_of_ble_eq_true rfl) (Nat.le_of_ble_eq_true rfl) (Nat.le_of_ble_eq_true rfl) (Nat.le_of_ble_eq_true rfl)
