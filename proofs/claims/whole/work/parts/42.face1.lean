def ML_hasSample (n : Nat) (wd : Int32) (ht : Int32) (stp : Int32) (col : (Nat → Int32)) (msk : (Nat → Int32)) (bare : (Nat → Int32)) (M : LyS) (F : LyS) (Bw : ByS) (Bf : ByS) (pl : Int32) (rf : Int32) (hd : (Nat → Int32)) (p1 : Int32) (p2 : Int32) : Option Int32 :=
  (if p1 < 0 then zb 0 (some 0)
  else (if wd ≤ p1 then zb 0 (some 0)
  else (if p2 < 0 then zb 0 (some 0)
  else (if ht ≤ p2 then zb 0 (some 0)
  else zb 1 (some 1)))))
set_option maxRecDepth 100000 in
set_option maxHeartbeats 4000000 in
theorem c_ML_hasSample (l : Launch) (D : va_G) (cI cR cZ : ClassId) (o0 : Nat) (hc : Nat) (hm : Nat) (om : Nat) (hb : Nat) (ow : Nat) (or_ : Nat) (hh : Nat) (aM : (Nat → Nat)) (aF : (Nat → Nat)) (bw : Nat) (qw : Nat) (bf : Nat) (qf : Nat) (n : Nat) (wd : Int32) (ht : Int32) (stp : Int32) (col : (Nat → Int32)) (msk : (Nat → Int32)) (bare : (Nat → Int32)) (M : LyS) (F : LyS) (Bw : ByS) (Bf : ByS) (pl : Int32) (rf : Int32) (hd : (Nat → Int32)) (p1 : Int32) (p2 : Int32) {res : Int32} (h : ML_hasSample n wd ht stp col msk bare M F Bw Bf pl rf hd p1 p2 = some res) : Met l y_ML_hasSample (Cond.code y_ML_hasSample b_ML_hasSample 3 (some .boolean) :: BIG) rm_ML_hasSample (PcP [.ref o0, .int p1, .int p2] D (tyG cI cR cZ) (wML cI cR o0 hc hm om hb ow or_ hh aM aF bw qw bf qf n wd ht stp col msk bare M F Bw Bf pl rf hd)) (QcP res) 0 0 no := by
  refine met_P (by decide) (Nat.le_of_ble_eq_true rfl) (fun p e s m args below meth c C hr => ?_)
  have C : Cx p s m args meth c D (tyG cI cR cZ) b_ML_hasSample 3 "MaskLayers" := C
  have hr : meth.sig.returnType = some .boolean := hr
  show J p l e rm_ML_hasSample s m args below meth c D no (fun _ => True) 3 (MQ below (QcP res) args s 0 0 no) 0 0 (wML cI cR o0 hc hm om hb ow or_ hh aM aF bw qw bf qf n wd ht stp col msk bare M F Bw Bf pl rf hd) [(0, .ref o0), (1, .int p1), (2, .int p2)] [] 0
  unfold ML_hasSample at h
  refine j_iload_n C 1 d_ML_hasSample_0 rfl ?_
  refine j_if_lt C 28 d_ML_hasSample_1 (by decide) (fun c9 => ?_) (fun c9 => ?_)
  · replace h := (if_pos c9).symm.trans h
    refine j_iconst C (v := 0) d_ML_hasSample_28 (by decide) ?_
    obtain ⟨b1, h⟩ := zb_ok h
    obtain rfl := Option.some.inj h
    exact j_pretZ C hr d_ML_hasSample_29 b1
  · replace h := (if_neg c9).symm.trans h
    refine j_iload_n C 1 d_ML_hasSample_4 rfl ?_
    refine j_aload_n C 0 d_ML_hasSample_5 rfl ?_
    refine gf_ML_18 C 0 (v := .int wd) rfl rfl d_ML_hasSample_6 ?_
    refine j_icmp_ge C 28 d_ML_hasSample_9 (by decide) (fun c8 => ?_) (fun c8 => ?_)
    · replace h := (if_pos c8).symm.trans h
      refine j_iconst C (v := 0) d_ML_hasSample_28 (by decide) ?_
      obtain ⟨b2, h⟩ := zb_ok h
      obtain rfl := Option.some.inj h
      exact j_pretZ C hr d_ML_hasSample_29 b2
    · replace h := (if_neg c8).symm.trans h
      refine j_iload_n C 2 d_ML_hasSample_12 rfl ?_
      refine j_if_lt C 28 d_ML_hasSample_13 (by decide) (fun c7 => ?_) (fun c7 => ?_)
      · replace h := (if_pos c7).symm.trans h
        refine j_iconst C (v := 0) d_ML_hasSample_28 (by decide) ?_
        obtain ⟨b3, h⟩ := zb_ok h
        obtain rfl := Option.some.inj h
        exact j_pretZ C hr d_ML_hasSample_29 b3
      · replace h := (if_neg c7).symm.trans h
        refine j_iload_n C 2 d_ML_hasSample_16 rfl ?_
        refine j_aload_n C 0 d_ML_hasSample_17 rfl ?_
        refine gf_ML_22 C 0 (v := .int ht) rfl rfl d_ML_hasSample_18 ?_
        refine j_icmp_ge C 28 d_ML_hasSample_21 (by decide) (fun c6 => ?_) (fun c6 => ?_)
        · replace h := (if_pos c6).symm.trans h
          refine j_iconst C (v := 0) d_ML_hasSample_28 (by decide) ?_
          obtain ⟨b4, h⟩ := zb_ok h
          obtain rfl := Option.some.inj h
          exact j_pretZ C hr d_ML_hasSample_29 b4
        · replace h := (if_neg c6).symm.trans h
          refine j_iconst C (v := 1) d_ML_hasSample_24 (by decide) ?_
          refine j_goto C 29 d_ML_hasSample_25 (by decide) ?_
          obtain ⟨b5, h⟩ := zb_ok h
          obtain rfl := Option.some.inj h
          exact j_pretZ C hr d_ML_hasSample_29 b5
def ML_maskedSamples_l4 (n : Nat) (wd : Int32) (ht : Int32) (stp : Int32) (col : (Nat → Int32)) (msk : (Nat → Int32)) (bare : (Nat → Int32)) (M : LyS) (F : LyS) (Bw : ByS) (Bf : ByS) (pl : Int32) (rf : Int32) (hd : (Nat → Int32)) : Nat → Int32 → Int32 → Option (Nat × Int32)
  | 0, _, _ => none
  | k + 1, v1, v2 =>
  (if (nI n) ≤ v2 then some (0, v1)
  else gd v2 n (ML_maskedSamples_l4 n wd ht stp col msk bare M F Bw Bf pl rf hd k (v1 + (msk v2.toNatClampNeg)) (v2 + 1)))
def ML_maskedSamples (fu : Nat) (n : Nat) (wd : Int32) (ht : Int32) (stp : Int32) (col : (Nat → Int32)) (msk : (Nat → Int32)) (bare : (Nat → Int32)) (M : LyS) (F : LyS) (Bw : ByS) (Bf : ByS) (pl : Int32) (rf : Int32) (hd : (Nat → Int32)) : Option Int32 :=
  (ML_maskedSamples_l4 n wd ht stp col msk bare M F Bw Bf pl rf hd fu 0 0).bind fun r3 =>
  some r3.2
set_option maxRecDepth 100000 in
set_option maxHeartbeats 4000000 in
theorem t_ML_maskedSamples_l4 {p : Program} {l : Launch} {e : Env} {s : State} {m : MethodId} {args : Array Value} {below : List Frame} {meth : Method} {c : Code} {D : va_G} {cI cR cZ : ClassId} {Q : State → Prop} (C : Cx p s m args meth c D (tyG cI cR cZ) b_ML_maskedSamples 3 "MaskLayers") {o0 : Nat} {hc : Nat} {hm : Nat} {om : Nat} {hb : Nat} {ow : Nat} {or_ : Nat} {hh : Nat} {aM : (Nat → Nat)} {aF : (Nat → Nat)} {bw : Nat} {qw : Nat} {bf : Nat} {qf : Nat} {n : Nat} {wd : Int32} {ht : Int32} {stp : Int32} {col : (Nat → Int32)} {msk : (Nat → Int32)} {bare : (Nat → Int32)} {M : LyS} {F : LyS} {Bw : ByS} {Bf : ByS} {pl : Int32} {rf : Int32} {hd : (Nat → Int32)} {out : Nat × Int32} : ∀ (k : Nat) (v1 : Int32) (v2 : Int32), ML_maskedSamples_l4 n wd ht stp col msk bare M F Bw Bf pl rf hd k v1 v2 = some out → (out.1 = 0 → J p l e rm_ML_maskedSamples s m args below meth c D no (fun _ => True) 3 Q 0 0 (wML cI cR o0 hc hm om hb ow or_ hh aM aF bw qw bf qf n wd ht stp col msk bare M F Bw Bf pl rf hd) [(1, .int out.2)] [] 28) → J p l e rm_ML_maskedSamples s m args below meth c D no (fun _ => True) 3 Q 0 0 (wML cI cR o0 hc hm om hb ow or_ hh aM aF bw qw bf qf n wd ht stp col msk bare M F Bw Bf pl rf hd) [(0, .ref o0), (1, .int v1), (2, .int v2)] [] 4 := by
  intro k
  induction k with
  | zero => intro v1 v2 h; cases (show none = some out from h)
  | succ k ih =>
    intro v1 v2 h x0
    rw [ML_maskedSamples_l4] at h
    refine j_iload_n C 2 d_ML_maskedSamples_4 rfl ?_
    refine j_aload_n C 0 d_ML_maskedSamples_5 rfl ?_
    refine gf_ML_29 C 0 (v := .ref hm) rfl rfl d_ML_maskedSamples_6 ?_
    refine j_alen C (2) (t0 := 0) (v := nI n) rfl rfl rfl d_ML_maskedSamples_9 ?_
    refine j_icmp_ge C 28 d_ML_maskedSamples_10 (by decide) (fun c2 => ?_) (fun c2 => ?_)
    · replace h := (if_pos c2).symm.trans h
      obtain rfl := Option.some.inj h
      refine j_sub [1] rfl ?_
      exact x0 rfl
    · replace h := (if_neg c2).symm.trans h
      refine j_iload_n C 1 d_ML_maskedSamples_13 rfl ?_
      refine j_aload_n C 0 d_ML_maskedSamples_14 rfl ?_
      refine gf_ML_29 C 0 (v := .ref hm) rfl rfl d_ML_maskedSamples_15 ?_
      refine j_iload_n C 2 d_ML_maskedSamples_18 rfl ?_
      obtain ⟨b1, h⟩ := gd_ok h
      refine j_iald C (2) (t0 := 0) rfl rfl b1 d_ML_maskedSamples_19 ?_
      refine j_iadd C d_ML_maskedSamples_20 ?_
      refine j_istore_n C [(1, .int (v1 + (msk v2.toNatClampNeg))), (0, .ref o0), (2, .int v2)] d_ML_maskedSamples_21 (by decide) rfl ?_
      refine j_iinc C [(2, .int (v2 + 1)), (1, .int (v1 + (msk v2.toNatClampNeg))), (0, .ref o0)] 2 (v2 + 1) d_ML_maskedSamples_22 rfl rfl (by decide) rfl ?_
      refine j_goto C 4 d_ML_maskedSamples_25 (by decide) ?_
      refine j_sub [2, 1, 0] rfl ?_
      exact ih (v1 + (msk v2.toNatClampNeg)) (v2 + 1) h x0
set_option maxRecDepth 100000 in
set_option maxHeartbeats 4000000 in
theorem c_ML_maskedSamples (l : Launch) (D : va_G) (cI cR cZ : ClassId) (fu : Nat) (o0 : Nat) (hc : Nat) (hm : Nat) (om : Nat) (hb : Nat) (ow : Nat) (or_ : Nat) (hh : Nat) (aM : (Nat → Nat)) (aF : (Nat → Nat)) (bw : Nat) (qw : Nat) (bf : Nat) (qf : Nat) (n : Nat) (wd : Int32) (ht : Int32) (stp : Int32) (col : (Nat → Int32)) (msk : (Nat → Int32)) (bare : (Nat → Int32)) (M : LyS) (F : LyS) (Bw : ByS) (Bf : ByS) (pl : Int32) (rf : Int32) (hd : (Nat → Int32)) {res : Int32} (h : ML_maskedSamples fu n wd ht stp col msk bare M F Bw Bf pl rf hd = some res) : Met l y_ML_maskedSamples (Cond.code y_ML_maskedSamples b_ML_maskedSamples 3 (some .int) :: BIG) rm_ML_maskedSamples (PcP [.ref o0] D (tyG cI cR cZ) (wML cI cR o0 hc hm om hb ow or_ hh aM aF bw qw bf qf n wd ht stp col msk bare M F Bw Bf pl rf hd)) (QcP res) 0 0 no := by
  refine met_P (by decide) (Nat.le_of_ble_eq_true rfl) (fun p e s m args below meth c C hr => ?_)
  have C : Cx p s m args meth c D (tyG cI cR cZ) b_ML_maskedSamples 3 "MaskLayers" := C
  have hr : meth.sig.returnType = some .int := hr
  show J p l e rm_ML_maskedSamples s m args below meth c D no (fun _ => True) 3 (MQ below (QcP res) args s 0 0 no) 0 0 (wML cI cR o0 hc hm om hb ow or_ hh aM aF bw qw bf qf n wd ht stp col msk bare M F Bw Bf pl rf hd) [(0, .ref o0)] [] 0
  unfold ML_maskedSamples at h
  refine j_iconst C (v := 0) d_ML_maskedSamples_0 (by decide) ?_
  refine j_istore_n C [(1, .int 0), (0, .ref o0)] d_ML_maskedSamples_1 (by decide) rfl ?_
  refine j_iconst C (v := 0) d_ML_maskedSamples_2 (by decide) ?_
  refine j_istore_n C [(2, .int 0), (1, .int 0), (0, .ref o0)] d_ML_maskedSamples_3 (by decide) rfl ?_
  obtain ⟨r3, hr3, h⟩ := bd_ok h
  refine j_sub [2, 1, 0] rfl ?_
  refine t_ML_maskedSamples_l4 C fu 0 0 hr3 (fun e4 => ?_)
  · refine j_iload_n C 0 d_ML_maskedSamples_28 rfl ?_
    obtain rfl := Option.some.inj h
    exact j_pret C hr d_ML_maskedSamples_29
def ML_layer (n : Nat) (wd : Int32) (ht : Int32) (stp : Int32) (col : (Nat → Int32)) (msk : (Nat → Int32)) (bare : (Nat → Int32)) (M : LyS) (F : LyS) (Bw : ByS) (Bf : ByS) (pl : Int32) (rf : Int32) (hd : (Nat → Int32)) (p1 : Int32) (p2 : Int32) (p3 : Int32) : Option Int32 :=
  (if (M.1 3) = 0 then none
  else (Layers_hasSample n M p2 p3).bind fun r1 =>
  (if r1 = 0 then none
  else (if p1 < 0 then none
  else (if p1 ≤ 3 then (Layers_valueAt n M p1 p2 p3).bind fun r2 =>
  some r2
  else none))))
set_option maxRecDepth 100000 in
set_option maxHeartbeats 4000000 in
theorem c_ML_layer (l : Launch) (D : va_G) (cI cR cZ : ClassId) (o0 : Nat) (hc : Nat) (hm : Nat) (om : Nat) (hb : Nat) (ow : Nat) (or_ : Nat) (hh : Nat) (aM : (Nat → Nat)) (aF : (Nat → Nat)) (bw : Nat) (qw : Nat) (bf : Nat) (qf : Nat) (n : Nat) (wd : Int32) (ht : Int32) (stp : Int32) (col : (Nat → Int32)) (msk : (Nat → Int32)) (bare : (Nat → Int32)) (M : LyS) (F : LyS) (Bw : ByS) (Bf : ByS) (pl : Int32) (rf : Int32) (hd : (Nat → Int32)) (p1 : Int32) (p2 : Int32) (p3 : Int32) {res : Int32} (h : ML_layer n wd ht stp col msk bare M F Bw Bf pl rf hd p1 p2 p3 = some res) : Met l y_ML_layer (Cond.code y_ML_layer b_ML_layer 4 (some .int) :: BIG) rm_ML_layer (PcP [.ref o0, .int p1, .int p2, .int p3] D (tyG cI cR cZ) (wML cI cR o0 hc hm om hb ow or_ hh aM aF bw qw bf qf n wd ht stp col msk bare M F Bw Bf pl rf hd)) (QcP res) 0 0 no := by
  refine met_P (by decide) (Nat.le_of_ble_eq_true rfl) (fun p e s m args below meth c C hr => ?_)
  have C : Cx p s m args meth c D (tyG cI cR cZ) b_ML_layer 4 "MaskLayers" := C
  have hr : meth.sig.returnType = some .int := hr
  show J p l e rm_ML_layer s m args below meth c D no (fun _ => True) 4 (MQ below (QcP res) args s 0 0 no) 0 0 (wML cI cR o0 hc hm om hb ow or_ hh aM aF bw qw bf qf n wd ht stp col msk bare M F Bw Bf pl rf hd) [(0, .ref o0), (1, .int p1), (2, .int p2), (3, .int p3)] [] 0
  unfold ML_layer at h
  refine j_aload_n C 0 d_ML_layer_0 rfl ?_
  refine gf_ML_37 C 0 (v := .ref (aM 0)) rfl rfl d_ML_layer_1 ?_
  refine gf_ML_122 C 8 (v := .int (M.1 3)) rfl rfl d_ML_layer_4 ?_
  refine j_if_ne C 20 d_ML_layer_7 (by decide) (fun c6 => ?_) (fun c6 => ?_)
  · replace h := (if_neg c6).symm.trans h
    refine j_aload_n C 0 d_ML_layer_20 rfl ?_
    refine gf_ML_37 C 0 (v := .ref (aM 0)) rfl rfl d_ML_layer_21 ?_
    refine j_iload_n C 2 d_ML_layer_24 rfl ?_
    refine j_iload_n C 3 d_ML_layer_25 rfl ?_
    obtain ⟨r1, hr1, h⟩ := bd_ok h
    refine j_PV C [.int p2, .int p3] 8 rfl rfl (c_Layers_hasSample l D cI cR cZ aM n M p2 p3 hr1) (cw_ML_130 C ⟨Nat.le_of_ble_eq_true rfl, Nat.le_of_ble_eq_true rfl⟩) [8, 9, 10, 11, 12, 13, 14] rfl rfl rfl (Nat.le_of_ble_eq_true rfl) d_ML_layer_26 (by decide) ?_
    refine j_if_ne C 42 d_ML_layer_29 (by decide) (fun c5 => ?_) (fun c5 => ?_)
    · replace h := (if_neg c5).symm.trans h
      refine j_iload_n C 1 d_ML_layer_42 rfl ?_
      refine j_if_lt C 51 d_ML_layer_43 (by decide) (fun c4 => ?_) (fun c4 => ?_)
      · replace h := (if_pos c4).symm.trans h
        cases h
      · replace h := (if_neg c4).symm.trans h
        refine j_iload_n C 1 d_ML_layer_46 rfl ?_
        refine j_iconst C (v := 3) d_ML_layer_47 (by decide) ?_
        refine j_icmp_le C 61 d_ML_layer_48 (by decide) (fun c3 => ?_) (fun c3 => ?_)
        · replace h := (if_pos c3).symm.trans h
          refine j_aload_n C 0 d_ML_layer_61 rfl ?_
          refine gf_ML_37 C 0 (v := .ref (aM 0)) rfl rfl d_ML_layer_62 ?_
          refine j_iload_n C 1 d_ML_layer_65 rfl ?_
          refine j_iload_n C 2 d_ML_layer_66 rfl ?_
          refine j_iload_n C 3 d_ML_layer_67 rfl ?_
          obtain ⟨r2, hr2, h⟩ := bd_ok h
          refine j_PV C [.int p1, .int p2, .int p3] 8 rfl rfl (c_Layers_valueAt l D cI cR cZ aM n M p1 p2 p3 hr2) (cw_ML_133 C ⟨Nat.le_of_ble_eq_true rfl, Nat.le_of_ble_eq_true rfl⟩) [8, 9, 10, 11, 12, 13, 14] rfl rfl rfl (Nat.le_of_ble_eq_true rfl) d_ML_layer_68 (by decide) ?_
          obtain rfl := Option.some.inj h
          exact j_pret C hr d_ML_layer_71
        · replace h := (if_neg c3).symm.trans h
          cases h
    · replace h := (if_pos c5).symm.trans h
      cases h
  · replace h := (if_pos c6).symm.trans h
    cases h
def ML_filled (n : Nat) (wd : Int32) (ht : Int32) (stp : Int32) (col : (Nat → Int32)) (msk : (Nat → Int32)) (bare : (Nat → Int32)) (M : LyS) (F : LyS) (Bw : ByS) (Bf : ByS) (pl : Int32) (rf : Int32) (hd : (Nat → Int32)) (p1 : Int32) (p2 : Int32) (p3 : Int32) : Option Int32 :=
  (if (M.1 3) = 0 then none
  else (Layers_hasSample n M p2 p3).bind fun r1 =>
  (if r1 = 0 then none
  else (if p1 = 0 then (Maker_wasFilled n col msk bare M p1 p2 p3).bind fun r2 =>
  zb r2 (some r2)
  else (if p1 = 2 then (Maker_wasFilled n col msk bare M p1 p2 p3).bind fun r4 =>
  zb r4 (some r4)
  else none))))
set_option maxRecDepth 100000 in
set_option maxHeartbeats 4000000 in
theorem c_ML_filled (l : Launch) (D : va_G) (cI cR cZ : ClassId) (o0 : Nat) (hc : Nat) (hm : Nat) (om : Nat) (hb : Nat) (ow : Nat) (or_ : Nat) (hh : Nat) (aM : (Nat → Nat)) (aF : (Nat → Nat)) (bw : Nat) (qw : Nat) (bf : Nat) (qf : Nat) (n : Nat) (wd : Int32) (ht : Int32) (stp : Int32) (col : (Nat → Int32)) (msk : (Nat → Int32)) (bare : (Nat → Int32)) (M : LyS) (F : LyS) (Bw : ByS) (Bf : ByS) (pl : Int32) (rf : Int32) (hd : (Nat → Int32)) (p1 : Int32) (p2 : Int32) (p3 : Int32) {res : Int32} (h : ML_filled n wd ht stp col msk bare M F Bw Bf pl rf hd p1 p2 p3 = some res) : Met l y_ML_filled (Cond.code y_ML_filled b_ML_filled 4 (some .boolean) :: BIG) rm_ML_filled (PcP [.ref o0, .int p1, .int p2, .int p3] D (tyG cI cR cZ) (wML cI cR o0 hc hm om hb ow or_ hh aM aF bw qw bf qf n wd ht stp col msk bare M F Bw Bf pl rf hd)) (QcP res) 0 0 no := by
  refine met_P (by decide) (Nat.le_of_ble_eq_true rfl) (fun p e s m args below meth c C hr => ?_)
  have C : Cx p s m args meth c D (tyG cI cR cZ) b_ML_filled 4 "MaskLayers" := C
  have hr : meth.sig.returnType = some .boolean := hr
  show J p l e rm_ML_filled s m args below meth c D no (fun _ => True) 4 (MQ below (QcP res) args s 0 0 no) 0 0 (wML cI cR o0 hc hm om hb ow or_ hh aM aF bw qw bf qf n wd ht stp col msk bare M F Bw Bf pl rf hd) [(0, .ref o0), (1, .int p1), (2, .int p2), (3, .int p3)] [] 0
  unfold ML_filled at h
  refine j_aload_n C 0 d_ML_filled_0 rfl ?_
  refine gf_ML_37 C 0 (v := .ref (aM 0)) rfl rfl d_ML_filled_1 ?_
  refine gf_ML_122 C 8 (v := .int (M.1 3)) rfl rfl d_ML_filled_4 ?_
  refine j_if_ne C 20 d_ML_filled_7 (by decide) (fun c9 => ?_) (fun c9 => ?_)
  · replace h := (if_neg c9).symm.trans h
    refine j_aload_n C 0 d_ML_filled_20 rfl ?_
    refine gf_ML_37 C 0 (v := .ref (aM 0)) rfl rfl d_ML_filled_21 ?_
    refine j_iload_n C 2 d_ML_filled_24 rfl ?_
    refine j_iload_n C 3 d_ML_filled_25 rfl ?_
    obtain ⟨r1, hr1, h⟩ := bd_ok h
    refine j_PV C [.int p2, .int p3] 8 rfl rfl (c_Layers_hasSample l D cI cR cZ aM n M p2 p3 hr1) (cw_ML_130 C ⟨Nat.le_of_ble_eq_true rfl, Nat.le_of_ble_eq_true rfl⟩) [8, 9, 10, 11, 12, 13, 14] rfl rfl rfl (Nat.le_of_ble_eq_true rfl) d_ML_filled_26 (by decide) ?_
    refine j_if_ne C 42 d_ML_filled_29 (by decide) (fun c8 => ?_) (fun c8 => ?_)
    · replace h := (if_neg c8).symm.trans h
      refine j_iload_n C 1 d_ML_filled_42 rfl ?_
      refine j_if_eq C 61 d_ML_filled_43 (by decide) (fun c7 => ?_) (fun c7 => ?_)
      · replace h := (if_pos c7).symm.trans h
        refine j_aload_n C 0 d_ML_filled_61 rfl ?_
        refine gf_ML_59 C 0 (v := .ref om) rfl rfl d_ML_filled_62 ?_
        refine j_iload_n C 1 d_ML_filled_65 rfl ?_
        refine j_iload_n C 2 d_ML_filled_66 rfl ?_
        refine j_iload_n C 3 d_ML_filled_67 rfl ?_
        obtain ⟨r2, hr2, h⟩ := bd_ok h
        refine j_PV C [.int p1, .int p2, .int p3] 3 rfl rfl (c_Maker_wasFilled l D cI cR cZ om hc hm hb aM n col msk bare M p1 p2 p3 hr2) (cw_ML_139 C ⟨Nat.le_of_ble_eq_true rfl, Nat.le_of_ble_eq_true rfl⟩) [3, 1, 2, 4, 8, 9, 10, 11, 12, 13, 14] rfl rfl rfl (Nat.le_of_ble_eq_true rfl) d_ML_filled_68 (by decide) ?_
        obtain ⟨b3, h⟩ := zb_ok h
        obtain rfl := Option.some.inj h
        exact j_pretZ C hr d_ML_filled_71 b3
      · replace h := (if_neg c7).symm.trans h
        refine j_iload_n C 1 d_ML_filled_46 rfl ?_
        refine j_iconst C (v := 2) d_ML_filled_47 (by decide) ?_
        refine j_icmp_eq C 61 d_ML_filled_48 (by decide) (fun c6 => ?_) (fun c6 => ?_)
        · replace h := (if_pos c6).symm.trans h
          refine j_aload_n C 0 d_ML_filled_61 rfl ?_
          refine gf_ML_59 C 0 (v := .ref om) rfl rfl d_ML_filled_62 ?_
          refine j_iload_n C 1 d_ML_filled_65 rfl ?_
          refine j_iload_n C 2 d_ML_filled_66 rfl ?_
          refine j_iload_n C 3 d_ML_filled_67 rfl ?_
          obtain ⟨r4, hr4, h⟩ := bd_ok h
          refine j_PV C [.int p1, .int p2, .int p3] 3 rfl rfl (c_Maker_wasFilled l D cI cR cZ om hc hm hb aM n col msk bare M p1 p2 p3 hr4) (cw_ML_139 C ⟨Nat.le_of_ble_eq_true rfl, Nat.le_of_ble_eq_true rfl⟩) [3, 1, 2, 4, 8, 9, 10, 11, 12, 13, 14] rfl rfl rfl (Nat.le_of_ble_eq_true rfl) d_ML_filled_68 (by decide) ?_
          obtain ⟨b5, h⟩ := zb_ok h
          obtain rfl := Option.some.inj h
          exact j_pretZ C hr d_ML_filled_71 b5
        · replace h := (if_neg c6).symm.trans h
          cases h
    · replace h := (if_pos c8).symm.trans h
      cases h
  · replace h := (if_pos c9).symm.trans h
    cases h
def ML_joined (n : Nat) (wd : Int32) (ht : Int32) (stp : Int32) (col : (Nat → Int32)) (msk : (Nat → Int32)) (bare : (Nat → Int32)) (M : LyS) (F : LyS) (Bw : ByS) (Bf : ByS) (pl : Int32) (rf : Int32) (hd : (Nat → Int32)) (p1 : Int32) (p2 : Int32) : Option Int32 :=
  (if (M.1 3) = 0 then none
  else (Layers_hasSample n M p1 p2).bind fun r1 =>
  (if r1 = 0 then none
  else (Layers_joinedAt n M p1 p2).bind fun r2 =>
  some r2))
set_option maxRecDepth 100000 in
set_option maxHeartbeats 4000000 in
theorem c_ML_joined (l : Launch) (D : va_G) (cI cR cZ : ClassId) (o0 : Nat) (hc : Nat) (hm : Nat) (om : Nat) (hb : Nat) (ow : Nat) (or_ : Nat) (hh : Nat) (aM : (Nat → Nat)) (aF : (Nat → Nat)) (bw : Nat) (qw : Nat) (bf : Nat) (qf : Nat) (n : Nat) (wd : Int32) (ht : Int32) (stp : Int32) (col : (Nat → Int32)) (msk : (Nat → Int32)) (bare : (Nat → Int32)) (M : LyS) (F : LyS) (Bw : ByS) (Bf : ByS) (pl : Int32) (rf : Int32) (hd : (Nat → Int32)) (p1 : Int32) (p2 : Int32) {res : Int32} (h : ML_joined n wd ht stp col msk bare M F Bw Bf pl rf hd p1 p2 = some res) : Met l y_ML_joined (Cond.code y_ML_joined b_ML_joined 3 (some .int) :: BIG) rm_ML_joined (PcP [.ref o0, .int p1, .int p2] D (tyG cI cR cZ) (wML cI cR o0 hc hm om hb ow or_ hh aM aF bw qw bf qf n wd ht stp col msk bare M F Bw Bf pl rf hd)) (QcP res) 0 0 no := by
  refine met_P (by decide) (Nat.le_of_ble_eq_true rfl) (fun p e s m args below meth c C hr => ?_)
  have C : Cx p s m args meth c D (tyG cI cR cZ) b_ML_joined 3 "MaskLayers" := C
  have hr : meth.sig.returnType = some .int := hr
  show J p l e rm_ML_joined s m args below meth c D no (fun _ => True) 3 (MQ below (QcP res) args s 0 0 no) 0 0 (wML cI cR o0 hc hm om hb ow or_ hh aM aF bw qw bf qf n wd ht stp col msk bare M F Bw Bf pl rf hd) [(0, .ref o0), (1, .int p1), (2, .int p2)] [] 0
  unfold ML_joined at h
  refine j_aload_n C 0 d_ML_joined_0 rfl ?_
  refine gf_ML_37 C 0 (v := .ref (aM 0)) rfl rfl d_ML_joined_1 ?_
  refine gf_ML_122 C 8 (v := .int (M.1 3)) rfl rfl d_ML_joined_4 ?_
  refine j_if_ne C 20 d_ML_joined_7 (by decide) (fun c4 => ?_) (fun c4 => ?_)
  · replace h := (if_neg c4).symm.trans h
    refine j_aload_n C 0 d_ML_joined_20 rfl ?_
    refine gf_ML_37 C 0 (v := .ref (aM 0)) rfl rfl d_ML_joined_21 ?_
    refine j_iload_n C 1 d_ML_joined_24 rfl ?_
    refine j_iload_n C 2 d_ML_joined_25 rfl ?_
    obtain ⟨r1, hr1, h⟩ := bd_ok h
    refine j_PV C [.int p1, .int p2] 8 rfl rfl (c_Layers_hasSample l D cI cR cZ aM n M p1 p2 hr1) (cw_ML_130 C ⟨Nat.le_of_ble_eq_true rfl, Nat.le_of_ble_eq_true rfl⟩) [8, 9, 10, 11, 12, 13, 14] rfl rfl rfl (Nat.le_of_ble_eq_true rfl) d_ML_joined_26 (by decide) ?_
    refine j_if_ne C 42 d_ML_joined_29 (by decide) (fun c3 => ?_) (fun c3 => ?_)
    · replace h := (if_neg c3).symm.trans h
      refine j_aload_n C 0 d_ML_joined_42 rfl ?_
      refine gf_ML_37 C 0 (v := .ref (aM 0)) rfl rfl d_ML_joined_43 ?_
      refine j_iload_n C 1 d_ML_joined_46 rfl ?_
      refine j_iload_n C 2 d_ML_joined_47 rfl ?_
      obtain ⟨r2, hr2, h⟩ := bd_ok h
      refine j_PV C [.int p1, .int p2] 8 rfl rfl (c_Layers_joinedAt l D cI cR cZ aM n M p1 p2 hr2) (cw_ML_143 C ⟨Nat.le_of_ble_eq_true rfl, Nat.le_of_ble_eq_true rfl⟩) [8, 9, 10, 11, 12, 13, 14] rfl rfl rfl (Nat.le_of_ble_eq_true rfl) d_ML_joined_48 (by decide) ?_
      obtain rfl := Option.some.inj h
      exact j_pret C hr d_ML_joined_51
    · replace h := (if_pos c3).symm.trans h
      cases h
  · replace h := (if_pos c4).symm.trans h
    cases h
def ML_byteAt (n : Nat) (wd : Int32) (ht : Int32) (stp : Int32) (col : (Nat → Int32)) (msk : (Nat → Int32)) (bare : (Nat → Int32)) (M : LyS) (F : LyS) (Bw : ByS) (Bf : ByS) (pl : Int32) (rf : Int32) (hd : (Nat → Int32)) (p1 : Int32) : Option Int32 :=
  (ByteRow_holds Bw p1).bind fun r1 =>
  (if r1 = 0 then none
  else (ByteRow_valueAt Bw p1).bind fun r2 =>
  some r2)
set_option maxRecDepth 100000 in
set_option maxHeartbeats 4000000 in
theorem c_ML_byteAt (l : Launch) (D : va_G) (cI cR cZ : ClassId) (o0 : Nat) (hc : Nat) (hm : Nat) (om : Nat) (hb : Nat) (ow : Nat) (or_ : Nat) (hh : Nat) (aM : (Nat → Nat)) (aF : (Nat → Nat)) (bw : Nat) (qw : Nat) (bf : Nat) (qf : Nat) (n : Nat) (wd : Int32) (ht : Int32) (stp : Int32) (col : (Nat → Int32)) (msk : (Nat → Int32)) (bare : (Nat → Int32)) (M : LyS) (F : LyS) (Bw : ByS) (Bf : ByS) (pl : Int32) (rf : Int32) (hd : (Nat → Int32)) (p1 : Int32) {res : Int32} (h : ML_byteAt n wd ht stp col msk bare M F Bw Bf pl rf hd p1 = some res) : Met l y_ML_byteAt (Cond.code y_ML_byteAt b_ML_byteAt 2 (some .int) :: BIG) rm_ML_byteAt (PcP [.ref o0, .int p1] D (tyG cI cR cZ) (wML cI cR o0 hc hm om hb ow or_ hh aM aF bw qw bf qf n wd ht stp col msk bare M F Bw Bf pl rf hd)) (QcP res) 0 0 no := by
  refine met_P (by decide) (Nat.le_of_ble_eq_true rfl) (fun p e s m args below meth c C hr => ?_)
  have C : Cx p s m args meth c D (tyG cI cR cZ) b_ML_byteAt 2 "MaskLayers" := C
  have hr : meth.sig.returnType = some .int := hr
  show J p l e rm_ML_byteAt s m args below meth c D no (fun _ => True) 2 (MQ below (QcP res) args s 0 0 no) 0 0 (wML cI cR o0 hc hm om hb ow or_ hh aM aF bw qw bf qf n wd ht stp col msk bare M F Bw Bf pl rf hd) [(0, .ref o0), (1, .int p1)] [] 0
  unfold ML_byteAt at h
  refine j_aload_n C 0 d_ML_byteAt_0 rfl ?_
  refine gf_ML_47 C 0 (v := .ref bw) rfl rfl d_ML_byteAt_1 ?_
  refine j_iload_n C 1 d_ML_byteAt_4 rfl ?_
  obtain ⟨r1, hr1, h⟩ := bd_ok h
  refine j_PV C [.int p1] 22 rfl rfl (c_ByteRow_holds l D cI cR cZ bw qw Bw p1 hr1) (cw_ML_150 C ⟨Nat.le_of_ble_eq_true rfl, Nat.le_of_ble_eq_true rfl⟩) [22, 23] rfl rfl rfl (Nat.le_of_ble_eq_true rfl) d_ML_byteAt_5 (by decide) ?_
  refine j_if_ne C 21 d_ML_byteAt_8 (by decide) (fun c3 => ?_) (fun c3 => ?_)
  · replace h := (if_neg c3).symm.trans h
    refine j_aload_n C 0 d_ML_byteAt_21 rfl ?_
    refine gf_ML_47 C 0 (v := .ref bw) rfl rfl d_ML_byteAt_22 ?_
    refine j_iload_n C 1 d_ML_byteAt_25 rfl ?_
    obtain ⟨r2, hr2, h⟩ := bd_ok h
    refine j_PV C [.int p1] 22 rfl rfl (c_ByteRow_valueAt l D cI cR cZ bw qw Bw p1 hr2) (cw_ML_156 C ⟨Nat.le_of_ble_eq_true rfl, Nat.le_of_ble_eq_true rfl⟩) [22, 23] rfl rfl rfl (Nat.le_of_ble_eq_true rfl) d_ML_byteAt_26 (by decide) ?_
    obtain rfl := Option.some.inj h
    exact j_pret C hr d_ML_byteAt_29
  · replace h := (if_pos c3).symm.trans h
    cases h
def ML_at (n : Nat) (wd : Int32) (ht : Int32) (stp : Int32) (col : (Nat → Int32)) (msk : (Nat → Int32)) (bare : (Nat → Int32)) (M : LyS) (F : LyS) (Bw : ByS) (Bf : ByS) (pl : Int32) (rf : Int32) (hd : (Nat → Int32)) (p1 : Int32) (p2 : Int32) : Option Int32 :=
  (if (F.1 3) = 0 then none
  else (Layers_hasSample 576 F p1 p2).bind fun r1 =>
  (if r1 = 0 then none
  else (Layers_exactAt 576 F p1 p2).bind fun r2 =>
  some r2))
set_option maxRecDepth 100000 in
set_option maxHeartbeats 4000000 in
theorem c_ML_at (l : Launch) (D : va_G) (cI cR cZ : ClassId) (o0 : Nat) (hc : Nat) (hm : Nat) (om : Nat) (hb : Nat) (ow : Nat) (or_ : Nat) (hh : Nat) (aM : (Nat → Nat)) (aF : (Nat → Nat)) (bw : Nat) (qw : Nat) (bf : Nat) (qf : Nat) (n : Nat) (wd : Int32) (ht : Int32) (stp : Int32) (col : (Nat → Int32)) (msk : (Nat → Int32)) (bare : (Nat → Int32)) (M : LyS) (F : LyS) (Bw : ByS) (Bf : ByS) (pl : Int32) (rf : Int32) (hd : (Nat → Int32)) (p1 : Int32) (p2 : Int32) {res : Int32} (h : ML_at n wd ht stp col msk bare M F Bw Bf pl rf hd p1 p2 = some res) : Met l y_ML_at (Cond.code y_ML_at b_ML_at 3 (some .int) :: BIG) rm_ML_at (PcP [.ref o0, .int p1, .int p2] D (tyG cI cR cZ) (wML cI cR o0 hc hm om hb ow or_ hh aM aF bw qw bf qf n wd ht stp col msk bare M F Bw Bf pl rf hd)) (QcP res) 0 0 no := by
  refine met_P (by decide) (Nat.le_of_ble_eq_true rfl) (fun p e s m args below meth c C hr => ?_)
  have C : Cx p s m args meth c D (tyG cI cR cZ) b_ML_at 3 "MaskLayers" := C
  have hr : meth.sig.returnType = some .int := hr
  show J p l e rm_ML_at s m args below meth c D no (fun _ => True) 3 (MQ below (QcP res) args s 0 0 no) 0 0 (wML cI cR o0 hc hm om hb ow or_ hh aM aF bw qw bf qf n wd ht stp col msk bare M F Bw Bf pl rf hd) [(0, .ref o0), (1, .int p1), (2, .int p2)] [] 0
  unfold ML_at at h
  refine j_aload_n C 0 d_ML_at_0 rfl ?_
  refine gf_ML_41 C 0 (v := .ref (aF 0)) rfl rfl d_ML_at_1 ?_
  refine gf_ML_122 C 15 (v := .int (F.1 3)) rfl rfl d_ML_at_4 ?_
  refine j_if_ne C 20 d_ML_at_7 (by decide) (fun c4 => ?_) (fun c4 => ?_)
  · replace h := (if_neg c4).symm.trans h
    refine j_aload_n C 0 d_ML_at_20 rfl ?_
    refine gf_ML_41 C 0 (v := .ref (aF 0)) rfl rfl d_ML_at_21 ?_
    refine j_iload_n C 1 d_ML_at_24 rfl ?_
    refine j_iload_n C 2 d_ML_at_25 rfl ?_
    obtain ⟨r1, hr1, h⟩ := bd_ok h
    refine j_PV C [.int p1, .int p2] 15 rfl rfl (c_Layers_hasSample l D cI cR cZ aF 576 F p1 p2 hr1) (cw_ML_130 C ⟨Nat.le_of_ble_eq_true rfl, Nat.le_of_ble_eq_true rfl⟩) [15, 16, 17, 18, 19, 20, 21] rfl rfl rfl (Nat.le_of_ble_eq_true rfl) d_ML_at_26 (by decide) ?_
    refine j_if_ne C 42 d_ML_at_29 (by decide) (fun c3 => ?_) (fun c3 => ?_)
    · replace h := (if_neg c3).symm.trans h
      refine j_aload_n C 0 d_ML_at_42 rfl ?_
      refine gf_ML_41 C 0 (v := .ref (aF 0)) rfl rfl d_ML_at_43 ?_
      refine j_iload_n C 1 d_ML_at_46 rfl ?_
      refine j_iload_n C 2 d_ML_at_47 rfl ?_
      obtain ⟨r2, hr2, h⟩ := bd_ok h
      refine j_PV C [.int p1, .int p2] 15 rfl rfl (c_Layers_exactAt l D cI cR cZ aF 576 F p1 p2 hr2) (cw_ML_186 C ⟨Nat.le_of_ble_eq_true rfl, Nat.le_of_ble_eq_true rfl⟩) [15, 16, 17, 18, 19, 20, 21] rfl rfl rfl (Nat.le_of_ble_eq_true rfl) d_ML_at_48 (by decide) ?_
      obtain rfl := Option.some.inj h
      exact j_pret C hr d_ML_at_51
    · replace h := (if_pos c3).symm.trans h
      cases h
  · replace h := (if_pos c4).symm.trans h
    cases h
def ML_told (fu : Nat) (n : Nat) (wd : Int32) (ht : Int32) (stp : Int32) (col : (Nat → Int32)) (msk : (Nat → Int32)) (bare : (Nat → Int32)) (M : LyS) (F : LyS) (Bw : ByS) (Bf : ByS) (pl : Int32) (rf : Int32) (hd : (Nat → Int32)) (p1 : Int32) : Option Int32 :=
  (if p1 = 0 then some wd
  else (if p1 = 1 then some ht
  else (if p1 = 2 then (ML_parts ht stp).bind fun r3 =>
  some r3
  else (if p1 = 3 then (ML_maskedSamples fu n wd ht stp col msk bare M F Bw Bf pl rf hd).bind fun r5 =>
  some r5
  else (if p1 = 4 then some Bw.1
  else (if p1 = 5 then some Bf.1
  else (if p1 = 6 then (if (F.1 3) = 0 then some 0
  else some (F.1 0))
  else (if p1 = 7 then (if (F.1 3) = 0 then some 0
  else some (F.1 1))
  else (if p1 = 8 then some (M.1 3)
  else some ((-1)))))))))))
set_option maxRecDepth 100000 in
set_option maxHeartbeats 4000000 in
theorem c_ML_told (l : Launch) (D : va_G) (cI cR cZ : ClassId) (fu : Nat) (o0 : Nat) (hc : Nat) (hm : Nat) (om : Nat) (hb : Nat) (ow : Nat) (or_ : Nat) (hh : Nat) (aM : (Nat → Nat)) (aF : (Nat → Nat)) (bw : Nat) (qw : Nat) (bf : Nat) (qf : Nat) (n : Nat) (wd : Int32) (ht : Int32) (stp : Int32) (col : (Nat → Int32)) (msk : (Nat → Int32)) (bare : (Nat → Int32)) (M : LyS) (F : LyS) (Bw : ByS) (Bf : ByS) (pl : Int32) (rf : Int32) (hd : (Nat → Int32)) (p1 : Int32) {res : Int32} (h : ML_told fu n wd ht stp col msk bare M F Bw Bf pl rf hd p1 = some res) : Met l y_ML_told (Cond.code y_ML_told b_ML_told 2 (some .int) :: BIG) rm_ML_told (PcP [.ref o0, .int p1] D (tyG cI cR cZ) (wML cI cR o0 hc hm om hb ow or_ hh aM aF bw qw bf qf n wd ht stp col msk bare M F Bw Bf pl rf hd)) (QcP res) 0 0 no := by
  refine met_P (by decide) (Nat.le_of_ble_eq_true rfl) (fun p e s m args below meth c C hr => ?_)
  have C : Cx p s m args meth c D (tyG cI cR cZ) b_ML_told 2 "MaskLayers" := C
  have hr : meth.sig.returnType = some .int := hr
  show J p l e rm_ML_told s m args below meth c D no (fun _ => True) 2 (MQ below (QcP res) args s 0 0 no) 0 0 (wML cI cR o0 hc hm om hb ow or_ hh aM aF bw qw bf qf n wd ht stp col msk bare M F Bw Bf pl rf hd) [(0, .ref o0), (1, .int p1)] [] 0
  unfold ML_told at h
  refine j_iload_n C 1 d_ML_told_0 rfl ?_
  by_cases c1 : p1 = 0
  · replace h := (if_pos c1).symm.trans h
    refine j_tabIn C 52 d_ML_told_1 (by rw [c1]; decide) (by rw [c1]; decide) (off := 51) (by rw [c1]; rfl) (by decide) ?_
    refine j_aload_n C 0 d_ML_told_52 rfl ?_
    refine gf_ML_18 C 0 (v := .int wd) rfl rfl d_ML_told_53 ?_
    obtain rfl := Option.some.inj h
    exact j_pret C hr d_ML_told_56
  replace h := (if_neg c1).symm.trans h
  by_cases c2 : p1 = 1
  · replace h := (if_pos c2).symm.trans h
    refine j_tabIn C 57 d_ML_told_1 (by rw [c2]; decide) (by rw [c2]; decide) (off := 56) (by rw [c2]; rfl) (by decide) ?_
    refine j_aload_n C 0 d_ML_told_57 rfl ?_
    refine gf_ML_22 C 0 (v := .int ht) rfl rfl d_ML_told_58 ?_
    obtain rfl := Option.some.inj h
    exact j_pret C hr d_ML_told_61
  replace h := (if_neg c2).symm.trans h
  by_cases c4 : p1 = 2
  · replace h := (if_pos c4).symm.trans h
    refine j_tabIn C 62 d_ML_told_1 (by rw [c4]; decide) (by rw [c4]; decide) (off := 61) (by rw [c4]; rfl) (by decide) ?_
    refine j_aload_n C 0 d_ML_told_62 rfl ?_
    refine gf_ML_22 C 0 (v := .int ht) rfl rfl d_ML_told_63 ?_
    refine j_aload_n C 0 d_ML_told_66 rfl ?_
    refine gf_ML_81 C 0 (v := .int stp) rfl rfl d_ML_told_67 ?_
    obtain ⟨r3, hr3, h⟩ := bd_ok h
    refine j_PS C [.int ht, .int stp] (c_ML_parts l D cI cR cZ ht stp hr3) (cw_ML_109 C ⟨Nat.le_of_ble_eq_true rfl, Nat.le_of_ble_eq_true rfl⟩) [] rfl rfl rfl (Nat.le_of_ble_eq_true rfl) d_ML_told_70 (by decide) ?_
    obtain rfl := Option.some.inj h
    exact j_pret C hr d_ML_told_73
  replace h := (if_neg c4).symm.trans h
  by_cases c6 : p1 = 3
  · replace h := (if_pos c6).symm.trans h
    refine j_tabIn C 74 d_ML_told_1 (by rw [c6]; decide) (by rw [c6]; decide) (off := 73) (by rw [c6]; rfl) (by decide) ?_
    refine j_aload_n C 0 d_ML_told_74 rfl ?_
    obtain ⟨r5, hr5, h⟩ := bd_ok h
    refine j_PV C [] 0 rfl rfl (c_ML_maskedSamples l D cI cR cZ fu o0 hc hm om hb ow or_ hh aM aF bw qw bf qf n wd ht stp col msk bare M F Bw Bf pl rf hd hr5) (cw_ML_189 C ⟨Nat.le_of_ble_eq_true rfl, Nat.le_of_ble_eq_true rfl⟩) [0, 1, 2, 3, 4, 5, 6, 7, 8, 9, 10, 11, 12, 13, 14, 15, 16, 17, 18, 19, 20, 21, 22, 23, 24, 25] rfl rfl rfl (Nat.le_of_ble_eq_true rfl) d_ML_told_75 (by decide) ?_
    obtain rfl := Option.some.inj h
    exact j_pret C hr d_ML_told_78
  replace h := (if_neg c6).symm.trans h
  by_cases c7 : p1 = 4
  · replace h := (if_pos c7).symm.trans h
    refine j_tabIn C 79 d_ML_told_1 (by rw [c7]; decide) (by rw [c7]; decide) (off := 78) (by rw [c7]; rfl) (by decide) ?_
    refine j_aload_n C 0 d_ML_told_79 rfl ?_
    refine gf_ML_47 C 0 (v := .ref bw) rfl rfl d_ML_told_80 ?_
    refine gf_ML_175 C 22 (v := .int Bw.1) rfl rfl d_ML_told_83 ?_
    obtain rfl := Option.some.inj h
    exact j_pret C hr d_ML_told_86
  replace h := (if_neg c7).symm.trans h
  by_cases c8 : p1 = 5
  · replace h := (if_pos c8).symm.trans h
    refine j_tabIn C 87 d_ML_told_1 (by rw [c8]; decide) (by rw [c8]; decide) (off := 86) (by rw [c8]; rfl) (by decide) ?_
    refine j_aload_n C 0 d_ML_told_87 rfl ?_
    refine gf_ML_51 C 0 (v := .ref bf) rfl rfl d_ML_told_88 ?_
    refine gf_ML_175 C 24 (v := .int Bf.1) rfl rfl d_ML_told_91 ?_
    obtain rfl := Option.some.inj h
    exact j_pret C hr d_ML_told_94
  replace h := (if_neg c8).symm.trans h
  by_cases c10 : p1 = 6
  · replace h := (if_pos c10).symm.trans h
    refine j_tabIn C 95 d_ML_told_1 (by rw [c10]; decide) (by rw [c10]; decide) (off := 94) (by rw [c10]; rfl) (by decide) ?_
    refine j_aload_n C 0 d_ML_told_95 rfl ?_
    refine gf_ML_41 C 0 (v := .ref (aF 0)) rfl rfl d_ML_told_96 ?_
    refine gf_ML_122 C 15 (v := .int (F.1 3)) rfl rfl d_ML_told_99 ?_
    refine j_if_ne C 109 d_ML_told_102 (by decide) (fun c9 => ?_) (fun c9 => ?_)
    · replace h := (if_neg c9).symm.trans h
      refine j_aload_n C 0 d_ML_told_109 rfl ?_
      refine gf_ML_41 C 0 (v := .ref (aF 0)) rfl rfl d_ML_told_110 ?_
      refine gf_ML_192 C 15 (v := .int (F.1 0)) rfl rfl d_ML_told_113 ?_
      obtain rfl := Option.some.inj h
      exact j_pret C hr d_ML_told_116
    · replace h := (if_pos c9).symm.trans h
      refine j_iconst C (v := 0) d_ML_told_105 (by decide) ?_
      refine j_goto C 116 d_ML_told_106 (by decide) ?_
      obtain rfl := Option.some.inj h
      exact j_pret C hr d_ML_told_116
  replace h := (if_neg c10).symm.trans h
  by_cases c12 : p1 = 7
  · replace h := (if_pos c12).symm.trans h
    refine j_tabIn C 117 d_ML_told_1 (by rw [c12]; decide) (by rw [c12]; decide) (off := 116) (by rw [c12]; rfl) (by decide) ?_
    refine j_aload_n C 0 d_ML_told_117 rfl ?_
    refine gf_ML_41 C 0 (v := .ref (aF 0)) rfl rfl d_ML_told_118 ?_
    refine gf_ML_122 C 15 (v := .int (F.1 3)) rfl rfl d_ML_told_121 ?_
    refine j_if_ne C 131 d_ML_told_124 (by decide) (fun c11 => ?_) (fun c11 => ?_)
    · replace h := (if_neg c11).symm.trans h
      refine j_aload_n C 0 d_ML_told_131 rfl ?_
      refine gf_ML_41 C 0 (v := .ref (aF 0)) rfl rfl d_ML_told_132 ?_
      refine gf_ML_193 C 15 (v := .int (F.1 1)) rfl rfl d_ML_told_135 ?_
      obtain rfl := Option.some.inj h
      exact j_pret C hr d_ML_told_138
    · replace h := (if_pos c11).symm.trans h
      refine j_iconst C (v := 0) d_ML_told_127 (by decide) ?_
      refine j_goto C 138 d_ML_told_128 (by decide) ?_
      obtain rfl := Option.some.inj h
      exact j_pret C hr d_ML_told_138
  replace h := (if_neg c12).symm.trans h
  by_cases c13 : p1 = 8
  · replace h := (if_pos c13).symm.trans h
    refine j_tabIn C 139 d_ML_told_1 (by rw [c13]; decide) (by rw [c13]; decide) (off := 138) (by rw [c13]; rfl) (by decide) ?_
    refine j_aload_n C 0 d_ML_told_139 rfl ?_
    refine gf_ML_37 C 0 (v := .ref (aM 0)) rfl rfl d_ML_told_140 ?_
    refine gf_ML_122 C 8 (v := .int (M.1 3)) rfl rfl d_ML_told_143 ?_
    obtain rfl := Option.some.inj h
    exact j_pret C hr d_ML_told_146
  replace h := (if_neg c13).symm.trans h
  refine j_tabOut C 147 d_ML_told_1 (tab_no (n := 8) (by decide) (by intro k hk; rcases (by omega : k = 0 ∨ k = 1 ∨ k = 2 ∨ k = 3 ∨ k = 4 ∨ k = 5 ∨ k = 6 ∨ k = 7 ∨ k = 8) with rfl | rfl | rfl | rfl | rfl | rfl | rfl | rfl | rfl <;> first | exact c1 | exact c2 | exact c4 | exact c6 | exact c7 | exact c8 | exact c10 | exact c12 | exact c13)) (by decide) ?_
  refine j_iconst C (v := (-1)) d_ML_told_147 (by decide) ?_
  obtain rfl := Option.some.inj h
  exact j_pret C hr d_ML_told_148
