def ML_change_msk_l33 (n : Nat) (wd : Int32) (ht : Int32) (stp : Int32) (col : (Nat → Int32)) (bare : (Nat → Int32)) (M : LyS) (F : LyS) (Bw : ByS) (Bf : ByS) (pl : Int32) (rf : Int32) (hd : (Nat → Int32)) (v5 : Int32) (v8 : Int32) : Nat → Int32 → Int32 → (Nat → Int32) → Option (Nat × Int32 × (Nat → Int32))
  | 0, _, _, _ => none
  | k + 1, v6, v9, msk =>
  (if v8 ≤ v9 then some (0, v6, msk)
  else gd v9 n ((if (msk v9.toNatClampNeg) = v5 then ML_change_msk_l33 n wd ht stp col bare M F Bw Bf pl rf hd v5 v8 k v6 (v9 + 1) msk
  else gd v9 n (ML_change_msk_l33 n wd ht stp col bare M F Bw Bf pl rf hd v5 v8 k (v6 + 1) (v9 + 1) (upd msk v9.toNatClampNeg v5)))))
def ML_change_msk (fu : Nat) (n : Nat) (wd : Int32) (ht : Int32) (stp : Int32) (col : (Nat → Int32)) (msk : (Nat → Int32)) (bare : (Nat → Int32)) (M : LyS) (F : LyS) (Bw : ByS) (Bf : ByS) (pl : Int32) (rf : Int32) (hd : (Nat → Int32)) (p2 : Int32) (p3 : Int32) (p4 : Int32) (p5 : Int32) : Option (Int32 × (Nat → Int32)) :=
  (ML_change_msk_l33 n wd ht stp col bare M F Bw Bf pl rf hd p5 (((p3 * wd) + p2) + (mn p4 (wd - p2))) fu 0 ((p3 * wd) + p2) msk).bind fun r5 =>
  some (r5.2.1, r5.2.2)
set_option maxRecDepth 100000 in
set_option maxHeartbeats 4000000 in
theorem t_ML_change_msk_l33 {p : Program} {l : Launch} {e : Env} {s : State} {m : MethodId} {args : Array Value} {below : List Frame} {meth : Method} {c : Code} {D : va_G} {cI cR cZ : ClassId} {A : Nat → Prop} {Q : State → Prop} (C : Cx p s m args meth c D (tyG cI cR cZ) b_ML_change 10 "MaskLayers") (hA : ∀ q : Nat, s.heap.size ≤ q → A q) {o0 : Nat} {hc : Nat} {hm : Nat} {om : Nat} {hb : Nat} {ow : Nat} {or_ : Nat} {hh : Nat} {aM : (Nat → Nat)} {aF : (Nat → Nat)} {bw : Nat} {qw : Nat} {bf : Nat} {qf : Nat} {n : Nat} {wd : Int32} {ht : Int32} {stp : Int32} {col : (Nat → Int32)} {bare : (Nat → Int32)} {M : LyS} {F : LyS} {Bw : ByS} {Bf : ByS} {pl : Int32} {rf : Int32} {hd : (Nat → Int32)} {v5 : Int32} {v8 : Int32} {out : Nat × Int32 × (Nat → Int32)} : ∀ (k : Nat) (v6 : Int32) (v9 : Int32) (msk : (Nat → Int32)), ML_change_msk_l33 n wd ht stp col bare M F Bw Bf pl rf hd v5 v8 k v6 v9 msk = some out → (out.1 = 0 → J p l e rm_ML_change_msk s m args below meth c D A (va_D A) 10 Q 0 0 (wML cI cR o0 hc hm om hb ow or_ hh aM aF bw qw bf qf n wd ht stp col out.2.2 bare M F Bw Bf pl rf hd) [(6, .int out.2.1)] [] 64) → J p l e rm_ML_change_msk s m args below meth c D A (va_D A) 10 Q 0 0 (wML cI cR o0 hc hm om hb ow or_ hh aM aF bw qw bf qf n wd ht stp col msk bare M F Bw Bf pl rf hd) [(1, .ref hm), (5, .int v5), (6, .int v6), (8, .int v8), (9, .int v9)] [] 33 := by
  intro k
  induction k with
  | zero => intro v6 v9 msk h; cases (show none = some out from h)
  | succ k ih =>
    intro v6 v9 msk h x0
    rw [ML_change_msk_l33] at h
    refine j_iload C 4 d_ML_change_33 rfl ?_
    refine j_iload C 3 d_ML_change_35 rfl ?_
    refine j_icmp_ge C 64 d_ML_change_37 (by decide) (fun c4 => ?_) (fun c4 => ?_)
    · replace h := (if_pos c4).symm.trans h
      obtain rfl := Option.some.inj h
      refine j_sub [2] rfl ?_
      exact x0 rfl
    · replace h := (if_neg c4).symm.trans h
      refine j_aload_n C 0 d_ML_change_40 rfl ?_
      refine j_iload C 4 d_ML_change_41 rfl ?_
      obtain ⟨b1, h⟩ := gd_ok h
      refine j_iald C (2) (t0 := 0) rfl rfl b1 d_ML_change_43 ?_
      refine j_iload C 1 d_ML_change_44 rfl ?_
      refine j_icmp_eq C 58 d_ML_change_46 (by decide) (fun c3 => ?_) (fun c3 => ?_)
      · replace h := (if_pos c3).symm.trans h
        refine j_iinc C [(9, .int (v9 + 1)), (1, .ref hm), (5, .int v5), (6, .int v6), (8, .int v8)] 4 (v9 + 1) d_ML_change_58 rfl rfl (by decide) rfl ?_
        refine j_goto C 33 d_ML_change_61 (by decide) ?_
        refine j_sub [1, 2, 3, 4, 0] rfl ?_
        exact ih v6 (v9 + 1) msk h x0
      · replace h := (if_neg c3).symm.trans h
        refine j_aload_n C 0 d_ML_change_49 rfl ?_
        refine j_iload C 4 d_ML_change_50 rfl ?_
        refine j_iload C 1 d_ML_change_52 rfl ?_
        obtain ⟨b2, h⟩ := gd_ok h
        refine j_iast C (2) (wML cI cR o0 hc hm om hb ow or_ hh aM aF bw qw bf qf n wd ht stp col (upd msk v9.toNatClampNeg v5) bare M F Bw Bf pl rf hd) (t0 := 0) rfl rfl rfl b2 d_ML_change_54 ?_
        refine j_iinc C [(6, .int (v6 + 1)), (1, .ref hm), (5, .int v5), (8, .int v8), (9, .int v9)] 2 (v6 + 1) d_ML_change_55 rfl rfl (by decide) rfl ?_
        refine j_iinc C [(9, .int (v9 + 1)), (6, .int (v6 + 1)), (1, .ref hm), (5, .int v5), (8, .int v8)] 4 (v9 + 1) d_ML_change_58 rfl rfl (by decide) rfl ?_
        refine j_goto C 33 d_ML_change_61 (by decide) ?_
        refine j_sub [2, 3, 1, 4, 0] rfl ?_
        exact ih (v6 + 1) (v9 + 1) (upd msk v9.toNatClampNeg v5) h x0
set_option maxRecDepth 100000 in
set_option maxHeartbeats 4000000 in
theorem c_ML_change_msk (l : Launch) (D : va_G) (cI cR cZ : ClassId) (fu : Nat) (o0 : Nat) (hc : Nat) (hm : Nat) (om : Nat) (hb : Nat) (ow : Nat) (or_ : Nat) (hh : Nat) (aM : (Nat → Nat)) (aF : (Nat → Nat)) (bw : Nat) (qw : Nat) (bf : Nat) (qf : Nat) (n : Nat) (wd : Int32) (ht : Int32) (stp : Int32) (col : (Nat → Int32)) (msk : (Nat → Int32)) (bare : (Nat → Int32)) (M : LyS) (F : LyS) (Bw : ByS) (Bf : ByS) (pl : Int32) (rf : Int32) (hd : (Nat → Int32)) (p2 : Int32) (p3 : Int32) (p4 : Int32) (p5 : Int32) {res : (Int32 × (Nat → Int32))} (h : ML_change_msk fu n wd ht stp col msk bare M F Bw Bf pl rf hd p2 p3 p4 p5 = some res) (sz : Nat) : Met l y_ML_change (Cond.code y_ML_change b_ML_change 10 (some .int) :: BIG) rm_ML_change_msk (PcI [.ref o0, .ref hm, .int p2, .int p3, .int p4, .int p5] D (tyG cI cR cZ) (wML cI cR o0 hc hm om hb ow or_ hh aM aF bw qw bf qf n wd ht stp col msk bare M F Bw Bf pl rf hd) sz) (QcI D res.1 (fun _ : Nat => wML cI cR o0 hc hm om hb ow or_ hh aM aF bw qw bf qf n wd ht stp col res.2 bare M F Bw Bf pl rf hd) (va_A (wML cI cR o0 hc hm om hb ow or_ hh aM aF bw qw bf qf n wd ht stp col msk bare M F Bw Bf pl rf hd) sz)) 0 0 (va_A (wML cI cR o0 hc hm om hb ow or_ hh aM aF bw qw bf qf n wd ht stp col msk bare M F Bw Bf pl rf hd) sz) := by
  refine met_I (by decide) (Nat.le_of_ble_eq_true rfl) (fun p e s m args below meth c A hA C hr => ?_)
  have C : Cx p s m args meth c D (tyG cI cR cZ) b_ML_change 10 "MaskLayers" := C
  have hr : meth.sig.returnType = some .int := hr
  show J p l e rm_ML_change_msk s m args below meth c D A (va_D A) 10 (MQ below (QcI D res.1 (fun _ : Nat => wML cI cR o0 hc hm om hb ow or_ hh aM aF bw qw bf qf n wd ht stp col res.2 bare M F Bw Bf pl rf hd) A) args s 0 0 A) 0 0 (wML cI cR o0 hc hm om hb ow or_ hh aM aF bw qw bf qf n wd ht stp col msk bare M F Bw Bf pl rf hd) [(0, .ref o0), (1, .ref hm), (2, .int p2), (3, .int p3), (4, .int p4), (5, .int p5)] [] 0
  unfold ML_change_msk at h
  refine j_iconst C (v := 0) d_ML_change_0 (by decide) ?_
  refine j_istore C [(6, .int 0), (0, .ref o0), (1, .ref hm), (2, .int p2), (3, .int p3), (4, .int p4), (5, .int p5)] d_ML_change_1 (by decide) rfl ?_
  refine j_iload_n C 4 d_ML_change_3 rfl ?_
  refine j_aload_n C 1 d_ML_change_4 rfl ?_
  refine gf_ML_18 C 0 (v := .int wd) rfl rfl d_ML_change_5 ?_
  refine j_imul C d_ML_change_8 ?_
  refine j_iload_n C 3 d_ML_change_9 rfl ?_
  refine j_iadd C d_ML_change_10 ?_
  refine j_istore C [(7, .int ((p3 * wd) + p2)), (6, .int 0), (0, .ref o0), (1, .ref hm), (2, .int p2), (3, .int p3), (4, .int p4), (5, .int p5)] d_ML_change_11 (by decide) rfl ?_
  refine j_iload C 0 d_ML_change_13 rfl ?_
  refine j_iload C 6 d_ML_change_15 rfl ?_
  refine j_aload_n C 2 d_ML_change_17 rfl ?_
  refine gf_ML_18 C 0 (v := .int wd) rfl rfl d_ML_change_18 ?_
  refine j_iload_n C 4 d_ML_change_21 rfl ?_
  refine j_isub C d_ML_change_22 ?_
  refine j_mmin C mw_ML_9 (Nat.le_of_ble_eq_true rfl) (Nat.le_of_ble_eq_true rfl) (by decide) d_ML_change_23 ?_
  refine j_iadd C d_ML_change_26 ?_
  refine j_istore C [(8, .int (((p3 * wd) + p2) + (mn p4 (wd - p2)))), (7, .int ((p3 * wd) + p2)), (6, .int 0), (0, .ref o0), (1, .ref hm), (2, .int p2), (3, .int p3), (4, .int p4), (5, .int p5)] d_ML_change_27 (by decide) rfl ?_
  refine j_iload C 1 d_ML_change_29 rfl ?_
  refine j_istore C [(9, .int ((p3 * wd) + p2)), (8, .int (((p3 * wd) + p2) + (mn p4 (wd - p2)))), (7, .int ((p3 * wd) + p2)), (6, .int 0), (0, .ref o0), (1, .ref hm), (2, .int p2), (3, .int p3), (4, .int p4), (5, .int p5)] d_ML_change_31 (by decide) rfl ?_
  obtain ⟨r5, hr5, h⟩ := bd_ok h
  refine j_sub [5, 9, 3, 1, 0] rfl ?_
  refine t_ML_change_msk_l33 C hA fu 0 ((p3 * wd) + p2) msk hr5 (fun e6 => ?_)
  · refine j_iload C 0 d_ML_change_64 rfl ?_
    obtain rfl := Option.some.inj h
    exact j_iret C hr d_ML_change_66 0 rfl
def ML_change_col_l33 (n : Nat) (wd : Int32) (ht : Int32) (stp : Int32) (msk : (Nat → Int32)) (bare : (Nat → Int32)) (M : LyS) (F : LyS) (Bw : ByS) (Bf : ByS) (pl : Int32) (rf : Int32) (hd : (Nat → Int32)) (v5 : Int32) (v8 : Int32) : Nat → Int32 → Int32 → (Nat → Int32) → Option (Nat × Int32 × (Nat → Int32))
  | 0, _, _, _ => none
  | k + 1, v6, v9, col =>
  (if v8 ≤ v9 then some (0, v6, col)
  else gd v9 n ((if (col v9.toNatClampNeg) = v5 then ML_change_col_l33 n wd ht stp msk bare M F Bw Bf pl rf hd v5 v8 k v6 (v9 + 1) col
  else gd v9 n (ML_change_col_l33 n wd ht stp msk bare M F Bw Bf pl rf hd v5 v8 k (v6 + 1) (v9 + 1) (upd col v9.toNatClampNeg v5)))))
def ML_change_col (fu : Nat) (n : Nat) (wd : Int32) (ht : Int32) (stp : Int32) (col : (Nat → Int32)) (msk : (Nat → Int32)) (bare : (Nat → Int32)) (M : LyS) (F : LyS) (Bw : ByS) (Bf : ByS) (pl : Int32) (rf : Int32) (hd : (Nat → Int32)) (p2 : Int32) (p3 : Int32) (p4 : Int32) (p5 : Int32) : Option (Int32 × (Nat → Int32)) :=
  (ML_change_col_l33 n wd ht stp msk bare M F Bw Bf pl rf hd p5 (((p3 * wd) + p2) + (mn p4 (wd - p2))) fu 0 ((p3 * wd) + p2) col).bind fun r5 =>
  some (r5.2.1, r5.2.2)
set_option maxRecDepth 100000 in
set_option maxHeartbeats 4000000 in
theorem t_ML_change_col_l33 {p : Program} {l : Launch} {e : Env} {s : State} {m : MethodId} {args : Array Value} {below : List Frame} {meth : Method} {c : Code} {D : va_G} {cI cR cZ : ClassId} {A : Nat → Prop} {Q : State → Prop} (C : Cx p s m args meth c D (tyG cI cR cZ) b_ML_change 10 "MaskLayers") (hA : ∀ q : Nat, s.heap.size ≤ q → A q) {o0 : Nat} {hc : Nat} {hm : Nat} {om : Nat} {hb : Nat} {ow : Nat} {or_ : Nat} {hh : Nat} {aM : (Nat → Nat)} {aF : (Nat → Nat)} {bw : Nat} {qw : Nat} {bf : Nat} {qf : Nat} {n : Nat} {wd : Int32} {ht : Int32} {stp : Int32} {msk : (Nat → Int32)} {bare : (Nat → Int32)} {M : LyS} {F : LyS} {Bw : ByS} {Bf : ByS} {pl : Int32} {rf : Int32} {hd : (Nat → Int32)} {v5 : Int32} {v8 : Int32} {out : Nat × Int32 × (Nat → Int32)} : ∀ (k : Nat) (v6 : Int32) (v9 : Int32) (col : (Nat → Int32)), ML_change_col_l33 n wd ht stp msk bare M F Bw Bf pl rf hd v5 v8 k v6 v9 col = some out → (out.1 = 0 → J p l e rm_ML_change_col s m args below meth c D A (va_D A) 10 Q 0 0 (wML cI cR o0 hc hm om hb ow or_ hh aM aF bw qw bf qf n wd ht stp out.2.2 msk bare M F Bw Bf pl rf hd) [(6, .int out.2.1)] [] 64) → J p l e rm_ML_change_col s m args below meth c D A (va_D A) 10 Q 0 0 (wML cI cR o0 hc hm om hb ow or_ hh aM aF bw qw bf qf n wd ht stp col msk bare M F Bw Bf pl rf hd) [(1, .ref hc), (5, .int v5), (6, .int v6), (8, .int v8), (9, .int v9)] [] 33 := by
  intro k
  induction k with
  | zero => intro v6 v9 col h; cases (show none = some out from h)
  | succ k ih =>
    intro v6 v9 col h x0
    rw [ML_change_col_l33] at h
    refine j_iload C 4 d_ML_change_33 rfl ?_
    refine j_iload C 3 d_ML_change_35 rfl ?_
    refine j_icmp_ge C 64 d_ML_change_37 (by decide) (fun c4 => ?_) (fun c4 => ?_)
    · replace h := (if_pos c4).symm.trans h
      obtain rfl := Option.some.inj h
      refine j_sub [2] rfl ?_
      exact x0 rfl
    · replace h := (if_neg c4).symm.trans h
      refine j_aload_n C 0 d_ML_change_40 rfl ?_
      refine j_iload C 4 d_ML_change_41 rfl ?_
      obtain ⟨b1, h⟩ := gd_ok h
      refine j_iald C (1) (t0 := 0) rfl rfl b1 d_ML_change_43 ?_
      refine j_iload C 1 d_ML_change_44 rfl ?_
      refine j_icmp_eq C 58 d_ML_change_46 (by decide) (fun c3 => ?_) (fun c3 => ?_)
      · replace h := (if_pos c3).symm.trans h
        refine j_iinc C [(9, .int (v9 + 1)), (1, .ref hc), (5, .int v5), (6, .int v6), (8, .int v8)] 4 (v9 + 1) d_ML_change_58 rfl rfl (by decide) rfl ?_
        refine j_goto C 33 d_ML_change_61 (by decide) ?_
        refine j_sub [1, 2, 3, 4, 0] rfl ?_
        exact ih v6 (v9 + 1) col h x0
      · replace h := (if_neg c3).symm.trans h
        refine j_aload_n C 0 d_ML_change_49 rfl ?_
        refine j_iload C 4 d_ML_change_50 rfl ?_
        refine j_iload C 1 d_ML_change_52 rfl ?_
        obtain ⟨b2, h⟩ := gd_ok h
        refine j_iast C (1) (wML cI cR o0 hc hm om hb ow or_ hh aM aF bw qw bf qf n wd ht stp (upd col v9.toNatClampNeg v5) msk bare M F Bw Bf pl rf hd) (t0 := 0) rfl rfl rfl b2 d_ML_change_54 ?_
        refine j_iinc C [(6, .int (v6 + 1)), (1, .ref hc), (5, .int v5), (8, .int v8), (9, .int v9)] 2 (v6 + 1) d_ML_change_55 rfl rfl (by decide) rfl ?_
        refine j_iinc C [(9, .int (v9 + 1)), (6, .int (v6 + 1)), (1, .ref hc), (5, .int v5), (8, .int v8)] 4 (v9 + 1) d_ML_change_58 rfl rfl (by decide) rfl ?_
        refine j_goto C 33 d_ML_change_61 (by decide) ?_
        refine j_sub [2, 3, 1, 4, 0] rfl ?_
        exact ih (v6 + 1) (v9 + 1) (upd col v9.toNatClampNeg v5) h x0
set_option maxRecDepth 100000 in
set_option maxHeartbeats 4000000 in
theorem c_ML_change_col (l : Launch) (D : va_G) (cI cR cZ : ClassId) (fu : Nat) (o0 : Nat) (hc : Nat) (hm : Nat) (om : Nat) (hb : Nat) (ow : Nat) (or_ : Nat) (hh : Nat) (aM : (Nat → Nat)) (aF : (Nat → Nat)) (bw : Nat) (qw : Nat) (bf : Nat) (qf : Nat) (n : Nat) (wd : Int32) (ht : Int32) (stp : Int32) (col : (Nat → Int32)) (msk : (Nat → Int32)) (bare : (Nat → Int32)) (M : LyS) (F : LyS) (Bw : ByS) (Bf : ByS) (pl : Int32) (rf : Int32) (hd : (Nat → Int32)) (p2 : Int32) (p3 : Int32) (p4 : Int32) (p5 : Int32) {res : (Int32 × (Nat → Int32))} (h : ML_change_col fu n wd ht stp col msk bare M F Bw Bf pl rf hd p2 p3 p4 p5 = some res) (sz : Nat) : Met l y_ML_change (Cond.code y_ML_change b_ML_change 10 (some .int) :: BIG) rm_ML_change_col (PcI [.ref o0, .ref hc, .int p2, .int p3, .int p4, .int p5] D (tyG cI cR cZ) (wML cI cR o0 hc hm om hb ow or_ hh aM aF bw qw bf qf n wd ht stp col msk bare M F Bw Bf pl rf hd) sz) (QcI D res.1 (fun _ : Nat => wML cI cR o0 hc hm om hb ow or_ hh aM aF bw qw bf qf n wd ht stp res.2 msk bare M F Bw Bf pl rf hd) (va_A (wML cI cR o0 hc hm om hb ow or_ hh aM aF bw qw bf qf n wd ht stp col msk bare M F Bw Bf pl rf hd) sz)) 0 0 (va_A (wML cI cR o0 hc hm om hb ow or_ hh aM aF bw qw bf qf n wd ht stp col msk bare M F Bw Bf pl rf hd) sz) := by
  refine met_I (by decide) (Nat.le_of_ble_eq_true rfl) (fun p e s m args below meth c A hA C hr => ?_)
  have C : Cx p s m args meth c D (tyG cI cR cZ) b_ML_change 10 "MaskLayers" := C
  have hr : meth.sig.returnType = some .int := hr
  show J p l e rm_ML_change_col s m args below meth c D A (va_D A) 10 (MQ below (QcI D res.1 (fun _ : Nat => wML cI cR o0 hc hm om hb ow or_ hh aM aF bw qw bf qf n wd ht stp res.2 msk bare M F Bw Bf pl rf hd) A) args s 0 0 A) 0 0 (wML cI cR o0 hc hm om hb ow or_ hh aM aF bw qw bf qf n wd ht stp col msk bare M F Bw Bf pl rf hd) [(0, .ref o0), (1, .ref hc), (2, .int p2), (3, .int p3), (4, .int p4), (5, .int p5)] [] 0
  unfold ML_change_col at h
  refine j_iconst C (v := 0) d_ML_change_0 (by decide) ?_
  refine j_istore C [(6, .int 0), (0, .ref o0), (1, .ref hc), (2, .int p2), (3, .int p3), (4, .int p4), (5, .int p5)] d_ML_change_1 (by decide) rfl ?_
  refine j_iload_n C 4 d_ML_change_3 rfl ?_
  refine j_aload_n C 1 d_ML_change_4 rfl ?_
  refine gf_ML_18 C 0 (v := .int wd) rfl rfl d_ML_change_5 ?_
  refine j_imul C d_ML_change_8 ?_
  refine j_iload_n C 3 d_ML_change_9 rfl ?_
  refine j_iadd C d_ML_change_10 ?_
  refine j_istore C [(7, .int ((p3 * wd) + p2)), (6, .int 0), (0, .ref o0), (1, .ref hc), (2, .int p2), (3, .int p3), (4, .int p4), (5, .int p5)] d_ML_change_11 (by decide) rfl ?_
  refine j_iload C 0 d_ML_change_13 rfl ?_
  refine j_iload C 6 d_ML_change_15 rfl ?_
  refine j_aload_n C 2 d_ML_change_17 rfl ?_
  refine gf_ML_18 C 0 (v := .int wd) rfl rfl d_ML_change_18 ?_
  refine j_iload_n C 4 d_ML_change_21 rfl ?_
  refine j_isub C d_ML_change_22 ?_
  refine j_mmin C mw_ML_9 (Nat.le_of_ble_eq_true rfl) (Nat.le_of_ble_eq_true rfl) (by decide) d_ML_change_23 ?_
  refine j_iadd C d_ML_change_26 ?_
  refine j_istore C [(8, .int (((p3 * wd) + p2) + (mn p4 (wd - p2)))), (7, .int ((p3 * wd) + p2)), (6, .int 0), (0, .ref o0), (1, .ref hc), (2, .int p2), (3, .int p3), (4, .int p4), (5, .int p5)] d_ML_change_27 (by decide) rfl ?_
  refine j_iload C 1 d_ML_change_29 rfl ?_
  refine j_istore C [(9, .int ((p3 * wd) + p2)), (8, .int (((p3 * wd) + p2) + (mn p4 (wd - p2)))), (7, .int ((p3 * wd) + p2)), (6, .int 0), (0, .ref o0), (1, .ref hc), (2, .int p2), (3, .int p3), (4, .int p4), (5, .int p5)] d_ML_change_31 (by decide) rfl ?_
  obtain ⟨r5, hr5, h⟩ := bd_ok h
  refine j_sub [5, 9, 3, 1, 0] rfl ?_
  refine t_ML_change_col_l33 C hA fu 0 ((p3 * wd) + p2) col hr5 (fun e6 => ?_)
  · refine j_iload C 0 d_ML_change_64 rfl ?_
    obtain rfl := Option.some.inj h
    exact j_iret C hr d_ML_change_66 0 rfl
def ML_put (fu : Nat) (n : Nat) (wd : Int32) (ht : Int32) (stp : Int32) (col : (Nat → Int32)) (msk : (Nat → Int32)) (bare : (Nat → Int32)) (M : LyS) (F : LyS) (Bw : ByS) (Bf : ByS) (pl : Int32) (rf : Int32) (hd : (Nat → Int32)) (p1 : Int32) (p2 : Int32) (p3 : Int32) (p4 : Int32) : Option (Int32 × (Nat → Int32)) :=
  (ML_hasSample n wd ht stp col msk bare M F Bw Bf pl rf hd p1 p2).bind fun r1 =>
  (if r1 = 0 then none
  else (if p3 < 1 then none
  else (if p4 < 0 then none
  else (if p4 ≤ 16777215 then (ML_change_col fu n wd ht stp col msk bare M F Bw Bf pl rf hd p1 p2 p3 p4).bind fun r2 =>
  some (r2.1, r2.2)
  else none))))
set_option maxRecDepth 100000 in
set_option maxHeartbeats 4000000 in
theorem c_ML_put (l : Launch) (D : va_G) (cI cR cZ : ClassId) (fu : Nat) (o0 : Nat) (hc : Nat) (hm : Nat) (om : Nat) (hb : Nat) (ow : Nat) (or_ : Nat) (hh : Nat) (aM : (Nat → Nat)) (aF : (Nat → Nat)) (bw : Nat) (qw : Nat) (bf : Nat) (qf : Nat) (n : Nat) (wd : Int32) (ht : Int32) (stp : Int32) (col : (Nat → Int32)) (msk : (Nat → Int32)) (bare : (Nat → Int32)) (M : LyS) (F : LyS) (Bw : ByS) (Bf : ByS) (pl : Int32) (rf : Int32) (hd : (Nat → Int32)) (p1 : Int32) (p2 : Int32) (p3 : Int32) (p4 : Int32) {res : (Int32 × (Nat → Int32))} (h : ML_put fu n wd ht stp col msk bare M F Bw Bf pl rf hd p1 p2 p3 p4 = some res) (sz : Nat) : Met l y_ML_put (Cond.code y_ML_put b_ML_put 5 (some .int) :: BIG) rm_ML_put (PcI [.ref o0, .int p1, .int p2, .int p3, .int p4] D (tyG cI cR cZ) (wML cI cR o0 hc hm om hb ow or_ hh aM aF bw qw bf qf n wd ht stp col msk bare M F Bw Bf pl rf hd) sz) (QcI D res.1 (fun _ : Nat => wML cI cR o0 hc hm om hb ow or_ hh aM aF bw qw bf qf n wd ht stp res.2 msk bare M F Bw Bf pl rf hd) (va_A (wML cI cR o0 hc hm om hb ow or_ hh aM aF bw qw bf qf n wd ht stp col msk bare M F Bw Bf pl rf hd) sz)) 0 0 (va_A (wML cI cR o0 hc hm om hb ow or_ hh aM aF bw qw bf qf n wd ht stp col msk bare M F Bw Bf pl rf hd) sz) := by
  refine met_I (by decide) (Nat.le_of_ble_eq_true rfl) (fun p e s m args below meth c A hA C hr => ?_)
  have C : Cx p s m args meth c D (tyG cI cR cZ) b_ML_put 5 "MaskLayers" := C
  have hr : meth.sig.returnType = some .int := hr
  show J p l e rm_ML_put s m args below meth c D A (va_D A) 5 (MQ below (QcI D res.1 (fun _ : Nat => wML cI cR o0 hc hm om hb ow or_ hh aM aF bw qw bf qf n wd ht stp res.2 msk bare M F Bw Bf pl rf hd) A) args s 0 0 A) 0 0 (wML cI cR o0 hc hm om hb ow or_ hh aM aF bw qw bf qf n wd ht stp col msk bare M F Bw Bf pl rf hd) [(0, .ref o0), (1, .int p1), (2, .int p2), (3, .int p3), (4, .int p4)] [] 0
  unfold ML_put at h
  refine j_aload_n C 0 d_ML_put_0 rfl ?_
  refine j_iload_n C 1 d_ML_put_1 rfl ?_
  refine j_iload_n C 2 d_ML_put_2 rfl ?_
  obtain ⟨r1, hr1, h⟩ := bd_ok h
  refine j_PV C [.int p1, .int p2] 0 rfl rfl (c_ML_hasSample l D cI cR cZ o0 hc hm om hb ow or_ hh aM aF bw qw bf qf n wd ht stp col msk bare M F Bw Bf pl rf hd p1 p2 hr1) (cw_ML_84 C ⟨Nat.le_of_ble_eq_true rfl, Nat.le_of_ble_eq_true rfl⟩) [0, 1, 2, 3, 4, 5, 6, 7, 8, 9, 10, 11, 12, 13, 14, 15, 16, 17, 18, 19, 20, 21, 22, 23, 24, 25] rfl rfl rfl (Nat.le_of_ble_eq_true rfl) d_ML_put_3 (by decide) ?_
  refine j_if_ne C 19 d_ML_put_6 (by decide) (fun c6 => ?_) (fun c6 => ?_)
  · replace h := (if_neg c6).symm.trans h
    refine j_iload_n C 3 d_ML_put_19 rfl ?_
    refine j_iconst C (v := 1) d_ML_put_20 (by decide) ?_
    refine j_icmp_lt C 36 d_ML_put_21 (by decide) (fun c5 => ?_) (fun c5 => ?_)
    · replace h := (if_pos c5).symm.trans h
      cases h
    · replace h := (if_neg c5).symm.trans h
      refine j_iload C 4 d_ML_put_24 rfl ?_
      refine j_if_lt C 36 d_ML_put_26 (by decide) (fun c4 => ?_) (fun c4 => ?_)
      · replace h := (if_pos c4).symm.trans h
        cases h
      · replace h := (if_neg c4).symm.trans h
        refine j_iload C 4 d_ML_put_29 rfl ?_
        refine j_ldc C (v := 16777215) (mb (by decide +kernel) rfl) d_ML_put_31 ?_
        refine j_icmp_le C 46 d_ML_put_33 (by decide) (fun c3 => ?_) (fun c3 => ?_)
        · replace h := (if_pos c3).symm.trans h
          refine j_aload_n C 0 d_ML_put_46 rfl ?_
          refine j_aload_n C 0 d_ML_put_47 rfl ?_
          refine gf_ML_25 C 0 (v := .ref hc) rfl rfl d_ML_put_48 ?_
          refine j_iload_n C 1 d_ML_put_51 rfl ?_
          refine j_iload_n C 2 d_ML_put_52 rfl ?_
          refine j_iload_n C 3 d_ML_put_53 rfl ?_
          refine j_iload C 4 d_ML_put_54 rfl ?_
          obtain ⟨r2, hr2, h⟩ := bd_ok h
          refine j_IV C [.ref hc, .int p1, .int p2, .int p3, .int p4] hA 0 rfl rfl (c_ML_change_col l D cI cR cZ fu o0 hc hm om hb ow or_ hh aM aF bw qw bf qf n wd ht stp col msk bare M F Bw Bf pl rf hd p1 p2 p3 p4 hr2) (cw_ML_101 C ⟨Nat.le_of_ble_eq_true rfl, Nat.le_of_ble_eq_true rfl⟩) [0, 1, 2, 3, 4, 5, 6, 7, 8, 9, 10, 11, 12, 13, 14, 15, 16, 17, 18, 19, 20, 21, 22, 23, 24, 25] [] rfl rfl (by decide) (by decide) (by decide) rfl rfl (Nat.le_of_ble_eq_true rfl) d_ML_put_56 (by decide) (fun _ => ?_)
          refine j_ws (ws' := wML cI cR o0 hc hm om hb ow or_ hh aM aF bw qw bf qf n wd ht stp r2.2 msk bare M F Bw Bf pl rf hd) rfl ?_
          obtain rfl := Option.some.inj h
          exact j_iret C hr d_ML_put_59 0 rfl
        · replace h := (if_neg c3).symm.trans h
          cases h
  · replace h := (if_pos c6).symm.trans h
    cases h
def ML_mask (fu : Nat) (n : Nat) (wd : Int32) (ht : Int32) (stp : Int32) (col : (Nat → Int32)) (msk : (Nat → Int32)) (bare : (Nat → Int32)) (M : LyS) (F : LyS) (Bw : ByS) (Bf : ByS) (pl : Int32) (rf : Int32) (hd : (Nat → Int32)) (p1 : Int32) (p2 : Int32) (p3 : Int32) (p4 : Int32) : Option (Int32 × (Nat → Int32)) :=
  (ML_hasSample n wd ht stp col msk bare M F Bw Bf pl rf hd p1 p2).bind fun r1 =>
  (if r1 = 0 then none
  else (if 1 ≤ p3 then (if p4 = 0 then (ML_change_msk fu n wd ht stp col msk bare M F Bw Bf pl rf hd p1 p2 p3 0).bind fun r2 =>
  some (r2.1, r2.2)
  else (ML_change_msk fu n wd ht stp col msk bare M F Bw Bf pl rf hd p1 p2 p3 1).bind fun r3 =>
  some (r3.1, r3.2))
  else none))
set_option maxRecDepth 100000 in
set_option maxHeartbeats 4000000 in
theorem c_ML_mask (l : Launch) (D : va_G) (cI cR cZ : ClassId) (fu : Nat) (o0 : Nat) (hc : Nat) (hm : Nat) (om : Nat) (hb : Nat) (ow : Nat) (or_ : Nat) (hh : Nat) (aM : (Nat → Nat)) (aF : (Nat → Nat)) (bw : Nat) (qw : Nat) (bf : Nat) (qf : Nat) (n : Nat) (wd : Int32) (ht : Int32) (stp : Int32) (col : (Nat → Int32)) (msk : (Nat → Int32)) (bare : (Nat → Int32)) (M : LyS) (F : LyS) (Bw : ByS) (Bf : ByS) (pl : Int32) (rf : Int32) (hd : (Nat → Int32)) (p1 : Int32) (p2 : Int32) (p3 : Int32) (p4 : Int32) {res : (Int32 × (Nat → Int32))} (h : ML_mask fu n wd ht stp col msk bare M F Bw Bf pl rf hd p1 p2 p3 p4 = some res) (sz : Nat) : Met l y_ML_mask (Cond.code y_ML_mask b_ML_mask 5 (some .int) :: BIG) rm_ML_mask (PcI [.ref o0, .int p1, .int p2, .int p3, .int p4] D (tyG cI cR cZ) (wML cI cR o0 hc hm om hb ow or_ hh aM aF bw qw bf qf n wd ht stp col msk bare M F Bw Bf pl rf hd) sz) (QcI D res.1 (fun _ : Nat => wML cI cR o0 hc hm om hb ow or_ hh aM aF bw qw bf qf n wd ht stp col res.2 bare M F Bw Bf pl rf hd) (va_A (wML cI cR o0 hc hm om hb ow or_ hh aM aF bw qw bf qf n wd ht stp col msk bare M F Bw Bf pl rf hd) sz)) 0 0 (va_A (wML cI cR o0 hc hm om hb ow or_ hh aM aF bw qw bf qf n wd ht stp col msk bare M F Bw Bf pl rf hd) sz) := by
  refine met_I (by decide) (Nat.le_of_ble_eq_true rfl) (fun p e s m args below meth c A hA C hr => ?_)
  have C : Cx p s m args meth c D (tyG cI cR cZ) b_ML_mask 5 "MaskLayers" := C
  have hr : meth.sig.returnType = some .int := hr
  show J p l e rm_ML_mask s m args below meth c D A (va_D A) 5 (MQ below (QcI D res.1 (fun _ : Nat => wML cI cR o0 hc hm om hb ow or_ hh aM aF bw qw bf qf n wd ht stp col res.2 bare M F Bw Bf pl rf hd) A) args s 0 0 A) 0 0 (wML cI cR o0 hc hm om hb ow or_ hh aM aF bw qw bf qf n wd ht stp col msk bare M F Bw Bf pl rf hd) [(0, .ref o0), (1, .int p1), (2, .int p2), (3, .int p3), (4, .int p4)] [] 0
  unfold ML_mask at h
  refine j_aload_n C 0 d_ML_mask_0 rfl ?_
  refine j_iload_n C 1 d_ML_mask_1 rfl ?_
  refine j_iload_n C 2 d_ML_mask_2 rfl ?_
  obtain ⟨r1, hr1, h⟩ := bd_ok h
  refine j_PV C [.int p1, .int p2] 0 rfl rfl (c_ML_hasSample l D cI cR cZ o0 hc hm om hb ow or_ hh aM aF bw qw bf qf n wd ht stp col msk bare M F Bw Bf pl rf hd p1 p2 hr1) (cw_ML_84 C ⟨Nat.le_of_ble_eq_true rfl, Nat.le_of_ble_eq_true rfl⟩) [0, 1, 2, 3, 4, 5, 6, 7, 8, 9, 10, 11, 12, 13, 14, 15, 16, 17, 18, 19, 20, 21, 22, 23, 24, 25] rfl rfl rfl (Nat.le_of_ble_eq_true rfl) d_ML_mask_3 (by decide) ?_
  refine j_if_ne C 19 d_ML_mask_6 (by decide) (fun c6 => ?_) (fun c6 => ?_)
  · replace h := (if_neg c6).symm.trans h
    refine j_iload_n C 3 d_ML_mask_19 rfl ?_
    refine j_iconst C (v := 1) d_ML_mask_20 (by decide) ?_
    refine j_icmp_ge C 34 d_ML_mask_21 (by decide) (fun c5 => ?_) (fun c5 => ?_)
    · replace h := (if_pos c5).symm.trans h
      refine j_aload_n C 0 d_ML_mask_34 rfl ?_
      refine j_aload_n C 0 d_ML_mask_35 rfl ?_
      refine gf_ML_29 C 0 (v := .ref hm) rfl rfl d_ML_mask_36 ?_
      refine j_iload_n C 1 d_ML_mask_39 rfl ?_
      refine j_iload_n C 2 d_ML_mask_40 rfl ?_
      refine j_iload_n C 3 d_ML_mask_41 rfl ?_
      refine j_iload C 4 d_ML_mask_42 rfl ?_
      refine j_if_eq C 51 d_ML_mask_44 (by decide) (fun c4 => ?_) (fun c4 => ?_)
      · replace h := (if_pos c4).symm.trans h
        refine j_iconst C (v := 0) d_ML_mask_51 (by decide) ?_
        obtain ⟨r2, hr2, h⟩ := bd_ok h
        refine j_IV C [.ref hm, .int p1, .int p2, .int p3, .int 0] hA 0 rfl rfl (c_ML_change_msk l D cI cR cZ fu o0 hc hm om hb ow or_ hh aM aF bw qw bf qf n wd ht stp col msk bare M F Bw Bf pl rf hd p1 p2 p3 0 hr2) (cw_ML_101 C ⟨Nat.le_of_ble_eq_true rfl, Nat.le_of_ble_eq_true rfl⟩) [0, 1, 2, 3, 4, 5, 6, 7, 8, 9, 10, 11, 12, 13, 14, 15, 16, 17, 18, 19, 20, 21, 22, 23, 24, 25] [] rfl rfl (by decide) (by decide) (by decide) rfl rfl (Nat.le_of_ble_eq_true rfl) d_ML_mask_52 (by decide) (fun _ => ?_)
        refine j_ws (ws' := wML cI cR o0 hc hm om hb ow or_ hh aM aF bw qw bf qf n wd ht stp col r2.2 bare M F Bw Bf pl rf hd) rfl ?_
        obtain rfl := Option.some.inj h
        exact j_iret C hr d_ML_mask_55 0 rfl
      · replace h := (if_neg c4).symm.trans h
        refine j_iconst C (v := 1) d_ML_mask_47 (by decide) ?_
        refine j_goto C 52 d_ML_mask_48 (by decide) ?_
        obtain ⟨r3, hr3, h⟩ := bd_ok h
        refine j_IV C [.ref hm, .int p1, .int p2, .int p3, .int 1] hA 0 rfl rfl (c_ML_change_msk l D cI cR cZ fu o0 hc hm om hb ow or_ hh aM aF bw qw bf qf n wd ht stp col msk bare M F Bw Bf pl rf hd p1 p2 p3 1 hr3) (cw_ML_101 C ⟨Nat.le_of_ble_eq_true rfl, Nat.le_of_ble_eq_true rfl⟩) [0, 1, 2, 3, 4, 5, 6, 7, 8, 9, 10, 11, 12, 13, 14, 15, 16, 17, 18, 19, 20, 21, 22, 23, 24, 25] [] rfl rfl (by decide) (by decide) (by decide) rfl rfl (Nat.le_of_ble_eq_true rfl) d_ML_mask_52 (by decide) (fun _ => ?_)
        refine j_ws (ws' := wML cI cR o0 hc hm om hb ow or_ hh aM aF bw qw bf qf n wd ht stp col r3.2 bare M F Bw Bf pl rf hd) rfl ?_
        obtain rfl := Option.some.inj h
        exact j_iret C hr d_ML_mask_55 0 rfl
    · replace h := (if_neg c5).symm.trans h
      cases h
  · replace h := (if_pos c6).symm.trans h
    cases h
def ML_stripe (n : Nat) (wd : Int32) (ht : Int32) (stp : Int32) (col : (Nat → Int32)) (msk : (Nat → Int32)) (bare : (Nat → Int32)) (M : LyS) (F : LyS) (Bw : ByS) (Bf : ByS) (pl : Int32) (rf : Int32) (hd : (Nat → Int32)) (p1 : Int32) : Option (Int32 × Int32) :=
  (if p1 < 1 then none
  else (if p1 ≤ 24 then (ML_parts ht p1).bind fun r1 =>
  some (r1, p1)
  else none))
set_option maxRecDepth 100000 in
set_option maxHeartbeats 4000000 in
theorem c_ML_stripe (l : Launch) (D : va_G) (cI cR cZ : ClassId) (o0 : Nat) (hc : Nat) (hm : Nat) (om : Nat) (hb : Nat) (ow : Nat) (or_ : Nat) (hh : Nat) (aM : (Nat → Nat)) (aF : (Nat → Nat)) (bw : Nat) (qw : Nat) (bf : Nat) (qf : Nat) (n : Nat) (wd : Int32) (ht : Int32) (stp : Int32) (col : (Nat → Int32)) (msk : (Nat → Int32)) (bare : (Nat → Int32)) (M : LyS) (F : LyS) (Bw : ByS) (Bf : ByS) (pl : Int32) (rf : Int32) (hd : (Nat → Int32)) (p1 : Int32) {res : (Int32 × Int32)} (h : ML_stripe n wd ht stp col msk bare M F Bw Bf pl rf hd p1 = some res) (sz : Nat) : Met l y_ML_stripe (Cond.code y_ML_stripe b_ML_stripe 2 (some .int) :: BIG) rm_ML_stripe (PcI [.ref o0, .int p1] D (tyG cI cR cZ) (wML cI cR o0 hc hm om hb ow or_ hh aM aF bw qw bf qf n wd ht stp col msk bare M F Bw Bf pl rf hd) sz) (QcI D res.1 (fun _ : Nat => wML cI cR o0 hc hm om hb ow or_ hh aM aF bw qw bf qf n wd ht res.2 col msk bare M F Bw Bf pl rf hd) (va_A (wML cI cR o0 hc hm om hb ow or_ hh aM aF bw qw bf qf n wd ht stp col msk bare M F Bw Bf pl rf hd) sz)) 0 0 (va_A (wML cI cR o0 hc hm om hb ow or_ hh aM aF bw qw bf qf n wd ht stp col msk bare M F Bw Bf pl rf hd) sz) := by
  refine met_I (by decide) (Nat.le_of_ble_eq_true rfl) (fun p e s m args below meth c A hA C hr => ?_)
  have C : Cx p s m args meth c D (tyG cI cR cZ) b_ML_stripe 2 "MaskLayers" := C
  have hr : meth.sig.returnType = some .int := hr
  show J p l e rm_ML_stripe s m args below meth c D A (va_D A) 2 (MQ below (QcI D res.1 (fun _ : Nat => wML cI cR o0 hc hm om hb ow or_ hh aM aF bw qw bf qf n wd ht res.2 col msk bare M F Bw Bf pl rf hd) A) args s 0 0 A) 0 0 (wML cI cR o0 hc hm om hb ow or_ hh aM aF bw qw bf qf n wd ht stp col msk bare M F Bw Bf pl rf hd) [(0, .ref o0), (1, .int p1)] [] 0
  unfold ML_stripe at h
  refine j_iload_n C 1 d_ML_stripe_0 rfl ?_
  refine j_iconst C (v := 1) d_ML_stripe_1 (by decide) ?_
  refine j_icmp_lt C 11 d_ML_stripe_2 (by decide) (fun c3 => ?_) (fun c3 => ?_)
  · replace h := (if_pos c3).symm.trans h
    cases h
  · replace h := (if_neg c3).symm.trans h
    refine j_iload_n C 1 d_ML_stripe_5 rfl ?_
    refine j_bipush C (v := 24) d_ML_stripe_6 (by decide) ?_
    refine j_icmp_le C 21 d_ML_stripe_8 (by decide) (fun c2 => ?_) (fun c2 => ?_)
    · replace h := (if_pos c2).symm.trans h
      refine j_aload_n C 0 d_ML_stripe_21 rfl ?_
      refine j_iload_n C 1 d_ML_stripe_22 rfl ?_
      refine pf_ML_81 C 0 (wML cI cR o0 hc hm om hb ow or_ hh aM aF bw qw bf qf n wd ht p1 col msk bare M F Bw Bf pl rf hd) rfl rfl rfl d_ML_stripe_23 ?_
      refine j_aload_n C 0 d_ML_stripe_26 rfl ?_
      refine gf_ML_22 C 0 (v := .int ht) rfl rfl d_ML_stripe_27 ?_
      refine j_iload_n C 1 d_ML_stripe_30 rfl ?_
      obtain ⟨r1, hr1, h⟩ := bd_ok h
      refine j_PS C [.int ht, .int p1] (c_ML_parts l D cI cR cZ ht p1 hr1) (cw_ML_109 C ⟨Nat.le_of_ble_eq_true rfl, Nat.le_of_ble_eq_true rfl⟩) [] rfl rfl rfl (Nat.le_of_ble_eq_true rfl) d_ML_stripe_31 (by decide) ?_
      obtain rfl := Option.some.inj h
      exact j_iret C hr d_ML_stripe_34 0 rfl
    · replace h := (if_neg c2).symm.trans h
      cases h
def ML_run (fu : Nat) (n : Nat) (wd : Int32) (ht : Int32) (stp : Int32) (col : (Nat → Int32)) (msk : (Nat → Int32)) (bare : (Nat → Int32)) (M : LyS) (F : LyS) (Bw : ByS) (Bf : ByS) (pl : Int32) (rf : Int32) (hd : (Nat → Int32)) (p1 : Int32) (p2 : Int32) (p3 : Int32) : Option (Int32 × (Nat → Int32) × LyS) :=
  (if p1 < 1 then none
  else (if 8 < p1 then none
  else (if p2 < 1 then none
  else (if p2 ≤ 8 then (Layers_shape n M wd ht stp p1 p2).bind fun r1 =>
  (Maker_makeAll fu n col msk bare r1 p3).bind fun r2 =>
  some (r2.1, r2.2.1, r2.2.2)
  else none))))
set_option maxRecDepth 100000 in
set_option maxHeartbeats 4000000 in
theorem c_ML_run (l : Launch) (D : va_G) (cI cR cZ : ClassId) (fu : Nat) (o0 : Nat) (hc : Nat) (hm : Nat) (om : Nat) (hb : Nat) (ow : Nat) (or_ : Nat) (hh : Nat) (aM : (Nat → Nat)) (aF : (Nat → Nat)) (bw : Nat) (qw : Nat) (bf : Nat) (qf : Nat) (n : Nat) (wd : Int32) (ht : Int32) (stp : Int32) (col : (Nat → Int32)) (msk : (Nat → Int32)) (bare : (Nat → Int32)) (M : LyS) (F : LyS) (Bw : ByS) (Bf : ByS) (pl : Int32) (rf : Int32) (hd : (Nat → Int32)) (p1 : Int32) (p2 : Int32) (p3 : Int32) {res : (Int32 × (Nat → Int32) × LyS)} (h : ML_run fu n wd ht stp col msk bare M F Bw Bf pl rf hd p1 p2 p3 = some res) (sz : Nat) : Met l y_ML_run (Cond.code y_ML_run b_ML_run 4 (some .int) :: BIG) rm_ML_run (PcI [.ref o0, .int p1, .int p2, .int p3] D (tyG cI cR cZ) (wML cI cR o0 hc hm om hb ow or_ hh aM aF bw qw bf qf n wd ht stp col msk bare M F Bw Bf pl rf hd) sz) (QcI D res.1 (fun _ : Nat => wML cI cR o0 hc hm om hb ow or_ hh aM aF bw qw bf qf n wd ht stp col msk res.2.1 res.2.2 F Bw Bf pl rf hd) (va_A (wML cI cR o0 hc hm om hb ow or_ hh aM aF bw qw bf qf n wd ht stp col msk bare M F Bw Bf pl rf hd) sz)) 0 0 (va_A (wML cI cR o0 hc hm om hb ow or_ hh aM aF bw qw bf qf n wd ht stp col msk bare M F Bw Bf pl rf hd) sz) := by
  refine met_I (by decide) (Nat.le_of_ble_eq_true rfl) (fun p e s m args below meth c A hA C hr => ?_)
  have C : Cx p s m args meth c D (tyG cI cR cZ) b_ML_run 4 "MaskLayers" := C
  have hr : meth.sig.returnType = some .int := hr
  show J p l e rm_ML_run s m args below meth c D A (va_D A) 4 (MQ below (QcI D res.1 (fun _ : Nat => wML cI cR o0 hc hm om hb ow or_ hh aM aF bw qw bf qf n wd ht stp col msk res.2.1 res.2.2 F Bw Bf pl rf hd) A) args s 0 0 A) 0 0 (wML cI cR o0 hc hm om hb ow or_ hh aM aF bw qw bf qf n wd ht stp col msk bare M F Bw Bf pl rf hd) [(0, .ref o0), (1, .int p1), (2, .int p2), (3, .int p3)] [] 0
  unfold ML_run at h
  refine j_iload_n C 1 d_ML_run_0 rfl ?_
  refine j_iconst C (v := 1) d_ML_run_1 (by decide) ?_
  refine j_icmp_lt C 22 d_ML_run_2 (by decide) (fun c6 => ?_) (fun c6 => ?_)
  · replace h := (if_pos c6).symm.trans h
    cases h
  · replace h := (if_neg c6).symm.trans h
    refine j_iload_n C 1 d_ML_run_5 rfl ?_
    refine j_bipush C (v := 8) d_ML_run_6 (by decide) ?_
    refine j_icmp_gt C 22 d_ML_run_8 (by decide) (fun c5 => ?_) (fun c5 => ?_)
    · replace h := (if_pos c5).symm.trans h
      cases h
    · replace h := (if_neg c5).symm.trans h
      refine j_iload_n C 2 d_ML_run_11 rfl ?_
      refine j_iconst C (v := 1) d_ML_run_12 (by decide) ?_
      refine j_icmp_lt C 22 d_ML_run_13 (by decide) (fun c4 => ?_) (fun c4 => ?_)
      · replace h := (if_pos c4).symm.trans h
        cases h
      · replace h := (if_neg c4).symm.trans h
        refine j_iload_n C 2 d_ML_run_16 rfl ?_
        refine j_bipush C (v := 8) d_ML_run_17 (by decide) ?_
        refine j_icmp_le C 32 d_ML_run_19 (by decide) (fun c3 => ?_) (fun c3 => ?_)
        · replace h := (if_pos c3).symm.trans h
          refine j_aload_n C 0 d_ML_run_32 rfl ?_
          refine gf_ML_37 C 0 (v := .ref (aM 0)) rfl rfl d_ML_run_33 ?_
          refine j_aload_n C 0 d_ML_run_36 rfl ?_
          refine gf_ML_18 C 0 (v := .int wd) rfl rfl d_ML_run_37 ?_
          refine j_aload_n C 0 d_ML_run_40 rfl ?_
          refine gf_ML_22 C 0 (v := .int ht) rfl rfl d_ML_run_41 ?_
          refine j_aload_n C 0 d_ML_run_44 rfl ?_
          refine gf_ML_81 C 0 (v := .int stp) rfl rfl d_ML_run_45 ?_
          refine j_iload_n C 1 d_ML_run_48 rfl ?_
          refine j_iload_n C 2 d_ML_run_49 rfl ?_
          obtain ⟨r1, hr1, h⟩ := bd_ok h
          refine j_VV C [.int wd, .int ht, .int stp, .int p1, .int p2] hA 8 rfl rfl (c_Layers_shape l D cI cR cZ aM n M wd ht stp p1 p2 hr1) (cw_ML_114 C ⟨Nat.le_of_ble_eq_true rfl, Nat.le_of_ble_eq_true rfl⟩) [8, 9, 10, 11, 12, 13, 14] [0, 1, 2, 3, 4, 5, 6, 7, 15, 16, 17, 18, 19, 20, 21, 22, 23, 24, 25] rfl rfl (by decide) (by decide) (by decide) rfl rfl (Nat.le_of_ble_eq_true rfl) d_ML_run_50 (by decide) (fun _ => ?_)
          refine j_perm [0, 1, 2, 3, 4, 5, 6, 7, 19, 20, 21, 22, 23, 24, 25, 8, 9, 10, 11, 12, 13, 14, 15, 16, 17, 18] (ws' := wML cI cR o0 hc hm om hb ow or_ hh aM aF bw qw bf qf n wd ht stp col msk bare r1 F Bw Bf pl rf hd) rfl (by decide) ?_
          refine j_aload_n C 0 d_ML_run_53 rfl ?_
          refine gf_ML_59 C 0 (v := .ref om) rfl rfl d_ML_run_54 ?_
          refine j_iload_n C 3 d_ML_run_57 rfl ?_
          obtain ⟨r2, hr2, h⟩ := bd_ok h
          refine j_IV C [.int p3] hA 3 rfl rfl (c_Maker_makeAll l D cI cR cZ fu om hc hm hb aM n col msk bare r1 p3 hr2) (cw_ML_118 C ⟨Nat.le_of_ble_eq_true rfl, Nat.le_of_ble_eq_true rfl⟩) [3, 1, 2, 4, 8, 9, 10, 11, 12, 13, 14] [0, 5, 6, 7, 15, 16, 17, 18, 19, 20, 21, 22, 23, 24, 25] rfl rfl (by decide) (by decide) (by decide) rfl rfl (Nat.le_of_ble_eq_true rfl) d_ML_run_58 (by decide) (fun _ => ?_)
          refine j_perm [0, 16, 17, 15, 18, 1, 2, 3, 19, 20, 21, 22, 23, 24, 25, 4, 5, 6, 7, 8, 9, 10, 11, 12, 13, 14] (ws' := wML cI cR o0 hc hm om hb ow or_ hh aM aF bw qw bf qf n wd ht stp col msk r2.2.1 r2.2.2 F Bw Bf pl rf hd) rfl (by decide) ?_
          obtain rfl := Option.some.inj h
          exact j_iret C hr d_ML_run_61 0 rfl
        · replace h := (if_neg c3).symm.trans h
          cases h
def ML_alter (n : Nat) (wd : Int32) (ht : Int32) (stp : Int32) (col : (Nat → Int32)) (msk : (Nat → Int32)) (bare : (Nat → Int32)) (M : LyS) (F : LyS) (Bw : ByS) (Bf : ByS) (pl : Int32) (rf : Int32) (hd : (Nat → Int32)) (p1 : Int32) (p2 : Int32) : Option (Int32 × ByS) :=
  (ByteRow_holds Bf p1).bind fun r1 =>
  (if r1 = 0 then none
  else (ML_isByte p2).bind fun r2 =>
  (if r2 = 0 then none
  else (ByteRow_replace Bf p1 p2).bind fun r3 =>
  some (r3.1, r3.2)))
set_option maxRecDepth 100000 in
set_option maxHeartbeats 4000000 in
theorem c_ML_alter (l : Launch) (D : va_G) (cI cR cZ : ClassId) (o0 : Nat) (hc : Nat) (hm : Nat) (om : Nat) (hb : Nat) (ow : Nat) (or_ : Nat) (hh : Nat) (aM : (Nat → Nat)) (aF : (Nat → Nat)) (bw : Nat) (qw : Nat) (bf : Nat) (qf : Nat) (n : Nat) (wd : Int32) (ht : Int32) (stp : Int32) (col : (Nat → Int32)) (msk : (Nat → Int32)) (bare : (Nat → Int32)) (M : LyS) (F : LyS) (Bw : ByS) (Bf : ByS) (pl : Int32) (rf : Int32) (hd : (Nat → Int32)) (p1 : Int32) (p2 : Int32) {res : (Int32 × ByS)} (h : ML_alter n wd ht stp col msk bare M F Bw Bf pl rf hd p1 p2 = some res) (sz : Nat) : Met l y_ML_alter (Cond.code y_ML_alter b_ML_alter 3 (some .int) :: BIG) rm_ML_alter (PcI [.ref o0, .int p1, .int p2] D (tyG cI cR cZ) (wML cI cR o0 hc hm om hb ow or_ hh aM aF bw qw bf qf n wd ht stp col msk bare M F Bw Bf pl rf hd) sz) (QcI D res.1 (fun _ : Nat => wML cI cR o0 hc hm om hb ow or_ hh aM aF bw qw bf qf n wd ht stp col msk bare M F Bw res.2 pl rf hd) (va_A (wML cI cR o0 hc hm om hb ow or_ hh aM aF bw qw bf qf n wd ht stp col msk bare M F Bw Bf pl rf hd) sz)) 0 0 (va_A (wML cI cR o0 hc hm om hb ow or_ hh aM aF bw qw bf qf n wd ht stp col msk bare M F Bw Bf pl rf hd) sz) := by
  refine met_I (by decide) (Nat.le_of_ble_eq_true rfl) (fun p e s m args below meth c A hA C hr => ?_)
  have C : Cx p s m args meth c D (tyG cI cR cZ) b_ML_alter 3 "MaskLayers" := C
  have hr : meth.sig.returnType = some .int := hr
  show J p l e rm_ML_alter s m args below meth c D A (va_D A) 3 (MQ below (QcI D res.1 (fun _ : Nat => wML cI cR o0 hc hm om hb ow or_ hh aM aF bw qw bf qf n wd ht stp col msk bare M F Bw res.2 pl rf hd) A) args s 0 0 A) 0 0 (wML cI cR o0 hc hm om hb ow or_ hh aM aF bw qw bf qf n wd ht stp col msk bare M F Bw Bf pl rf hd) [(0, .ref o0), (1, .int p1), (2, .int p2)] [] 0
  unfold ML_alter at h
  refine j_aload_n C 0 d_ML_alter_0 rfl ?_
  refine gf_ML_51 C 0 (v := .ref bf) rfl rfl d_ML_alter_1 ?_
  refine j_iload_n C 1 d_ML_alter_4 rfl ?_
  obtain ⟨r1, hr1, h⟩ := bd_ok h
  refine j_PV C [.int p1] 24 rfl rfl (c_ByteRow_holds l D cI cR cZ bf qf Bf p1 hr1) (cw_ML_150 C ⟨Nat.le_of_ble_eq_true rfl, Nat.le_of_ble_eq_true rfl⟩) [24, 25] rfl rfl rfl (Nat.le_of_ble_eq_true rfl) d_ML_alter_5 (by decide) ?_
  refine j_if_ne C 21 d_ML_alter_8 (by decide) (fun c5 => ?_) (fun c5 => ?_)
  · replace h := (if_neg c5).symm.trans h
    refine j_iload_n C 2 d_ML_alter_21 rfl ?_
    obtain ⟨r2, hr2, h⟩ := bd_ok h
    refine j_PS C [.int p2] (c_ML_isByte l D cI cR cZ p2 hr2) (cw_ML_159 C ⟨Nat.le_of_ble_eq_true rfl, Nat.le_of_ble_eq_true rfl⟩) [] rfl rfl rfl (Nat.le_of_ble_eq_true rfl) d_ML_alter_22 (by decide) ?_
    refine j_if_ne C 38 d_ML_alter_25 (by decide) (fun c4 => ?_) (fun c4 => ?_)
    · replace h := (if_neg c4).symm.trans h
      refine j_aload_n C 0 d_ML_alter_38 rfl ?_
      refine gf_ML_51 C 0 (v := .ref bf) rfl rfl d_ML_alter_39 ?_
      refine j_iload_n C 1 d_ML_alter_42 rfl ?_
      refine j_iload_n C 2 d_ML_alter_43 rfl ?_
      obtain ⟨r3, hr3, h⟩ := bd_ok h
      refine j_IV C [.int p1, .int p2] hA 24 rfl rfl (c_ByteRow_replace l D cI cR cZ bf qf Bf p1 p2 hr3) (cw_ML_178 C ⟨Nat.le_of_ble_eq_true rfl, Nat.le_of_ble_eq_true rfl⟩) [24, 25] [0, 1, 2, 3, 4, 5, 6, 7, 8, 9, 10, 11, 12, 13, 14, 15, 16, 17, 18, 19, 20, 21, 22, 23] rfl rfl (by decide) (by decide) (by decide) rfl rfl (Nat.le_of_ble_eq_true rfl) d_ML_alter_44 (by decide) (fun _ => ?_)
      refine j_ws (ws' := wML cI cR o0 hc hm om hb ow or_ hh aM aF bw qw bf qf n wd ht stp col msk bare M F Bw r3.2 pl rf hd) rfl ?_
      obtain rfl := Option.some.inj h
      exact j_iret C hr d_ML_alter_47 0 rfl
    · replace h := (if_pos c4).symm.trans h
      cases h
  · replace h := (if_pos c5).symm.trans h
    cases h
def ML_read (fu : Nat) (n : Nat) (wd : Int32) (ht : Int32) (stp : Int32) (col : (Nat → Int32)) (msk : (Nat → Int32)) (bare : (Nat → Int32)) (M : LyS) (F : LyS) (Bw : ByS) (Bf : ByS) (pl : Int32) (rf : Int32) (hd : (Nat → Int32)) : Option (Int32 × LyS × Int32 × Int32 × (Nat → Int32)) :=
  (Reader_readAll fu 576 Bf pl rf hd F).bind fun r1 =>
  some (r1.1, r1.2.2.2.2, r1.2.1, r1.2.2.1, r1.2.2.2.1)
set_option maxRecDepth 100000 in
set_option maxHeartbeats 4000000 in
theorem c_ML_read (l : Launch) (D : va_G) (cI cR cZ : ClassId) (t1 t2 : Nat) (fu : Nat) (o0 : Nat) (hc : Nat) (hm : Nat) (om : Nat) (hb : Nat) (ow : Nat) (or_ : Nat) (hh : Nat) (aM : (Nat → Nat)) (aF : (Nat → Nat)) (bw : Nat) (qw : Nat) (bf : Nat) (qf : Nat) (n : Nat) (wd : Int32) (ht : Int32) (stp : Int32) (col : (Nat → Int32)) (msk : (Nat → Int32)) (bare : (Nat → Int32)) (M : LyS) (F : LyS) (Bw : ByS) (Bf : ByS) (pl : Int32) (rf : Int32) (hd : (Nat → Int32)) {res : (Int32 × LyS × Int32 × Int32 × (Nat → Int32))} (h : ML_read fu n wd ht stp col msk bare M F Bw Bf pl rf hd = some res) (sz : Nat) : Met l y_ML_read (Cond.code y_ML_read b_ML_read 1 (some .int) :: BIG) rm_ML_read (PcS t1 t2 [.ref o0] D (tyG cI cR cZ) (wML cI cR o0 hc hm om hb ow or_ hh aM aF bw qw bf qf n wd ht stp col msk bare M F Bw Bf pl rf hd) sz) (QcI D res.1 (fun _ : Nat => wML cI cR o0 hc hm om hb ow or_ hh aM aF bw qw bf qf n wd ht stp col msk bare M res.2.1 Bw Bf res.2.2.1 res.2.2.2.1 res.2.2.2.2) (va_A (wML cI cR o0 hc hm om hb ow or_ hh aM aF bw qw bf qf n wd ht stp col msk bare M F Bw Bf pl rf hd) sz)) 0 0 (va_A (wML cI cR o0 hc hm om hb ow or_ hh aM aF bw qw bf qf n wd ht stp col msk bare M F Bw Bf pl rf hd) sz) := by
  refine met_Is (by decide) (Nat.le_of_ble_eq_true rfl) (fun p e s m args below meth c A hA hX C hr => ?_)
  have C : Cx p s m args meth c D (tyG cI cR cZ) b_ML_read 1 "MaskLayers" := C
  have hr : meth.sig.returnType = some .int := hr
  show J p l e rm_ML_read s m args below meth c D A (va_D A) 1 (MQ below (QcI D res.1 (fun _ : Nat => wML cI cR o0 hc hm om hb ow or_ hh aM aF bw qw bf qf n wd ht stp col msk bare M res.2.1 Bw Bf res.2.2.1 res.2.2.2.1 res.2.2.2.2) A) args s 0 0 A) 0 0 (wML cI cR o0 hc hm om hb ow or_ hh aM aF bw qw bf qf n wd ht stp col msk bare M F Bw Bf pl rf hd) [(0, .ref o0)] [] 0
  unfold ML_read at h
  refine j_aload_n C 0 d_ML_read_0 rfl ?_
  refine gf_ML_77 C 0 (v := .ref or_) rfl rfl d_ML_read_1 ?_
  obtain ⟨r1, hr1, h⟩ := bd_ok h
  refine j_IVs C [] hA hX 6 rfl rfl (c_Reader_readAll l D cI cR cZ t1 t2 fu or_ hh bf qf aF 576 Bf pl rf hd F hr1) (cw_ML_181 C ⟨Nat.le_of_ble_eq_true rfl, Nat.le_of_ble_eq_true rfl⟩) [6, 7, 24, 25, 15, 16, 17, 18, 19, 20, 21] [0, 1, 2, 3, 4, 5, 8, 9, 10, 11, 12, 13, 14, 22, 23] rfl rfl (by decide) (by decide) (by decide) rfl rfl (Nat.le_of_ble_eq_true rfl) d_ML_read_4 (by decide) (fun _ => ?_)
  refine j_perm [0, 1, 2, 3, 4, 5, 15, 16, 6, 7, 8, 9, 10, 11, 12, 19, 20, 21, 22, 23, 24, 25, 13, 14, 17, 18] (ws' := wML cI cR o0 hc hm om hb ow or_ hh aM aF bw qw bf qf n wd ht stp col msk bare M r1.2.2.2.2 Bw Bf r1.2.1 r1.2.2.1 r1.2.2.2.1) rfl (by decide) ?_
  obtain rfl := Option.some.inj h
  exact j_iret C hr d_ML_read_7 0 rfl
def ML_clear (fu : Nat) (n : Nat) (wd : Int32) (ht : Int32) (stp : Int32) (col : (Nat → Int32)) (msk : (Nat → Int32)) (bare : (Nat → Int32)) (M : LyS) (F : LyS) (Bw : ByS) (Bf : ByS) (pl : Int32) (rf : Int32) (hd : (Nat → Int32)) : Option (Int32 × (Nat → Int32) × (Nat → Int32) × LyS × LyS × ByS × ByS) :=
  (Arrays_fill fu n col 0).bind fun r1 =>
  (Arrays_fill fu n msk 0).bind fun r2 =>
  (Layers_forget fu n M).bind fun r3 =>
  (Layers_forget fu 576 F).bind fun r4 =>
  (ByteRow_empty Bw).bind fun r5 =>
  (ByteRow_empty Bf).bind fun r6 =>
  some (24, r1, r2, r3, r4, r5, r6)
set_option maxRecDepth 100000 in
set_option maxHeartbeats 4000000 in
theorem c_ML_clear (l : Launch) (D : va_G) (cI cR cZ : ClassId) (fu : Nat) (o0 : Nat) (hc : Nat) (hm : Nat) (om : Nat) (hb : Nat) (ow : Nat) (or_ : Nat) (hh : Nat) (aM : (Nat → Nat)) (aF : (Nat → Nat)) (bw : Nat) (qw : Nat) (bf : Nat) (qf : Nat) (n : Nat) (wd : Int32) (ht : Int32) (stp : Int32) (col : (Nat → Int32)) (msk : (Nat → Int32)) (bare : (Nat → Int32)) (M : LyS) (F : LyS) (Bw : ByS) (Bf : ByS) (pl : Int32) (rf : Int32) (hd : (Nat → Int32)) {res : (Int32 × (Nat → Int32) × (Nat → Int32) × LyS × LyS × ByS × ByS)} (h : ML_clear fu n wd ht stp col msk bare M F Bw Bf pl rf hd = some res) (sz : Nat) : Met l y_ML_clear (Cond.code y_ML_clear b_ML_clear 1 none :: BIG) rm_ML_clear (PcI [.ref o0] D (tyG cI cR cZ) (wML cI cR o0 hc hm om hb ow or_ hh aM aF bw qw bf qf n wd ht stp col msk bare M F Bw Bf pl rf hd) sz) (QcV D (fun _ : Nat => wML cI cR o0 hc hm om hb ow or_ hh aM aF bw qw bf qf n wd ht res.1 res.2.1 res.2.2.1 bare res.2.2.2.1 res.2.2.2.2.1 res.2.2.2.2.2.1 res.2.2.2.2.2.2 pl rf hd) (va_A (wML cI cR o0 hc hm om hb ow or_ hh aM aF bw qw bf qf n wd ht stp col msk bare M F Bw Bf pl rf hd) sz)) 0 0 (va_A (wML cI cR o0 hc hm om hb ow or_ hh aM aF bw qw bf qf n wd ht stp col msk bare M F Bw Bf pl rf hd) sz) := by
  refine met_V (by decide) (Nat.le_of_ble_eq_true rfl) (fun p e s m args below meth c A hA C hr => ?_)
  have C : Cx p s m args meth c D (tyG cI cR cZ) b_ML_clear 1 "MaskLayers" := C
  have hr : meth.sig.returnType = none := hr
  show J p l e rm_ML_clear s m args below meth c D A (va_D A) 1 (MQ below (QcV D (fun _ : Nat => wML cI cR o0 hc hm om hb ow or_ hh aM aF bw qw bf qf n wd ht res.1 res.2.1 res.2.2.1 bare res.2.2.2.1 res.2.2.2.2.1 res.2.2.2.2.2.1 res.2.2.2.2.2.2 pl rf hd) A) args s 0 0 A) 0 0 (wML cI cR o0 hc hm om hb ow or_ hh aM aF bw qw bf qf n wd ht stp col msk bare M F Bw Bf pl rf hd) [(0, .ref o0)] [] 0
  unfold ML_clear at h
  refine j_aload_n C 0 d_ML_clear_0 rfl ?_
  refine gf_ML_25 C 0 (v := .ref hc) rfl rfl d_ML_clear_1 ?_
  refine j_iconst C (v := 0) d_ML_clear_4 (by decide) ?_
  obtain ⟨r1, hr1, h⟩ := bd_ok h
  refine j_VS C [.ref hc, .int 0] hA (c_Arrays_fill l D cI cR cZ fu hc n col 0 hr1) (cw_ML_194 C ⟨Nat.le_of_ble_eq_true rfl, Nat.le_of_ble_eq_true rfl⟩) [1] [0, 2, 3, 4, 5, 6, 7, 8, 9, 10, 11, 12, 13, 14, 15, 16, 17, 18, 19, 20, 21, 22, 23, 24, 25] rfl rfl (by decide) (by decide) (by decide) rfl rfl (Nat.le_of_ble_eq_true rfl) d_ML_clear_5 (by decide) (fun _ => ?_)
  refine j_perm [0, 25, 1, 2, 3, 4, 5, 6, 7, 8, 9, 10, 11, 12, 13, 14, 15, 16, 17, 18, 19, 20, 21, 22, 23, 24] (ws' := wML cI cR o0 hc hm om hb ow or_ hh aM aF bw qw bf qf n wd ht stp r1 msk bare M F Bw Bf pl rf hd) rfl (by decide) ?_
  refine j_aload_n C 0 d_ML_clear_8 rfl ?_
  refine gf_ML_29 C 0 (v := .ref hm) rfl rfl d_ML_clear_9 ?_
  refine j_iconst C (v := 0) d_ML_clear_12 (by decide) ?_
  obtain ⟨r2, hr2, h⟩ := bd_ok h
  refine j_VS C [.ref hm, .int 0] hA (c_Arrays_fill l D cI cR cZ fu hm n msk 0 hr2) (cw_ML_194 C ⟨Nat.le_of_ble_eq_true rfl, Nat.le_of_ble_eq_true rfl⟩) [2] [0, 1, 3, 4, 5, 6, 7, 8, 9, 10, 11, 12, 13, 14, 15, 16, 17, 18, 19, 20, 21, 22, 23, 24, 25] rfl rfl (by decide) (by decide) (by decide) rfl rfl (Nat.le_of_ble_eq_true rfl) d_ML_clear_13 (by decide) (fun _ => ?_)
  refine j_perm [0, 1, 25, 2, 3, 4, 5, 6, 7, 8, 9, 10, 11, 12, 13, 14, 15, 16, 17, 18, 19, 20, 21, 22, 23, 24] (ws' := wML cI cR o0 hc hm om hb ow or_ hh aM aF bw qw bf qf n wd ht stp r1 r2 bare M F Bw Bf pl rf hd) rfl (by decide) ?_
  refine j_aload_n C 0 d_ML_clear_16 rfl ?_
  refine j_bipush C (v := 24) d_ML_clear_17 (by decide) ?_
  refine pf_ML_81 C 0 (wML cI cR o0 hc hm om hb ow or_ hh aM aF bw qw bf qf n wd ht 24 r1 r2 bare M F Bw Bf pl rf hd) rfl rfl rfl d_ML_clear_19 ?_
  refine j_aload_n C 0 d_ML_clear_22 rfl ?_
  refine gf_ML_37 C 0 (v := .ref (aM 0)) rfl rfl d_ML_clear_23 ?_
  obtain ⟨r3, hr3, h⟩ := bd_ok h
  refine j_VV C [] hA 8 rfl rfl (c_Layers_forget l D cI cR cZ fu aM n M hr3) (cw_ML_200 C ⟨Nat.le_of_ble_eq_true rfl, Nat.le_of_ble_eq_true rfl⟩) [8, 9, 10, 11, 12, 13, 14] [0, 1, 2, 3, 4, 5, 6, 7, 15, 16, 17, 18, 19, 20, 21, 22, 23, 24, 25] rfl rfl (by decide) (by decide) (by decide) rfl rfl (Nat.le_of_ble_eq_true rfl) d_ML_clear_26 (by decide) (fun _ => ?_)
  refine j_perm [0, 1, 2, 3, 4, 5, 6, 7, 19, 20, 21, 22, 23, 24, 25, 8, 9, 10, 11, 12, 13, 14, 15, 16, 17, 18] (ws' := wML cI cR o0 hc hm om hb ow or_ hh aM aF bw qw bf qf n wd ht 24 r1 r2 bare r3 F Bw Bf pl rf hd) rfl (by decide) ?_
  refine j_aload_n C 0 d_ML_clear_29 rfl ?_
  refine gf_ML_41 C 0 (v := .ref (aF 0)) rfl rfl d_ML_clear_30 ?_
  obtain ⟨r4, hr4, h⟩ := bd_ok h
  refine j_VV C [] hA 15 rfl rfl (c_Layers_forget l D cI cR cZ fu aF 576 F hr4) (cw_ML_200 C ⟨Nat.le_of_ble_eq_true rfl, Nat.le_of_ble_eq_true rfl⟩) [15, 16, 17, 18, 19, 20, 21] [0, 1, 2, 3, 4, 5, 6, 7, 8, 9, 10, 11, 12, 13, 14, 22, 23, 24, 25] rfl rfl (by decide) (by decide) (by decide) rfl rfl (Nat.le_of_ble_eq_true rfl) d_ML_clear_33 (by decide) (fun _ => ?_)
  refine j_perm [0, 1, 2, 3, 4, 5, 6, 7, 8, 9, 10, 11, 12, 13, 14, 19, 20, 21, 22, 23, 24, 25, 15, 16, 17, 18] (ws' := wML cI cR o0 hc hm om hb ow or_ hh aM aF bw qw bf qf n wd ht 24 r1 r2 bare r3 r4 Bw Bf pl rf hd) rfl (by decide) ?_
  refine j_aload_n C 0 d_ML_clear_36 rfl ?_
  refine gf_ML_47 C 0 (v := .ref bw) rfl rfl d_ML_clear_37 ?_
  obtain ⟨r5, hr5, h⟩ := bd_ok h
  refine j_VV C [] hA 22 rfl rfl (c_ByteRow_empty l D cI cR cZ bw qw Bw hr5) (cw_ML_203 C ⟨Nat.le_of_ble_eq_true rfl, Nat.le_of_ble_eq_true rfl⟩) [22, 23] [0, 1, 2, 3, 4, 5, 6, 7, 8, 9, 10, 11, 12, 13, 14, 15, 16, 17, 18, 19, 20, 21, 24, 25] rfl rfl (by decide) (by decide) (by decide) rfl rfl (Nat.le_of_ble_eq_true rfl) d_ML_clear_40 (by decide) (fun _ => ?_)
  refine j_perm [0, 1, 2, 3, 4, 5, 6, 7, 8, 9, 10, 11, 12, 13, 14, 15, 16, 17, 18, 19, 20, 21, 24, 25, 22, 23] (ws' := wML cI cR o0 hc hm om hb ow or_ hh aM aF bw qw bf qf n wd ht 24 r1 r2 bare r3 r4 r5 Bf pl rf hd) rfl (by decide) ?_
  refine j_aload_n C 0 d_ML_clear_43 rfl ?_
  refine gf_ML_51 C 0 (v := .ref bf) rfl rfl d_ML_clear_44 ?_
  obtain ⟨r6, hr6, h⟩ := bd_ok h
  refine j_VV C [] hA 24 rfl rfl (c_ByteRow_empty l D cI cR cZ bf qf Bf hr6) (cw_ML_203 C ⟨Nat.le_of_ble_eq_true rfl, Nat.le_of_ble_eq_true rfl⟩) [24, 25] [0, 1, 2, 3, 4, 5, 6, 7, 8, 9, 10, 11, 12, 13, 14, 15, 16, 17, 18, 19, 20, 21, 22, 23] rfl rfl (by decide) (by decide) (by decide) rfl rfl (Nat.le_of_ble_eq_true rfl) d_ML_clear_47 (by decide) (fun _ => ?_)
  refine j_ws (ws' := wML cI cR o0 hc hm om hb ow or_ hh aM aF bw qw bf qf n wd ht 24 r1 r2 bare r3 r4 r5 r6 pl rf hd) rfl ?_
  obtain rfl := Option.some.inj h
  exact j_vret C hr d_ML_clear_50 0 rfl
def ML_write (fu : Nat) (n : Nat) (wd : Int32) (ht : Int32) (stp : Int32) (col : (Nat → Int32)) (msk : (Nat → Int32)) (bare : (Nat → Int32)) (M : LyS) (F : LyS) (Bw : ByS) (Bf : ByS) (pl : Int32) (rf : Int32) (hd : (Nat → Int32)) : Option ((Int32 × ByS) × Nat × Nat) :=
  (if (M.1 3) = 0 then none
  else (Writer_writeAll fu n M Bw).bind fun r1 =>
  ad r1.2.1 r1.2.2 (some ((r1.1.1, r1.1.2), 0, 0)))
set_option maxRecDepth 100000 in
set_option maxHeartbeats 4000000 in
theorem c_ML_write (l : Launch) (D : va_G) (cI cR cZ : ClassId) (fu : Nat) (o0 : Nat) (hc : Nat) (hm : Nat) (om : Nat) (hb : Nat) (ow : Nat) (or_ : Nat) (hh : Nat) (aM : (Nat → Nat)) (aF : (Nat → Nat)) (bw : Nat) (qw : Nat) (bf : Nat) (qf : Nat) (n : Nat) (wd : Int32) (ht : Int32) (stp : Int32) (col : (Nat → Int32)) (msk : (Nat → Int32)) (bare : (Nat → Int32)) (M : LyS) (F : LyS) (Bw : ByS) (Bf : ByS) (pl : Int32) (rf : Int32) (hd : (Nat → Int32)) {res : ((Int32 × ByS) × Nat × Nat)} (h : ML_write fu n wd ht stp col msk bare M F Bw Bf pl rf hd = some res) (sz : Nat) : Met l y_ML_write (Cond.code y_ML_write b_ML_write 1 (some .int) :: BIG) (rm_ML_write res.2.1 res.2.2) (PcI [.ref o0] D (tyG cI cR cZ) (wML cI cR o0 hc hm om hb ow or_ hh aM aF bw qw bf qf n wd ht stp col msk bare M F Bw Bf pl rf hd) sz) (QcI D res.1.1 (fun q9 : Nat => wML cI cR o0 hc hm om hb ow or_ hh aM aF bw q9 bf qf n wd ht stp col msk bare M F res.1.2 Bf pl rf hd) (va_A (wML cI cR o0 hc hm om hb ow or_ hh aM aF bw qw bf qf n wd ht stp col msk bare M F Bw Bf pl rf hd) sz)) res.2.1 res.2.2 (va_A (wML cI cR o0 hc hm om hb ow or_ hh aM aF bw qw bf qf n wd ht stp col msk bare M F Bw Bf pl rf hd) sz) := by
  refine met_I (by decide) (Nat.le_of_ble_eq_true rfl) (fun p e s m args below meth c A hA C hr => ?_)
  have C : Cx p s m args meth c D (tyG cI cR cZ) b_ML_write 1 "MaskLayers" := C
  have hr : meth.sig.returnType = some .int := hr
  show J p l e (rm_ML_write res.2.1 res.2.2) s m args below meth c D A (va_D A) 1 (MQ below (QcI D res.1.1 (fun q9 : Nat => wML cI cR o0 hc hm om hb ow or_ hh aM aF bw q9 bf qf n wd ht stp col msk bare M F res.1.2 Bf pl rf hd) A) args s res.2.1 res.2.2 A) 0 0 (wML cI cR o0 hc hm om hb ow or_ hh aM aF bw qw bf qf n wd ht stp col msk bare M F Bw Bf pl rf hd) [(0, .ref o0)] [] 0
  unfold ML_write at h
  refine j_aload_n C 0 d_ML_write_0 rfl ?_
  refine gf_ML_37 C 0 (v := .ref (aM 0)) rfl rfl d_ML_write_1 ?_
  refine gf_ML_122 C 8 (v := .int (M.1 3)) rfl rfl d_ML_write_4 ?_
  refine j_if_ne C 20 d_ML_write_7 (by decide) (fun c2 => ?_) (fun c2 => ?_)
  · replace h := (if_neg c2).symm.trans h
    refine j_aload_n C 0 d_ML_write_20 rfl ?_
    refine gf_ML_68 C 0 (v := .ref ow) rfl rfl d_ML_write_21 ?_
    obtain ⟨r1, hr1, h⟩ := bd_ok h
    obtain ⟨zr1, h, ezr1, fzr1, gzr1⟩ := ad_ok h
    refine j_IV C [] hA 5 rfl rfl (c_Writer_writeAll l D cI cR cZ fu ow aM n bw qw M Bw hr1) (cw_ML_146 C ⟨Nat.le_of_ble_eq_true rfl, Nat.le_of_ble_eq_true rfl⟩) [5, 8, 9, 10, 11, 12, 13, 14, 22, 23] [0, 1, 2, 3, 4, 6, 7, 15, 16, 17, 18, 19, 20, 21, 24, 25] rfl rfl (by decide) (by decide) (by decide) rfl rfl (Nat.le_of_ble_eq_true rfl) d_ML_write_24 ⟨by show _ ≤ res.2.1; omega, by show _ ≤ res.2.2; omega⟩ (fun qr1 => ?_)
    refine j_perm [0, 1, 2, 3, 4, 16, 5, 6, 17, 18, 19, 20, 21, 22, 23, 7, 8, 9, 10, 11, 12, 13, 24, 25, 14, 15] (ws' := wML cI cR o0 hc hm om hb ow or_ hh aM aF bw qr1 bf qf n wd ht stp col msk bare M F r1.1.2 Bf pl rf hd) rfl (by decide) ?_
    obtain rfl := Option.some.inj h
    rw [ezr1]
    refine j_widen (c2 := res.2.1) (s2 := res.2.2) (by omega) (by omega) ?_
    exact j_iret C hr d_ML_write_27 qr1 rfl
  · replace h := (if_pos c2).symm.trans h
    cases h
def ML_feed (n : Nat) (wd : Int32) (ht : Int32) (stp : Int32) (col : (Nat → Int32)) (msk : (Nat → Int32)) (bare : (Nat → Int32)) (M : LyS) (F : LyS) (Bw : ByS) (Bf : ByS) (pl : Int32) (rf : Int32) (hd : (Nat → Int32)) (p1 : Int32) : Option ((Int32 × ByS) × Nat × Nat) :=
  (ML_isByte p1).bind fun r1 =>
  (if r1 = 0 then none
  else (ByteRow_room Bf).bind fun r2 =>
  (if 1 ≤ r2 then (ByteRow_append Bf p1).bind fun r3 =>
  ad r3.2.1 r3.2.2 (some ((r3.1.1, r3.1), 0, 0))
  else none))
set_option maxRecDepth 100000 in
set_option maxHeartbeats 4000000 in
theorem c_ML_feed (l : Launch) (D : va_G) (cI cR cZ : ClassId) (o0 : Nat) (hc : Nat) (hm : Nat) (om : Nat) (hb : Nat) (ow : Nat) (or_ : Nat) (hh : Nat) (aM : (Nat → Nat)) (aF : (Nat → Nat)) (bw : Nat) (qw : Nat) (bf : Nat) (qf : Nat) (n : Nat) (wd : Int32) (ht : Int32) (stp : Int32) (col : (Nat → Int32)) (msk : (Nat → Int32)) (bare : (Nat → Int32)) (M : LyS) (F : LyS) (Bw : ByS) (Bf : ByS) (pl : Int32) (rf : Int32) (hd : (Nat → Int32)) (p1 : Int32) {res : ((Int32 × ByS) × Nat × Nat)} (h : ML_feed n wd ht stp col msk bare M F Bw Bf pl rf hd p1 = some res) (sz : Nat) : Met l y_ML_feed (Cond.code y_ML_feed b_ML_feed 2 (some .int) :: BIG) (rm_ML_feed res.2.1 res.2.2) (PcI [.ref o0, .int p1] D (tyG cI cR cZ) (wML cI cR o0 hc hm om hb ow or_ hh aM aF bw qw bf qf n wd ht stp col msk bare M F Bw Bf pl rf hd) sz) (QcI D res.1.1 (fun q9 : Nat => wML cI cR o0 hc hm om hb ow or_ hh aM aF bw qw bf q9 n wd ht stp col msk bare M F Bw res.1.2 pl rf hd) (va_A (wML cI cR o0 hc hm om hb ow or_ hh aM aF bw qw bf qf n wd ht stp col msk bare M F Bw Bf pl rf hd) sz)) res.2.1 res.2.2 (va_A (wML cI cR o0 hc hm om hb ow or_ hh aM aF bw qw bf qf n wd ht stp col msk bare M F Bw Bf pl rf hd) sz) := by
  refine met_I (by decide) (Nat.le_of_ble_eq_true rfl) (fun p e s m args below meth c A hA C hr => ?_)
  have C : Cx p s m args meth c D (tyG cI cR cZ) b_ML_feed 2 "MaskLayers" := C
  have hr : meth.sig.returnType = some .int := hr
  show J p l e (rm_ML_feed res.2.1 res.2.2) s m args below meth c D A (va_D A) 2 (MQ below (QcI D res.1.1 (fun q9 : Nat => wML cI cR o0 hc hm om hb ow or_ hh aM aF bw qw bf q9 n wd ht stp col msk bare M F Bw res.1.2 pl rf hd) A) args s res.2.1 res.2.2 A) 0 0 (wML cI cR o0 hc hm om hb ow or_ hh aM aF bw qw bf qf n wd ht stp col msk bare M F Bw Bf pl rf hd) [(0, .ref o0), (1, .int p1)] [] 0
  unfold ML_feed at h
  refine j_iload_n C 1 d_ML_feed_0 rfl ?_
  obtain ⟨r1, hr1, h⟩ := bd_ok h
  refine j_PS C [.int p1] (c_ML_isByte l D cI cR cZ p1 hr1) (cw_ML_159 C ⟨Nat.le_of_ble_eq_true rfl, Nat.le_of_ble_eq_true rfl⟩) [] rfl rfl rfl (Nat.le_of_ble_eq_true rfl) d_ML_feed_1 ⟨by show _ ≤ res.2.1; omega, by show _ ≤ res.2.2; omega⟩ ?_
  refine j_if_ne C 17 d_ML_feed_4 (by decide) (fun c5 => ?_) (fun c5 => ?_)
  · replace h := (if_neg c5).symm.trans h
    refine j_aload_n C 0 d_ML_feed_17 rfl ?_
    refine gf_ML_51 C 0 (v := .ref bf) rfl rfl d_ML_feed_18 ?_
    obtain ⟨r2, hr2, h⟩ := bd_ok h
    refine j_PV C [] 24 rfl rfl (c_ByteRow_room l D cI cR cZ bf qf Bf hr2) (cw_ML_164 C ⟨Nat.le_of_ble_eq_true rfl, Nat.le_of_ble_eq_true rfl⟩) [24, 25] rfl rfl rfl (Nat.le_of_ble_eq_true rfl) d_ML_feed_21 ⟨by show _ ≤ res.2.1; omega, by show _ ≤ res.2.2; omega⟩ ?_
    refine j_iconst C (v := 1) d_ML_feed_24 (by decide) ?_
    refine j_icmp_ge C 38 d_ML_feed_25 (by decide) (fun c4 => ?_) (fun c4 => ?_)
    · replace h := (if_pos c4).symm.trans h
      refine j_aload_n C 0 d_ML_feed_38 rfl ?_
      refine gf_ML_51 C 0 (v := .ref bf) rfl rfl d_ML_feed_39 ?_
      refine j_iload_n C 1 d_ML_feed_42 rfl ?_
      obtain ⟨r3, hr3, h⟩ := bd_ok h
      obtain ⟨zr3, h, ezr3, fzr3, gzr3⟩ := ad_ok h
      refine j_VV C [.int p1] hA 24 rfl rfl (c_ByteRow_append l D cI cR cZ bf qf Bf p1 hr3) (cw_ML_172 C ⟨Nat.le_of_ble_eq_true rfl, Nat.le_of_ble_eq_true rfl⟩) [24, 25] [0, 1, 2, 3, 4, 5, 6, 7, 8, 9, 10, 11, 12, 13, 14, 15, 16, 17, 18, 19, 20, 21, 22, 23] rfl rfl (by decide) (by decide) (by decide) rfl rfl (Nat.le_of_ble_eq_true rfl) d_ML_feed_43 ⟨by show _ ≤ res.2.1; omega, by show _ ≤ res.2.2; omega⟩ (fun qr3 => ?_)
      refine j_ws (ws' := wML cI cR o0 hc hm om hb ow or_ hh aM aF bw qw bf qr3 n wd ht stp col msk bare M F Bw r3.1 pl rf hd) rfl ?_
      refine j_aload_n C 0 d_ML_feed_46 rfl ?_
      refine gf_ML_51 C 0 (v := .ref bf) rfl rfl d_ML_feed_47 ?_
      refine gf_ML_175 C 24 (v := .int r3.1.1) rfl rfl d_ML_feed_50 ?_
      obtain rfl := Option.some.inj h
      rw [ezr3]
      refine j_widen (c2 := res.2.1) (s2 := res.2.2) (by omega) (by omega) ?_
      exact j_iret C hr d_ML_feed_53 qr3 rfl
    · replace h := (if_neg c4).symm.trans h
      cases h
  · replace h := (if_pos c5).symm.trans h
    cases h
def ML_pass_l73 (n : Nat) (wd : Int32) (ht : Int32) (stp : Int32) (col : (Nat → Int32)) (msk : (Nat → Int32)) (bare : (Nat → Int32)) (M : LyS) (F : LyS) (Bw : ByS) (pl : Int32) (rf : Int32) (hd : (Nat → Int32)) (v1 : Int32) (v3 : Int32) : Nat → Int32 → ByS → Option ((Nat × ByS) × Nat × Nat)
  | 0, _, _ => none
  | k + 1, v4, Bf =>
  (if v3 ≤ v4 then some ((0, Bf), 0, 0)
  else (ByteRow_valueAt Bw (v1 + v4)).bind fun r3 =>
  (ByteRow_append Bf r3).bind fun r4 =>
  ad r4.2.1 r4.2.2 (ML_pass_l73 n wd ht stp col msk bare M F Bw pl rf hd v1 v3 k (v4 + 1) r4.1))
def ML_pass (fu : Nat) (n : Nat) (wd : Int32) (ht : Int32) (stp : Int32) (col : (Nat → Int32)) (msk : (Nat → Int32)) (bare : (Nat → Int32)) (M : LyS) (F : LyS) (Bw : ByS) (Bf : ByS) (pl : Int32) (rf : Int32) (hd : (Nat → Int32)) (p1 : Int32) (p2 : Int32) : Option ((Int32 × ByS) × Nat × Nat) :=
  (ByteRow_holds Bw p1).bind fun r1 =>
  (if r1 = 0 then none
  else (if 0 ≤ p2 then (ByteRow_room Bf).bind fun r2 =>
  (if (mn p2 (Bw.1 - p1)) ≤ r2 then (ML_pass_l73 n wd ht stp col msk bare M F Bw pl rf hd p1 (mn p2 (Bw.1 - p1)) fu 0 Bf).bind fun r6 =>
  ad r6.2.1 r6.2.2 (some ((mn p2 (Bw.1 - p1), r6.1.2), 0, 0))
  else none)
  else none))
set_option maxRecDepth 100000 in
set_option maxHeartbeats 4000000 in
theorem t_ML_pass_l73 {p : Program} {l : Launch} {e : Env} {s : State} {m : MethodId} {args : Array Value} {below : List Frame} {meth : Method} {c : Code} {D : va_G} {cI cR cZ : ClassId} {A : Nat → Prop} {cT sT : Nat} {Q : State → Prop} (C : Cx p s m args meth c D (tyG cI cR cZ) b_ML_pass 5 "MaskLayers") (hA : ∀ q : Nat, s.heap.size ≤ q → A q) {o0 : Nat} {hc : Nat} {hm : Nat} {om : Nat} {hb : Nat} {ow : Nat} {or_ : Nat} {hh : Nat} {aM : (Nat → Nat)} {aF : (Nat → Nat)} {bw : Nat} {qw : Nat} {bf : Nat} {n : Nat} {wd : Int32} {ht : Int32} {stp : Int32} {col : (Nat → Int32)} {msk : (Nat → Int32)} {bare : (Nat → Int32)} {M : LyS} {F : LyS} {Bw : ByS} {pl : Int32} {rf : Int32} {hd : (Nat → Int32)} {v1 : Int32} {v3 : Int32} : ∀ (k : Nat) (v4 : Int32) (Bf : ByS) (qf cs ss : Nat) (out : (Nat × ByS) × Nat × Nat), ML_pass_l73 n wd ht stp col msk bare M F Bw pl rf hd v1 v3 k v4 Bf = some out → cs + out.2.1 ≤ cT → ss + out.2.2 ≤ sT → (∀ q9 : Nat, out.1.1 = 0 → J p l e (rm_ML_pass cT sT) s m args below meth c D A (va_D A) 5 Q (cs + out.2.1) (ss + out.2.2) (wML cI cR o0 hc hm om hb ow or_ hh aM aF bw qw bf q9 n wd ht stp col msk bare M F Bw out.1.2 pl rf hd) [(3, .int v3)] [] 103) → J p l e (rm_ML_pass cT sT) s m args below meth c D A (va_D A) 5 Q cs ss (wML cI cR o0 hc hm om hb ow or_ hh aM aF bw qw bf qf n wd ht stp col msk bare M F Bw Bf pl rf hd) [(0, .ref o0), (1, .int v1), (3, .int v3), (4, .int v4)] [] 73 := by
  intro k
  induction k with
  | zero => intro v4 Bf qf cs ss out h; cases (show none = some out from h)
  | succ k ih =>
    intro v4 Bf qf cs ss out h hcs hss x0
    rw [ML_pass_l73] at h
    refine j_iload C 3 d_ML_pass_73 rfl ?_
    refine j_iload_n C 2 d_ML_pass_75 rfl ?_
    refine j_icmp_ge C 103 d_ML_pass_76 (by decide) (fun c5 => ?_) (fun c5 => ?_)
    · replace h := (if_pos c5).symm.trans h
      obtain rfl := Option.some.inj h
      refine j_sub [2] rfl ?_
      have X := x0 qf (by rfl)
      exact j_widen (by omega) (by omega) X
    · replace h := (if_neg c5).symm.trans h
      refine j_aload_n C 0 d_ML_pass_79 rfl ?_
      refine gf_ML_51 C 0 (v := .ref bf) rfl rfl d_ML_pass_80 ?_
      refine j_aload_n C 0 d_ML_pass_83 rfl ?_
      refine gf_ML_47 C 0 (v := .ref bw) rfl rfl d_ML_pass_84 ?_
      refine j_iload_n C 1 d_ML_pass_87 rfl ?_
      refine j_iload C 3 d_ML_pass_88 rfl ?_
      refine j_iadd C d_ML_pass_90 ?_
      obtain ⟨r3, hr3, h⟩ := bd_ok h
      refine j_PV C [.int (v1 + v4)] 22 rfl rfl (c_ByteRow_valueAt l D cI cR cZ bw qw Bw (v1 + v4) hr3) (cw_ML_156 C ⟨Nat.le_of_ble_eq_true rfl, Nat.le_of_ble_eq_true rfl⟩) [22, 23] rfl rfl rfl (Nat.le_of_ble_eq_true rfl) d_ML_pass_91 ⟨by show _ ≤ cT; omega, by show _ ≤ sT; omega⟩ ?_
      obtain ⟨r4, hr4, h⟩ := bd_ok h
      obtain ⟨zr4, h, ezr4, fzr4, gzr4⟩ := ad_ok h
      refine j_VV C [.int r3] hA 24 rfl rfl (c_ByteRow_append l D cI cR cZ bf qf Bf r3 hr4) (cw_ML_172 C ⟨Nat.le_of_ble_eq_true rfl, Nat.le_of_ble_eq_true rfl⟩) [24, 25] [0, 1, 2, 3, 4, 5, 6, 7, 8, 9, 10, 11, 12, 13, 14, 15, 16, 17, 18, 19, 20, 21, 22, 23] rfl rfl (by decide) (by decide) (by decide) rfl rfl (Nat.le_of_ble_eq_true rfl) d_ML_pass_94 ⟨by show _ ≤ cT; omega, by show _ ≤ sT; omega⟩ (fun qr4 => ?_)
      refine j_ws (ws' := wML cI cR o0 hc hm om hb ow or_ hh aM aF bw qw bf qr4 n wd ht stp col msk bare M F Bw r4.1 pl rf hd) rfl ?_
      refine j_iinc C [(4, .int (v4 + 1)), (0, .ref o0), (1, .int v1), (3, .int v3)] 3 (v4 + 1) d_ML_pass_97 rfl rfl (by decide) rfl ?_
      refine j_goto C 73 d_ML_pass_100 (by decide) ?_
      refine j_sub [1, 2, 3, 0] rfl ?_
      exact ih (v4 + 1) r4.1 qr4 (cs + r4.2.1) (ss + r4.2.2) _ h (by omega) (by omega) (fun q9 e9 => by have X := x0 q9 (by rw [ezr4]; exact e9); rw [ezr4] at X; exact j_widen (by omega) (by omega) X)
set_option maxRecDepth 100000 in
set_option maxHeartbeats 4000000 in
theorem c_ML_pass (l : Launch) (D : va_G) (cI cR cZ : ClassId) (fu : Nat) (o0 : Nat) (hc : Nat) (hm : Nat) (om : Nat) (hb : Nat) (ow : Nat) (or_ : Nat) (hh : Nat) (aM : (Nat → Nat)) (aF : (Nat → Nat)) (bw : Nat) (qw : Nat) (bf : Nat) (qf : Nat) (n : Nat) (wd : Int32) (ht : Int32) (stp : Int32) (col : (Nat → Int32)) (msk : (Nat → Int32)) (bare : (Nat → Int32)) (M : LyS) (F : LyS) (Bw : ByS) (Bf : ByS) (pl : Int32) (rf : Int32) (hd : (Nat → Int32)) (p1 : Int32) (p2 : Int32) {res : ((Int32 × ByS) × Nat × Nat)} (h : ML_pass fu n wd ht stp col msk bare M F Bw Bf pl rf hd p1 p2 = some res) (sz : Nat) : Met l y_ML_pass (Cond.code y_ML_pass b_ML_pass 5 (some .int) :: BIG) (rm_ML_pass res.2.1 res.2.2) (PcI [.ref o0, .int p1, .int p2] D (tyG cI cR cZ) (wML cI cR o0 hc hm om hb ow or_ hh aM aF bw qw bf qf n wd ht stp col msk bare M F Bw Bf pl rf hd) sz) (QcI D res.1.1 (fun q9 : Nat => wML cI cR o0 hc hm om hb ow or_ hh aM aF bw qw bf q9 n wd ht stp col msk bare M F Bw res.1.2 pl rf hd) (va_A (wML cI cR o0 hc hm om hb ow or_ hh aM aF bw qw bf qf n wd ht stp col msk bare M F Bw Bf pl rf hd) sz)) res.2.1 res.2.2 (va_A (wML cI cR o0 hc hm om hb ow or_ hh aM aF bw qw bf qf n wd ht stp col msk bare M F Bw Bf pl rf hd) sz) := by
  refine met_I (by decide) (Nat.le_of_ble_eq_true rfl) (fun p e s m args below meth c A hA C hr => ?_)
  have C : Cx p s m args meth c D (tyG cI cR cZ) b_ML_pass 5 "MaskLayers" := C
  have hr : meth.sig.returnType = some .int := hr
  show J p l e (rm_ML_pass res.2.1 res.2.2) s m args below meth c D A (va_D A) 5 (MQ below (QcI D res.1.1 (fun q9 : Nat => wML cI cR o0 hc hm om hb ow or_ hh aM aF bw qw bf q9 n wd ht stp col msk bare M F Bw res.1.2 pl rf hd) A) args s res.2.1 res.2.2 A) 0 0 (wML cI cR o0 hc hm om hb ow or_ hh aM aF bw qw bf qf n wd ht stp col msk bare M F Bw Bf pl rf hd) [(0, .ref o0), (1, .int p1), (2, .int p2)] [] 0
  unfold ML_pass at h
  refine j_aload_n C 0 d_ML_pass_0 rfl ?_
  refine gf_ML_47 C 0 (v := .ref bw) rfl rfl d_ML_pass_1 ?_
  refine j_iload_n C 1 d_ML_pass_4 rfl ?_
  obtain ⟨r1, hr1, h⟩ := bd_ok h
  refine j_PV C [.int p1] 22 rfl rfl (c_ByteRow_holds l D cI cR cZ bw qw Bw p1 hr1) (cw_ML_150 C ⟨Nat.le_of_ble_eq_true rfl, Nat.le_of_ble_eq_true rfl⟩) [22, 23] rfl rfl rfl (Nat.le_of_ble_eq_true rfl) d_ML_pass_5 ⟨by show _ ≤ res.2.1; omega, by show _ ≤ res.2.2; omega⟩ ?_
  refine j_if_ne C 21 d_ML_pass_8 (by decide) (fun c10 => ?_) (fun c10 => ?_)
  · replace h := (if_neg c10).symm.trans h
    refine j_iload_n C 2 d_ML_pass_21 rfl ?_
    refine j_if_ge C 35 d_ML_pass_22 (by decide) (fun c9 => ?_) (fun c9 => ?_)
    · replace h := (if_pos c9).symm.trans h
      refine j_iload_n C 2 d_ML_pass_35 rfl ?_
      refine j_aload_n C 0 d_ML_pass_36 rfl ?_
      refine gf_ML_47 C 0 (v := .ref bw) rfl rfl d_ML_pass_37 ?_
      refine gf_ML_175 C 22 (v := .int Bw.1) rfl rfl d_ML_pass_40 ?_
      refine j_iload_n C 1 d_ML_pass_43 rfl ?_
      refine j_isub C d_ML_pass_44 ?_
      refine j_mmin C mw_ML_9 (Nat.le_of_ble_eq_true rfl) (Nat.le_of_ble_eq_true rfl) ⟨by show _ ≤ res.2.1; omega, by show _ ≤ res.2.2; omega⟩ d_ML_pass_45 ?_
      refine j_istore_n C [(3, .int (mn p2 (Bw.1 - p1))), (0, .ref o0), (1, .int p1), (2, .int p2)] d_ML_pass_48 (by decide) rfl ?_
      refine j_aload_n C 1 d_ML_pass_49 rfl ?_
      refine gf_ML_51 C 0 (v := .ref bf) rfl rfl d_ML_pass_50 ?_
      obtain ⟨r2, hr2, h⟩ := bd_ok h
      refine j_PV C [] 24 rfl rfl (c_ByteRow_room l D cI cR cZ bf qf Bf hr2) (cw_ML_164 C ⟨Nat.le_of_ble_eq_true rfl, Nat.le_of_ble_eq_true rfl⟩) [24, 25] rfl rfl rfl (Nat.le_of_ble_eq_true rfl) d_ML_pass_53 ⟨by show _ ≤ res.2.1; omega, by show _ ≤ res.2.2; omega⟩ ?_
      refine j_iload_n C 0 d_ML_pass_56 rfl ?_
      refine j_icmp_ge C 70 d_ML_pass_57 (by decide) (fun c8 => ?_) (fun c8 => ?_)
      · replace h := (if_pos c8).symm.trans h
        refine j_iconst C (v := 0) d_ML_pass_70 (by decide) ?_
        refine j_istore C [(4, .int 0), (3, .int (mn p2 (Bw.1 - p1))), (0, .ref o0), (1, .int p1), (2, .int p2)] d_ML_pass_71 (by decide) rfl ?_
        obtain ⟨r6, hr6, h⟩ := bd_ok h
        obtain ⟨zr6, h, ezr6, fzr6, gzr6⟩ := ad_ok h
        refine j_sub [2, 3, 1, 0] rfl ?_
        refine t_ML_pass_l73 C hA fu 0 Bf qf 0 0 _ hr6 (by omega) (by omega) (fun qr6 e7 => ?_)
        · refine j_iload_n C 0 d_ML_pass_103 rfl ?_
          obtain rfl := Option.some.inj h
          rw [ezr6]
          refine j_widen (c2 := res.2.1) (s2 := res.2.2) (by omega) (by omega) ?_
          exact j_iret C hr d_ML_pass_104 qr6 rfl
      · replace h := (if_neg c8).symm.trans h
        cases h
    · replace h := (if_neg c9).symm.trans h
      cases h
  · replace h := (if_pos c10).symm.trans h
    cases h
