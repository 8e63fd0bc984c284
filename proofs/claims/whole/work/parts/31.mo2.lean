def Mo_lay (S : LyS) (p1 : Int32) (p2 : Int32) (p3 : Int32) (p4 : Int32) : Option (LyS) :=
  (if p3 ≤ (p2 - ((Lf (Lf S 15 p1) 16 (p3 * p4)).1 16)) then some (Lf (Lf (Lf S 15 p1) 16 (p3 * p4)) 17 p3)
  else some (Lf (Lf (Lf S 15 p1) 16 (p3 * p4)) 17 (p2 - ((Lf (Lf S 15 p1) 16 (p3 * p4)).1 16))))
set_option maxRecDepth 100000 in
set_option maxHeartbeats 4000000 in
theorem c_Mo_lay (l : Launch) (D : va_G) (cI cR cZ : ClassId) (a : (Nat → Nat)) (S : LyS) (p1 : Int32) (p2 : Int32) (p3 : Int32) (p4 : Int32) {res : (LyS)} (h : Mo_lay S p1 p2 p3 p4 = some res) (sz : Nat) : Met l y_Mo_lay (Cond.code y_Mo_lay b_Mo_lay 5 none :: BIG) rm_Mo_lay (PcI [.ref (a 0), .int p1, .int p2, .int p3, .int p4] D (tyG cI cR cZ) (wMo cI cZ a S) sz) (QcV D (fun _ : Nat => wMo cI cZ a res) (va_A (wMo cI cZ a S) sz)) 0 0 (va_A (wMo cI cZ a S) sz) := by
  refine met_V (by decide) (Nat.le_of_ble_eq_true rfl) (fun p e s m args below meth c A hA C hr => ?_)
  have C : Cx p s m args meth c D (tyG cI cR cZ) b_Mo_lay 5 "MaskLayersModel" := C
  have hr : meth.sig.returnType = none := hr
  show J p l e rm_Mo_lay s m args below meth c D A (va_D A) 5 (MQ below (QcV D (fun _ : Nat => wMo cI cZ a res) A) args s 0 0 A) 0 0 (wMo cI cZ a S) [(0, .ref (a 0)), (1, .int p1), (2, .int p2), (3, .int p3), (4, .int p4)] [] 0
  unfold Mo_lay at h
  refine j_aload_n C 0 d_Mo_lay_0 rfl ?_
  refine j_iload_n C 1 d_Mo_lay_1 rfl ?_
  refine pf_Mo_66 C 0 (wMo cI cZ a (Lf S 15 p1)) mo_h rfl mo_f15 d_Mo_lay_2 ?_
  refine j_aload_n C 0 d_Mo_lay_5 rfl ?_
  refine j_iload_n C 3 d_Mo_lay_6 rfl ?_
  refine j_iload C 4 d_Mo_lay_7 rfl ?_
  refine j_imul C d_Mo_lay_9 ?_
  refine pf_Mo_69 C 0 (wMo cI cZ a (Lf (Lf S 15 p1) 16 (p3 * p4))) mo_h rfl mo_f16 d_Mo_lay_10 ?_
  refine j_aload_n C 0 d_Mo_lay_13 rfl ?_
  refine j_iload_n C 2 d_Mo_lay_14 rfl ?_
  refine j_aload_n C 0 d_Mo_lay_15 rfl ?_
  refine gf_Mo_69 C 0 (v := .int ((Lf (Lf S 15 p1) 16 (p3 * p4)).1 16)) mo_h rfl d_Mo_lay_16 ?_
  refine j_isub C d_Mo_lay_19 ?_
  refine j_iload_n C 3 d_Mo_lay_20 rfl ?_
  refine j_icmp_ge C 33 d_Mo_lay_21 (by decide) (fun c1 => ?_) (fun c1 => ?_)
  · replace h := (if_pos c1).symm.trans h
    refine j_iload_n C 3 d_Mo_lay_33 rfl ?_
    refine pf_Mo_72 C 0 (wMo cI cZ a (Lf (Lf (Lf S 15 p1) 16 (p3 * p4)) 17 p3)) mo_h rfl mo_f17 d_Mo_lay_34 ?_
    obtain rfl := Option.some.inj h
    exact j_vret C hr d_Mo_lay_37 0 rfl
  · replace h := (if_neg c1).symm.trans h
    refine j_iload_n C 2 d_Mo_lay_24 rfl ?_
    refine j_aload_n C 0 d_Mo_lay_25 rfl ?_
    refine gf_Mo_69 C 0 (v := .int ((Lf (Lf S 15 p1) 16 (p3 * p4)).1 16)) mo_h rfl d_Mo_lay_26 ?_
    refine j_isub C d_Mo_lay_29 ?_
    refine j_goto C 34 d_Mo_lay_30 (by decide) ?_
    refine pf_Mo_72 C 0 (wMo cI cZ a (Lf (Lf (Lf S 15 p1) 16 (p3 * p4)) 17 (p2 - ((Lf (Lf S 15 p1) 16 (p3 * p4)).1 16)))) mo_h rfl mo_f17 d_Mo_lay_34 ?_
    obtain rfl := Option.some.inj h
    exact j_vret C hr d_Mo_lay_37 0 rfl
def Mo_put_l54 (v1 : Int32) (v2 : Int32) (v3 : Int32) (v4 : Int32) : Nat → Int32 → Int32 → LyS → Option (Nat × Int32 × LyS)
  | 0, _, _, _ => none
  | k + 1, v5, v6, S =>
  (Mo_end S v1 v3).bind fun r2 =>
  (if r2 ≤ v6 then some (0, v5, S)
  else gd ((24 * v2) + v6) 576 ((if (S.2 0 (((24 * v2) + v6).toNatClampNeg)) = v4 then some ((0 : Int32))
  else some ((1 : Int32))).bind fun r4 =>
  gd ((24 * v2) + v6) 576 (Mo_put_l54 v1 v2 v3 v4 k (v5 + r4) (v6 + 1) (Ls S 0 (((24 * v2) + v6).toNatClampNeg) v4))))
def Mo_put_b36 (fu : Nat) (S : LyS) (v1 : Int32) (v2 : Int32) (v3 : Int32) (v4 : Int32) (s0 : Int32) : Option (Int32 × LyS) :=
  (if ((Lf S 0 s0).1 0) ≤ 0 then (Mo_put_l54 v1 v2 v3 v4 fu 0 v1 (Lf S 0 s0)).bind fun r8 =>
  some (r8.2.1, r8.2.2)
  else some (0, Lf S 0 s0))
def Mo_put_b31 (fu : Nat) (S : LyS) (v1 : Int32) (v2 : Int32) (v3 : Int32) (v4 : Int32) : Option (Int32 × LyS) :=
  Mo_put_b36 fu S v1 v2 v3 v4 2
def Mo_put (fu : Nat) (S : LyS) (p1 : Int32) (p2 : Int32) (p3 : Int32) (p4 : Int32) : Option (Int32 × LyS) :=
  (Mo_isSample S p1 p2).bind fun r1 =>
  (if r1 = 0 then Mo_put_b36 fu S p1 p2 p3 p4 1
  else (if p3 < 1 then Mo_put_b31 fu S p1 p2 p3 p4
  else (if p4 < 0 then Mo_put_b31 fu S p1 p2 p3 p4
  else (if p4 ≤ 16777215 then Mo_put_b36 fu S p1 p2 p3 p4 0
  else Mo_put_b31 fu S p1 p2 p3 p4))))
set_option maxRecDepth 100000 in
set_option maxHeartbeats 4000000 in
theorem t_Mo_put_l54 {p : Program} {l : Launch} {e : Env} {s : State} {m : MethodId} {args : Array Value} {below : List Frame} {meth : Method} {c : Code} {D : va_G} {cI cR cZ : ClassId} {A : Nat → Prop} {Q : State → Prop} (C : Cx p s m args meth c D (tyG cI cR cZ) b_Mo_put 7 "MaskLayersModel") (hA : ∀ q : Nat, s.heap.size ≤ q → A q) {a : (Nat → Nat)} {v1 : Int32} {v2 : Int32} {v3 : Int32} {v4 : Int32} {out : Nat × Int32 × LyS} : ∀ (k : Nat) (v5 : Int32) (v6 : Int32) (S : LyS), Mo_put_l54 v1 v2 v3 v4 k v5 v6 S = some out → (out.1 = 0 → J p l e rm_Mo_put s m args below meth c D A (va_D A) 7 Q 0 0 (wMo cI cZ a out.2.2) [(5, .int out.2.1)] [] 112) → J p l e rm_Mo_put s m args below meth c D A (va_D A) 7 Q 0 0 (wMo cI cZ a S) [(0, .ref (a 0)), (1, .int v1), (2, .int v2), (3, .int v3), (4, .int v4), (5, .int v5), (6, .int v6)] [] 54 := by
  intro k
  induction k with
  | zero => intro v5 v6 S h; cases (show none = some out from h)
  | succ k ih =>
    intro v5 v6 S h x0
    rw [Mo_put_l54] at h
    refine j_iload C 6 d_Mo_put_54 rfl ?_
    refine j_aload_n C 0 d_Mo_put_56 rfl ?_
    refine j_iload_n C 1 d_Mo_put_57 rfl ?_
    refine j_iload_n C 3 d_Mo_put_58 rfl ?_
    obtain ⟨r2, hr2, h⟩ := bd_ok h
    refine j_PV C [.int v1, .int v3] 0 rfl rfl (c_Mo_end l D cI cR cZ a S v1 v3 hr2) (cw_Mo_59 C ⟨Nat.le_of_ble_eq_true rfl, Nat.le_of_ble_eq_true rfl⟩) [0, 1, 2, 3, 4, 5, 6, 7, 8, 9, 10] rfl rfl rfl (Nat.le_of_ble_eq_true rfl) d_Mo_put_59 (by decide) ?_
    refine j_icmp_ge C 112 d_Mo_put_62 (by decide) (fun c7 => ?_) (fun c7 => ?_)
    · replace h := (if_pos c7).symm.trans h
      obtain rfl := Option.some.inj h
      refine j_sub [5] rfl ?_
      exact x0 rfl
    · replace h := (if_neg c7).symm.trans h
      refine j_iload C 5 d_Mo_put_65 rfl ?_
      refine j_aload_n C 0 d_Mo_put_67 rfl ?_
      refine gf_Mo_13 C 0 (v := .ref (a 1)) mo_h rfl d_Mo_put_68 ?_
      refine j_bipush C (v := 24) d_Mo_put_71 (by decide) ?_
      refine j_iload_n C 2 d_Mo_put_73 rfl ?_
      refine j_imul C d_Mo_put_74 ?_
      refine j_iload C 6 d_Mo_put_75 rfl ?_
      refine j_iadd C d_Mo_put_77 ?_
      obtain ⟨b3, h⟩ := gd_ok h
      refine j_iald C (1) (t0 := 0) mo_g0 rfl b3 d_Mo_put_78 ?_
      refine j_iload C 4 d_Mo_put_79 rfl ?_
      obtain ⟨r4, hr4, gr4⟩ := bd_ok h
      refine j_let (ws' := wMo cI cZ a S) (lv' := [(0, .ref (a 0)), (1, .int v1), (2, .int v2), (3, .int v3), (4, .int v4), (6, .int v6)]) (st' := [.int r4, .int v5]) (pc' := 89) ?_ (fun Kr4 => ?_)
      · replace h := gr4
        refine j_iadd C d_Mo_put_89 ?_
        refine j_istore C [(5, .int (v5 + r4)), (0, .ref (a 0)), (1, .int v1), (2, .int v2), (3, .int v3), (4, .int v4), (6, .int v6)] d_Mo_put_90 (by decide) rfl ?_
        refine j_aload_n C 1 d_Mo_put_92 rfl ?_
        refine gf_Mo_13 C 0 (v := .ref (a 1)) mo_h rfl d_Mo_put_93 ?_
        refine j_bipush C (v := 24) d_Mo_put_96 (by decide) ?_
        refine j_iload_n C 3 d_Mo_put_98 rfl ?_
        refine j_imul C d_Mo_put_99 ?_
        refine j_iload C 6 d_Mo_put_100 rfl ?_
        refine j_iadd C d_Mo_put_102 ?_
        refine j_iload C 5 d_Mo_put_103 rfl ?_
        obtain ⟨b5, h⟩ := gd_ok h
        refine j_iast C (1) (wMo cI cZ a (Ls S 0 (((24 * v2) + v6).toNatClampNeg) v4)) (t0 := 0) mo_g0 mo_s0 rfl b5 d_Mo_put_105 ?_
        refine j_iinc C [(6, .int (v6 + 1)), (5, .int (v5 + r4)), (0, .ref (a 0)), (1, .int v1), (2, .int v2), (3, .int v3), (4, .int v4)] 6 (v6 + 1) d_Mo_put_106 rfl rfl (by decide) rfl ?_
        refine j_goto C 54 d_Mo_put_109 (by decide) ?_
        refine j_sub [2, 3, 4, 5, 6, 1, 0] rfl ?_
        exact ih (v5 + r4) (v6 + 1) (Ls S 0 (((24 * v2) + v6).toNatClampNeg) v4) h x0
      · replace h := hr4
        refine j_icmp_eq C 88 d_Mo_put_81 (by decide) (fun c6 => ?_) (fun c6 => ?_)
        · replace h := (if_pos c6).symm.trans h
          refine j_iconst C (v := 0) d_Mo_put_88 (by decide) ?_
          obtain rfl := Option.some.inj h
          refine j_sub [0, 1, 2, 3, 4, 6] rfl ?_
          exact Kr4
        · replace h := (if_neg c6).symm.trans h
          refine j_iconst C (v := 1) d_Mo_put_84 (by decide) ?_
          refine j_goto C 89 d_Mo_put_85 (by decide) ?_
          obtain rfl := Option.some.inj h
          refine j_sub [0, 1, 2, 3, 4, 6] rfl ?_
          exact Kr4
set_option maxRecDepth 100000 in
set_option maxHeartbeats 4000000 in
theorem t_Mo_put_b36 {p : Program} {l : Launch} {e : Env} {s : State} {m : MethodId} {args : Array Value} {below : List Frame} {meth : Method} {c : Code} {D : va_G} {cI cR cZ : ClassId} {A : Nat → Prop} (C : Cx p s m args meth c D (tyG cI cR cZ) b_Mo_put 7 "MaskLayersModel") (hr : meth.sig.returnType = some .int) (hA : ∀ q : Nat, s.heap.size ≤ q → A q) {a : (Nat → Nat)} {S : LyS} {fu : Nat} {v1 : Int32} {v2 : Int32} {v3 : Int32} {v4 : Int32} {s0 : Int32} {res : (Int32 × LyS)} (h : Mo_put_b36 fu S v1 v2 v3 v4 s0 = some res) : J p l e rm_Mo_put s m args below meth c D A (va_D A) 7 (MQ below (QcI D res.1 (fun _ : Nat => wMo cI cZ a res.2) A) args s 0 0 A) 0 0 (wMo cI cZ a S) [(0, .ref (a 0)), (1, .int v1), (2, .int v2), (3, .int v3), (4, .int v4)] [.int s0, .ref (a 0)] 36 := by
  unfold Mo_put_b36 at h
  refine pf_Mo_51 C 0 (wMo cI cZ a (Lf S 0 s0)) mo_h rfl mo_f0 d_Mo_put_36 ?_
  refine j_aload_n C 0 d_Mo_put_39 rfl ?_
  refine gf_Mo_51 C 0 (v := .int ((Lf S 0 s0).1 0)) mo_h rfl d_Mo_put_40 ?_
  refine j_if_le C 48 d_Mo_put_43 (by decide) (fun c10 => ?_) (fun c10 => ?_)
  · replace h := (if_pos c10).symm.trans h
    refine j_iconst C (v := 0) d_Mo_put_48 (by decide) ?_
    refine j_istore C [(5, .int 0), (0, .ref (a 0)), (1, .int v1), (2, .int v2), (3, .int v3), (4, .int v4)] d_Mo_put_49 (by decide) rfl ?_
    refine j_iload_n C 2 d_Mo_put_51 rfl ?_
    refine j_istore C [(6, .int v1), (5, .int 0), (0, .ref (a 0)), (1, .int v1), (2, .int v2), (3, .int v3), (4, .int v4)] d_Mo_put_52 (by decide) rfl ?_
    obtain ⟨r8, hr8, h⟩ := bd_ok h
    refine j_sub [2, 3, 4, 5, 6, 1, 0] rfl ?_
    refine t_Mo_put_l54 C hA fu 0 v1 (Lf S 0 s0) hr8 (fun e9 => ?_)
    · refine j_iload C 0 d_Mo_put_112 rfl ?_
      obtain rfl := Option.some.inj h
      exact j_iret C hr d_Mo_put_114 0 rfl
  · replace h := (if_neg c10).symm.trans h
    refine j_iconst C (v := 0) d_Mo_put_46 (by decide) ?_
    obtain rfl := Option.some.inj h
    exact j_iret C hr d_Mo_put_47 0 rfl
set_option maxRecDepth 100000 in
set_option maxHeartbeats 4000000 in
theorem t_Mo_put_b31 {p : Program} {l : Launch} {e : Env} {s : State} {m : MethodId} {args : Array Value} {below : List Frame} {meth : Method} {c : Code} {D : va_G} {cI cR cZ : ClassId} {A : Nat → Prop} (C : Cx p s m args meth c D (tyG cI cR cZ) b_Mo_put 7 "MaskLayersModel") (hr : meth.sig.returnType = some .int) (hA : ∀ q : Nat, s.heap.size ≤ q → A q) {a : (Nat → Nat)} {S : LyS} {fu : Nat} {v1 : Int32} {v2 : Int32} {v3 : Int32} {v4 : Int32} {res : (Int32 × LyS)} (h : Mo_put_b31 fu S v1 v2 v3 v4 = some res) : J p l e rm_Mo_put s m args below meth c D A (va_D A) 7 (MQ below (QcI D res.1 (fun _ : Nat => wMo cI cZ a res.2) A) args s 0 0 A) 0 0 (wMo cI cZ a S) [(0, .ref (a 0)), (1, .int v1), (2, .int v2), (3, .int v3), (4, .int v4)] [.ref (a 0)] 31 := by
  unfold Mo_put_b31 at h
  refine j_iconst C (v := 2) d_Mo_put_31 (by decide) ?_
  refine j_goto C 36 d_Mo_put_32 (by decide) ?_
  refine j_sub [0, 1, 2, 3, 4] rfl ?_
  exact t_Mo_put_b36 C hr hA h
set_option maxRecDepth 100000 in
set_option maxHeartbeats 4000000 in
theorem c_Mo_put (l : Launch) (D : va_G) (cI cR cZ : ClassId) (fu : Nat) (a : (Nat → Nat)) (S : LyS) (p1 : Int32) (p2 : Int32) (p3 : Int32) (p4 : Int32) {res : (Int32 × LyS)} (h : Mo_put fu S p1 p2 p3 p4 = some res) (sz : Nat) : Met l y_Mo_put (Cond.code y_Mo_put b_Mo_put 7 (some .int) :: BIG) rm_Mo_put (PcI [.ref (a 0), .int p1, .int p2, .int p3, .int p4] D (tyG cI cR cZ) (wMo cI cZ a S) sz) (QcI D res.1 (fun _ : Nat => wMo cI cZ a res.2) (va_A (wMo cI cZ a S) sz)) 0 0 (va_A (wMo cI cZ a S) sz) := by
  refine met_I (by decide) (Nat.le_of_ble_eq_true rfl) (fun p e s m args below meth c A hA C hr => ?_)
  have C : Cx p s m args meth c D (tyG cI cR cZ) b_Mo_put 7 "MaskLayersModel" := C
  have hr : meth.sig.returnType = some .int := hr
  show J p l e rm_Mo_put s m args below meth c D A (va_D A) 7 (MQ below (QcI D res.1 (fun _ : Nat => wMo cI cZ a res.2) A) args s 0 0 A) 0 0 (wMo cI cZ a S) [(0, .ref (a 0)), (1, .int p1), (2, .int p2), (3, .int p3), (4, .int p4)] [] 0
  unfold Mo_put at h
  refine j_aload_n C 0 d_Mo_put_0 rfl ?_
  refine j_aload_n C 0 d_Mo_put_1 rfl ?_
  refine j_iload_n C 1 d_Mo_put_2 rfl ?_
  refine j_iload_n C 2 d_Mo_put_3 rfl ?_
  obtain ⟨r1, hr1, h⟩ := bd_ok h
  refine j_PV C [.int p1, .int p2] 0 rfl rfl (c_Mo_isSample l D cI cR cZ a S p1 p2 hr1) (cw_Mo_54 C ⟨Nat.le_of_ble_eq_true rfl, Nat.le_of_ble_eq_true rfl⟩) [0, 1, 2, 3, 4, 5, 6, 7, 8, 9, 10] rfl rfl rfl (Nat.le_of_ble_eq_true rfl) d_Mo_put_4 (by decide) ?_
  refine j_if_ne C 14 d_Mo_put_7 (by decide) (fun c14 => ?_) (fun c14 => ?_)
  · replace h := (if_neg c14).symm.trans h
    refine j_iload_n C 3 d_Mo_put_14 rfl ?_
    refine j_iconst C (v := 1) d_Mo_put_15 (by decide) ?_
    refine j_icmp_lt C 31 d_Mo_put_16 (by decide) (fun c13 => ?_) (fun c13 => ?_)
    · replace h := (if_pos c13).symm.trans h
      refine j_sub [0, 1, 2, 3, 4] rfl ?_
      exact t_Mo_put_b31 C hr hA h
    · replace h := (if_neg c13).symm.trans h
      refine j_iload C 4 d_Mo_put_19 rfl ?_
      refine j_if_lt C 31 d_Mo_put_21 (by decide) (fun c12 => ?_) (fun c12 => ?_)
      · replace h := (if_pos c12).symm.trans h
        refine j_sub [0, 1, 2, 3, 4] rfl ?_
        exact t_Mo_put_b31 C hr hA h
      · replace h := (if_neg c12).symm.trans h
        refine j_iload C 4 d_Mo_put_24 rfl ?_
        refine j_ldc C (v := 16777215) (mb (by decide +kernel) rfl) d_Mo_put_26 ?_
        refine j_icmp_le C 35 d_Mo_put_28 (by decide) (fun c11 => ?_) (fun c11 => ?_)
        · replace h := (if_pos c11).symm.trans h
          refine j_iconst C (v := 0) d_Mo_put_35 (by decide) ?_
          refine j_sub [0, 1, 2, 3, 4] rfl ?_
          exact t_Mo_put_b36 C hr hA h
        · replace h := (if_neg c11).symm.trans h
          refine j_sub [0, 1, 2, 3, 4] rfl ?_
          exact t_Mo_put_b31 C hr hA h
  · replace h := (if_pos c14).symm.trans h
    refine j_iconst C (v := 1) d_Mo_put_10 (by decide) ?_
    refine j_goto C 36 d_Mo_put_11 (by decide) ?_
    refine j_sub [0, 1, 2, 3, 4] rfl ?_
    exact t_Mo_put_b36 C hr hA h
def Mo_mask_l42 (v1 : Int32) (v2 : Int32) (v3 : Int32) (v4 : Int32) : Nat → Int32 → Int32 → LyS → Option (Nat × Int32 × LyS)
  | 0, _, _, _ => none
  | k + 1, v5, v6, S =>
  (Mo_end S v1 v3).bind fun r2 =>
  (if r2 ≤ v6 then some (0, v5, S)
  else gd ((24 * v2) + v6) 576 ((if (S.2 1 (((24 * v2) + v6).toNatClampNeg)) = v4 then some ((0 : Int32))
  else some ((1 : Int32))).bind fun r4 =>
  gd ((24 * v2) + v6) 576 (zb v4 (Mo_mask_l42 v1 v2 v3 v4 k (v5 + r4) (v6 + 1) (Ls S 1 (((24 * v2) + v6).toNatClampNeg) v4)))))
def Mo_mask_b24 (fu : Nat) (S : LyS) (v1 : Int32) (v2 : Int32) (v3 : Int32) (v4 : Int32) (s0 : Int32) : Option (Int32 × LyS) :=
  (if ((Lf S 0 s0).1 0) ≤ 0 then (Mo_mask_l42 v1 v2 v3 v4 fu 0 v1 (Lf S 0 s0)).bind fun r9 =>
  some (r9.2.1, r9.2.2)
  else some (0, Lf S 0 s0))
def Mo_mask (fu : Nat) (S : LyS) (p1 : Int32) (p2 : Int32) (p3 : Int32) (p4 : Int32) : Option (Int32 × LyS) :=
  (Mo_isSample S p1 p2).bind fun r1 =>
  (if r1 = 0 then Mo_mask_b24 fu S p1 p2 p3 p4 1
  else (if 1 ≤ p3 then Mo_mask_b24 fu S p1 p2 p3 p4 0
  else Mo_mask_b24 fu S p1 p2 p3 p4 2))
set_option maxRecDepth 100000 in
set_option maxHeartbeats 4000000 in
theorem t_Mo_mask_l42 {p : Program} {l : Launch} {e : Env} {s : State} {m : MethodId} {args : Array Value} {below : List Frame} {meth : Method} {c : Code} {D : va_G} {cI cR cZ : ClassId} {A : Nat → Prop} {Q : State → Prop} (C : Cx p s m args meth c D (tyG cI cR cZ) b_Mo_mask 7 "MaskLayersModel") (hA : ∀ q : Nat, s.heap.size ≤ q → A q) {a : (Nat → Nat)} {v1 : Int32} {v2 : Int32} {v3 : Int32} {v4 : Int32} {out : Nat × Int32 × LyS} : ∀ (k : Nat) (v5 : Int32) (v6 : Int32) (S : LyS), Mo_mask_l42 v1 v2 v3 v4 k v5 v6 S = some out → (out.1 = 0 → J p l e rm_Mo_mask s m args below meth c D A (va_D A) 7 Q 0 0 (wMo cI cZ a out.2.2) [(5, .int out.2.1)] [] 100) → J p l e rm_Mo_mask s m args below meth c D A (va_D A) 7 Q 0 0 (wMo cI cZ a S) [(0, .ref (a 0)), (1, .int v1), (2, .int v2), (3, .int v3), (4, .int v4), (5, .int v5), (6, .int v6)] [] 42 := by
  intro k
  induction k with
  | zero => intro v5 v6 S h; cases (show none = some out from h)
  | succ k ih =>
    intro v5 v6 S h x0
    rw [Mo_mask_l42] at h
    refine j_iload C 6 d_Mo_mask_42 rfl ?_
    refine j_aload_n C 0 d_Mo_mask_44 rfl ?_
    refine j_iload_n C 1 d_Mo_mask_45 rfl ?_
    refine j_iload_n C 3 d_Mo_mask_46 rfl ?_
    obtain ⟨r2, hr2, h⟩ := bd_ok h
    refine j_PV C [.int v1, .int v3] 0 rfl rfl (c_Mo_end l D cI cR cZ a S v1 v3 hr2) (cw_Mo_59 C ⟨Nat.le_of_ble_eq_true rfl, Nat.le_of_ble_eq_true rfl⟩) [0, 1, 2, 3, 4, 5, 6, 7, 8, 9, 10] rfl rfl rfl (Nat.le_of_ble_eq_true rfl) d_Mo_mask_47 (by decide) ?_
    refine j_icmp_ge C 100 d_Mo_mask_50 (by decide) (fun c8 => ?_) (fun c8 => ?_)
    · replace h := (if_pos c8).symm.trans h
      obtain rfl := Option.some.inj h
      refine j_sub [5] rfl ?_
      exact x0 rfl
    · replace h := (if_neg c8).symm.trans h
      refine j_iload C 5 d_Mo_mask_53 rfl ?_
      refine j_aload_n C 0 d_Mo_mask_55 rfl ?_
      refine gf_Mo_17 C 0 (v := .ref (a 2)) mo_h rfl d_Mo_mask_56 ?_
      refine j_bipush C (v := 24) d_Mo_mask_59 (by decide) ?_
      refine j_iload_n C 2 d_Mo_mask_61 rfl ?_
      refine j_imul C d_Mo_mask_62 ?_
      refine j_iload C 6 d_Mo_mask_63 rfl ?_
      refine j_iadd C d_Mo_mask_65 ?_
      obtain ⟨b3, h⟩ := gd_ok h
      refine j_zald C (2) (t0 := 1) mo_g1 rfl b3 d_Mo_mask_66 ?_
      refine j_iload C 4 d_Mo_mask_67 rfl ?_
      obtain ⟨r4, hr4, gr4⟩ := bd_ok h
      refine j_let (ws' := wMo cI cZ a S) (lv' := [(0, .ref (a 0)), (1, .int v1), (2, .int v2), (3, .int v3), (4, .int v4), (6, .int v6)]) (st' := [.int r4, .int v5]) (pc' := 77) ?_ (fun Kr4 => ?_)
      · replace h := gr4
        refine j_iadd C d_Mo_mask_77 ?_
        refine j_istore C [(5, .int (v5 + r4)), (0, .ref (a 0)), (1, .int v1), (2, .int v2), (3, .int v3), (4, .int v4), (6, .int v6)] d_Mo_mask_78 (by decide) rfl ?_
        refine j_aload_n C 1 d_Mo_mask_80 rfl ?_
        refine gf_Mo_17 C 0 (v := .ref (a 2)) mo_h rfl d_Mo_mask_81 ?_
        refine j_bipush C (v := 24) d_Mo_mask_84 (by decide) ?_
        refine j_iload_n C 3 d_Mo_mask_86 rfl ?_
        refine j_imul C d_Mo_mask_87 ?_
        refine j_iload C 6 d_Mo_mask_88 rfl ?_
        refine j_iadd C d_Mo_mask_90 ?_
        refine j_iload C 5 d_Mo_mask_91 rfl ?_
        obtain ⟨b5, h⟩ := gd_ok h
        obtain ⟨b6, h⟩ := zb_ok h
        refine j_zast C (2) (wMo cI cZ a (Ls S 1 (((24 * v2) + v6).toNatClampNeg) v4)) (t0 := 1) mo_g1 mo_s1 rfl b5 b6 d_Mo_mask_93 ?_
        refine j_iinc C [(6, .int (v6 + 1)), (5, .int (v5 + r4)), (0, .ref (a 0)), (1, .int v1), (2, .int v2), (3, .int v3), (4, .int v4)] 6 (v6 + 1) d_Mo_mask_94 rfl rfl (by decide) rfl ?_
        refine j_goto C 42 d_Mo_mask_97 (by decide) ?_
        refine j_sub [2, 3, 4, 5, 6, 1, 0] rfl ?_
        exact ih (v5 + r4) (v6 + 1) (Ls S 1 (((24 * v2) + v6).toNatClampNeg) v4) h x0
      · replace h := hr4
        refine j_icmp_eq C 76 d_Mo_mask_69 (by decide) (fun c7 => ?_) (fun c7 => ?_)
        · replace h := (if_pos c7).symm.trans h
          refine j_iconst C (v := 0) d_Mo_mask_76 (by decide) ?_
          obtain rfl := Option.some.inj h
          refine j_sub [0, 1, 2, 3, 4, 6] rfl ?_
          exact Kr4
        · replace h := (if_neg c7).symm.trans h
          refine j_iconst C (v := 1) d_Mo_mask_72 (by decide) ?_
          refine j_goto C 77 d_Mo_mask_73 (by decide) ?_
          obtain rfl := Option.some.inj h
          refine j_sub [0, 1, 2, 3, 4, 6] rfl ?_
          exact Kr4
set_option maxRecDepth 100000 in
set_option maxHeartbeats 4000000 in
theorem t_Mo_mask_b24 {p : Program} {l : Launch} {e : Env} {s : State} {m : MethodId} {args : Array Value} {below : List Frame} {meth : Method} {c : Code} {D : va_G} {cI cR cZ : ClassId} {A : Nat → Prop} (C : Cx p s m args meth c D (tyG cI cR cZ) b_Mo_mask 7 "MaskLayersModel") (hr : meth.sig.returnType = some .int) (hA : ∀ q : Nat, s.heap.size ≤ q → A q) {a : (Nat → Nat)} {S : LyS} {fu : Nat} {v1 : Int32} {v2 : Int32} {v3 : Int32} {v4 : Int32} {s0 : Int32} {res : (Int32 × LyS)} (h : Mo_mask_b24 fu S v1 v2 v3 v4 s0 = some res) : J p l e rm_Mo_mask s m args below meth c D A (va_D A) 7 (MQ below (QcI D res.1 (fun _ : Nat => wMo cI cZ a res.2) A) args s 0 0 A) 0 0 (wMo cI cZ a S) [(0, .ref (a 0)), (1, .int v1), (2, .int v2), (3, .int v3), (4, .int v4)] [.int s0, .ref (a 0)] 24 := by
  unfold Mo_mask_b24 at h
  refine pf_Mo_51 C 0 (wMo cI cZ a (Lf S 0 s0)) mo_h rfl mo_f0 d_Mo_mask_24 ?_
  refine j_aload_n C 0 d_Mo_mask_27 rfl ?_
  refine gf_Mo_51 C 0 (v := .int ((Lf S 0 s0).1 0)) mo_h rfl d_Mo_mask_28 ?_
  refine j_if_le C 36 d_Mo_mask_31 (by decide) (fun c11 => ?_) (fun c11 => ?_)
  · replace h := (if_pos c11).symm.trans h
    refine j_iconst C (v := 0) d_Mo_mask_36 (by decide) ?_
    refine j_istore C [(5, .int 0), (0, .ref (a 0)), (1, .int v1), (2, .int v2), (3, .int v3), (4, .int v4)] d_Mo_mask_37 (by decide) rfl ?_
    refine j_iload_n C 2 d_Mo_mask_39 rfl ?_
    refine j_istore C [(6, .int v1), (5, .int 0), (0, .ref (a 0)), (1, .int v1), (2, .int v2), (3, .int v3), (4, .int v4)] d_Mo_mask_40 (by decide) rfl ?_
    obtain ⟨r9, hr9, h⟩ := bd_ok h
    refine j_sub [2, 3, 4, 5, 6, 1, 0] rfl ?_
    refine t_Mo_mask_l42 C hA fu 0 v1 (Lf S 0 s0) hr9 (fun e10 => ?_)
    · refine j_iload C 0 d_Mo_mask_100 rfl ?_
      obtain rfl := Option.some.inj h
      exact j_iret C hr d_Mo_mask_102 0 rfl
  · replace h := (if_neg c11).symm.trans h
    refine j_iconst C (v := 0) d_Mo_mask_34 (by decide) ?_
    obtain rfl := Option.some.inj h
    exact j_iret C hr d_Mo_mask_35 0 rfl
set_option maxRecDepth 100000 in
set_option maxHeartbeats 4000000 in
theorem c_Mo_mask (l : Launch) (D : va_G) (cI cR cZ : ClassId) (fu : Nat) (a : (Nat → Nat)) (S : LyS) (p1 : Int32) (p2 : Int32) (p3 : Int32) (p4 : Int32) {res : (Int32 × LyS)} (h : Mo_mask fu S p1 p2 p3 p4 = some res) (sz : Nat) : Met l y_Mo_mask (Cond.code y_Mo_mask b_Mo_mask 7 (some .int) :: BIG) rm_Mo_mask (PcI [.ref (a 0), .int p1, .int p2, .int p3, .int p4] D (tyG cI cR cZ) (wMo cI cZ a S) sz) (QcI D res.1 (fun _ : Nat => wMo cI cZ a res.2) (va_A (wMo cI cZ a S) sz)) 0 0 (va_A (wMo cI cZ a S) sz) := by
  refine met_I (by decide) (Nat.le_of_ble_eq_true rfl) (fun p e s m args below meth c A hA C hr => ?_)
  have C : Cx p s m args meth c D (tyG cI cR cZ) b_Mo_mask 7 "MaskLayersModel" := C
  have hr : meth.sig.returnType = some .int := hr
  show J p l e rm_Mo_mask s m args below meth c D A (va_D A) 7 (MQ below (QcI D res.1 (fun _ : Nat => wMo cI cZ a res.2) A) args s 0 0 A) 0 0 (wMo cI cZ a S) [(0, .ref (a 0)), (1, .int p1), (2, .int p2), (3, .int p3), (4, .int p4)] [] 0
  unfold Mo_mask at h
  refine j_aload_n C 0 d_Mo_mask_0 rfl ?_
  refine j_aload_n C 0 d_Mo_mask_1 rfl ?_
  refine j_iload_n C 1 d_Mo_mask_2 rfl ?_
  refine j_iload_n C 2 d_Mo_mask_3 rfl ?_
  obtain ⟨r1, hr1, h⟩ := bd_ok h
  refine j_PV C [.int p1, .int p2] 0 rfl rfl (c_Mo_isSample l D cI cR cZ a S p1 p2 hr1) (cw_Mo_54 C ⟨Nat.le_of_ble_eq_true rfl, Nat.le_of_ble_eq_true rfl⟩) [0, 1, 2, 3, 4, 5, 6, 7, 8, 9, 10] rfl rfl rfl (Nat.le_of_ble_eq_true rfl) d_Mo_mask_4 (by decide) ?_
  refine j_if_ne C 14 d_Mo_mask_7 (by decide) (fun c13 => ?_) (fun c13 => ?_)
  · replace h := (if_neg c13).symm.trans h
    refine j_iload_n C 3 d_Mo_mask_14 rfl ?_
    refine j_iconst C (v := 1) d_Mo_mask_15 (by decide) ?_
    refine j_icmp_ge C 23 d_Mo_mask_16 (by decide) (fun c12 => ?_) (fun c12 => ?_)
    · replace h := (if_pos c12).symm.trans h
      refine j_iconst C (v := 0) d_Mo_mask_23 (by decide) ?_
      refine j_sub [0, 1, 2, 3, 4] rfl ?_
      exact t_Mo_mask_b24 C hr hA h
    · replace h := (if_neg c12).symm.trans h
      refine j_iconst C (v := 2) d_Mo_mask_19 (by decide) ?_
      refine j_goto C 24 d_Mo_mask_20 (by decide) ?_
      refine j_sub [0, 1, 2, 3, 4] rfl ?_
      exact t_Mo_mask_b24 C hr hA h
  · replace h := (if_pos c13).symm.trans h
    refine j_iconst C (v := 1) d_Mo_mask_10 (by decide) ?_
    refine j_goto C 24 d_Mo_mask_11 (by decide) ?_
    refine j_sub [0, 1, 2, 3, 4] rfl ?_
    exact t_Mo_mask_b24 C hr hA h
def Mo_stripe_b17 (S : LyS) (v1 : Int32) (s0 : Int32) : Option (Int32 × LyS) :=
  (if ((Lf S 0 s0).1 0) ≤ 0 then (Mo_stripesOf ((Lf (Lf S 0 s0) 3 v1).1 2) ((Lf (Lf S 0 s0) 3 v1).1 3)).bind fun r1 =>
  some (r1, Lf (Lf S 0 s0) 3 v1)
  else some (0, Lf S 0 s0))
def Mo_stripe_b12 (S : LyS) (v1 : Int32) : Option (Int32 × LyS) :=
  Mo_stripe_b17 S v1 1
def Mo_stripe (S : LyS) (p1 : Int32) : Option (Int32 × LyS) :=
  (if p1 < 1 then Mo_stripe_b12 S p1
  else (if p1 ≤ 24 then Mo_stripe_b17 S p1 0
  else Mo_stripe_b12 S p1))
set_option maxRecDepth 100000 in
set_option maxHeartbeats 4000000 in
theorem t_Mo_stripe_b17 {p : Program} {l : Launch} {e : Env} {s : State} {m : MethodId} {args : Array Value} {below : List Frame} {meth : Method} {c : Code} {D : va_G} {cI cR cZ : ClassId} {A : Nat → Prop} (C : Cx p s m args meth c D (tyG cI cR cZ) b_Mo_stripe 2 "MaskLayersModel") (hr : meth.sig.returnType = some .int) (hA : ∀ q : Nat, s.heap.size ≤ q → A q) {a : (Nat → Nat)} {S : LyS} {v1 : Int32} {s0 : Int32} {res : (Int32 × LyS)} (h : Mo_stripe_b17 S v1 s0 = some res) : J p l e rm_Mo_stripe s m args below meth c D A (va_D A) 2 (MQ below (QcI D res.1 (fun _ : Nat => wMo cI cZ a res.2) A) args s 0 0 A) 0 0 (wMo cI cZ a S) [(0, .ref (a 0)), (1, .int v1)] [.int s0, .ref (a 0)] 17 := by
  unfold Mo_stripe_b17 at h
  refine pf_Mo_51 C 0 (wMo cI cZ a (Lf S 0 s0)) mo_h rfl mo_f0 d_Mo_stripe_17 ?_
  refine j_aload_n C 0 d_Mo_stripe_20 rfl ?_
  refine gf_Mo_51 C 0 (v := .int ((Lf S 0 s0).1 0)) mo_h rfl d_Mo_stripe_21 ?_
  refine j_if_le C 29 d_Mo_stripe_24 (by decide) (fun c2 => ?_) (fun c2 => ?_)
  · replace h := (if_pos c2).symm.trans h
    refine j_aload_n C 0 d_Mo_stripe_29 rfl ?_
    refine j_iload_n C 1 d_Mo_stripe_30 rfl ?_
    refine pf_Mo_7 C 0 (wMo cI cZ a (Lf (Lf S 0 s0) 3 v1)) mo_h rfl mo_f3 d_Mo_stripe_31 ?_
    refine j_aload_n C 0 d_Mo_stripe_34 rfl ?_
    refine gf_Mo_48 C 0 (v := .int ((Lf (Lf S 0 s0) 3 v1).1 2)) mo_h rfl d_Mo_stripe_35 ?_
    refine j_aload_n C 0 d_Mo_stripe_38 rfl ?_
    refine gf_Mo_7 C 0 (v := .int ((Lf (Lf S 0 s0) 3 v1).1 3)) mo_h rfl d_Mo_stripe_39 ?_
    obtain ⟨r1, hr1, h⟩ := bd_ok h
    refine j_PS C [.int ((Lf (Lf S 0 s0) 3 v1).1 2), .int ((Lf (Lf S 0 s0) 3 v1).1 3)] (c_Mo_stripesOf l D cI cR cZ ((Lf (Lf S 0 s0) 3 v1).1 2) ((Lf (Lf S 0 s0) 3 v1).1 3) hr1) (cw_Mo_63 C ⟨Nat.le_of_ble_eq_true rfl, Nat.le_of_ble_eq_true rfl⟩) [] rfl rfl rfl (Nat.le_of_ble_eq_true rfl) d_Mo_stripe_42 (by decide) ?_
    obtain rfl := Option.some.inj h
    exact j_iret C hr d_Mo_stripe_45 0 rfl
  · replace h := (if_neg c2).symm.trans h
    refine j_iconst C (v := 0) d_Mo_stripe_27 (by decide) ?_
    obtain rfl := Option.some.inj h
    exact j_iret C hr d_Mo_stripe_28 0 rfl
set_option maxRecDepth 100000 in
set_option maxHeartbeats 4000000 in
theorem t_Mo_stripe_b12 {p : Program} {l : Launch} {e : Env} {s : State} {m : MethodId} {args : Array Value} {below : List Frame} {meth : Method} {c : Code} {D : va_G} {cI cR cZ : ClassId} {A : Nat → Prop} (C : Cx p s m args meth c D (tyG cI cR cZ) b_Mo_stripe 2 "MaskLayersModel") (hr : meth.sig.returnType = some .int) (hA : ∀ q : Nat, s.heap.size ≤ q → A q) {a : (Nat → Nat)} {S : LyS} {v1 : Int32} {res : (Int32 × LyS)} (h : Mo_stripe_b12 S v1 = some res) : J p l e rm_Mo_stripe s m args below meth c D A (va_D A) 2 (MQ below (QcI D res.1 (fun _ : Nat => wMo cI cZ a res.2) A) args s 0 0 A) 0 0 (wMo cI cZ a S) [(0, .ref (a 0)), (1, .int v1)] [.ref (a 0)] 12 := by
  unfold Mo_stripe_b12 at h
  refine j_iconst C (v := 1) d_Mo_stripe_12 (by decide) ?_
  refine j_goto C 17 d_Mo_stripe_13 (by decide) ?_
  refine j_sub [0, 1] rfl ?_
  exact t_Mo_stripe_b17 C hr hA h
set_option maxRecDepth 100000 in
set_option maxHeartbeats 4000000 in
theorem c_Mo_stripe (l : Launch) (D : va_G) (cI cR cZ : ClassId) (a : (Nat → Nat)) (S : LyS) (p1 : Int32) {res : (Int32 × LyS)} (h : Mo_stripe S p1 = some res) (sz : Nat) : Met l y_Mo_stripe (Cond.code y_Mo_stripe b_Mo_stripe 2 (some .int) :: BIG) rm_Mo_stripe (PcI [.ref (a 0), .int p1] D (tyG cI cR cZ) (wMo cI cZ a S) sz) (QcI D res.1 (fun _ : Nat => wMo cI cZ a res.2) (va_A (wMo cI cZ a S) sz)) 0 0 (va_A (wMo cI cZ a S) sz) := by
  refine met_I (by decide) (Nat.le_of_ble_eq_true rfl) (fun p e s m args below meth c A hA C hr => ?_)
  have C : Cx p s m args meth c D (tyG cI cR cZ) b_Mo_stripe 2 "MaskLayersModel" := C
  have hr : meth.sig.returnType = some .int := hr
  show J p l e rm_Mo_stripe s m args below meth c D A (va_D A) 2 (MQ below (QcI D res.1 (fun _ : Nat => wMo cI cZ a res.2) A) args s 0 0 A) 0 0 (wMo cI cZ a S) [(0, .ref (a 0)), (1, .int p1)] [] 0
  unfold Mo_stripe at h
  refine j_aload_n C 0 d_Mo_stripe_0 rfl ?_
  refine j_iload_n C 1 d_Mo_stripe_1 rfl ?_
  refine j_iconst C (v := 1) d_Mo_stripe_2 (by decide) ?_
  refine j_icmp_lt C 12 d_Mo_stripe_3 (by decide) (fun c4 => ?_) (fun c4 => ?_)
  · replace h := (if_pos c4).symm.trans h
    refine j_sub [0, 1] rfl ?_
    exact t_Mo_stripe_b12 C hr hA h
  · replace h := (if_neg c4).symm.trans h
    refine j_iload_n C 1 d_Mo_stripe_6 rfl ?_
    refine j_bipush C (v := 24) d_Mo_stripe_7 (by decide) ?_
    refine j_icmp_le C 16 d_Mo_stripe_9 (by decide) (fun c3 => ?_) (fun c3 => ?_)
    · replace h := (if_pos c3).symm.trans h
      refine j_iconst C (v := 0) d_Mo_stripe_16 (by decide) ?_
      refine j_sub [0, 1] rfl ?_
      exact t_Mo_stripe_b17 C hr hA h
    · replace h := (if_neg c3).symm.trans h
      refine j_sub [0, 1] rfl ?_
      exact t_Mo_stripe_b12 C hr hA h
def Mo_makeBlocks_l11 (fu : Nat) (v1 : Int32) (v2 : Int32) : Nat → Int32 → Int32 → LyS → Option (Nat × Int32 × LyS)
  | 0, _, _, _ => none
  | k + 1, v3, v4, S =>
  (if v2 ≤ v4 then some (0, v3, S)
  else (Mo_place S v1 v4).bind fun r2 =>
  (Mo_mean fu S v1 v4 0).bind fun r3 =>
  (if 0 ≤ r3 then some ((0 : Int32))
  else some ((1 : Int32))).bind fun r4 =>
  gd r2 2304 (zb r4 (gd r2 2304 ((if ((Ls S 3 r2.toNatClampNeg r4).2 3 r2.toNatClampNeg) = 0 then (Mo_mean fu (Ls S 3 r2.toNatClampNeg r4) v1 v4 0).bind fun r9 =>
  (Mo_mean fu (Ls S 3 r2.toNatClampNeg r4) v1 v4 1).bind fun r10 =>
  (Mo_mean fu (Ls S 3 r2.toNatClampNeg r4) v1 v4 2).bind fun r11 =>
  some (((r9 <<< ((16 : Int32) &&& 31)) ||| (r10 <<< ((8 : Int32) &&& 31))) ||| r11)
  else some ((0 : Int32))).bind fun r8 =>
  gd r2 2304 ((if 0 ≤ v3 then Mo_makeBlocks_l11 fu v1 v2 k v3 (v4 + 1) (Ls (Ls S 3 r2.toNatClampNeg r4) 2 r2.toNatClampNeg r8)
  else gd r2 2304 ((if ((Ls (Ls S 3 r2.toNatClampNeg r4) 2 r2.toNatClampNeg r8).2 3 r2.toNatClampNeg) = 0 then gd r2 2304 (Mo_makeBlocks_l11 fu v1 v2 k ((Ls (Ls S 3 r2.toNatClampNeg r4) 2 r2.toNatClampNeg r8).2 2 r2.toNatClampNeg) (v4 + 1) (Ls (Ls S 3 r2.toNatClampNeg r4) 2 r2.toNatClampNeg r8))
  else Mo_makeBlocks_l11 fu v1 v2 k v3 (v4 + 1) (Ls (Ls S 3 r2.toNatClampNeg r4) 2 r2.toNatClampNeg r8)))))))))
def Mo_makeBlocks_l270 (S : LyS) (v1 : Int32) (v2 : Int32) (v3 : Int32) (v4 : Int32) (v5 : Int32) (v8 : Int32) (v9 : Int32) : Nat → Int32 → Int32 → Option (Nat × Int32)
  | 0, _, _ => none
  | k + 1, v10, v11 =>
  (if 3 ≤ v11 then some (0, v10)
  else (Mo_part v8 v11).bind fun r45 =>
  (Mo_part v9 v11).bind fun r46 =>
  dz 2 (Mo_makeBlocks_l270 S v1 v2 v3 v4 v5 v8 v9 k ((v10 <<< ((8 : Int32) &&& 31)) ||| ((r45 + r46) / 2)) (v11 + 1)))
def Mo_makeBlocks_l137 (fu : Nat) (v1 : Int32) (v2 : Int32) (v3 : Int32) : Nat → Int32 → LyS → Option (Nat × LyS)
  | 0, _, _ => none
  | k + 1, v4, S =>
  (if v2 ≤ v4 then some (0, S)
  else (Mo_place S v1 v4).bind fun r21 =>
  gd r21 2304 ((if (S.2 3 r21.toNatClampNeg) = 0 then Mo_makeBlocks_l137 fu v1 v2 v3 k (v4 + 1) S
  else (Mo_across S v1).bind fun r23 =>
  dz r23 ((if (v4 - v4 / r23 * r23) ≤ 0 then some ((0 : Int32))
  else some ((1 : Int32))).bind fun r25 =>
  (Mo_across S v1).bind fun r26 =>
  (if v4 < r26 then some ((0 : Int32))
  else some ((1 : Int32))).bind fun r27 =>
  (if r25 = 0 then some ((0 : Int32))
  else (Mo_place S v1 (v4 - 1)).bind fun r29 =>
  gd r29 2304 (some (S.2 2 r29.toNatClampNeg))).bind fun r28 =>
  (if r27 = 0 then some ((0 : Int32))
  else (Mo_across S v1).bind fun r32 =>
  (Mo_place S v1 (v4 - r32)).bind fun r33 =>
  gd r33 2304 (some (S.2 2 r33.toNatClampNeg))).bind fun r31 =>
  (if r25 = 0 then (if r25 = 0 then (if r27 = 0 then gd r21 2304 (Mo_makeBlocks_l137 fu v1 v2 v3 k (v4 + 1) (Ls S 2 r21.toNatClampNeg v3))
  else gd r21 2304 (Mo_makeBlocks_l137 fu v1 v2 v3 k (v4 + 1) (Ls S 2 r21.toNatClampNeg r31)))
  else gd r21 2304 (Mo_makeBlocks_l137 fu v1 v2 v3 k (v4 + 1) (Ls S 2 r21.toNatClampNeg r28)))
  else (if r27 = 0 then (if r25 = 0 then (if r27 = 0 then gd r21 2304 (Mo_makeBlocks_l137 fu v1 v2 v3 k (v4 + 1) (Ls S 2 r21.toNatClampNeg v3))
  else gd r21 2304 (Mo_makeBlocks_l137 fu v1 v2 v3 k (v4 + 1) (Ls S 2 r21.toNatClampNeg r31)))
  else gd r21 2304 (Mo_makeBlocks_l137 fu v1 v2 v3 k (v4 + 1) (Ls S 2 r21.toNatClampNeg r28)))
  else (Mo_makeBlocks_l270 S v1 v2 v3 v4 r21 r28 r31 fu 0 0).bind fun r49 =>
  gd r21 2304 (Mo_makeBlocks_l137 fu v1 v2 v3 k (v4 + 1) (Ls S 2 r21.toNatClampNeg r49.2))))))))
def Mo_makeBlocks (fu : Nat) (S : LyS) (p1 : Int32) : Option (LyS) :=
  (Mo_count S p1).bind fun r1 =>
  (Mo_makeBlocks_l11 fu p1 r1 fu ((-1)) 0 S).bind fun r20 =>
  (Mo_makeBlocks_l137 fu p1 r1 r20.2.1 fu 0 r20.2.2).bind fun r60 =>
  some (r60.2)
set_option maxRecDepth 100000 in
set_option maxHeartbeats 4000000 in
theorem t_Mo_makeBlocks_l11 {p : Program} {l : Launch} {e : Env} {s : State} {m : MethodId} {args : Array Value} {below : List Frame} {meth : Method} {c : Code} {D : va_G} {cI cR cZ : ClassId} {A : Nat → Prop} {Q : State → Prop} (C : Cx p s m args meth c D (tyG cI cR cZ) b_Mo_makeBlocks 12 "MaskLayersModel") (hA : ∀ q : Nat, s.heap.size ≤ q → A q) {a : (Nat → Nat)} {fu : Nat} {v1 : Int32} {v2 : Int32} {out : Nat × Int32 × LyS} : ∀ (k : Nat) (v3 : Int32) (v4 : Int32) (S : LyS), Mo_makeBlocks_l11 fu v1 v2 k v3 v4 S = some out → (out.1 = 0 → J p l e rm_Mo_makeBlocks s m args below meth c D A (va_D A) 12 Q 0 0 (wMo cI cZ a out.2.2) [(0, .ref (a 0)), (1, .int v1), (2, .int v2), (3, .int out.2.1)] [] 134) → J p l e rm_Mo_makeBlocks s m args below meth c D A (va_D A) 12 Q 0 0 (wMo cI cZ a S) [(0, .ref (a 0)), (1, .int v1), (2, .int v2), (3, .int v3), (4, .int v4)] [] 11 := by
  intro k
  induction k with
  | zero => intro v3 v4 S h; cases (show none = some out from h)
  | succ k ih =>
    intro v3 v4 S h x0
    rw [Mo_makeBlocks_l11] at h
    refine j_iload C 4 d_Mo_makeBlocks_11 rfl ?_
    refine j_iload_n C 2 d_Mo_makeBlocks_13 rfl ?_
    refine j_icmp_ge C 134 d_Mo_makeBlocks_14 (by decide) (fun c19 => ?_) (fun c19 => ?_)
    · replace h := (if_pos c19).symm.trans h
      obtain rfl := Option.some.inj h
      refine j_sub [0, 1, 2, 3] rfl ?_
      exact x0 rfl
    · replace h := (if_neg c19).symm.trans h
      refine j_aload_n C 0 d_Mo_makeBlocks_17 rfl ?_
      refine j_iload_n C 1 d_Mo_makeBlocks_18 rfl ?_
      refine j_iload C 4 d_Mo_makeBlocks_19 rfl ?_
      obtain ⟨r2, hr2, h⟩ := bd_ok h
      refine j_PV C [.int v1, .int v4] 0 rfl rfl (c_Mo_place l D cI cR cZ a S v1 v4 hr2) (cw_Mo_88 C ⟨Nat.le_of_ble_eq_true rfl, Nat.le_of_ble_eq_true rfl⟩) [0, 1, 2, 3, 4, 5, 6, 7, 8, 9, 10] rfl rfl rfl (Nat.le_of_ble_eq_true rfl) d_Mo_makeBlocks_21 (by decide) ?_
      refine j_istore C [(5, .int r2), (0, .ref (a 0)), (1, .int v1), (2, .int v2), (3, .int v3), (4, .int v4)] d_Mo_makeBlocks_24 (by decide) rfl ?_
      refine j_aload_n C 1 d_Mo_makeBlocks_26 rfl ?_
      refine gf_Mo_24 C 0 (v := .ref (a 4)) mo_h rfl d_Mo_makeBlocks_27 ?_
      refine j_iload C 0 d_Mo_makeBlocks_30 rfl ?_
      refine j_aload_n C 1 d_Mo_makeBlocks_32 rfl ?_
      refine j_iload_n C 2 d_Mo_makeBlocks_33 rfl ?_
      refine j_iload C 5 d_Mo_makeBlocks_34 rfl ?_
      refine j_iconst C (v := 0) d_Mo_makeBlocks_36 (by decide) ?_
      obtain ⟨r3, hr3, h⟩ := bd_ok h
      refine j_PV C [.int v1, .int v4, .int 0] 0 rfl rfl (c_Mo_mean l D cI cR cZ fu a S v1 v4 0 hr3) (cw_Mo_97 C ⟨Nat.le_of_ble_eq_true rfl, Nat.le_of_ble_eq_true rfl⟩) [0, 1, 2, 3, 4, 5, 6, 7, 8, 9, 10] rfl rfl rfl (Nat.le_of_ble_eq_true rfl) d_Mo_makeBlocks_37 (by decide) ?_
      obtain ⟨r4, hr4, gr4⟩ := bd_ok h
      refine j_let (ws' := wMo cI cZ a S) (lv' := [(0, .ref (a 0)), (1, .int v1), (2, .int v2), (3, .int v3), (4, .int v4), (5, .int r2)]) (st' := [.int r4, .int r2, .ref (a 4)]) (pc' := 48) ?_ (fun Kr4 => ?_)
      · replace h := gr4
        obtain ⟨b5, h⟩ := gd_ok h
        obtain ⟨b6, h⟩ := zb_ok h
        refine j_zast C (4) (wMo cI cZ a (Ls S 3 r2.toNatClampNeg r4)) (t0 := 1) mo_g3 mo_s3 rfl b5 b6 d_Mo_makeBlocks_48 ?_
        refine j_aload_n C 0 d_Mo_makeBlocks_49 rfl ?_
        refine gf_Mo_21 C 0 (v := .ref (a 3)) mo_h rfl d_Mo_makeBlocks_50 ?_
        refine j_iload C 5 d_Mo_makeBlocks_53 rfl ?_
        refine j_aload_n C 0 d_Mo_makeBlocks_55 rfl ?_
        refine gf_Mo_24 C 0 (v := .ref (a 4)) mo_h rfl d_Mo_makeBlocks_56 ?_
        refine j_iload C 5 d_Mo_makeBlocks_59 rfl ?_
        obtain ⟨b7, h⟩ := gd_ok h
        refine j_zald C (4) (t0 := 1) mo_g3 rfl b7 d_Mo_makeBlocks_61 ?_
        obtain ⟨r8, hr8, gr8⟩ := bd_ok h
        refine j_let (ws' := wMo cI cZ a (Ls S 3 r2.toNatClampNeg r4)) (lv' := [(0, .ref (a 0)), (1, .int v1), (2, .int v2), (3, .int v3), (4, .int v4), (5, .int r2)]) (st' := [.int r8, .int r2, .ref (a 3)]) (pc' := 101) ?_ (fun Kr8 => ?_)
        · replace h := gr8
          obtain ⟨b12, h⟩ := gd_ok h
          refine j_iast C (3) (wMo cI cZ a (Ls (Ls S 3 r2.toNatClampNeg r4) 2 r2.toNatClampNeg r8)) (t0 := 0) mo_g2 mo_s2 rfl b12 d_Mo_makeBlocks_101 ?_
          refine j_iload_n C 3 d_Mo_makeBlocks_102 rfl ?_
          refine j_if_ge C 126 d_Mo_makeBlocks_103 (by decide) (fun c16 => ?_) (fun c16 => ?_)
          · replace h := (if_pos c16).symm.trans h
            refine j_iload_n C 3 d_Mo_makeBlocks_126 rfl ?_
            refine j_istore_n C [(3, .int v3), (0, .ref (a 0)), (1, .int v1), (2, .int v2), (4, .int v4), (5, .int r2)] d_Mo_makeBlocks_127 (by decide) rfl ?_
            refine j_iinc C [(4, .int (v4 + 1)), (3, .int v3), (0, .ref (a 0)), (1, .int v1), (2, .int v2), (5, .int r2)] 4 (v4 + 1) d_Mo_makeBlocks_128 rfl rfl (by decide) rfl ?_
            refine j_goto C 11 d_Mo_makeBlocks_131 (by decide) ?_
            refine j_sub [2, 3, 4, 1, 0] rfl ?_
            exact ih v3 (v4 + 1) (Ls (Ls S 3 r2.toNatClampNeg r4) 2 r2.toNatClampNeg r8) h x0
          · replace h := (if_neg c16).symm.trans h
            refine j_aload_n C 0 d_Mo_makeBlocks_106 rfl ?_
            refine gf_Mo_24 C 0 (v := .ref (a 4)) mo_h rfl d_Mo_makeBlocks_107 ?_
            refine j_iload C 5 d_Mo_makeBlocks_110 rfl ?_
            obtain ⟨b13, h⟩ := gd_ok h
            refine j_zald C (4) (t0 := 1) mo_g3 rfl b13 d_Mo_makeBlocks_112 ?_
            refine j_if_ne C 126 d_Mo_makeBlocks_113 (by decide) (fun c15 => ?_) (fun c15 => ?_)
            · replace h := (if_neg c15).symm.trans h
              refine j_iload_n C 3 d_Mo_makeBlocks_126 rfl ?_
              refine j_istore_n C [(3, .int v3), (0, .ref (a 0)), (1, .int v1), (2, .int v2), (4, .int v4), (5, .int r2)] d_Mo_makeBlocks_127 (by decide) rfl ?_
              refine j_iinc C [(4, .int (v4 + 1)), (3, .int v3), (0, .ref (a 0)), (1, .int v1), (2, .int v2), (5, .int r2)] 4 (v4 + 1) d_Mo_makeBlocks_128 rfl rfl (by decide) rfl ?_
              refine j_goto C 11 d_Mo_makeBlocks_131 (by decide) ?_
              refine j_sub [2, 3, 4, 1, 0] rfl ?_
              exact ih v3 (v4 + 1) (Ls (Ls S 3 r2.toNatClampNeg r4) 2 r2.toNatClampNeg r8) h x0
            · replace h := (if_pos c15).symm.trans h
              refine j_aload_n C 0 d_Mo_makeBlocks_116 rfl ?_
              refine gf_Mo_21 C 0 (v := .ref (a 3)) mo_h rfl d_Mo_makeBlocks_117 ?_
              refine j_iload C 5 d_Mo_makeBlocks_120 rfl ?_
              obtain ⟨b14, h⟩ := gd_ok h
              refine j_iald C (3) (t0 := 0) mo_g2 rfl b14 d_Mo_makeBlocks_122 ?_
              refine j_goto C 127 d_Mo_makeBlocks_123 (by decide) ?_
              refine j_istore_n C [(3, .int ((Ls (Ls S 3 r2.toNatClampNeg r4) 2 r2.toNatClampNeg r8).2 2 r2.toNatClampNeg)), (0, .ref (a 0)), (1, .int v1), (2, .int v2), (4, .int v4), (5, .int r2)] d_Mo_makeBlocks_127 (by decide) rfl ?_
              refine j_iinc C [(4, .int (v4 + 1)), (3, .int ((Ls (Ls S 3 r2.toNatClampNeg r4) 2 r2.toNatClampNeg r8).2 2 r2.toNatClampNeg)), (0, .ref (a 0)), (1, .int v1), (2, .int v2), (5, .int r2)] 4 (v4 + 1) d_Mo_makeBlocks_128 rfl rfl (by decide) rfl ?_
              refine j_goto C 11 d_Mo_makeBlocks_131 (by decide) ?_
              refine j_sub [2, 3, 4, 1, 0] rfl ?_
              exact ih ((Ls (Ls S 3 r2.toNatClampNeg r4) 2 r2.toNatClampNeg r8).2 2 r2.toNatClampNeg) (v4 + 1) (Ls (Ls S 3 r2.toNatClampNeg r4) 2 r2.toNatClampNeg r8) h x0
        · replace h := hr8
          refine j_if_eq C 69 d_Mo_makeBlocks_62 (by decide) (fun c17 => ?_) (fun c17 => ?_)
          · replace h := (if_pos c17).symm.trans h
            refine j_aload_n C 0 d_Mo_makeBlocks_69 rfl ?_
            refine j_iload_n C 1 d_Mo_makeBlocks_70 rfl ?_
            refine j_iload C 4 d_Mo_makeBlocks_71 rfl ?_
            refine j_iconst C (v := 0) d_Mo_makeBlocks_73 (by decide) ?_
            obtain ⟨r9, hr9, h⟩ := bd_ok h
            refine j_PV C [.int v1, .int v4, .int 0] 0 rfl rfl (c_Mo_mean l D cI cR cZ fu a (Ls S 3 r2.toNatClampNeg r4) v1 v4 0 hr9) (cw_Mo_97 C ⟨Nat.le_of_ble_eq_true rfl, Nat.le_of_ble_eq_true rfl⟩) [0, 1, 2, 3, 4, 5, 6, 7, 8, 9, 10] rfl rfl rfl (Nat.le_of_ble_eq_true rfl) d_Mo_makeBlocks_74 (by decide) ?_
            refine j_bipush C (v := 16) d_Mo_makeBlocks_77 (by decide) ?_
            refine j_ishl C d_Mo_makeBlocks_79 ?_
            refine j_aload_n C 0 d_Mo_makeBlocks_80 rfl ?_
            refine j_iload_n C 1 d_Mo_makeBlocks_81 rfl ?_
            refine j_iload C 4 d_Mo_makeBlocks_82 rfl ?_
            refine j_iconst C (v := 1) d_Mo_makeBlocks_84 (by decide) ?_
            obtain ⟨r10, hr10, h⟩ := bd_ok h
            refine j_PV C [.int v1, .int v4, .int 1] 0 rfl rfl (c_Mo_mean l D cI cR cZ fu a (Ls S 3 r2.toNatClampNeg r4) v1 v4 1 hr10) (cw_Mo_97 C ⟨Nat.le_of_ble_eq_true rfl, Nat.le_of_ble_eq_true rfl⟩) [0, 1, 2, 3, 4, 5, 6, 7, 8, 9, 10] rfl rfl rfl (Nat.le_of_ble_eq_true rfl) d_Mo_makeBlocks_85 (by decide) ?_
            refine j_bipush C (v := 8) d_Mo_makeBlocks_88 (by decide) ?_
            refine j_ishl C d_Mo_makeBlocks_90 ?_
            refine j_ior C d_Mo_makeBlocks_91 ?_
            refine j_aload_n C 0 d_Mo_makeBlocks_92 rfl ?_
            refine j_iload_n C 1 d_Mo_makeBlocks_93 rfl ?_
            refine j_iload C 4 d_Mo_makeBlocks_94 rfl ?_
            refine j_iconst C (v := 2) d_Mo_makeBlocks_96 (by decide) ?_
            obtain ⟨r11, hr11, h⟩ := bd_ok h
            refine j_PV C [.int v1, .int v4, .int 2] 0 rfl rfl (c_Mo_mean l D cI cR cZ fu a (Ls S 3 r2.toNatClampNeg r4) v1 v4 2 hr11) (cw_Mo_97 C ⟨Nat.le_of_ble_eq_true rfl, Nat.le_of_ble_eq_true rfl⟩) [0, 1, 2, 3, 4, 5, 6, 7, 8, 9, 10] rfl rfl rfl (Nat.le_of_ble_eq_true rfl) d_Mo_makeBlocks_97 (by decide) ?_
            refine j_ior C d_Mo_makeBlocks_100 ?_
            obtain rfl := Option.some.inj h
            refine j_sub [0, 1, 2, 3, 4, 5] rfl ?_
            exact Kr8
          · replace h := (if_neg c17).symm.trans h
            refine j_iconst C (v := 0) d_Mo_makeBlocks_65 (by decide) ?_
            refine j_goto C 101 d_Mo_makeBlocks_66 (by decide) ?_
            obtain rfl := Option.some.inj h
            refine j_sub [0, 1, 2, 3, 4, 5] rfl ?_
            exact Kr8
      · replace h := hr4
        refine j_if_ge C 47 d_Mo_makeBlocks_40 (by decide) (fun c18 => ?_) (fun c18 => ?_)
        · replace h := (if_pos c18).symm.trans h
          refine j_iconst C (v := 0) d_Mo_makeBlocks_47 (by decide) ?_
          obtain rfl := Option.some.inj h
          refine j_sub [1, 2, 3, 4, 5, 0] rfl ?_
          exact Kr4
        · replace h := (if_neg c18).symm.trans h
          refine j_iconst C (v := 1) d_Mo_makeBlocks_43 (by decide) ?_
          refine j_goto C 48 d_Mo_makeBlocks_44 (by decide) ?_
          obtain rfl := Option.some.inj h
          refine j_sub [1, 2, 3, 4, 5, 0] rfl ?_
          exact Kr4
set_option maxRecDepth 100000 in
set_option maxHeartbeats 4000000 in
theorem t_Mo_makeBlocks_l270 {p : Program} {l : Launch} {e : Env} {s : State} {m : MethodId} {args : Array Value} {below : List Frame} {meth : Method} {c : Code} {D : va_G} {cI cR cZ : ClassId} {A : Nat → Prop} {Q : State → Prop} (C : Cx p s m args meth c D (tyG cI cR cZ) b_Mo_makeBlocks 12 "MaskLayersModel") (hA : ∀ q : Nat, s.heap.size ≤ q → A q) {a : (Nat → Nat)} {S : LyS} {v1 : Int32} {v2 : Int32} {v3 : Int32} {v4 : Int32} {v5 : Int32} {v8 : Int32} {v9 : Int32} {out : Nat × Int32} : ∀ (k : Nat) (v10 : Int32) (v11 : Int32), Mo_makeBlocks_l270 S v1 v2 v3 v4 v5 v8 v9 k v10 v11 = some out → (out.1 = 0 → J p l e rm_Mo_makeBlocks s m args below meth c D A (va_D A) 12 Q 0 0 (wMo cI cZ a S) [(0, .ref (a 0)), (1, .int v1), (2, .int v2), (3, .int v3), (4, .int v4), (5, .int v5), (10, .int out.2)] [] 307) → J p l e rm_Mo_makeBlocks s m args below meth c D A (va_D A) 12 Q 0 0 (wMo cI cZ a S) [(0, .ref (a 0)), (1, .int v1), (2, .int v2), (3, .int v3), (4, .int v4), (5, .int v5), (8, .int v8), (9, .int v9), (10, .int v10), (11, .int v11)] [] 270 := by
  intro k
  induction k with
  | zero => intro v10 v11 h; cases (show none = some out from h)
  | succ k ih =>
    intro v10 v11 h x0
    rw [Mo_makeBlocks_l270] at h
    refine j_iload C 9 d_Mo_makeBlocks_270 rfl ?_
    refine j_iconst C (v := 3) d_Mo_makeBlocks_272 (by decide) ?_
    refine j_icmp_ge C 307 d_Mo_makeBlocks_273 (by decide) (fun c48 => ?_) (fun c48 => ?_)
    · replace h := (if_pos c48).symm.trans h
      obtain rfl := Option.some.inj h
      refine j_sub [0, 1, 2, 3, 4, 5, 8] rfl ?_
      exact x0 rfl
    · replace h := (if_neg c48).symm.trans h
      refine j_iload C 8 d_Mo_makeBlocks_276 rfl ?_
      refine j_bipush C (v := 8) d_Mo_makeBlocks_278 (by decide) ?_
      refine j_ishl C d_Mo_makeBlocks_280 ?_
      refine j_iload C 6 d_Mo_makeBlocks_281 rfl ?_
      refine j_iload C 9 d_Mo_makeBlocks_283 rfl ?_
      obtain ⟨r45, hr45, h⟩ := bd_ok h
      refine j_PS C [.int v8, .int v11] (c_Mo_part l D cI cR cZ v8 v11 hr45) (cw_Mo_91 C ⟨Nat.le_of_ble_eq_true rfl, Nat.le_of_ble_eq_true rfl⟩) [] rfl rfl rfl (Nat.le_of_ble_eq_true rfl) d_Mo_makeBlocks_285 (by decide) ?_
      refine j_iload C 7 d_Mo_makeBlocks_288 rfl ?_
      refine j_iload C 9 d_Mo_makeBlocks_290 rfl ?_
      obtain ⟨r46, hr46, h⟩ := bd_ok h
      refine j_PS C [.int v9, .int v11] (c_Mo_part l D cI cR cZ v9 v11 hr46) (cw_Mo_91 C ⟨Nat.le_of_ble_eq_true rfl, Nat.le_of_ble_eq_true rfl⟩) [] rfl rfl rfl (Nat.le_of_ble_eq_true rfl) d_Mo_makeBlocks_292 (by decide) ?_
      refine j_iadd C d_Mo_makeBlocks_295 ?_
      refine j_iconst C (v := 2) d_Mo_makeBlocks_296 (by decide) ?_
      obtain ⟨b47, h⟩ := dz_ok h
      refine j_idiv C d_Mo_makeBlocks_297 b47 ?_
      refine j_ior C d_Mo_makeBlocks_298 ?_
      refine j_istore C [(10, .int ((v10 <<< ((8 : Int32) &&& 31)) ||| ((r45 + r46) / 2))), (0, .ref (a 0)), (1, .int v1), (2, .int v2), (3, .int v3), (4, .int v4), (5, .int v5), (8, .int v8), (9, .int v9), (11, .int v11)] d_Mo_makeBlocks_299 (by decide) rfl ?_
      refine j_iinc C [(11, .int (v11 + 1)), (10, .int ((v10 <<< ((8 : Int32) &&& 31)) ||| ((r45 + r46) / 2))), (0, .ref (a 0)), (1, .int v1), (2, .int v2), (3, .int v3), (4, .int v4), (5, .int v5), (8, .int v8), (9, .int v9)] 9 (v11 + 1) d_Mo_makeBlocks_301 rfl rfl (by decide) rfl ?_
      refine j_goto C 270 d_Mo_makeBlocks_304 (by decide) ?_
      refine j_sub [2, 3, 4, 5, 6, 7, 8, 9, 1, 0] rfl ?_
      exact ih ((v10 <<< ((8 : Int32) &&& 31)) ||| ((r45 + r46) / 2)) (v11 + 1) h x0
set_option maxRecDepth 100000 in
set_option maxHeartbeats 4000000 in
theorem t_Mo_makeBlocks_l137 {p : Program} {l : Launch} {e : Env} {s : State} {m : MethodId} {args : Array Value} {below : List Frame} {meth : Method} {c : Code} {D : va_G} {cI cR cZ : ClassId} {A : Nat → Prop} {Q : State → Prop} (C : Cx p s m args meth c D (tyG cI cR cZ) b_Mo_makeBlocks 12 "MaskLayersModel") (hA : ∀ q : Nat, s.heap.size ≤ q → A q) {a : (Nat → Nat)} {fu : Nat} {v1 : Int32} {v2 : Int32} {v3 : Int32} {out : Nat × LyS} : ∀ (k : Nat) (v4 : Int32) (S : LyS), Mo_makeBlocks_l137 fu v1 v2 v3 k v4 S = some out → (out.1 = 0 → J p l e rm_Mo_makeBlocks s m args below meth c D A (va_D A) 12 Q 0 0 (wMo cI cZ a out.2) [] [] 353) → J p l e rm_Mo_makeBlocks s m args below meth c D A (va_D A) 12 Q 0 0 (wMo cI cZ a S) [(0, .ref (a 0)), (1, .int v1), (2, .int v2), (3, .int v3), (4, .int v4)] [] 137 := by
  intro k
  induction k with
  | zero => intro v4 S h; cases (show none = some out from h)
  | succ k ih =>
    intro v4 S h x0
    rw [Mo_makeBlocks_l137] at h
    refine j_iload C 4 d_Mo_makeBlocks_137 rfl ?_
    refine j_iload_n C 2 d_Mo_makeBlocks_139 rfl ?_
    refine j_icmp_ge C 353 d_Mo_makeBlocks_140 (by decide) (fun c59 => ?_) (fun c59 => ?_)
    · replace h := (if_pos c59).symm.trans h
      obtain rfl := Option.some.inj h
      refine j_sub [] rfl ?_
      exact x0 rfl
    · replace h := (if_neg c59).symm.trans h
      refine j_aload_n C 0 d_Mo_makeBlocks_143 rfl ?_
      refine j_iload_n C 1 d_Mo_makeBlocks_144 rfl ?_
      refine j_iload C 4 d_Mo_makeBlocks_145 rfl ?_
      obtain ⟨r21, hr21, h⟩ := bd_ok h
      refine j_PV C [.int v1, .int v4] 0 rfl rfl (c_Mo_place l D cI cR cZ a S v1 v4 hr21) (cw_Mo_88 C ⟨Nat.le_of_ble_eq_true rfl, Nat.le_of_ble_eq_true rfl⟩) [0, 1, 2, 3, 4, 5, 6, 7, 8, 9, 10] rfl rfl rfl (Nat.le_of_ble_eq_true rfl) d_Mo_makeBlocks_147 (by decide) ?_
      refine j_istore C [(5, .int r21), (0, .ref (a 0)), (1, .int v1), (2, .int v2), (3, .int v3), (4, .int v4)] d_Mo_makeBlocks_150 (by decide) rfl ?_
      refine j_aload_n C 1 d_Mo_makeBlocks_152 rfl ?_
      refine gf_Mo_24 C 0 (v := .ref (a 4)) mo_h rfl d_Mo_makeBlocks_153 ?_
      refine j_iload C 0 d_Mo_makeBlocks_156 rfl ?_
      obtain ⟨b22, h⟩ := gd_ok h
      refine j_zald C (4) (t0 := 1) mo_g3 rfl b22 d_Mo_makeBlocks_158 ?_
      refine j_if_ne C 165 d_Mo_makeBlocks_159 (by decide) (fun c58 => ?_) (fun c58 => ?_)
      · replace h := (if_neg c58).symm.trans h
        refine j_iload C 5 d_Mo_makeBlocks_165 rfl ?_
        refine j_aload_n C 1 d_Mo_makeBlocks_167 rfl ?_
        refine j_iload_n C 2 d_Mo_makeBlocks_168 rfl ?_
        obtain ⟨r23, hr23, h⟩ := bd_ok h
        refine j_PV C [.int v1] 0 rfl rfl (c_Mo_across l D cI cR cZ a S v1 hr23) (cw_Mo_85 C ⟨Nat.le_of_ble_eq_true rfl, Nat.le_of_ble_eq_true rfl⟩) [0, 1, 2, 3, 4, 5, 6, 7, 8, 9, 10] rfl rfl rfl (Nat.le_of_ble_eq_true rfl) d_Mo_makeBlocks_169 (by decide) ?_
        obtain ⟨b24, h⟩ := dz_ok h
        refine j_irem C d_Mo_makeBlocks_172 b24 ?_
        obtain ⟨r25, hr25, gr25⟩ := bd_ok h
        refine j_let (ws' := wMo cI cZ a S) (lv' := [(0, .ref (a 0)), (1, .int v1), (2, .int v2), (3, .int v3), (4, .int v4), (5, .int r21)]) (st' := [.int r25]) (pc' := 181) ?_ (fun Kr25 => ?_)
        · replace h := gr25
          refine j_istore C [(6, .int r25), (0, .ref (a 0)), (1, .int v1), (2, .int v2), (3, .int v3), (4, .int v4), (5, .int r21)] d_Mo_makeBlocks_181 (by decide) rfl ?_
          refine j_iload C 5 d_Mo_makeBlocks_183 rfl ?_
          refine j_aload_n C 1 d_Mo_makeBlocks_185 rfl ?_
          refine j_iload_n C 2 d_Mo_makeBlocks_186 rfl ?_
          obtain ⟨r26, hr26, h⟩ := bd_ok h
          refine j_PV C [.int v1] 0 rfl rfl (c_Mo_across l D cI cR cZ a S v1 hr26) (cw_Mo_85 C ⟨Nat.le_of_ble_eq_true rfl, Nat.le_of_ble_eq_true rfl⟩) [0, 1, 2, 3, 4, 5, 6, 7, 8, 9, 10] rfl rfl rfl (Nat.le_of_ble_eq_true rfl) d_Mo_makeBlocks_187 (by decide) ?_
          obtain ⟨r27, hr27, gr27⟩ := bd_ok h
          refine j_let (ws' := wMo cI cZ a S) (lv' := [(0, .ref (a 0)), (1, .int v1), (2, .int v2), (3, .int v3), (4, .int v4), (5, .int r21), (6, .int r25)]) (st' := [.int r27]) (pc' := 198) ?_ (fun Kr27 => ?_)
          · replace h := gr27
            refine j_istore C [(7, .int r27), (0, .ref (a 0)), (1, .int v1), (2, .int v2), (3, .int v3), (4, .int v4), (5, .int r21), (6, .int r25)] d_Mo_makeBlocks_198 (by decide) rfl ?_
            refine j_iload C 7 d_Mo_makeBlocks_200 rfl ?_
            obtain ⟨r28, hr28, gr28⟩ := bd_ok h
            refine j_let (ws' := wMo cI cZ a S) (lv' := [(0, .ref (a 0)), (1, .int v1), (2, .int v2), (3, .int v3), (4, .int v4), (5, .int r21), (6, .int r25), (7, .int r27)]) (st' := [.int r28]) (pc' := 223) ?_ (fun Kr28 => ?_)
            · replace h := gr28
              refine j_istore C [(8, .int r28), (0, .ref (a 0)), (1, .int v1), (2, .int v2), (3, .int v3), (4, .int v4), (5, .int r21), (6, .int r25), (7, .int r27)] d_Mo_makeBlocks_223 (by decide) rfl ?_
              refine j_iload C 8 d_Mo_makeBlocks_225 rfl ?_
              obtain ⟨r31, hr31, gr31⟩ := bd_ok h
              refine j_let (ws' := wMo cI cZ a S) (lv' := [(0, .ref (a 0)), (1, .int v1), (2, .int v2), (3, .int v3), (4, .int v4), (5, .int r21), (6, .int r25), (7, .int r27), (8, .int r28)]) (st' := [.int r31]) (pc' := 252) ?_ (fun Kr31 => ?_)
              · replace h := gr31
                refine j_istore C [(9, .int r31), (0, .ref (a 0)), (1, .int v1), (2, .int v2), (3, .int v3), (4, .int v4), (5, .int r21), (6, .int r25), (7, .int r27), (8, .int r28)] d_Mo_makeBlocks_252 (by decide) rfl ?_
                refine j_iload C 7 d_Mo_makeBlocks_254 rfl ?_
                refine j_if_eq C 319 d_Mo_makeBlocks_256 (by decide) (fun c53 => ?_) (fun c53 => ?_)
                · replace h := (if_pos c53).symm.trans h
                  refine j_aload_n C 1 d_Mo_makeBlocks_319 rfl ?_
                  refine gf_Mo_21 C 0 (v := .ref (a 3)) mo_h rfl d_Mo_makeBlocks_320 ?_
                  refine j_iload C 6 d_Mo_makeBlocks_323 rfl ?_
                  refine j_iload C 7 d_Mo_makeBlocks_325 rfl ?_
                  refine j_if_eq C 335 d_Mo_makeBlocks_327 (by decide) (fun c39 => ?_) (fun c39 => ?_)
                  · replace h := (if_pos c39).symm.trans h
                    refine j_iload C 8 d_Mo_makeBlocks_335 rfl ?_
                    refine j_if_eq C 345 d_Mo_makeBlocks_337 (by decide) (fun c37 => ?_) (fun c37 => ?_)
                    · replace h := (if_pos c37).symm.trans h
                      refine j_iload_n C 4 d_Mo_makeBlocks_345 rfl ?_
                      obtain ⟨b35, h⟩ := gd_ok h
                      refine j_iast C (3) (wMo cI cZ a (Ls S 2 r21.toNatClampNeg v3)) (t0 := 0) mo_g2 mo_s2 rfl b35 d_Mo_makeBlocks_346 ?_
                      refine j_iinc C [(4, .int (v4 + 1)), (9, .int r31), (0, .ref (a 0)), (1, .int v1), (2, .int v2), (3, .int v3), (5, .int r21), (6, .int r25), (7, .int r27), (8, .int r28)] 5 (v4 + 1) d_Mo_makeBlocks_347 rfl rfl (by decide) rfl ?_
                      refine j_goto C 137 d_Mo_makeBlocks_350 (by decide) ?_
                      refine j_sub [2, 3, 4, 5, 0] rfl ?_
                      exact ih (v4 + 1) (Ls S 2 r21.toNatClampNeg v3) h x0
                    · replace h := (if_neg c37).symm.trans h
                      refine j_iload C 0 d_Mo_makeBlocks_340 rfl ?_
                      refine j_goto C 346 d_Mo_makeBlocks_342 (by decide) ?_
                      obtain ⟨b36, h⟩ := gd_ok h
                      refine j_iast C (3) (wMo cI cZ a (Ls S 2 r21.toNatClampNeg r31)) (t0 := 0) mo_g2 mo_s2 rfl b36 d_Mo_makeBlocks_346 ?_
                      refine j_iinc C [(4, .int (v4 + 1)), (9, .int r31), (0, .ref (a 0)), (1, .int v1), (2, .int v2), (3, .int v3), (5, .int r21), (6, .int r25), (7, .int r27), (8, .int r28)] 5 (v4 + 1) d_Mo_makeBlocks_347 rfl rfl (by decide) rfl ?_
                      refine j_goto C 137 d_Mo_makeBlocks_350 (by decide) ?_
                      refine j_sub [2, 3, 4, 5, 0] rfl ?_
                      exact ih (v4 + 1) (Ls S 2 r21.toNatClampNeg r31) h x0
                  · replace h := (if_neg c39).symm.trans h
                    refine j_iload C 9 d_Mo_makeBlocks_330 rfl ?_
                    refine j_goto C 346 d_Mo_makeBlocks_332 (by decide) ?_
                    obtain ⟨b38, h⟩ := gd_ok h
                    refine j_iast C (3) (wMo cI cZ a (Ls S 2 r21.toNatClampNeg r28)) (t0 := 0) mo_g2 mo_s2 rfl b38 d_Mo_makeBlocks_346 ?_
                    refine j_iinc C [(4, .int (v4 + 1)), (9, .int r31), (0, .ref (a 0)), (1, .int v1), (2, .int v2), (3, .int v3), (5, .int r21), (6, .int r25), (7, .int r27), (8, .int r28)] 5 (v4 + 1) d_Mo_makeBlocks_347 rfl rfl (by decide) rfl ?_
                    refine j_goto C 137 d_Mo_makeBlocks_350 (by decide) ?_
                    refine j_sub [2, 3, 4, 5, 0] rfl ?_
                    exact ih (v4 + 1) (Ls S 2 r21.toNatClampNeg r28) h x0
                · replace h := (if_neg c53).symm.trans h
                  refine j_iload C 8 d_Mo_makeBlocks_259 rfl ?_
                  refine j_if_eq C 319 d_Mo_makeBlocks_261 (by decide) (fun c52 => ?_) (fun c52 => ?_)
                  · replace h := (if_pos c52).symm.trans h
                    refine j_aload_n C 1 d_Mo_makeBlocks_319 rfl ?_
                    refine gf_Mo_21 C 0 (v := .ref (a 3)) mo_h rfl d_Mo_makeBlocks_320 ?_
                    refine j_iload C 6 d_Mo_makeBlocks_323 rfl ?_
                    refine j_iload C 7 d_Mo_makeBlocks_325 rfl ?_
                    refine j_if_eq C 335 d_Mo_makeBlocks_327 (by decide) (fun c44 => ?_) (fun c44 => ?_)
                    · replace h := (if_pos c44).symm.trans h
                      refine j_iload C 8 d_Mo_makeBlocks_335 rfl ?_
                      refine j_if_eq C 345 d_Mo_makeBlocks_337 (by decide) (fun c42 => ?_) (fun c42 => ?_)
                      · replace h := (if_pos c42).symm.trans h
                        refine j_iload_n C 4 d_Mo_makeBlocks_345 rfl ?_
                        obtain ⟨b40, h⟩ := gd_ok h
                        refine j_iast C (3) (wMo cI cZ a (Ls S 2 r21.toNatClampNeg v3)) (t0 := 0) mo_g2 mo_s2 rfl b40 d_Mo_makeBlocks_346 ?_
                        refine j_iinc C [(4, .int (v4 + 1)), (9, .int r31), (0, .ref (a 0)), (1, .int v1), (2, .int v2), (3, .int v3), (5, .int r21), (6, .int r25), (7, .int r27), (8, .int r28)] 5 (v4 + 1) d_Mo_makeBlocks_347 rfl rfl (by decide) rfl ?_
                        refine j_goto C 137 d_Mo_makeBlocks_350 (by decide) ?_
                        refine j_sub [2, 3, 4, 5, 0] rfl ?_
                        exact ih (v4 + 1) (Ls S 2 r21.toNatClampNeg v3) h x0
                      · replace h := (if_neg c42).symm.trans h
                        refine j_iload C 0 d_Mo_makeBlocks_340 rfl ?_
                        refine j_goto C 346 d_Mo_makeBlocks_342 (by decide) ?_
                        obtain ⟨b41, h⟩ := gd_ok h
                        refine j_iast C (3) (wMo cI cZ a (Ls S 2 r21.toNatClampNeg r31)) (t0 := 0) mo_g2 mo_s2 rfl b41 d_Mo_makeBlocks_346 ?_
                        refine j_iinc C [(4, .int (v4 + 1)), (9, .int r31), (0, .ref (a 0)), (1, .int v1), (2, .int v2), (3, .int v3), (5, .int r21), (6, .int r25), (7, .int r27), (8, .int r28)] 5 (v4 + 1) d_Mo_makeBlocks_347 rfl rfl (by decide) rfl ?_
                        refine j_goto C 137 d_Mo_makeBlocks_350 (by decide) ?_
                        refine j_sub [2, 3, 4, 5, 0] rfl ?_
                        exact ih (v4 + 1) (Ls S 2 r21.toNatClampNeg r31) h x0
                    · replace h := (if_neg c44).symm.trans h
                      refine j_iload C 9 d_Mo_makeBlocks_330 rfl ?_
                      refine j_goto C 346 d_Mo_makeBlocks_332 (by decide) ?_
                      obtain ⟨b43, h⟩ := gd_ok h
                      refine j_iast C (3) (wMo cI cZ a (Ls S 2 r21.toNatClampNeg r28)) (t0 := 0) mo_g2 mo_s2 rfl b43 d_Mo_makeBlocks_346 ?_
                      refine j_iinc C [(4, .int (v4 + 1)), (9, .int r31), (0, .ref (a 0)), (1, .int v1), (2, .int v2), (3, .int v3), (5, .int r21), (6, .int r25), (7, .int r27), (8, .int r28)] 5 (v4 + 1) d_Mo_makeBlocks_347 rfl rfl (by decide) rfl ?_
                      refine j_goto C 137 d_Mo_makeBlocks_350 (by decide) ?_
                      refine j_sub [2, 3, 4, 5, 0] rfl ?_
                      exact ih (v4 + 1) (Ls S 2 r21.toNatClampNeg r28) h x0
                  · replace h := (if_neg c52).symm.trans h
                    refine j_iconst C (v := 0) d_Mo_makeBlocks_264 (by decide) ?_
                    refine j_istore C [(10, .int 0), (9, .int r31), (0, .ref (a 0)), (1, .int v1), (2, .int v2), (3, .int v3), (4, .int v4), (5, .int r21), (6, .int r25), (7, .int r27), (8, .int r28)] d_Mo_makeBlocks_265 (by decide) rfl ?_
                    refine j_iconst C (v := 0) d_Mo_makeBlocks_267 (by decide) ?_
                    refine j_istore C [(11, .int 0), (10, .int 0), (9, .int r31), (0, .ref (a 0)), (1, .int v1), (2, .int v2), (3, .int v3), (4, .int v4), (5, .int r21), (6, .int r25), (7, .int r27), (8, .int r28)] d_Mo_makeBlocks_268 (by decide) rfl ?_
                    obtain ⟨r49, hr49, h⟩ := bd_ok h
                    refine j_sub [3, 4, 5, 6, 7, 8, 11, 2, 1, 0] rfl ?_
                    refine t_Mo_makeBlocks_l270 C hA fu 0 0 hr49 (fun e51 => ?_)
                    · refine j_aload_n C 0 d_Mo_makeBlocks_307 rfl ?_
                      refine gf_Mo_21 C 0 (v := .ref (a 3)) mo_h rfl d_Mo_makeBlocks_308 ?_
                      refine j_iload C 5 d_Mo_makeBlocks_311 rfl ?_
                      refine j_iload C 6 d_Mo_makeBlocks_313 rfl ?_
                      obtain ⟨b50, h⟩ := gd_ok h
                      refine j_iast C (3) (wMo cI cZ a (Ls S 2 r21.toNatClampNeg r49.2)) (t0 := 0) mo_g2 mo_s2 rfl b50 d_Mo_makeBlocks_315 ?_
                      refine j_goto C 347 d_Mo_makeBlocks_316 (by decide) ?_
                      refine j_iinc C [(4, .int (v4 + 1)), (0, .ref (a 0)), (1, .int v1), (2, .int v2), (3, .int v3), (5, .int r21), (10, .int r49.2)] 4 (v4 + 1) d_Mo_makeBlocks_347 rfl rfl (by decide) rfl ?_
                      refine j_goto C 137 d_Mo_makeBlocks_350 (by decide) ?_
                      refine j_sub [1, 2, 3, 4, 0] rfl ?_
                      exact ih (v4 + 1) (Ls S 2 r21.toNatClampNeg r49.2) h x0
              · replace h := hr31
                refine j_if_eq C 251 d_Mo_makeBlocks_227 (by decide) (fun c54 => ?_) (fun c54 => ?_)
                · replace h := (if_pos c54).symm.trans h
                  refine j_iconst C (v := 0) d_Mo_makeBlocks_251 (by decide) ?_
                  obtain rfl := Option.some.inj h
                  refine j_sub [1, 2, 3, 4, 5, 6, 7, 8, 0] rfl ?_
                  exact Kr31
                · replace h := (if_neg c54).symm.trans h
                  refine j_aload_n C 1 d_Mo_makeBlocks_230 rfl ?_
                  refine gf_Mo_21 C 0 (v := .ref (a 3)) mo_h rfl d_Mo_makeBlocks_231 ?_
                  refine j_aload_n C 1 d_Mo_makeBlocks_234 rfl ?_
                  refine j_iload_n C 2 d_Mo_makeBlocks_235 rfl ?_
                  refine j_iload C 5 d_Mo_makeBlocks_236 rfl ?_
                  refine j_aload_n C 1 d_Mo_makeBlocks_238 rfl ?_
                  refine j_iload_n C 2 d_Mo_makeBlocks_239 rfl ?_
                  obtain ⟨r32, hr32, h⟩ := bd_ok h
                  refine j_PV C [.int v1] 0 rfl rfl (c_Mo_across l D cI cR cZ a S v1 hr32) (cw_Mo_85 C ⟨Nat.le_of_ble_eq_true rfl, Nat.le_of_ble_eq_true rfl⟩) [0, 1, 2, 3, 4, 5, 6, 7, 8, 9, 10] rfl rfl rfl (Nat.le_of_ble_eq_true rfl) d_Mo_makeBlocks_240 (by decide) ?_
                  refine j_isub C d_Mo_makeBlocks_243 ?_
                  obtain ⟨r33, hr33, h⟩ := bd_ok h
                  refine j_PV C [.int v1, .int (v4 - r32)] 0 rfl rfl (c_Mo_place l D cI cR cZ a S v1 (v4 - r32) hr33) (cw_Mo_88 C ⟨Nat.le_of_ble_eq_true rfl, Nat.le_of_ble_eq_true rfl⟩) [0, 1, 2, 3, 4, 5, 6, 7, 8, 9, 10] rfl rfl rfl (Nat.le_of_ble_eq_true rfl) d_Mo_makeBlocks_244 (by decide) ?_
                  obtain ⟨b34, h⟩ := gd_ok h
                  refine j_iald C (3) (t0 := 0) mo_g2 rfl b34 d_Mo_makeBlocks_247 ?_
                  refine j_goto C 252 d_Mo_makeBlocks_248 (by decide) ?_
                  obtain rfl := Option.some.inj h
                  refine j_sub [1, 2, 3, 4, 5, 6, 7, 8, 0] rfl ?_
                  exact Kr31
            · replace h := hr28
              refine j_if_eq C 222 d_Mo_makeBlocks_202 (by decide) (fun c55 => ?_) (fun c55 => ?_)
              · replace h := (if_pos c55).symm.trans h
                refine j_iconst C (v := 0) d_Mo_makeBlocks_222 (by decide) ?_
                obtain rfl := Option.some.inj h
                refine j_sub [1, 2, 3, 4, 5, 6, 7, 0] rfl ?_
                exact Kr28
              · replace h := (if_neg c55).symm.trans h
                refine j_aload_n C 1 d_Mo_makeBlocks_205 rfl ?_
                refine gf_Mo_21 C 0 (v := .ref (a 3)) mo_h rfl d_Mo_makeBlocks_206 ?_
                refine j_aload_n C 1 d_Mo_makeBlocks_209 rfl ?_
                refine j_iload_n C 2 d_Mo_makeBlocks_210 rfl ?_
                refine j_iload C 5 d_Mo_makeBlocks_211 rfl ?_
                refine j_iconst C (v := 1) d_Mo_makeBlocks_213 (by decide) ?_
                refine j_isub C d_Mo_makeBlocks_214 ?_
                obtain ⟨r29, hr29, h⟩ := bd_ok h
                refine j_PV C [.int v1, .int (v4 - 1)] 0 rfl rfl (c_Mo_place l D cI cR cZ a S v1 (v4 - 1) hr29) (cw_Mo_88 C ⟨Nat.le_of_ble_eq_true rfl, Nat.le_of_ble_eq_true rfl⟩) [0, 1, 2, 3, 4, 5, 6, 7, 8, 9, 10] rfl rfl rfl (Nat.le_of_ble_eq_true rfl) d_Mo_makeBlocks_215 (by decide) ?_
                obtain ⟨b30, h⟩ := gd_ok h
                refine j_iald C (3) (t0 := 0) mo_g2 rfl b30 d_Mo_makeBlocks_218 ?_
                refine j_goto C 223 d_Mo_makeBlocks_219 (by decide) ?_
                obtain rfl := Option.some.inj h
                refine j_sub [1, 2, 3, 4, 5, 6, 7, 0] rfl ?_
                exact Kr28
          · replace h := hr27
            refine j_icmp_lt C 197 d_Mo_makeBlocks_190 (by decide) (fun c56 => ?_) (fun c56 => ?_)
            · replace h := (if_pos c56).symm.trans h
              refine j_iconst C (v := 0) d_Mo_makeBlocks_197 (by decide) ?_
              obtain rfl := Option.some.inj h
              refine j_sub [1, 2, 3, 4, 5, 6, 0] rfl ?_
              exact Kr27
            · replace h := (if_neg c56).symm.trans h
              refine j_iconst C (v := 1) d_Mo_makeBlocks_193 (by decide) ?_
              refine j_goto C 198 d_Mo_makeBlocks_194 (by decide) ?_
              obtain rfl := Option.some.inj h
              refine j_sub [1, 2, 3, 4, 5, 6, 0] rfl ?_
              exact Kr27
        · replace h := hr25
          refine j_if_le C 180 d_Mo_makeBlocks_173 (by decide) (fun c57 => ?_) (fun c57 => ?_)
          · replace h := (if_pos c57).symm.trans h
            refine j_iconst C (v := 0) d_Mo_makeBlocks_180 (by decide) ?_
            obtain rfl := Option.some.inj h
            refine j_sub [1, 2, 3, 4, 5, 0] rfl ?_
            exact Kr25
          · replace h := (if_neg c57).symm.trans h
            refine j_iconst C (v := 1) d_Mo_makeBlocks_176 (by decide) ?_
            refine j_goto C 181 d_Mo_makeBlocks_177 (by decide) ?_
            obtain rfl := Option.some.inj h
            refine j_sub [1, 2, 3, 4, 5, 0] rfl ?_
            exact Kr25
      · replace h := (if_pos c58).symm.trans h
        refine j_goto C 347 d_Mo_makeBlocks_162 (by decide) ?_
        refine j_iinc C [(4, .int (v4 + 1)), (5, .int r21), (0, .ref (a 0)), (1, .int v1), (2, .int v2), (3, .int v3)] 5 (v4 + 1) d_Mo_makeBlocks_347 rfl rfl (by decide) rfl ?_
        refine j_goto C 137 d_Mo_makeBlocks_350 (by decide) ?_
        refine j_sub [2, 3, 4, 5, 0] rfl ?_
        exact ih (v4 + 1) S h x0
set_option maxRecDepth 100000 in
set_option maxHeartbeats 4000000 in
theorem c_Mo_makeBlocks (l : Launch) (D : va_G) (cI cR cZ : ClassId) (fu : Nat) (a : (Nat → Nat)) (S : LyS) (p1 : Int32) {res : (LyS)} (h : Mo_makeBlocks fu S p1 = some res) (sz : Nat) : Met l y_Mo_makeBlocks (Cond.code y_Mo_makeBlocks b_Mo_makeBlocks 12 none :: BIG) rm_Mo_makeBlocks (PcI [.ref (a 0), .int p1] D (tyG cI cR cZ) (wMo cI cZ a S) sz) (QcV D (fun _ : Nat => wMo cI cZ a res) (va_A (wMo cI cZ a S) sz)) 0 0 (va_A (wMo cI cZ a S) sz) := by
  refine met_V (by decide) (Nat.le_of_ble_eq_true rfl) (fun p e s m args below meth c A hA C hr => ?_)
  have C : Cx p s m args meth c D (tyG cI cR cZ) b_Mo_makeBlocks 12 "MaskLayersModel" := C
  have hr : meth.sig.returnType = none := hr
  show J p l e rm_Mo_makeBlocks s m args below meth c D A (va_D A) 12 (MQ below (QcV D (fun _ : Nat => wMo cI cZ a res) A) args s 0 0 A) 0 0 (wMo cI cZ a S) [(0, .ref (a 0)), (1, .int p1)] [] 0
  unfold Mo_makeBlocks at h
  refine j_aload_n C 0 d_Mo_makeBlocks_0 rfl ?_
  refine j_iload_n C 1 d_Mo_makeBlocks_1 rfl ?_
  obtain ⟨r1, hr1, h⟩ := bd_ok h
  refine j_PV C [.int p1] 0 rfl rfl (c_Mo_count l D cI cR cZ a S p1 hr1) (cw_Mo_94 C ⟨Nat.le_of_ble_eq_true rfl, Nat.le_of_ble_eq_true rfl⟩) [0, 1, 2, 3, 4, 5, 6, 7, 8, 9, 10] rfl rfl rfl (Nat.le_of_ble_eq_true rfl) d_Mo_makeBlocks_2 (by decide) ?_
  refine j_istore_n C [(2, .int r1), (0, .ref (a 0)), (1, .int p1)] d_Mo_makeBlocks_5 (by decide) rfl ?_
  refine j_iconst C (v := (-1)) d_Mo_makeBlocks_6 (by decide) ?_
  refine j_istore_n C [(3, .int ((-1))), (2, .int r1), (0, .ref (a 0)), (1, .int p1)] d_Mo_makeBlocks_7 (by decide) rfl ?_
  refine j_iconst C (v := 0) d_Mo_makeBlocks_8 (by decide) ?_
  refine j_istore C [(4, .int 0), (3, .int ((-1))), (2, .int r1), (0, .ref (a 0)), (1, .int p1)] d_Mo_makeBlocks_9 (by decide) rfl ?_
  obtain ⟨r20, hr20, h⟩ := bd_ok h
  refine j_sub [3, 4, 2, 1, 0] rfl ?_
  refine t_Mo_makeBlocks_l11 C hA fu ((-1)) 0 S hr20 (fun e62 => ?_)
  · refine j_iconst C (v := 0) d_Mo_makeBlocks_134 (by decide) ?_
    refine j_istore C [(4, .int 0), (0, .ref (a 0)), (1, .int p1), (2, .int r1), (3, .int r20.2.1)] d_Mo_makeBlocks_135 (by decide) rfl ?_
    obtain ⟨r60, hr60, h⟩ := bd_ok h
    refine j_sub [1, 2, 3, 4, 0] rfl ?_
    refine t_Mo_makeBlocks_l137 C hA fu 0 r20.2.2 hr60 (fun e61 => ?_)
    · obtain rfl := Option.some.inj h
      exact j_vret C hr d_Mo_makeBlocks_353 0 rfl
def Mo_makeStripe_l28 (v1 : Int32) (v2 : Int32) (v5 : Int32) : Nat → Int32 → Int32 → Int32 → LyS → Option (Nat × Int32 × Int32 × LyS)
  | 0, _, _, _, _ => none
  | k + 1, v3, v4, v6, S =>
  (if ((S.1 1) * (S.1 17)) ≤ v6 then some (0, v3, v4, S)
  else dz (S.1 1) (dz (S.1 1) (gd ((24 * ((S.1 16) + (v6 / (S.1 1)))) + (v6 - v6 / (S.1 1) * (S.1 1))) 576 ((if (S.2 1 (((24 * ((S.1 16) + (v6 / (S.1 1)))) + (v6 - v6 / (S.1 1) * (S.1 1))).toNatClampNeg)) = 0 then some ((0 : Int32))
  else some ((1 : Int32))).bind fun r5 =>
  gd (576 + ((24 * ((S.1 16) + (v6 / (S.1 1)))) + (v6 - v6 / (S.1 1) * (S.1 1)))) 2304 ((if v3 = 0 then gd ((24 * ((S.1 16) + (v6 / (S.1 1)))) + (v6 - v6 / (S.1 1) * (S.1 1))) 576 ((if ((Ls S 2 ((576 + ((24 * ((S.1 16) + (v6 / (S.1 1)))) + (v6 - v6 / (S.1 1) * (S.1 1)))).toNatClampNeg) r5).2 1 (((24 * ((S.1 16) + (v6 / (S.1 1)))) + (v6 - v6 / (S.1 1) * (S.1 1))).toNatClampNeg)) = 0 then some ((0 : Int32))
  else some ((1 : Int32))))
  else some ((1 : Int32))).bind fun r7 =>
  (if v4 = 0 then gd ((24 * ((S.1 16) + (v6 / (S.1 1)))) + (v6 - v6 / (S.1 1) * (S.1 1))) 576 ((if ((Ls S 2 ((576 + ((24 * ((S.1 16) + (v6 / (S.1 1)))) + (v6 - v6 / (S.1 1) * (S.1 1)))).toNatClampNeg) r5).2 1 (((24 * ((S.1 16) + (v6 / (S.1 1)))) + (v6 - v6 / (S.1 1) * (S.1 1))).toNatClampNeg)) = 0 then Mo_makeStripe_l28 v1 v2 v5 k r7 1 (v6 + 1) (Ls S 2 ((576 + ((24 * ((S.1 16) + (v6 / (S.1 1)))) + (v6 - v6 / (S.1 1) * (S.1 1)))).toNatClampNeg) r5)
  else Mo_makeStripe_l28 v1 v2 v5 k r7 0 (v6 + 1) (Ls S 2 ((576 + ((24 * ((S.1 16) + (v6 / (S.1 1)))) + (v6 - v6 / (S.1 1) * (S.1 1)))).toNatClampNeg) r5)))
  else Mo_makeStripe_l28 v1 v2 v5 k r7 1 (v6 + 1) (Ls S 2 ((576 + ((24 * ((S.1 16) + (v6 / (S.1 1)))) + (v6 - v6 / (S.1 1) * (S.1 1)))).toNatClampNeg) r5)))))))
def Mo_makeStripe_l195 (fu : Nat) (v1 : Int32) (v2 : Int32) : Nat → Int32 → Int32 → LyS → Option (Nat × Int32 × LyS)
  | 0, _, _, _ => none
  | k + 1, v5, v6, S =>
  (if ((S.1 1) * (S.1 17)) ≤ v6 then some (0, v5, S)
  else dz (S.1 1) (dz (S.1 1) (gd ((24 * ((S.1 16) + (v6 / (S.1 1)))) + (v6 - v6 / (S.1 1) * (S.1 1))) 576 ((Mo_joinedAt S (v6 - v6 / (S.1 1) * (S.1 1)) ((S.1 16) + (v6 / (S.1 1)))).bind fun r26 =>
  (Mo_more fu (S.2 0 (((24 * ((S.1 16) + (v6 / (S.1 1)))) + (v6 - v6 / (S.1 1) * (S.1 1))).toNatClampNeg)) r26).bind fun r27 =>
  gd ((1728 + (24 * ((S.1 16) + (v6 / (S.1 1))))) + (v6 - v6 / (S.1 1) * (S.1 1))) 2304 ((if v5 = 0 then (if r27 = 0 then Mo_makeStripe_l195 fu v1 v2 k 0 (v6 + 1) (Ls S 2 (((1728 + (24 * ((S.1 16) + (v6 / (S.1 1))))) + (v6 - v6 / (S.1 1) * (S.1 1))).toNatClampNeg) r27)
  else Mo_makeStripe_l195 fu v1 v2 k 1 (v6 + 1) (Ls S 2 (((1728 + (24 * ((S.1 16) + (v6 / (S.1 1))))) + (v6 - v6 / (S.1 1) * (S.1 1))).toNatClampNeg) r27))
  else Mo_makeStripe_l195 fu v1 v2 k 1 (v6 + 1) (Ls S 2 (((1728 + (24 * ((S.1 16) + (v6 / (S.1 1))))) + (v6 - v6 / (S.1 1) * (S.1 1))).toNatClampNeg) r27)))))))
def Mo_makeStripe_b192 (fu : Nat) (S : LyS) (v1 : Int32) (v2 : Int32) (v5 : Int32) : Option (LyS) :=
  (Mo_makeStripe_l195 fu v1 v2 fu v5 0 S).bind fun r32 =>
  (if v2 = 0 then gd ((4 * v1) + 3) 96 (zb 0 (some (Ls r32.2.2 4 (((4 * v1) + 3).toNatClampNeg) 0)))
  else (if r32.2.1 = 0 then gd ((4 * v1) + 3) 96 (zb 0 (some (Ls r32.2.2 4 (((4 * v1) + 3).toNatClampNeg) 0)))
  else gd ((4 * v1) + 3) 96 (zb 1 (some (Ls r32.2.2 4 (((4 * v1) + 3).toNatClampNeg) 1)))))
def Mo_makeStripe_b183 (fu : Nat) (S : LyS) (v1 : Int32) (v2 : Int32) (v3 : Int32) (v5 : Int32) : Option (LyS) :=
  (if v3 = 0 then Mo_makeStripe_b192 fu S v1 v2 v5
  else (Mo_makeBlocks fu S 2).bind fun r42 =>
  Mo_makeStripe_b192 fu r42 v1 v2 v5)
def Mo_makeStripe (fu : Nat) (S : LyS) (p1 : Int32) (p2 : Int32) : Option (LyS) :=
  (Mo_lay S (S.1 1) (S.1 2) (S.1 5) p1).bind fun r1 =>
  (Mo_makeStripe_l28 p1 p2 0 fu 0 0 0 r1).bind fun r16 =>
  gd (4 * p1) 96 (zb r16.2.2.1 (gd ((4 * p1) + 1) 96 (zb r16.2.1 (gd ((4 * p1) + 2) 96 (zb r16.2.1 ((if r16.2.2.1 = 0 then Mo_makeStripe_b183 fu (Ls (Ls (Ls r16.2.2.2 4 ((4 * p1).toNatClampNeg) r16.2.2.1) 4 (((4 * p1) + 1).toNatClampNeg) r16.2.1) 4 (((4 * p1) + 2).toNatClampNeg) r16.2.1) p1 p2 r16.2.1 0
  else (Mo_makeBlocks fu (Ls (Ls (Ls r16.2.2.2 4 ((4 * p1).toNatClampNeg) r16.2.2.1) 4 (((4 * p1) + 1).toNatClampNeg) r16.2.1) 4 (((4 * p1) + 2).toNatClampNeg) r16.2.1) 0).bind fun r44 =>
  Mo_makeStripe_b183 fu r44 p1 p2 r16.2.1 0)))))))
set_option maxRecDepth 100000 in
set_option maxHeartbeats 4000000 in
theorem t_Mo_makeStripe_l28 {p : Program} {l : Launch} {e : Env} {s : State} {m : MethodId} {args : Array Value} {below : List Frame} {meth : Method} {c : Code} {D : va_G} {cI cR cZ : ClassId} {A : Nat → Prop} {Q : State → Prop} (C : Cx p s m args meth c D (tyG cI cR cZ) b_Mo_makeStripe 10 "MaskLayersModel") (hA : ∀ q : Nat, s.heap.size ≤ q → A q) {a : (Nat → Nat)} {v1 : Int32} {v2 : Int32} {v5 : Int32} {out : Nat × Int32 × Int32 × LyS} : ∀ (k : Nat) (v3 : Int32) (v4 : Int32) (v6 : Int32) (S : LyS), Mo_makeStripe_l28 v1 v2 v5 k v3 v4 v6 S = some out → (out.1 = 0 → J p l e rm_Mo_makeStripe s m args below meth c D A (va_D A) 10 Q 0 0 (wMo cI cZ a out.2.2.2) [(0, .ref (a 0)), (1, .int v1), (2, .int v2), (3, .int out.2.1), (4, .int out.2.2.1), (5, .int v5)] [] 141) → J p l e rm_Mo_makeStripe s m args below meth c D A (va_D A) 10 Q 0 0 (wMo cI cZ a S) [(0, .ref (a 0)), (1, .int v1), (2, .int v2), (3, .int v3), (4, .int v4), (5, .int v5), (6, .int v6)] [] 28 := by
  intro k
  induction k with
  | zero => intro v3 v4 v6 S h; cases (show none = some out from h)
  | succ k ih =>
    intro v3 v4 v6 S h x0
    rw [Mo_makeStripe_l28] at h
    refine j_iload C 6 d_Mo_makeStripe_28 rfl ?_
    refine j_aload_n C 0 d_Mo_makeStripe_30 rfl ?_
    refine gf_Mo_45 C 0 (v := .int (S.1 1)) mo_h rfl d_Mo_makeStripe_31 ?_
    refine j_aload_n C 0 d_Mo_makeStripe_34 rfl ?_
    refine gf_Mo_72 C 0 (v := .int (S.1 17)) mo_h rfl d_Mo_makeStripe_35 ?_
    refine j_imul C d_Mo_makeStripe_38 ?_
    refine j_icmp_ge C 141 d_Mo_makeStripe_39 (by decide) (fun c15 => ?_) (fun c15 => ?_)
    · replace h := (if_pos c15).symm.trans h
      obtain rfl := Option.some.inj h
      refine j_sub [0, 1, 2, 3, 4, 5] rfl ?_
      exact x0 rfl
    · replace h := (if_neg c15).symm.trans h
      refine j_bipush C (v := 24) d_Mo_makeStripe_42 (by decide) ?_
      refine j_aload_n C 0 d_Mo_makeStripe_44 rfl ?_
      refine gf_Mo_69 C 0 (v := .int (S.1 16)) mo_h rfl d_Mo_makeStripe_45 ?_
      refine j_iload C 6 d_Mo_makeStripe_48 rfl ?_
      refine j_aload_n C 0 d_Mo_makeStripe_50 rfl ?_
      refine gf_Mo_45 C 0 (v := .int (S.1 1)) mo_h rfl d_Mo_makeStripe_51 ?_
      obtain ⟨b2, h⟩ := dz_ok h
      refine j_idiv C d_Mo_makeStripe_54 b2 ?_
      refine j_iadd C d_Mo_makeStripe_55 ?_
      refine j_imul C d_Mo_makeStripe_56 ?_
      refine j_iload C 6 d_Mo_makeStripe_57 rfl ?_
      refine j_aload_n C 0 d_Mo_makeStripe_59 rfl ?_
      refine gf_Mo_45 C 0 (v := .int (S.1 1)) mo_h rfl d_Mo_makeStripe_60 ?_
      obtain ⟨b3, h⟩ := dz_ok h
      refine j_irem C d_Mo_makeStripe_63 b3 ?_
      refine j_iadd C d_Mo_makeStripe_64 ?_
      refine j_istore C [(7, .int ((24 * ((S.1 16) + (v6 / (S.1 1)))) + (v6 - v6 / (S.1 1) * (S.1 1)))), (0, .ref (a 0)), (1, .int v1), (2, .int v2), (3, .int v3), (4, .int v4), (5, .int v5), (6, .int v6)] d_Mo_makeStripe_65 (by decide) rfl ?_
      refine j_aload_n C 1 d_Mo_makeStripe_67 rfl ?_
      refine gf_Mo_21 C 0 (v := .ref (a 3)) mo_h rfl d_Mo_makeStripe_68 ?_
      refine j_sipush C (v := 576) d_Mo_makeStripe_71 (by decide) ?_
      refine j_iload C 0 d_Mo_makeStripe_74 rfl ?_
      refine j_iadd C d_Mo_makeStripe_76 ?_
      refine j_aload_n C 1 d_Mo_makeStripe_77 rfl ?_
      refine gf_Mo_17 C 0 (v := .ref (a 2)) mo_h rfl d_Mo_makeStripe_78 ?_
      refine j_iload C 0 d_Mo_makeStripe_81 rfl ?_
      obtain ⟨b4, h⟩ := gd_ok h
      refine j_zald C (2) (t0 := 1) mo_g1 rfl b4 d_Mo_makeStripe_83 ?_
      obtain ⟨r5, hr5, gr5⟩ := bd_ok h
      refine j_let (ws' := wMo cI cZ a S) (lv' := [(0, .ref (a 0)), (1, .int v1), (2, .int v2), (3, .int v3), (4, .int v4), (5, .int v5), (6, .int v6), (7, .int ((24 * ((S.1 16) + (v6 / (S.1 1)))) + (v6 - v6 / (S.1 1) * (S.1 1))))]) (st' := [.int r5, .int (576 + ((24 * ((S.1 16) + (v6 / (S.1 1)))) + (v6 - v6 / (S.1 1) * (S.1 1)))), .ref (a 3)]) (pc' := 92) ?_ (fun Kr5 => ?_)
      · replace h := gr5
        obtain ⟨b6, h⟩ := gd_ok h
        refine j_iast C (3) (wMo cI cZ a (Ls S 2 ((576 + ((24 * ((S.1 16) + (v6 / (S.1 1)))) + (v6 - v6 / (S.1 1) * (S.1 1)))).toNatClampNeg) r5)) (t0 := 0) mo_g2 mo_s2 rfl b6 d_Mo_makeStripe_92 ?_
        refine j_iload_n C 3 d_Mo_makeStripe_93 rfl ?_
        obtain ⟨r7, hr7, gr7⟩ := bd_ok h
        refine j_let (ws' := wMo cI cZ a (Ls S 2 ((576 + ((24 * ((S.1 16) + (v6 / (S.1 1)))) + (v6 - v6 / (S.1 1) * (S.1 1)))).toNatClampNeg) r5)) (lv' := [(0, .ref (a 0)), (1, .int v1), (2, .int v2), (4, .int v4), (5, .int v5), (6, .int v6), (7, .int ((24 * ((S.1 16) + (v6 / (S.1 1)))) + (v6 - v6 / (S.1 1) * (S.1 1))))]) (st' := [.int r7]) (pc' := 112) ?_ (fun Kr7 => ?_)
        · replace h := gr7
          refine j_istore_n C [(3, .int r7), (0, .ref (a 0)), (1, .int v1), (2, .int v2), (4, .int v4), (5, .int v5), (6, .int v6), (7, .int ((24 * ((S.1 16) + (v6 / (S.1 1)))) + (v6 - v6 / (S.1 1) * (S.1 1))))] d_Mo_makeStripe_112 (by decide) rfl ?_
          refine j_iload C 4 d_Mo_makeStripe_113 rfl ?_
          refine j_if_ne C 128 d_Mo_makeStripe_115 (by decide) (fun c12 => ?_) (fun c12 => ?_)
          · replace h := (if_neg c12).symm.trans h
            refine j_iconst C (v := 1) d_Mo_makeStripe_128 (by decide) ?_
            refine j_goto C 133 d_Mo_makeStripe_129 (by decide) ?_
            refine j_istore C [(4, .int 1), (3, .int r7), (0, .ref (a 0)), (1, .int v1), (2, .int v2), (5, .int v5), (6, .int v6), (7, .int ((24 * ((S.1 16) + (v6 / (S.1 1)))) + (v6 - v6 / (S.1 1) * (S.1 1))))] d_Mo_makeStripe_133 (by decide) rfl ?_
            refine j_iinc C [(6, .int (v6 + 1)), (4, .int 1), (3, .int r7), (0, .ref (a 0)), (1, .int v1), (2, .int v2), (5, .int v5), (7, .int ((24 * ((S.1 16) + (v6 / (S.1 1)))) + (v6 - v6 / (S.1 1) * (S.1 1))))] 6 (v6 + 1) d_Mo_makeStripe_135 rfl rfl (by decide) rfl ?_
            refine j_goto C 28 d_Mo_makeStripe_138 (by decide) ?_
            refine j_sub [3, 4, 5, 2, 1, 6, 0] rfl ?_
            exact ih r7 1 (v6 + 1) (Ls S 2 ((576 + ((24 * ((S.1 16) + (v6 / (S.1 1)))) + (v6 - v6 / (S.1 1) * (S.1 1)))).toNatClampNeg) r5) h x0
          · replace h := (if_pos c12).symm.trans h
            refine j_aload_n C 1 d_Mo_makeStripe_118 rfl ?_
            refine gf_Mo_17 C 0 (v := .ref (a 2)) mo_h rfl d_Mo_makeStripe_119 ?_
            refine j_iload C 7 d_Mo_makeStripe_122 rfl ?_
            obtain ⟨b10, h⟩ := gd_ok h
            refine j_zald C (2) (t0 := 1) mo_g1 rfl b10 d_Mo_makeStripe_124 ?_
            refine j_if_ne C 132 d_Mo_makeStripe_125 (by decide) (fun c11 => ?_) (fun c11 => ?_)
            · replace h := (if_neg c11).symm.trans h
              refine j_iconst C (v := 0) d_Mo_makeStripe_132 (by decide) ?_
              refine j_istore C [(4, .int 0), (3, .int r7), (0, .ref (a 0)), (1, .int v1), (2, .int v2), (5, .int v5), (6, .int v6), (7, .int ((24 * ((S.1 16) + (v6 / (S.1 1)))) + (v6 - v6 / (S.1 1) * (S.1 1))))] d_Mo_makeStripe_133 (by decide) rfl ?_
              refine j_iinc C [(6, .int (v6 + 1)), (4, .int 0), (3, .int r7), (0, .ref (a 0)), (1, .int v1), (2, .int v2), (5, .int v5), (7, .int ((24 * ((S.1 16) + (v6 / (S.1 1)))) + (v6 - v6 / (S.1 1) * (S.1 1))))] 6 (v6 + 1) d_Mo_makeStripe_135 rfl rfl (by decide) rfl ?_
              refine j_goto C 28 d_Mo_makeStripe_138 (by decide) ?_
              refine j_sub [3, 4, 5, 2, 1, 6, 0] rfl ?_
              exact ih r7 0 (v6 + 1) (Ls S 2 ((576 + ((24 * ((S.1 16) + (v6 / (S.1 1)))) + (v6 - v6 / (S.1 1) * (S.1 1)))).toNatClampNeg) r5) h x0
            · replace h := (if_pos c11).symm.trans h
              refine j_iconst C (v := 1) d_Mo_makeStripe_128 (by decide) ?_
              refine j_goto C 133 d_Mo_makeStripe_129 (by decide) ?_
              refine j_istore C [(4, .int 1), (3, .int r7), (0, .ref (a 0)), (1, .int v1), (2, .int v2), (5, .int v5), (6, .int v6), (7, .int ((24 * ((S.1 16) + (v6 / (S.1 1)))) + (v6 - v6 / (S.1 1) * (S.1 1))))] d_Mo_makeStripe_133 (by decide) rfl ?_
              refine j_iinc C [(6, .int (v6 + 1)), (4, .int 1), (3, .int r7), (0, .ref (a 0)), (1, .int v1), (2, .int v2), (5, .int v5), (7, .int ((24 * ((S.1 16) + (v6 / (S.1 1)))) + (v6 - v6 / (S.1 1) * (S.1 1))))] 6 (v6 + 1) d_Mo_makeStripe_135 rfl rfl (by decide) rfl ?_
              refine j_goto C 28 d_Mo_makeStripe_138 (by decide) ?_
              refine j_sub [3, 4, 5, 2, 1, 6, 0] rfl ?_
              exact ih r7 1 (v6 + 1) (Ls S 2 ((576 + ((24 * ((S.1 16) + (v6 / (S.1 1)))) + (v6 - v6 / (S.1 1) * (S.1 1)))).toNatClampNeg) r5) h x0
        · replace h := hr7
          refine j_if_ne C 107 d_Mo_makeStripe_94 (by decide) (fun c13 => ?_) (fun c13 => ?_)
          · replace h := (if_neg c13).symm.trans h
            refine j_iconst C (v := 1) d_Mo_makeStripe_107 (by decide) ?_
            refine j_goto C 112 d_Mo_makeStripe_108 (by decide) ?_
            obtain rfl := Option.some.inj h
            refine j_sub [0, 1, 2, 4, 5, 6, 7] rfl ?_
            exact Kr7
          · replace h := (if_pos c13).symm.trans h
            refine j_aload_n C 0 d_Mo_makeStripe_97 rfl ?_
            refine gf_Mo_17 C 0 (v := .ref (a 2)) mo_h rfl d_Mo_makeStripe_98 ?_
            refine j_iload C 7 d_Mo_makeStripe_101 rfl ?_
            obtain ⟨b8, h⟩ := gd_ok h
            refine j_zald C (2) (t0 := 1) mo_g1 rfl b8 d_Mo_makeStripe_103 ?_
            refine j_if_eq C 111 d_Mo_makeStripe_104 (by decide) (fun c9 => ?_) (fun c9 => ?_)
            · replace h := (if_pos c9).symm.trans h
              refine j_iconst C (v := 0) d_Mo_makeStripe_111 (by decide) ?_
              obtain rfl := Option.some.inj h
              refine j_sub [0, 1, 2, 4, 5, 6, 7] rfl ?_
              exact Kr7
            · replace h := (if_neg c9).symm.trans h
              refine j_iconst C (v := 1) d_Mo_makeStripe_107 (by decide) ?_
              refine j_goto C 112 d_Mo_makeStripe_108 (by decide) ?_
              obtain rfl := Option.some.inj h
              refine j_sub [0, 1, 2, 4, 5, 6, 7] rfl ?_
              exact Kr7
      · replace h := hr5
        refine j_if_eq C 91 d_Mo_makeStripe_84 (by decide) (fun c14 => ?_) (fun c14 => ?_)
        · replace h := (if_pos c14).symm.trans h
          refine j_iconst C (v := 0) d_Mo_makeStripe_91 (by decide) ?_
          obtain rfl := Option.some.inj h
          refine j_sub [1, 2, 3, 4, 5, 6, 7, 0] rfl ?_
          exact Kr5
        · replace h := (if_neg c14).symm.trans h
          refine j_iconst C (v := 1) d_Mo_makeStripe_87 (by decide) ?_
          refine j_goto C 92 d_Mo_makeStripe_88 (by decide) ?_
          obtain rfl := Option.some.inj h
          refine j_sub [1, 2, 3, 4, 5, 6, 7, 0] rfl ?_
          exact Kr5
set_option maxRecDepth 100000 in
set_option maxHeartbeats 4000000 in
theorem t_Mo_makeStripe_l195 {p : Program} {l : Launch} {e : Env} {s : State} {m : MethodId} {args : Array Value} {below : List Frame} {meth : Method} {c : Code} {D : va_G} {cI cR cZ : ClassId} {A : Nat → Prop} {Q : State → Prop} (C : Cx p s m args meth c D (tyG cI cR cZ) b_Mo_makeStripe 10 "MaskLayersModel") (hA : ∀ q : Nat, s.heap.size ≤ q → A q) {a : (Nat → Nat)} {fu : Nat} {v1 : Int32} {v2 : Int32} {out : Nat × Int32 × LyS} : ∀ (k : Nat) (v5 : Int32) (v6 : Int32) (S : LyS), Mo_makeStripe_l195 fu v1 v2 k v5 v6 S = some out → (out.1 = 0 → J p l e rm_Mo_makeStripe s m args below meth c D A (va_D A) 10 Q 0 0 (wMo cI cZ a out.2.2) [(0, .ref (a 0)), (1, .int v1), (2, .int v2), (5, .int out.2.1)] [] 300) → J p l e rm_Mo_makeStripe s m args below meth c D A (va_D A) 10 Q 0 0 (wMo cI cZ a S) [(0, .ref (a 0)), (1, .int v1), (2, .int v2), (5, .int v5), (6, .int v6)] [] 195 := by
  intro k
  induction k with
  | zero => intro v5 v6 S h; cases (show none = some out from h)
  | succ k ih =>
    intro v5 v6 S h x0
    rw [Mo_makeStripe_l195] at h
    refine j_iload C 4 d_Mo_makeStripe_195 rfl ?_
    refine j_aload_n C 0 d_Mo_makeStripe_197 rfl ?_
    refine gf_Mo_45 C 0 (v := .int (S.1 1)) mo_h rfl d_Mo_makeStripe_198 ?_
    refine j_aload_n C 0 d_Mo_makeStripe_201 rfl ?_
    refine gf_Mo_72 C 0 (v := .int (S.1 17)) mo_h rfl d_Mo_makeStripe_202 ?_
    refine j_imul C d_Mo_makeStripe_205 ?_
    refine j_icmp_ge C 300 d_Mo_makeStripe_206 (by decide) (fun c31 => ?_) (fun c31 => ?_)
    · replace h := (if_pos c31).symm.trans h
      obtain rfl := Option.some.inj h
      refine j_sub [0, 1, 2, 3] rfl ?_
      exact x0 rfl
    · replace h := (if_neg c31).symm.trans h
      refine j_iload C 4 d_Mo_makeStripe_209 rfl ?_
      refine j_aload_n C 0 d_Mo_makeStripe_211 rfl ?_
      refine gf_Mo_45 C 0 (v := .int (S.1 1)) mo_h rfl d_Mo_makeStripe_212 ?_
      obtain ⟨b23, h⟩ := dz_ok h
      refine j_irem C d_Mo_makeStripe_215 b23 ?_
      refine j_istore C [(7, .int (v6 - v6 / (S.1 1) * (S.1 1))), (0, .ref (a 0)), (1, .int v1), (2, .int v2), (5, .int v5), (6, .int v6)] d_Mo_makeStripe_216 (by decide) rfl ?_
      refine j_aload_n C 1 d_Mo_makeStripe_218 rfl ?_
      refine gf_Mo_69 C 0 (v := .int (S.1 16)) mo_h rfl d_Mo_makeStripe_219 ?_
      refine j_iload C 5 d_Mo_makeStripe_222 rfl ?_
      refine j_aload_n C 1 d_Mo_makeStripe_224 rfl ?_
      refine gf_Mo_45 C 0 (v := .int (S.1 1)) mo_h rfl d_Mo_makeStripe_225 ?_
      obtain ⟨b24, h⟩ := dz_ok h
      refine j_idiv C d_Mo_makeStripe_228 b24 ?_
      refine j_iadd C d_Mo_makeStripe_229 ?_
      refine j_istore C [(8, .int ((S.1 16) + (v6 / (S.1 1)))), (7, .int (v6 - v6 / (S.1 1) * (S.1 1))), (0, .ref (a 0)), (1, .int v1), (2, .int v2), (5, .int v5), (6, .int v6)] d_Mo_makeStripe_230 (by decide) rfl ?_
      refine j_aload_n C 2 d_Mo_makeStripe_232 rfl ?_
      refine gf_Mo_13 C 0 (v := .ref (a 1)) mo_h rfl d_Mo_makeStripe_233 ?_
      refine j_bipush C (v := 24) d_Mo_makeStripe_236 (by decide) ?_
      refine j_iload C 0 d_Mo_makeStripe_238 rfl ?_
      refine j_imul C d_Mo_makeStripe_240 ?_
      refine j_iload C 1 d_Mo_makeStripe_241 rfl ?_
      refine j_iadd C d_Mo_makeStripe_243 ?_
      obtain ⟨b25, h⟩ := gd_ok h
      refine j_iald C (1) (t0 := 0) mo_g0 rfl b25 d_Mo_makeStripe_244 ?_
      refine j_aload_n C 2 d_Mo_makeStripe_245 rfl ?_
      refine j_iload C 1 d_Mo_makeStripe_246 rfl ?_
      refine j_iload C 0 d_Mo_makeStripe_248 rfl ?_
      obtain ⟨r26, hr26, h⟩ := bd_ok h
      refine j_PV C [.int (v6 - v6 / (S.1 1) * (S.1 1)), .int ((S.1 16) + (v6 / (S.1 1)))] 0 rfl rfl (c_Mo_joinedAt l D cI cR cZ a S (v6 - v6 / (S.1 1) * (S.1 1)) ((S.1 16) + (v6 / (S.1 1))) hr26) (cw_Mo_118 C ⟨Nat.le_of_ble_eq_true rfl, Nat.le_of_ble_eq_true rfl⟩) [0, 1, 2, 3, 4, 5, 6, 7, 8, 9, 10] rfl rfl rfl (Nat.le_of_ble_eq_true rfl) d_Mo_makeStripe_250 (by decide) ?_
      obtain ⟨r27, hr27, h⟩ := bd_ok h
      refine j_PS C [.int (S.2 0 (((24 * ((S.1 16) + (v6 / (S.1 1)))) + (v6 - v6 / (S.1 1) * (S.1 1))).toNatClampNeg)), .int r26] (c_Mo_more l D cI cR cZ fu (S.2 0 (((24 * ((S.1 16) + (v6 / (S.1 1)))) + (v6 - v6 / (S.1 1) * (S.1 1))).toNatClampNeg)) r26 hr27) (cw_Mo_121 C ⟨Nat.le_of_ble_eq_true rfl, Nat.le_of_ble_eq_true rfl⟩) [] rfl rfl rfl (Nat.le_of_ble_eq_true rfl) d_Mo_makeStripe_253 (by decide) ?_
      refine j_istore C [(9, .int r27), (8, .int ((S.1 16) + (v6 / (S.1 1)))), (7, .int (v6 - v6 / (S.1 1) * (S.1 1))), (0, .ref (a 0)), (1, .int v1), (2, .int v2), (5, .int v5), (6, .int v6)] d_Mo_makeStripe_256 (by decide) rfl ?_
      refine j_aload_n C 3 d_Mo_makeStripe_258 rfl ?_
      refine gf_Mo_21 C 0 (v := .ref (a 3)) mo_h rfl d_Mo_makeStripe_259 ?_
      refine j_sipush C (v := 1728) d_Mo_makeStripe_262 (by decide) ?_
      refine j_bipush C (v := 24) d_Mo_makeStripe_265 (by decide) ?_
      refine j_iload C 1 d_Mo_makeStripe_267 rfl ?_
      refine j_imul C d_Mo_makeStripe_269 ?_
      refine j_iadd C d_Mo_makeStripe_270 ?_
      refine j_iload C 2 d_Mo_makeStripe_271 rfl ?_
      refine j_iadd C d_Mo_makeStripe_273 ?_
      refine j_iload C 0 d_Mo_makeStripe_274 rfl ?_
      obtain ⟨b28, h⟩ := gd_ok h
      refine j_iast C (3) (wMo cI cZ a (Ls S 2 (((1728 + (24 * ((S.1 16) + (v6 / (S.1 1))))) + (v6 - v6 / (S.1 1) * (S.1 1))).toNatClampNeg) r27)) (t0 := 0) mo_g2 mo_s2 rfl b28 d_Mo_makeStripe_276 ?_
      refine j_iload C 6 d_Mo_makeStripe_277 rfl ?_
      refine j_if_ne C 287 d_Mo_makeStripe_279 (by decide) (fun c30 => ?_) (fun c30 => ?_)
      · replace h := (if_neg c30).symm.trans h
        refine j_iconst C (v := 1) d_Mo_makeStripe_287 (by decide) ?_
        refine j_goto C 292 d_Mo_makeStripe_288 (by decide) ?_
        refine j_istore C [(5, .int 1), (9, .int r27), (8, .int ((S.1 16) + (v6 / (S.1 1)))), (7, .int (v6 - v6 / (S.1 1) * (S.1 1))), (0, .ref (a 0)), (1, .int v1), (2, .int v2), (6, .int v6)] d_Mo_makeStripe_292 (by decide) rfl ?_
        refine j_iinc C [(6, .int (v6 + 1)), (5, .int 1), (9, .int r27), (8, .int ((S.1 16) + (v6 / (S.1 1)))), (7, .int (v6 - v6 / (S.1 1) * (S.1 1))), (0, .ref (a 0)), (1, .int v1), (2, .int v2)] 7 (v6 + 1) d_Mo_makeStripe_294 rfl rfl (by decide) rfl ?_
        refine j_goto C 195 d_Mo_makeStripe_297 (by decide) ?_
        refine j_sub [5, 6, 7, 1, 0] rfl ?_
        exact ih 1 (v6 + 1) (Ls S 2 (((1728 + (24 * ((S.1 16) + (v6 / (S.1 1))))) + (v6 - v6 / (S.1 1) * (S.1 1))).toNatClampNeg) r27) h x0
      · replace h := (if_pos c30).symm.trans h
        refine j_iload C 0 d_Mo_makeStripe_282 rfl ?_
        refine j_if_eq C 291 d_Mo_makeStripe_284 (by decide) (fun c29 => ?_) (fun c29 => ?_)
        · replace h := (if_pos c29).symm.trans h
          refine j_iconst C (v := 0) d_Mo_makeStripe_291 (by decide) ?_
          refine j_istore C [(5, .int 0), (9, .int r27), (8, .int ((S.1 16) + (v6 / (S.1 1)))), (7, .int (v6 - v6 / (S.1 1) * (S.1 1))), (0, .ref (a 0)), (1, .int v1), (2, .int v2), (6, .int v6)] d_Mo_makeStripe_292 (by decide) rfl ?_
          refine j_iinc C [(6, .int (v6 + 1)), (5, .int 0), (9, .int r27), (8, .int ((S.1 16) + (v6 / (S.1 1)))), (7, .int (v6 - v6 / (S.1 1) * (S.1 1))), (0, .ref (a 0)), (1, .int v1), (2, .int v2)] 7 (v6 + 1) d_Mo_makeStripe_294 rfl rfl (by decide) rfl ?_
          refine j_goto C 195 d_Mo_makeStripe_297 (by decide) ?_
          refine j_sub [5, 6, 7, 1, 0] rfl ?_
          exact ih 0 (v6 + 1) (Ls S 2 (((1728 + (24 * ((S.1 16) + (v6 / (S.1 1))))) + (v6 - v6 / (S.1 1) * (S.1 1))).toNatClampNeg) r27) h x0
        · replace h := (if_neg c29).symm.trans h
          refine j_iconst C (v := 1) d_Mo_makeStripe_287 (by decide) ?_
          refine j_goto C 292 d_Mo_makeStripe_288 (by decide) ?_
          refine j_istore C [(5, .int 1), (9, .int r27), (8, .int ((S.1 16) + (v6 / (S.1 1)))), (7, .int (v6 - v6 / (S.1 1) * (S.1 1))), (0, .ref (a 0)), (1, .int v1), (2, .int v2), (6, .int v6)] d_Mo_makeStripe_292 (by decide) rfl ?_
          refine j_iinc C [(6, .int (v6 + 1)), (5, .int 1), (9, .int r27), (8, .int ((S.1 16) + (v6 / (S.1 1)))), (7, .int (v6 - v6 / (S.1 1) * (S.1 1))), (0, .ref (a 0)), (1, .int v1), (2, .int v2)] 7 (v6 + 1) d_Mo_makeStripe_294 rfl rfl (by decide) rfl ?_
          refine j_goto C 195 d_Mo_makeStripe_297 (by decide) ?_
          refine j_sub [5, 6, 7, 1, 0] rfl ?_
          exact ih 1 (v6 + 1) (Ls S 2 (((1728 + (24 * ((S.1 16) + (v6 / (S.1 1))))) + (v6 - v6 / (S.1 1) * (S.1 1))).toNatClampNeg) r27) h x0
set_option maxRecDepth 100000 in
set_option maxHeartbeats 4000000 in
theorem t_Mo_makeStripe_b192 {p : Program} {l : Launch} {e : Env} {s : State} {m : MethodId} {args : Array Value} {below : List Frame} {meth : Method} {c : Code} {D : va_G} {cI cR cZ : ClassId} {A : Nat → Prop} (C : Cx p s m args meth c D (tyG cI cR cZ) b_Mo_makeStripe 10 "MaskLayersModel") (hr : meth.sig.returnType = none) (hA : ∀ q : Nat, s.heap.size ≤ q → A q) {a : (Nat → Nat)} {S : LyS} {fu : Nat} {v1 : Int32} {v2 : Int32} {v5 : Int32} {res : (LyS)} (h : Mo_makeStripe_b192 fu S v1 v2 v5 = some res) : J p l e rm_Mo_makeStripe s m args below meth c D A (va_D A) 10 (MQ below (QcV D (fun _ : Nat => wMo cI cZ a res) A) args s 0 0 A) 0 0 (wMo cI cZ a S) [(0, .ref (a 0)), (1, .int v1), (2, .int v2), (5, .int v5)] [] 192 := by
  unfold Mo_makeStripe_b192 at h
  refine j_iconst C (v := 0) d_Mo_makeStripe_192 (by decide) ?_
  refine j_istore C [(6, .int 0), (0, .ref (a 0)), (1, .int v1), (2, .int v2), (5, .int v5)] d_Mo_makeStripe_193 (by decide) rfl ?_
  obtain ⟨r32, hr32, h⟩ := bd_ok h
  refine j_sub [1, 2, 3, 4, 0] rfl ?_
  refine t_Mo_makeStripe_l195 C hA fu v5 0 S hr32 (fun e41 => ?_)
  · refine j_aload_n C 0 d_Mo_makeStripe_300 rfl ?_
    refine gf_Mo_27 C 0 (v := .ref (a 5)) mo_h rfl d_Mo_makeStripe_301 ?_
    refine j_iconst C (v := 4) d_Mo_makeStripe_304 (by decide) ?_
    refine j_iload_n C 1 d_Mo_makeStripe_305 rfl ?_
    refine j_imul C d_Mo_makeStripe_306 ?_
    refine j_iconst C (v := 3) d_Mo_makeStripe_307 (by decide) ?_
    refine j_iadd C d_Mo_makeStripe_308 ?_
    refine j_iload_n C 2 d_Mo_makeStripe_309 rfl ?_
    refine j_if_eq C 322 d_Mo_makeStripe_310 (by decide) (fun c40 => ?_) (fun c40 => ?_)
    · replace h := (if_pos c40).symm.trans h
      refine j_iconst C (v := 0) d_Mo_makeStripe_322 (by decide) ?_
      obtain ⟨b33, h⟩ := gd_ok h
      obtain ⟨b34, h⟩ := zb_ok h
      refine j_zast C (5) (wMo cI cZ a (Ls r32.2.2 4 (((4 * v1) + 3).toNatClampNeg) 0)) (t0 := 1) mo_g4 mo_s4 rfl b33 b34 d_Mo_makeStripe_323 ?_
      obtain rfl := Option.some.inj h
      exact j_vret C hr d_Mo_makeStripe_324 0 rfl
    · replace h := (if_neg c40).symm.trans h
      refine j_iload C 3 d_Mo_makeStripe_313 rfl ?_
      refine j_if_eq C 322 d_Mo_makeStripe_315 (by decide) (fun c39 => ?_) (fun c39 => ?_)
      · replace h := (if_pos c39).symm.trans h
        refine j_iconst C (v := 0) d_Mo_makeStripe_322 (by decide) ?_
        obtain ⟨b35, h⟩ := gd_ok h
        obtain ⟨b36, h⟩ := zb_ok h
        refine j_zast C (5) (wMo cI cZ a (Ls r32.2.2 4 (((4 * v1) + 3).toNatClampNeg) 0)) (t0 := 1) mo_g4 mo_s4 rfl b35 b36 d_Mo_makeStripe_323 ?_
        obtain rfl := Option.some.inj h
        exact j_vret C hr d_Mo_makeStripe_324 0 rfl
      · replace h := (if_neg c39).symm.trans h
        refine j_iconst C (v := 1) d_Mo_makeStripe_318 (by decide) ?_
        refine j_goto C 323 d_Mo_makeStripe_319 (by decide) ?_
        obtain ⟨b37, h⟩ := gd_ok h
        obtain ⟨b38, h⟩ := zb_ok h
        refine j_zast C (5) (wMo cI cZ a (Ls r32.2.2 4 (((4 * v1) + 3).toNatClampNeg) 1)) (t0 := 1) mo_g4 mo_s4 rfl b37 b38 d_Mo_makeStripe_323 ?_
        obtain rfl := Option.some.inj h
        exact j_vret C hr d_Mo_makeStripe_324 0 rfl
set_option maxRecDepth 100000 in
set_option maxHeartbeats 4000000 in
theorem t_Mo_makeStripe_b183 {p : Program} {l : Launch} {e : Env} {s : State} {m : MethodId} {args : Array Value} {below : List Frame} {meth : Method} {c : Code} {D : va_G} {cI cR cZ : ClassId} {A : Nat → Prop} (C : Cx p s m args meth c D (tyG cI cR cZ) b_Mo_makeStripe 10 "MaskLayersModel") (hr : meth.sig.returnType = none) (hA : ∀ q : Nat, s.heap.size ≤ q → A q) {a : (Nat → Nat)} {S : LyS} {fu : Nat} {v1 : Int32} {v2 : Int32} {v3 : Int32} {v5 : Int32} {res : (LyS)} (h : Mo_makeStripe_b183 fu S v1 v2 v3 v5 = some res) : J p l e rm_Mo_makeStripe s m args below meth c D A (va_D A) 10 (MQ below (QcV D (fun _ : Nat => wMo cI cZ a res) A) args s 0 0 A) 0 0 (wMo cI cZ a S) [(0, .ref (a 0)), (1, .int v1), (2, .int v2), (3, .int v3), (5, .int v5)] [] 183 := by
  unfold Mo_makeStripe_b183 at h
  refine j_iload_n C 3 d_Mo_makeStripe_183 rfl ?_
  refine j_if_eq C 192 d_Mo_makeStripe_184 (by decide) (fun c43 => ?_) (fun c43 => ?_)
  · replace h := (if_pos c43).symm.trans h
    refine j_sub [0, 1, 2, 4] rfl ?_
    exact t_Mo_makeStripe_b192 C hr hA h
  · replace h := (if_neg c43).symm.trans h
    refine j_aload_n C 0 d_Mo_makeStripe_187 rfl ?_
    refine j_iconst C (v := 2) d_Mo_makeStripe_188 (by decide) ?_
    obtain ⟨r42, hr42, h⟩ := bd_ok h
    refine j_VV C [.int 2] hA 0 rfl rfl (c_Mo_makeBlocks l D cI cR cZ fu a S 2 hr42) (cw_Mo_114 C ⟨Nat.le_of_ble_eq_true rfl, Nat.le_of_ble_eq_true rfl⟩) [0, 1, 2, 3, 4, 5, 6, 7, 8, 9, 10] [] rfl rfl (by decide) (by decide) (by decide) rfl rfl (Nat.le_of_ble_eq_true rfl) d_Mo_makeStripe_189 (by decide) (fun _ => ?_)
    refine j_ws (ws' := wMo cI cZ a r42) rfl ?_
    refine j_sub [0, 1, 2, 4] rfl ?_
    exact t_Mo_makeStripe_b192 C hr hA h
set_option maxRecDepth 100000 in
set_option maxHeartbeats 4000000 in
theorem c_Mo_makeStripe (l : Launch) (D : va_G) (cI cR cZ : ClassId) (fu : Nat) (a : (Nat → Nat)) (S : LyS) (p1 : Int32) (p2 : Int32) {res : (LyS)} (h : Mo_makeStripe fu S p1 p2 = some res) (sz : Nat) : Met l y_Mo_makeStripe (Cond.code y_Mo_makeStripe b_Mo_makeStripe 10 none :: BIG) rm_Mo_makeStripe (PcI [.ref (a 0), .int p1, .int p2] D (tyG cI cR cZ) (wMo cI cZ a S) sz) (QcV D (fun _ : Nat => wMo cI cZ a res) (va_A (wMo cI cZ a S) sz)) 0 0 (va_A (wMo cI cZ a S) sz) := by
  refine met_V (by decide) (Nat.le_of_ble_eq_true rfl) (fun p e s m args below meth c A hA C hr => ?_)
  have C : Cx p s m args meth c D (tyG cI cR cZ) b_Mo_makeStripe 10 "MaskLayersModel" := C
  have hr : meth.sig.returnType = none := hr
  show J p l e rm_Mo_makeStripe s m args below meth c D A (va_D A) 10 (MQ below (QcV D (fun _ : Nat => wMo cI cZ a res) A) args s 0 0 A) 0 0 (wMo cI cZ a S) [(0, .ref (a 0)), (1, .int p1), (2, .int p2)] [] 0
  unfold Mo_makeStripe at h
  refine j_aload_n C 0 d_Mo_makeStripe_0 rfl ?_
  refine j_aload_n C 0 d_Mo_makeStripe_1 rfl ?_
  refine gf_Mo_45 C 0 (v := .int (S.1 1)) mo_h rfl d_Mo_makeStripe_2 ?_
  refine j_aload_n C 0 d_Mo_makeStripe_5 rfl ?_
  refine gf_Mo_48 C 0 (v := .int (S.1 2)) mo_h rfl d_Mo_makeStripe_6 ?_
  refine j_aload_n C 0 d_Mo_makeStripe_9 rfl ?_
  refine gf_Mo_107 C 0 (v := .int (S.1 5)) mo_h rfl d_Mo_makeStripe_10 ?_
  refine j_iload_n C 1 d_Mo_makeStripe_13 rfl ?_
  obtain ⟨r1, hr1, h⟩ := bd_ok h
  refine j_VV C [.int (S.1 1), .int (S.1 2), .int (S.1 5), .int p1] hA 0 rfl rfl (c_Mo_lay l D cI cR cZ a S (S.1 1) (S.1 2) (S.1 5) p1 hr1) (cw_Mo_110 C ⟨Nat.le_of_ble_eq_true rfl, Nat.le_of_ble_eq_true rfl⟩) [0, 1, 2, 3, 4, 5, 6, 7, 8, 9, 10] [] rfl rfl (by decide) (by decide) (by decide) rfl rfl (Nat.le_of_ble_eq_true rfl) d_Mo_makeStripe_14 (by decide) (fun _ => ?_)
  refine j_ws (ws' := wMo cI cZ a r1) rfl ?_
  refine j_iconst C (v := 0) d_Mo_makeStripe_17 (by decide) ?_
  refine j_istore_n C [(3, .int 0), (0, .ref (a 0)), (1, .int p1), (2, .int p2)] d_Mo_makeStripe_18 (by decide) rfl ?_
  refine j_iconst C (v := 0) d_Mo_makeStripe_19 (by decide) ?_
  refine j_istore C [(4, .int 0), (3, .int 0), (0, .ref (a 0)), (1, .int p1), (2, .int p2)] d_Mo_makeStripe_20 (by decide) rfl ?_
  refine j_iconst C (v := 0) d_Mo_makeStripe_22 (by decide) ?_
  refine j_istore C [(5, .int 0), (4, .int 0), (3, .int 0), (0, .ref (a 0)), (1, .int p1), (2, .int p2)] d_Mo_makeStripe_23 (by decide) rfl ?_
  refine j_iconst C (v := 0) d_Mo_makeStripe_25 (by decide) ?_
  refine j_istore C [(6, .int 0), (5, .int 0), (4, .int 0), (3, .int 0), (0, .ref (a 0)), (1, .int p1), (2, .int p2)] d_Mo_makeStripe_26 (by decide) rfl ?_
  obtain ⟨r16, hr16, h⟩ := bd_ok h
  refine j_sub [4, 5, 6, 3, 2, 1, 0] rfl ?_
  refine t_Mo_makeStripe_l28 C hA fu 0 0 0 r1 hr16 (fun e46 => ?_)
  · refine j_aload_n C 0 d_Mo_makeStripe_141 rfl ?_
    refine gf_Mo_27 C 0 (v := .ref (a 5)) mo_h rfl d_Mo_makeStripe_142 ?_
    refine j_iconst C (v := 4) d_Mo_makeStripe_145 (by decide) ?_
    refine j_iload_n C 1 d_Mo_makeStripe_146 rfl ?_
    refine j_imul C d_Mo_makeStripe_147 ?_
    refine j_iload C 4 d_Mo_makeStripe_148 rfl ?_
    obtain ⟨b17, h⟩ := gd_ok h
    obtain ⟨b18, h⟩ := zb_ok h
    refine j_zast C (5) (wMo cI cZ a (Ls r16.2.2.2 4 ((4 * p1).toNatClampNeg) r16.2.2.1)) (t0 := 1) mo_g4 mo_s4 rfl b17 b18 d_Mo_makeStripe_150 ?_
    refine j_aload_n C 0 d_Mo_makeStripe_151 rfl ?_
    refine gf_Mo_27 C 0 (v := .ref (a 5)) mo_h rfl d_Mo_makeStripe_152 ?_
    refine j_iconst C (v := 4) d_Mo_makeStripe_155 (by decide) ?_
    refine j_iload_n C 1 d_Mo_makeStripe_156 rfl ?_
    refine j_imul C d_Mo_makeStripe_157 ?_
    refine j_iconst C (v := 1) d_Mo_makeStripe_158 (by decide) ?_
    refine j_iadd C d_Mo_makeStripe_159 ?_
    refine j_iload_n C 3 d_Mo_makeStripe_160 rfl ?_
    obtain ⟨b19, h⟩ := gd_ok h
    obtain ⟨b20, h⟩ := zb_ok h
    refine j_zast C (5) (wMo cI cZ a (Ls (Ls r16.2.2.2 4 ((4 * p1).toNatClampNeg) r16.2.2.1) 4 (((4 * p1) + 1).toNatClampNeg) r16.2.1)) (t0 := 1) mo_g4 mo_s4 rfl b19 b20 d_Mo_makeStripe_161 ?_
    refine j_aload_n C 0 d_Mo_makeStripe_162 rfl ?_
    refine gf_Mo_27 C 0 (v := .ref (a 5)) mo_h rfl d_Mo_makeStripe_163 ?_
    refine j_iconst C (v := 4) d_Mo_makeStripe_166 (by decide) ?_
    refine j_iload_n C 1 d_Mo_makeStripe_167 rfl ?_
    refine j_imul C d_Mo_makeStripe_168 ?_
    refine j_iconst C (v := 2) d_Mo_makeStripe_169 (by decide) ?_
    refine j_iadd C d_Mo_makeStripe_170 ?_
    refine j_iload_n C 3 d_Mo_makeStripe_171 rfl ?_
    obtain ⟨b21, h⟩ := gd_ok h
    obtain ⟨b22, h⟩ := zb_ok h
    refine j_zast C (5) (wMo cI cZ a (Ls (Ls (Ls r16.2.2.2 4 ((4 * p1).toNatClampNeg) r16.2.2.1) 4 (((4 * p1) + 1).toNatClampNeg) r16.2.1) 4 (((4 * p1) + 2).toNatClampNeg) r16.2.1)) (t0 := 1) mo_g4 mo_s4 rfl b21 b22 d_Mo_makeStripe_172 ?_
    refine j_iload C 4 d_Mo_makeStripe_173 rfl ?_
    refine j_if_eq C 183 d_Mo_makeStripe_175 (by decide) (fun c45 => ?_) (fun c45 => ?_)
    · replace h := (if_pos c45).symm.trans h
      refine j_sub [0, 1, 2, 3, 5] rfl ?_
      exact t_Mo_makeStripe_b183 C hr hA h
    · replace h := (if_neg c45).symm.trans h
      refine j_aload_n C 0 d_Mo_makeStripe_178 rfl ?_
      refine j_iconst C (v := 0) d_Mo_makeStripe_179 (by decide) ?_
      obtain ⟨r44, hr44, h⟩ := bd_ok h
      refine j_VV C [.int 0] hA 0 rfl rfl (c_Mo_makeBlocks l D cI cR cZ fu a (Ls (Ls (Ls r16.2.2.2 4 ((4 * p1).toNatClampNeg) r16.2.2.1) 4 (((4 * p1) + 1).toNatClampNeg) r16.2.1) 4 (((4 * p1) + 2).toNatClampNeg) r16.2.1) 0 hr44) (cw_Mo_114 C ⟨Nat.le_of_ble_eq_true rfl, Nat.le_of_ble_eq_true rfl⟩) [0, 1, 2, 3, 4, 5, 6, 7, 8, 9, 10] [] rfl rfl (by decide) (by decide) (by decide) rfl rfl (Nat.le_of_ble_eq_true rfl) d_Mo_makeStripe_180 (by decide) (fun _ => ?_)
      refine j_ws (ws' := wMo cI cZ a r44) rfl ?_
      refine j_sub [0, 1, 2, 3, 5] rfl ?_
      exact t_Mo_makeStripe_b183 C hr hA h
def Mo_run_l107 (v3 : Int32) (v4 : Int32) : Nat → Int32 → LyS → Option (Nat × LyS)
  | 0, _, _ => none
  | k + 1, v5, S =>
  (if 4 ≤ v5 then some (0, S)
  else gd ((4 * v4) + v5) 96 ((if (S.2 4 (((4 * v4) + v5).toNatClampNeg)) = 0 then Mo_run_l107 v3 v4 k (v5 + 1) (Lf S 8 ((S.1 8) + 0))
  else Mo_run_l107 v3 v4 k (v5 + 1) (Lf S 8 ((S.1 8) + 1)))))
def Mo_run_l81 (fu : Nat) (v3 : Int32) : Nat → Int32 → LyS → Option (Nat × LyS)
  | 0, _, _ => none
  | k + 1, v4, S =>
  (Mo_stripesOf (S.1 2) (S.1 3)).bind fun r2 =>
  (if r2 ≤ v4 then some (0, S)
  else (Mo_makeStripe fu S v4 v3).bind fun r3 =>
  (Mo_run_l107 v3 v4 fu 0 r3).bind fun r7 =>
  Mo_run_l81 fu v3 k (v4 + 1) r7.2)
def Mo_run_b28 (fu : Nat) (S : LyS) (v1 : Int32) (v2 : Int32) (v3 : Int32) (s0 : Int32) : Option (Int32 × LyS) :=
  (if ((Lf S 0 s0).1 0) ≤ 0 then zb 1 ((Mo_run_l81 fu v3 fu 0 (Lf (Lf (Lf (Lf (Lf (Lf (Lf (Lf S 0 s0) 4 1) 5 ((Lf (Lf S 0 s0) 4 1).1 3)) 6 v1) 7 v2) 18 v1) 19 v2) 8 0)).bind fun r10 =>
  some (r10.2.1 8, r10.2))
  else some (0, Lf S 0 s0))
def Mo_run_b23 (fu : Nat) (S : LyS) (v1 : Int32) (v2 : Int32) (v3 : Int32) : Option (Int32 × LyS) :=
  Mo_run_b28 fu S v1 v2 v3 1
def Mo_run (fu : Nat) (S : LyS) (p1 : Int32) (p2 : Int32) (p3 : Int32) : Option (Int32 × LyS) :=
  (if p1 < 1 then Mo_run_b23 fu S p1 p2 p3
  else (if 8 < p1 then Mo_run_b23 fu S p1 p2 p3
  else (if p2 < 1 then Mo_run_b23 fu S p1 p2 p3
  else (if p2 ≤ 8 then Mo_run_b28 fu S p1 p2 p3 0
  else Mo_run_b23 fu S p1 p2 p3))))
set_option maxRecDepth 100000 in
set_option maxHeartbeats 4000000 in
theorem t_Mo_run_l107 {p : Program} {l : Launch} {e : Env} {s : State} {m : MethodId} {args : Array Value} {below : List Frame} {meth : Method} {c : Code} {D : va_G} {cI cR cZ : ClassId} {A : Nat → Prop} {Q : State → Prop} (C : Cx p s m args meth c D (tyG cI cR cZ) b_Mo_run 6 "MaskLayersModel") (hA : ∀ q : Nat, s.heap.size ≤ q → A q) {a : (Nat → Nat)} {v3 : Int32} {v4 : Int32} {out : Nat × LyS} : ∀ (k : Nat) (v5 : Int32) (S : LyS), Mo_run_l107 v3 v4 k v5 S = some out → (out.1 = 0 → J p l e rm_Mo_run s m args below meth c D A (va_D A) 6 Q 0 0 (wMo cI cZ a out.2) [(0, .ref (a 0)), (3, .int v3), (4, .int v4)] [] 148) → J p l e rm_Mo_run s m args below meth c D A (va_D A) 6 Q 0 0 (wMo cI cZ a S) [(0, .ref (a 0)), (3, .int v3), (4, .int v4), (5, .int v5)] [] 107 := by
  intro k
  induction k with
  | zero => intro v5 S h; cases (show none = some out from h)
  | succ k ih =>
    intro v5 S h x0
    rw [Mo_run_l107] at h
    refine j_iload C 3 d_Mo_run_107 rfl ?_
    refine j_iconst C (v := 4) d_Mo_run_109 (by decide) ?_
    refine j_icmp_ge C 148 d_Mo_run_110 (by decide) (fun c6 => ?_) (fun c6 => ?_)
    · replace h := (if_pos c6).symm.trans h
      obtain rfl := Option.some.inj h
      refine j_sub [0, 1, 2] rfl ?_
      exact x0 rfl
    · replace h := (if_neg c6).symm.trans h
      refine j_aload_n C 0 d_Mo_run_113 rfl ?_
      refine j_dup C d_Mo_run_114 rfl ?_
      refine gf_Mo_134 C 0 (v := .int (S.1 8)) mo_h rfl d_Mo_run_115 ?_
      refine j_aload_n C 0 d_Mo_run_118 rfl ?_
      refine gf_Mo_27 C 0 (v := .ref (a 5)) mo_h rfl d_Mo_run_119 ?_
      refine j_iconst C (v := 4) d_Mo_run_122 (by decide) ?_
      refine j_iload C 2 d_Mo_run_123 rfl ?_
      refine j_imul C d_Mo_run_125 ?_
      refine j_iload C 3 d_Mo_run_126 rfl ?_
      refine j_iadd C d_Mo_run_128 ?_
      obtain ⟨b4, h⟩ := gd_ok h
      refine j_zald C (5) (t0 := 1) mo_g4 rfl b4 d_Mo_run_129 ?_
      refine j_if_eq C 137 d_Mo_run_130 (by decide) (fun c5 => ?_) (fun c5 => ?_)
      · replace h := (if_pos c5).symm.trans h
        refine j_iconst C (v := 0) d_Mo_run_137 (by decide) ?_
        refine j_iadd C d_Mo_run_138 ?_
        refine pf_Mo_134 C 0 (wMo cI cZ a (Lf S 8 ((S.1 8) + 0))) mo_h rfl mo_f8 d_Mo_run_139 ?_
        refine j_iinc C [(5, .int (v5 + 1)), (0, .ref (a 0)), (3, .int v3), (4, .int v4)] 3 (v5 + 1) d_Mo_run_142 rfl rfl (by decide) rfl ?_
        refine j_goto C 107 d_Mo_run_145 (by decide) ?_
        refine j_sub [1, 2, 3, 0] rfl ?_
        exact ih (v5 + 1) (Lf S 8 ((S.1 8) + 0)) h x0
      · replace h := (if_neg c5).symm.trans h
        refine j_iconst C (v := 1) d_Mo_run_133 (by decide) ?_
        refine j_goto C 138 d_Mo_run_134 (by decide) ?_
        refine j_iadd C d_Mo_run_138 ?_
        refine pf_Mo_134 C 0 (wMo cI cZ a (Lf S 8 ((S.1 8) + 1))) mo_h rfl mo_f8 d_Mo_run_139 ?_
        refine j_iinc C [(5, .int (v5 + 1)), (0, .ref (a 0)), (3, .int v3), (4, .int v4)] 3 (v5 + 1) d_Mo_run_142 rfl rfl (by decide) rfl ?_
        refine j_goto C 107 d_Mo_run_145 (by decide) ?_
        refine j_sub [1, 2, 3, 0] rfl ?_
        exact ih (v5 + 1) (Lf S 8 ((S.1 8) + 1)) h x0
set_option maxRecDepth 100000 in
set_option maxHeartbeats 4000000 in
theorem t_Mo_run_l81 {p : Program} {l : Launch} {e : Env} {s : State} {m : MethodId} {args : Array Value} {below : List Frame} {meth : Method} {c : Code} {D : va_G} {cI cR cZ : ClassId} {A : Nat → Prop} {Q : State → Prop} (C : Cx p s m args meth c D (tyG cI cR cZ) b_Mo_run 6 "MaskLayersModel") (hA : ∀ q : Nat, s.heap.size ≤ q → A q) {a : (Nat → Nat)} {fu : Nat} {v3 : Int32} {out : Nat × LyS} : ∀ (k : Nat) (v4 : Int32) (S : LyS), Mo_run_l81 fu v3 k v4 S = some out → (out.1 = 0 → J p l e rm_Mo_run s m args below meth c D A (va_D A) 6 Q 0 0 (wMo cI cZ a out.2) [(0, .ref (a 0))] [] 154) → J p l e rm_Mo_run s m args below meth c D A (va_D A) 6 Q 0 0 (wMo cI cZ a S) [(0, .ref (a 0)), (3, .int v3), (4, .int v4)] [] 81 := by
  intro k
  induction k with
  | zero => intro v4 S h; cases (show none = some out from h)
  | succ k ih =>
    intro v4 S h x0
    rw [Mo_run_l81] at h
    refine j_iload C 2 d_Mo_run_81 rfl ?_
    refine j_aload_n C 0 d_Mo_run_83 rfl ?_
    refine gf_Mo_48 C 0 (v := .int (S.1 2)) mo_h rfl d_Mo_run_84 ?_
    refine j_aload_n C 0 d_Mo_run_87 rfl ?_
    refine gf_Mo_7 C 0 (v := .int (S.1 3)) mo_h rfl d_Mo_run_88 ?_
    obtain ⟨r2, hr2, h⟩ := bd_ok h
    refine j_PS C [.int (S.1 2), .int (S.1 3)] (c_Mo_stripesOf l D cI cR cZ (S.1 2) (S.1 3) hr2) (cw_Mo_63 C ⟨Nat.le_of_ble_eq_true rfl, Nat.le_of_ble_eq_true rfl⟩) [] rfl rfl rfl (Nat.le_of_ble_eq_true rfl) d_Mo_run_91 (by decide) ?_
    refine j_icmp_ge C 154 d_Mo_run_94 (by decide) (fun c9 => ?_) (fun c9 => ?_)
    · replace h := (if_pos c9).symm.trans h
      obtain rfl := Option.some.inj h
      refine j_sub [0] rfl ?_
      exact x0 rfl
    · replace h := (if_neg c9).symm.trans h
      refine j_aload_n C 0 d_Mo_run_97 rfl ?_
      refine j_iload C 2 d_Mo_run_98 rfl ?_
      refine j_iload_n C 1 d_Mo_run_100 rfl ?_
      obtain ⟨r3, hr3, h⟩ := bd_ok h
      refine j_VV C [.int v4, .int v3] hA 0 rfl rfl (c_Mo_makeStripe l D cI cR cZ fu a S v4 v3 hr3) (cw_Mo_137 C ⟨Nat.le_of_ble_eq_true rfl, Nat.le_of_ble_eq_true rfl⟩) [0, 1, 2, 3, 4, 5, 6, 7, 8, 9, 10] [] rfl rfl (by decide) (by decide) (by decide) rfl rfl (Nat.le_of_ble_eq_true rfl) d_Mo_run_101 (by decide) (fun _ => ?_)
      refine j_ws (ws' := wMo cI cZ a r3) rfl ?_
      refine j_iconst C (v := 0) d_Mo_run_104 (by decide) ?_
      refine j_istore C [(5, .int 0), (0, .ref (a 0)), (3, .int v3), (4, .int v4)] d_Mo_run_105 (by decide) rfl ?_
      obtain ⟨r7, hr7, h⟩ := bd_ok h
      refine j_sub [1, 2, 3, 0] rfl ?_
      refine t_Mo_run_l107 C hA fu 0 r3 hr7 (fun e8 => ?_)
      · refine j_iinc C [(4, .int (v4 + 1)), (0, .ref (a 0)), (3, .int v3)] 2 (v4 + 1) d_Mo_run_148 rfl rfl (by decide) rfl ?_
        refine j_goto C 81 d_Mo_run_151 (by decide) ?_
        refine j_sub [1, 2, 0] rfl ?_
        exact ih (v4 + 1) r7.2 h x0
set_option maxRecDepth 100000 in
set_option maxHeartbeats 4000000 in
theorem t_Mo_run_b28 {p : Program} {l : Launch} {e : Env} {s : State} {m : MethodId} {args : Array Value} {below : List Frame} {meth : Method} {c : Code} {D : va_G} {cI cR cZ : ClassId} {A : Nat → Prop} (C : Cx p s m args meth c D (tyG cI cR cZ) b_Mo_run 6 "MaskLayersModel") (hr : meth.sig.returnType = some .int) (hA : ∀ q : Nat, s.heap.size ≤ q → A q) {a : (Nat → Nat)} {S : LyS} {fu : Nat} {v1 : Int32} {v2 : Int32} {v3 : Int32} {s0 : Int32} {res : (Int32 × LyS)} (h : Mo_run_b28 fu S v1 v2 v3 s0 = some res) : J p l e rm_Mo_run s m args below meth c D A (va_D A) 6 (MQ below (QcI D res.1 (fun _ : Nat => wMo cI cZ a res.2) A) args s 0 0 A) 0 0 (wMo cI cZ a S) [(0, .ref (a 0)), (1, .int v1), (2, .int v2), (3, .int v3)] [.int s0, .ref (a 0)] 28 := by
  unfold Mo_run_b28 at h
  refine pf_Mo_51 C 0 (wMo cI cZ a (Lf S 0 s0)) mo_h rfl mo_f0 d_Mo_run_28 ?_
  refine j_aload_n C 0 d_Mo_run_31 rfl ?_
  refine gf_Mo_51 C 0 (v := .int ((Lf S 0 s0).1 0)) mo_h rfl d_Mo_run_32 ?_
  refine j_if_le C 40 d_Mo_run_35 (by decide) (fun c12 => ?_) (fun c12 => ?_)
  · replace h := (if_pos c12).symm.trans h
    refine j_aload_n C 0 d_Mo_run_40 rfl ?_
    refine j_iconst C (v := 1) d_Mo_run_41 (by decide) ?_
    obtain ⟨b1, h⟩ := zb_ok h
    refine pf_Mo_124 C 0 (wMo cI cZ a (Lf (Lf S 0 s0) 4 1)) mo_h rfl mo_f4 b1 d_Mo_run_42 ?_
    refine j_aload_n C 0 d_Mo_run_45 rfl ?_
    refine j_aload_n C 0 d_Mo_run_46 rfl ?_
    refine gf_Mo_7 C 0 (v := .int ((Lf (Lf S 0 s0) 4 1).1 3)) mo_h rfl d_Mo_run_47 ?_
    refine pf_Mo_107 C 0 (wMo cI cZ a (Lf (Lf (Lf S 0 s0) 4 1) 5 ((Lf (Lf S 0 s0) 4 1).1 3))) mo_h rfl mo_f5 d_Mo_run_50 ?_
    refine j_aload_n C 0 d_Mo_run_53 rfl ?_
    refine j_iload_n C 1 d_Mo_run_54 rfl ?_
    refine pf_Mo_128 C 0 (wMo cI cZ a (Lf (Lf (Lf (Lf S 0 s0) 4 1) 5 ((Lf (Lf S 0 s0) 4 1).1 3)) 6 v1)) mo_h rfl mo_f6 d_Mo_run_55 ?_
    refine j_aload_n C 0 d_Mo_run_58 rfl ?_
    refine j_iload_n C 2 d_Mo_run_59 rfl ?_
    refine pf_Mo_131 C 0 (wMo cI cZ a (Lf (Lf (Lf (Lf (Lf S 0 s0) 4 1) 5 ((Lf (Lf S 0 s0) 4 1).1 3)) 6 v1) 7 v2)) mo_h rfl mo_f7 d_Mo_run_60 ?_
    refine j_aload_n C 0 d_Mo_run_63 rfl ?_
    refine j_iload_n C 1 d_Mo_run_64 rfl ?_
    refine pf_Mo_78 C 0 (wMo cI cZ a (Lf (Lf (Lf (Lf (Lf (Lf S 0 s0) 4 1) 5 ((Lf (Lf S 0 s0) 4 1).1 3)) 6 v1) 7 v2) 18 v1)) mo_h rfl mo_f18 d_Mo_run_65 ?_
    refine j_aload_n C 0 d_Mo_run_68 rfl ?_
    refine j_iload_n C 2 d_Mo_run_69 rfl ?_
    refine pf_Mo_75 C 0 (wMo cI cZ a (Lf (Lf (Lf (Lf (Lf (Lf (Lf S 0 s0) 4 1) 5 ((Lf (Lf S 0 s0) 4 1).1 3)) 6 v1) 7 v2) 18 v1) 19 v2)) mo_h rfl mo_f19 d_Mo_run_70 ?_
    refine j_aload_n C 0 d_Mo_run_73 rfl ?_
    refine j_iconst C (v := 0) d_Mo_run_74 (by decide) ?_
    refine pf_Mo_134 C 0 (wMo cI cZ a (Lf (Lf (Lf (Lf (Lf (Lf (Lf (Lf S 0 s0) 4 1) 5 ((Lf (Lf S 0 s0) 4 1).1 3)) 6 v1) 7 v2) 18 v1) 19 v2) 8 0)) mo_h rfl mo_f8 d_Mo_run_75 ?_
    refine j_iconst C (v := 0) d_Mo_run_78 (by decide) ?_
    refine j_istore C [(4, .int 0), (0, .ref (a 0)), (1, .int v1), (2, .int v2), (3, .int v3)] d_Mo_run_79 (by decide) rfl ?_
    obtain ⟨r10, hr10, h⟩ := bd_ok h
    refine j_sub [1, 4, 0] rfl ?_
    refine t_Mo_run_l81 C hA fu 0 (Lf (Lf (Lf (Lf (Lf (Lf (Lf (Lf S 0 s0) 4 1) 5 ((Lf (Lf S 0 s0) 4 1).1 3)) 6 v1) 7 v2) 18 v1) 19 v2) 8 0) hr10 (fun e11 => ?_)
    · refine j_aload_n C 0 d_Mo_run_154 rfl ?_
      refine gf_Mo_134 C 0 (v := .int (r10.2.1 8)) mo_h rfl d_Mo_run_155 ?_
      obtain rfl := Option.some.inj h
      exact j_iret C hr d_Mo_run_158 0 rfl
  · replace h := (if_neg c12).symm.trans h
    refine j_iconst C (v := 0) d_Mo_run_38 (by decide) ?_
    obtain rfl := Option.some.inj h
    exact j_iret C hr d_Mo_run_39 0 rfl
set_option maxRecDepth 100000 in
set_option maxHeartbeats 4000000 in
theorem t_Mo_run_b23 {p : Program} {l : Launch} {e : Env} {s : State} {m : MethodId} {args : Array Value} {below : List Frame} {meth : Method} {c : Code} {D : va_G} {cI cR cZ : ClassId} {A : Nat → Prop} (C : Cx p s m args meth c D (tyG cI cR cZ) b_Mo_run 6 "MaskLayersModel") (hr : meth.sig.returnType = some .int) (hA : ∀ q : Nat, s.heap.size ≤ q → A q) {a : (Nat → Nat)} {S : LyS} {fu : Nat} {v1 : Int32} {v2 : Int32} {v3 : Int32} {res : (Int32 × LyS)} (h : Mo_run_b23 fu S v1 v2 v3 = some res) : J p l e rm_Mo_run s m args below meth c D A (va_D A) 6 (MQ below (QcI D res.1 (fun _ : Nat => wMo cI cZ a res.2) A) args s 0 0 A) 0 0 (wMo cI cZ a S) [(0, .ref (a 0)), (1, .int v1), (2, .int v2), (3, .int v3)] [.ref (a 0)] 23 := by
  unfold Mo_run_b23 at h
  refine j_iconst C (v := 1) d_Mo_run_23 (by decide) ?_
  refine j_goto C 28 d_Mo_run_24 (by decide) ?_
  refine j_sub [0, 1, 2, 3] rfl ?_
  exact t_Mo_run_b28 C hr hA h
set_option maxRecDepth 100000 in
set_option maxHeartbeats 4000000 in
theorem c_Mo_run (l : Launch) (D : va_G) (cI cR cZ : ClassId) (fu : Nat) (a : (Nat → Nat)) (S : LyS) (p1 : Int32) (p2 : Int32) (p3 : Int32) {res : (Int32 × LyS)} (h : Mo_run fu S p1 p2 p3 = some res) (sz : Nat) : Met l y_Mo_run (Cond.code y_Mo_run b_Mo_run 6 (some .int) :: BIG) rm_Mo_run (PcI [.ref (a 0), .int p1, .int p2, .int p3] D (tyG cI cR cZ) (wMo cI cZ a S) sz) (QcI D res.1 (fun _ : Nat => wMo cI cZ a res.2) (va_A (wMo cI cZ a S) sz)) 0 0 (va_A (wMo cI cZ a S) sz) := by
  refine met_I (by decide) (Nat.le_of_ble_eq_true rfl) (fun p e s m args below meth c A hA C hr => ?_)
  have C : Cx p s m args meth c D (tyG cI cR cZ) b_Mo_run 6 "MaskLayersModel" := C
  have hr : meth.sig.returnType = some .int := hr
  show J p l e rm_Mo_run s m args below meth c D A (va_D A) 6 (MQ below (QcI D res.1 (fun _ : Nat => wMo cI cZ a res.2) A) args s 0 0 A) 0 0 (wMo cI cZ a S) [(0, .ref (a 0)), (1, .int p1), (2, .int p2), (3, .int p3)] [] 0
  unfold Mo_run at h
  refine j_aload_n C 0 d_Mo_run_0 rfl ?_
  refine j_iload_n C 1 d_Mo_run_1 rfl ?_
  refine j_iconst C (v := 1) d_Mo_run_2 (by decide) ?_
  refine j_icmp_lt C 23 d_Mo_run_3 (by decide) (fun c16 => ?_) (fun c16 => ?_)
  · replace h := (if_pos c16).symm.trans h
    refine j_sub [0, 1, 2, 3] rfl ?_
    exact t_Mo_run_b23 C hr hA h
  · replace h := (if_neg c16).symm.trans h
    refine j_iload_n C 1 d_Mo_run_6 rfl ?_
    refine j_bipush C (v := 8) d_Mo_run_7 (by decide) ?_
    refine j_icmp_gt C 23 d_Mo_run_9 (by decide) (fun c15 => ?_) (fun c15 => ?_)
    · replace h := (if_pos c15).symm.trans h
      refine j_sub [0, 1, 2, 3] rfl ?_
      exact t_Mo_run_b23 C hr hA h
    · replace h := (if_neg c15).symm.trans h
      refine j_iload_n C 2 d_Mo_run_12 rfl ?_
      refine j_iconst C (v := 1) d_Mo_run_13 (by decide) ?_
      refine j_icmp_lt C 23 d_Mo_run_14 (by decide) (fun c14 => ?_) (fun c14 => ?_)
      · replace h := (if_pos c14).symm.trans h
        refine j_sub [0, 1, 2, 3] rfl ?_
        exact t_Mo_run_b23 C hr hA h
      · replace h := (if_neg c14).symm.trans h
        refine j_iload_n C 2 d_Mo_run_17 rfl ?_
        refine j_bipush C (v := 8) d_Mo_run_18 (by decide) ?_
        refine j_icmp_le C 27 d_Mo_run_20 (by decide) (fun c13 => ?_) (fun c13 => ?_)
        · replace h := (if_pos c13).symm.trans h
          refine j_iconst C (v := 0) d_Mo_run_27 (by decide) ?_
          refine j_sub [0, 1, 2, 3] rfl ?_
          exact t_Mo_run_b28 C hr hA h
        · replace h := (if_neg c13).symm.trans h
          refine j_sub [0, 1, 2, 3] rfl ?_
          exact t_Mo_run_b23 C hr hA h
def Mo_layMade (S : LyS) (p1 : Int32) : Option (Int32 × LyS) :=
  dz ((Lf (Lf S 18 (S.1 6)) 19 ((Lf S 18 (S.1 6)).1 7)).1 5) ((Mo_lay (Lf (Lf S 18 (S.1 6)) 19 ((Lf S 18 (S.1 6)).1 7)) ((Lf (Lf S 18 (S.1 6)) 19 ((Lf S 18 (S.1 6)).1 7)).1 1) ((Lf (Lf S 18 (S.1 6)) 19 ((Lf S 18 (S.1 6)).1 7)).1 2) ((Lf (Lf S 18 (S.1 6)) 19 ((Lf S 18 (S.1 6)).1 7)).1 5) (p1 / ((Lf (Lf S 18 (S.1 6)) 19 ((Lf S 18 (S.1 6)).1 7)).1 5))).bind fun r2 =>
  dz (r2.1 5) (some (p1 / (r2.1 5), r2)))
set_option maxRecDepth 100000 in
set_option maxHeartbeats 4000000 in
theorem c_Mo_layMade (l : Launch) (D : va_G) (cI cR cZ : ClassId) (a : (Nat → Nat)) (S : LyS) (p1 : Int32) {res : (Int32 × LyS)} (h : Mo_layMade S p1 = some res) (sz : Nat) : Met l y_Mo_layMade (Cond.code y_Mo_layMade b_Mo_layMade 2 (some .int) :: BIG) rm_Mo_layMade (PcI [.ref (a 0), .int p1] D (tyG cI cR cZ) (wMo cI cZ a S) sz) (QcI D res.1 (fun _ : Nat => wMo cI cZ a res.2) (va_A (wMo cI cZ a S) sz)) 0 0 (va_A (wMo cI cZ a S) sz) := by
  refine met_I (by decide) (Nat.le_of_ble_eq_true rfl) (fun p e s m args below meth c A hA C hr => ?_)
  have C : Cx p s m args meth c D (tyG cI cR cZ) b_Mo_layMade 2 "MaskLayersModel" := C
  have hr : meth.sig.returnType = some .int := hr
  show J p l e rm_Mo_layMade s m args below meth c D A (va_D A) 2 (MQ below (QcI D res.1 (fun _ : Nat => wMo cI cZ a res.2) A) args s 0 0 A) 0 0 (wMo cI cZ a S) [(0, .ref (a 0)), (1, .int p1)] [] 0
  unfold Mo_layMade at h
  refine j_aload_n C 0 d_Mo_layMade_0 rfl ?_
  refine j_aload_n C 0 d_Mo_layMade_1 rfl ?_
  refine gf_Mo_128 C 0 (v := .int (S.1 6)) mo_h rfl d_Mo_layMade_2 ?_
  refine pf_Mo_78 C 0 (wMo cI cZ a (Lf S 18 (S.1 6))) mo_h rfl mo_f18 d_Mo_layMade_5 ?_
  refine j_aload_n C 0 d_Mo_layMade_8 rfl ?_
  refine j_aload_n C 0 d_Mo_layMade_9 rfl ?_
  refine gf_Mo_131 C 0 (v := .int ((Lf S 18 (S.1 6)).1 7)) mo_h rfl d_Mo_layMade_10 ?_
  refine pf_Mo_75 C 0 (wMo cI cZ a (Lf (Lf S 18 (S.1 6)) 19 ((Lf S 18 (S.1 6)).1 7))) mo_h rfl mo_f19 d_Mo_layMade_13 ?_
  refine j_aload_n C 0 d_Mo_layMade_16 rfl ?_
  refine j_aload_n C 0 d_Mo_layMade_17 rfl ?_
  refine gf_Mo_45 C 0 (v := .int ((Lf (Lf S 18 (S.1 6)) 19 ((Lf S 18 (S.1 6)).1 7)).1 1)) mo_h rfl d_Mo_layMade_18 ?_
  refine j_aload_n C 0 d_Mo_layMade_21 rfl ?_
  refine gf_Mo_48 C 0 (v := .int ((Lf (Lf S 18 (S.1 6)) 19 ((Lf S 18 (S.1 6)).1 7)).1 2)) mo_h rfl d_Mo_layMade_22 ?_
  refine j_aload_n C 0 d_Mo_layMade_25 rfl ?_
  refine gf_Mo_107 C 0 (v := .int ((Lf (Lf S 18 (S.1 6)) 19 ((Lf S 18 (S.1 6)).1 7)).1 5)) mo_h rfl d_Mo_layMade_26 ?_
  refine j_iload_n C 1 d_Mo_layMade_29 rfl ?_
  refine j_aload_n C 0 d_Mo_layMade_30 rfl ?_
  refine gf_Mo_107 C 0 (v := .int ((Lf (Lf S 18 (S.1 6)) 19 ((Lf S 18 (S.1 6)).1 7)).1 5)) mo_h rfl d_Mo_layMade_31 ?_
  obtain ⟨b1, h⟩ := dz_ok h
  refine j_idiv C d_Mo_layMade_34 b1 ?_
  obtain ⟨r2, hr2, h⟩ := bd_ok h
  refine j_VV C [.int ((Lf (Lf S 18 (S.1 6)) 19 ((Lf S 18 (S.1 6)).1 7)).1 1), .int ((Lf (Lf S 18 (S.1 6)) 19 ((Lf S 18 (S.1 6)).1 7)).1 2), .int ((Lf (Lf S 18 (S.1 6)) 19 ((Lf S 18 (S.1 6)).1 7)).1 5), .int (p1 / ((Lf (Lf S 18 (S.1 6)) 19 ((Lf S 18 (S.1 6)).1 7)).1 5))] hA 0 rfl rfl (c_Mo_lay l D cI cR cZ a (Lf (Lf S 18 (S.1 6)) 19 ((Lf S 18 (S.1 6)).1 7)) ((Lf (Lf S 18 (S.1 6)) 19 ((Lf S 18 (S.1 6)).1 7)).1 1) ((Lf (Lf S 18 (S.1 6)) 19 ((Lf S 18 (S.1 6)).1 7)).1 2) ((Lf (Lf S 18 (S.1 6)) 19 ((Lf S 18 (S.1 6)).1 7)).1 5) (p1 / ((Lf (Lf S 18 (S.1 6)) 19 ((Lf S 18 (S.1 6)).1 7)).1 5)) hr2) (cw_Mo_110 C ⟨Nat.le_of_ble_eq_true rfl, Nat.le_of_ble_eq_true rfl⟩) [0, 1, 2, 3, 4, 5, 6, 7, 8, 9, 10] [] rfl rfl (by decide) (by decide) (by decide) rfl rfl (Nat.le_of_ble_eq_true rfl) d_Mo_layMade_35 (by decide) (fun _ => ?_)
  refine j_ws (ws' := wMo cI cZ a r2) rfl ?_
  refine j_iload_n C 1 d_Mo_layMade_38 rfl ?_
  refine j_aload_n C 0 d_Mo_layMade_39 rfl ?_
  refine gf_Mo_107 C 0 (v := .int (r2.1 5)) mo_h rfl d_Mo_layMade_40 ?_
  obtain ⟨b3, h⟩ := dz_ok h
  refine j_idiv C d_Mo_layMade_43 b3 ?_
  obtain rfl := Option.some.inj h
  exact j_iret C hr d_Mo_layMade_44 0 rfl
def Mo_layer_b33 (S : LyS) (v1 : Int32) (v2 : Int32) (v3 : Int32) (s0 : Int32) : Option (Int32 × LyS) :=
  (if ((Lf S 0 s0).1 0) ≤ 0 then (Mo_layMade (Lf S 0 s0) v3).bind fun r2 =>
  gd ((4 * r2.1) + v1) 96 ((if (r2.2.2 4 (((4 * r2.1) + v1).toNatClampNeg)) = 0 then some ((-1), r2.2)
  else (Mo_placeAt r2.2 v1 v2 v3).bind fun r4 =>
  gd r4 2304 (some (r2.2.2 2 r4.toNatClampNeg, r2.2))))
  else some (0, Lf S 0 s0))
def Mo_layer_b28 (S : LyS) (v1 : Int32) (v2 : Int32) (v3 : Int32) : Option (Int32 × LyS) :=
  Mo_layer_b33 S v1 v2 v3 3
def Mo_layer (S : LyS) (p1 : Int32) (p2 : Int32) (p3 : Int32) : Option (Int32 × LyS) :=
  (Mo_refusal S p2 p3).bind fun r1 =>
  (if r1 ≤ 0 then (if p1 < 0 then Mo_layer_b28 S p1 p2 p3
  else (if p1 ≤ 3 then Mo_layer_b33 S p1 p2 p3 0
  else Mo_layer_b28 S p1 p2 p3))
  else (Mo_refusal S p2 p3).bind fun r10 =>
  Mo_layer_b33 S p1 p2 p3 r10)
set_option maxRecDepth 100000 in
set_option maxHeartbeats 4000000 in
theorem t_Mo_layer_b33 {p : Program} {l : Launch} {e : Env} {s : State} {m : MethodId} {args : Array Value} {below : List Frame} {meth : Method} {c : Code} {D : va_G} {cI cR cZ : ClassId} {A : Nat → Prop} (C : Cx p s m args meth c D (tyG cI cR cZ) b_Mo_layer 5 "MaskLayersModel") (hr : meth.sig.returnType = some .int) (hA : ∀ q : Nat, s.heap.size ≤ q → A q) {a : (Nat → Nat)} {S : LyS} {v1 : Int32} {v2 : Int32} {v3 : Int32} {s0 : Int32} {res : (Int32 × LyS)} (h : Mo_layer_b33 S v1 v2 v3 s0 = some res) : J p l e rm_Mo_layer s m args below meth c D A (va_D A) 5 (MQ below (QcI D res.1 (fun _ : Nat => wMo cI cZ a res.2) A) args s 0 0 A) 0 0 (wMo cI cZ a S) [(0, .ref (a 0)), (1, .int v1), (2, .int v2), (3, .int v3)] [.int s0, .ref (a 0)] 33 := by
  unfold Mo_layer_b33 at h
  refine pf_Mo_51 C 0 (wMo cI cZ a (Lf S 0 s0)) mo_h rfl mo_f0 d_Mo_layer_33 ?_
  refine j_aload_n C 0 d_Mo_layer_36 rfl ?_
  refine gf_Mo_51 C 0 (v := .int ((Lf S 0 s0).1 0)) mo_h rfl d_Mo_layer_37 ?_
  refine j_if_le C 45 d_Mo_layer_40 (by decide) (fun c7 => ?_) (fun c7 => ?_)
  · replace h := (if_pos c7).symm.trans h
    refine j_aload_n C 0 d_Mo_layer_45 rfl ?_
    refine j_iload_n C 3 d_Mo_layer_46 rfl ?_
    obtain ⟨r2, hr2, h⟩ := bd_ok h
    refine j_IV C [.int v3] hA 0 rfl rfl (c_Mo_layMade l D cI cR cZ a (Lf S 0 s0) v3 hr2) (cw_Mo_144 C ⟨Nat.le_of_ble_eq_true rfl, Nat.le_of_ble_eq_true rfl⟩) [0, 1, 2, 3, 4, 5, 6, 7, 8, 9, 10] [] rfl rfl (by decide) (by decide) (by decide) rfl rfl (Nat.le_of_ble_eq_true rfl) d_Mo_layer_47 (by decide) (fun _ => ?_)
    refine j_ws (ws' := wMo cI cZ a r2.2) rfl ?_
    refine j_istore C [(4, .int r2.1), (0, .ref (a 0)), (1, .int v1), (2, .int v2), (3, .int v3)] d_Mo_layer_50 (by decide) rfl ?_
    refine j_aload_n C 1 d_Mo_layer_52 rfl ?_
    refine gf_Mo_27 C 0 (v := .ref (a 5)) mo_h rfl d_Mo_layer_53 ?_
    refine j_iconst C (v := 4) d_Mo_layer_56 (by decide) ?_
    refine j_iload C 0 d_Mo_layer_57 rfl ?_
    refine j_imul C d_Mo_layer_59 ?_
    refine j_iload_n C 2 d_Mo_layer_60 rfl ?_
    refine j_iadd C d_Mo_layer_61 ?_
    obtain ⟨b3, h⟩ := gd_ok h
    refine j_zald C (5) (t0 := 1) mo_g4 rfl b3 d_Mo_layer_62 ?_
    refine j_if_eq C 81 d_Mo_layer_63 (by decide) (fun c6 => ?_) (fun c6 => ?_)
    · replace h := (if_pos c6).symm.trans h
      refine j_iconst C (v := (-1)) d_Mo_layer_81 (by decide) ?_
      obtain rfl := Option.some.inj h
      exact j_iret C hr d_Mo_layer_82 0 rfl
    · replace h := (if_neg c6).symm.trans h
      refine j_aload_n C 1 d_Mo_layer_66 rfl ?_
      refine gf_Mo_21 C 0 (v := .ref (a 3)) mo_h rfl d_Mo_layer_67 ?_
      refine j_aload_n C 1 d_Mo_layer_70 rfl ?_
      refine j_iload_n C 2 d_Mo_layer_71 rfl ?_
      refine j_iload_n C 3 d_Mo_layer_72 rfl ?_
      refine j_iload_n C 4 d_Mo_layer_73 rfl ?_
      obtain ⟨r4, hr4, h⟩ := bd_ok h
      refine j_PV C [.int v1, .int v2, .int v3] 0 rfl rfl (c_Mo_placeAt l D cI cR cZ a r2.2 v1 v2 v3 hr4) (cw_Mo_104 C ⟨Nat.le_of_ble_eq_true rfl, Nat.le_of_ble_eq_true rfl⟩) [0, 1, 2, 3, 4, 5, 6, 7, 8, 9, 10] rfl rfl rfl (Nat.le_of_ble_eq_true rfl) d_Mo_layer_74 (by decide) ?_
      obtain ⟨b5, h⟩ := gd_ok h
      refine j_iald C (3) (t0 := 0) mo_g2 rfl b5 d_Mo_layer_77 ?_
      refine j_goto C 82 d_Mo_layer_78 (by decide) ?_
      obtain rfl := Option.some.inj h
      exact j_iret C hr d_Mo_layer_82 0 rfl
  · replace h := (if_neg c7).symm.trans h
    refine j_iconst C (v := 0) d_Mo_layer_43 (by decide) ?_
    obtain rfl := Option.some.inj h
    exact j_iret C hr d_Mo_layer_44 0 rfl
set_option maxRecDepth 100000 in
set_option maxHeartbeats 4000000 in
theorem t_Mo_layer_b28 {p : Program} {l : Launch} {e : Env} {s : State} {m : MethodId} {args : Array Value} {below : List Frame} {meth : Method} {c : Code} {D : va_G} {cI cR cZ : ClassId} {A : Nat → Prop} (C : Cx p s m args meth c D (tyG cI cR cZ) b_Mo_layer 5 "MaskLayersModel") (hr : meth.sig.returnType = some .int) (hA : ∀ q : Nat, s.heap.size ≤ q → A q) {a : (Nat → Nat)} {S : LyS} {v1 : Int32} {v2 : Int32} {v3 : Int32} {res : (Int32 × LyS)} (h : Mo_layer_b28 S v1 v2 v3 = some res) : J p l e rm_Mo_layer s m args below meth c D A (va_D A) 5 (MQ below (QcI D res.1 (fun _ : Nat => wMo cI cZ a res.2) A) args s 0 0 A) 0 0 (wMo cI cZ a S) [(0, .ref (a 0)), (1, .int v1), (2, .int v2), (3, .int v3)] [.ref (a 0)] 28 := by
  unfold Mo_layer_b28 at h
  refine j_iconst C (v := 3) d_Mo_layer_28 (by decide) ?_
  refine j_goto C 33 d_Mo_layer_29 (by decide) ?_
  refine j_sub [0, 1, 2, 3] rfl ?_
  exact t_Mo_layer_b33 C hr hA h
set_option maxRecDepth 100000 in
set_option maxHeartbeats 4000000 in
theorem c_Mo_layer (l : Launch) (D : va_G) (cI cR cZ : ClassId) (a : (Nat → Nat)) (S : LyS) (p1 : Int32) (p2 : Int32) (p3 : Int32) {res : (Int32 × LyS)} (h : Mo_layer S p1 p2 p3 = some res) (sz : Nat) : Met l y_Mo_layer (Cond.code y_Mo_layer b_Mo_layer 5 (some .int) :: BIG) rm_Mo_layer (PcI [.ref (a 0), .int p1, .int p2, .int p3] D (tyG cI cR cZ) (wMo cI cZ a S) sz) (QcI D res.1 (fun _ : Nat => wMo cI cZ a res.2) (va_A (wMo cI cZ a S) sz)) 0 0 (va_A (wMo cI cZ a S) sz) := by
  refine met_I (by decide) (Nat.le_of_ble_eq_true rfl) (fun p e s m args below meth c A hA C hr => ?_)
  have C : Cx p s m args meth c D (tyG cI cR cZ) b_Mo_layer 5 "MaskLayersModel" := C
  have hr : meth.sig.returnType = some .int := hr
  show J p l e rm_Mo_layer s m args below meth c D A (va_D A) 5 (MQ below (QcI D res.1 (fun _ : Nat => wMo cI cZ a res.2) A) args s 0 0 A) 0 0 (wMo cI cZ a S) [(0, .ref (a 0)), (1, .int p1), (2, .int p2), (3, .int p3)] [] 0
  unfold Mo_layer at h
  refine j_aload_n C 0 d_Mo_layer_0 rfl ?_
  refine j_aload_n C 0 d_Mo_layer_1 rfl ?_
  refine j_iload_n C 2 d_Mo_layer_2 rfl ?_
  refine j_iload_n C 3 d_Mo_layer_3 rfl ?_
  obtain ⟨r1, hr1, h⟩ := bd_ok h
  refine j_PV C [.int p2, .int p3] 0 rfl rfl (c_Mo_refusal l D cI cR cZ a S p2 p3 hr1) (cw_Mo_141 C ⟨Nat.le_of_ble_eq_true rfl, Nat.le_of_ble_eq_true rfl⟩) [0, 1, 2, 3, 4, 5, 6, 7, 8, 9, 10] rfl rfl rfl (Nat.le_of_ble_eq_true rfl) d_Mo_layer_4 (by decide) ?_
  refine j_if_le C 19 d_Mo_layer_7 (by decide) (fun c11 => ?_) (fun c11 => ?_)
  · replace h := (if_pos c11).symm.trans h
    refine j_iload_n C 1 d_Mo_layer_19 rfl ?_
    refine j_if_lt C 28 d_Mo_layer_20 (by decide) (fun c9 => ?_) (fun c9 => ?_)
    · replace h := (if_pos c9).symm.trans h
      refine j_sub [0, 1, 2, 3] rfl ?_
      exact t_Mo_layer_b28 C hr hA h
    · replace h := (if_neg c9).symm.trans h
      refine j_iload_n C 1 d_Mo_layer_23 rfl ?_
      refine j_iconst C (v := 3) d_Mo_layer_24 (by decide) ?_
      refine j_icmp_le C 32 d_Mo_layer_25 (by decide) (fun c8 => ?_) (fun c8 => ?_)
      · replace h := (if_pos c8).symm.trans h
        refine j_iconst C (v := 0) d_Mo_layer_32 (by decide) ?_
        refine j_sub [0, 1, 2, 3] rfl ?_
        exact t_Mo_layer_b33 C hr hA h
      · replace h := (if_neg c8).symm.trans h
        refine j_sub [0, 1, 2, 3] rfl ?_
        exact t_Mo_layer_b28 C hr hA h
  · replace h := (if_neg c11).symm.trans h
    refine j_aload_n C 0 d_Mo_layer_10 rfl ?_
    refine j_iload_n C 2 d_Mo_layer_11 rfl ?_
    refine j_iload_n C 3 d_Mo_layer_12 rfl ?_
    obtain ⟨r10, hr10, h⟩ := bd_ok h
    refine j_PV C [.int p2, .int p3] 0 rfl rfl (c_Mo_refusal l D cI cR cZ a S p2 p3 hr10) (cw_Mo_141 C ⟨Nat.le_of_ble_eq_true rfl, Nat.le_of_ble_eq_true rfl⟩) [0, 1, 2, 3, 4, 5, 6, 7, 8, 9, 10] rfl rfl rfl (Nat.le_of_ble_eq_true rfl) d_Mo_layer_13 (by decide) ?_
    refine j_goto C 33 d_Mo_layer_16 (by decide) ?_
    refine j_sub [0, 1, 2, 3] rfl ?_
    exact t_Mo_layer_b33 C hr hA h
def Mo_filled_b33 (S : LyS) (v1 : Int32) (v2 : Int32) (v3 : Int32) (s0 : Int32) : Option (Int32 × LyS) :=
  (if ((Lf S 0 s0).1 0) ≤ 0 then (Mo_layMade (Lf S 0 s0) v3).bind fun r2 =>
  gd ((4 * r2.1) + v1) 96 ((if (r2.2.2 4 (((4 * r2.1) + v1).toNatClampNeg)) = 0 then zb 0 (some (0, r2.2))
  else (Mo_placeAt r2.2 v1 v2 v3).bind fun r5 =>
  gd r5 2304 ((if (r2.2.2 3 r5.toNatClampNeg) = 0 then zb 0 (some (0, r2.2))
  else zb 1 (some (1, r2.2))))))
  else zb 0 (some (0, Lf S 0 s0)))
def Mo_filled_b32 (S : LyS) (v1 : Int32) (v2 : Int32) (v3 : Int32) : Option (Int32 × LyS) :=
  Mo_filled_b33 S v1 v2 v3 0
def Mo_filled (S : LyS) (p1 : Int32) (p2 : Int32) (p3 : Int32) : Option (Int32 × LyS) :=
  (Mo_refusal S p2 p3).bind fun r1 =>
  (if r1 ≤ 0 then (if p1 = 0 then Mo_filled_b32 S p1 p2 p3
  else (if p1 = 2 then Mo_filled_b32 S p1 p2 p3
  else Mo_filled_b33 S p1 p2 p3 3))
  else (Mo_refusal S p2 p3).bind fun r15 =>
  Mo_filled_b33 S p1 p2 p3 r15)
set_option maxRecDepth 100000 in
set_option maxHeartbeats 4000000 in
theorem t_Mo_filled_b33 {p : Program} {l : Launch} {e : Env} {s : State} {m : MethodId} {args : Array Value} {below : List Frame} {meth : Method} {c : Code} {D : va_G} {cI cR cZ : ClassId} {A : Nat → Prop} (C : Cx p s m args meth c D (tyG cI cR cZ) b_Mo_filled 5 "MaskLayersModel") (hr : meth.sig.returnType = some .boolean) (hA : ∀ q : Nat, s.heap.size ≤ q → A q) {a : (Nat → Nat)} {S : LyS} {v1 : Int32} {v2 : Int32} {v3 : Int32} {s0 : Int32} {res : (Int32 × LyS)} (h : Mo_filled_b33 S v1 v2 v3 s0 = some res) : J p l e rm_Mo_filled s m args below meth c D A (va_D A) 5 (MQ below (QcI D res.1 (fun _ : Nat => wMo cI cZ a res.2) A) args s 0 0 A) 0 0 (wMo cI cZ a S) [(0, .ref (a 0)), (1, .int v1), (2, .int v2), (3, .int v3)] [.int s0, .ref (a 0)] 33 := by
  unfold Mo_filled_b33 at h
  refine pf_Mo_51 C 0 (wMo cI cZ a (Lf S 0 s0)) mo_h rfl mo_f0 d_Mo_filled_33 ?_
  refine j_aload_n C 0 d_Mo_filled_36 rfl ?_
  refine gf_Mo_51 C 0 (v := .int ((Lf S 0 s0).1 0)) mo_h rfl d_Mo_filled_37 ?_
  refine j_if_le C 45 d_Mo_filled_40 (by decide) (fun c12 => ?_) (fun c12 => ?_)
  · replace h := (if_pos c12).symm.trans h
    refine j_aload_n C 0 d_Mo_filled_45 rfl ?_
    refine j_iload_n C 3 d_Mo_filled_46 rfl ?_
    obtain ⟨r2, hr2, h⟩ := bd_ok h
    refine j_IV C [.int v3] hA 0 rfl rfl (c_Mo_layMade l D cI cR cZ a (Lf S 0 s0) v3 hr2) (cw_Mo_144 C ⟨Nat.le_of_ble_eq_true rfl, Nat.le_of_ble_eq_true rfl⟩) [0, 1, 2, 3, 4, 5, 6, 7, 8, 9, 10] [] rfl rfl (by decide) (by decide) (by decide) rfl rfl (Nat.le_of_ble_eq_true rfl) d_Mo_filled_47 (by decide) (fun _ => ?_)
    refine j_ws (ws' := wMo cI cZ a r2.2) rfl ?_
    refine j_istore C [(4, .int r2.1), (0, .ref (a 0)), (1, .int v1), (2, .int v2), (3, .int v3)] d_Mo_filled_50 (by decide) rfl ?_
    refine j_aload_n C 1 d_Mo_filled_52 rfl ?_
    refine gf_Mo_27 C 0 (v := .ref (a 5)) mo_h rfl d_Mo_filled_53 ?_
    refine j_iconst C (v := 4) d_Mo_filled_56 (by decide) ?_
    refine j_iload C 0 d_Mo_filled_57 rfl ?_
    refine j_imul C d_Mo_filled_59 ?_
    refine j_iload_n C 2 d_Mo_filled_60 rfl ?_
    refine j_iadd C d_Mo_filled_61 ?_
    obtain ⟨b3, h⟩ := gd_ok h
    refine j_zald C (5) (t0 := 1) mo_g4 rfl b3 d_Mo_filled_62 ?_
    refine j_if_eq C 85 d_Mo_filled_63 (by decide) (fun c10 => ?_) (fun c10 => ?_)
    · replace h := (if_pos c10).symm.trans h
      refine j_iconst C (v := 0) d_Mo_filled_85 (by decide) ?_
      obtain ⟨b4, h⟩ := zb_ok h
      obtain rfl := Option.some.inj h
      exact j_iretZ C hr d_Mo_filled_86 b4 0 rfl
    · replace h := (if_neg c10).symm.trans h
      refine j_aload_n C 1 d_Mo_filled_66 rfl ?_
      refine gf_Mo_24 C 0 (v := .ref (a 4)) mo_h rfl d_Mo_filled_67 ?_
      refine j_aload_n C 1 d_Mo_filled_70 rfl ?_
      refine j_iload_n C 2 d_Mo_filled_71 rfl ?_
      refine j_iload_n C 3 d_Mo_filled_72 rfl ?_
      refine j_iload_n C 4 d_Mo_filled_73 rfl ?_
      obtain ⟨r5, hr5, h⟩ := bd_ok h
      refine j_PV C [.int v1, .int v2, .int v3] 0 rfl rfl (c_Mo_placeAt l D cI cR cZ a r2.2 v1 v2 v3 hr5) (cw_Mo_104 C ⟨Nat.le_of_ble_eq_true rfl, Nat.le_of_ble_eq_true rfl⟩) [0, 1, 2, 3, 4, 5, 6, 7, 8, 9, 10] rfl rfl rfl (Nat.le_of_ble_eq_true rfl) d_Mo_filled_74 (by decide) ?_
      obtain ⟨b6, h⟩ := gd_ok h
      refine j_zald C (4) (t0 := 1) mo_g3 rfl b6 d_Mo_filled_77 ?_
      refine j_if_eq C 85 d_Mo_filled_78 (by decide) (fun c9 => ?_) (fun c9 => ?_)
      · replace h := (if_pos c9).symm.trans h
        refine j_iconst C (v := 0) d_Mo_filled_85 (by decide) ?_
        obtain ⟨b7, h⟩ := zb_ok h
        obtain rfl := Option.some.inj h
        exact j_iretZ C hr d_Mo_filled_86 b7 0 rfl
      · replace h := (if_neg c9).symm.trans h
        refine j_iconst C (v := 1) d_Mo_filled_81 (by decide) ?_
        refine j_goto C 86 d_Mo_filled_82 (by decide) ?_
        obtain ⟨b8, h⟩ := zb_ok h
        obtain rfl := Option.some.inj h
        exact j_iretZ C hr d_Mo_filled_86 b8 0 rfl
  · replace h := (if_neg c12).symm.trans h
    refine j_iconst C (v := 0) d_Mo_filled_43 (by decide) ?_
    obtain ⟨b11, h⟩ := zb_ok h
    obtain rfl := Option.some.inj h
    exact j_iretZ C hr d_Mo_filled_44 b11 0 rfl
set_option maxRecDepth 100000 in
set_option maxHeartbeats 4000000 in
theorem t_Mo_filled_b32 {p : Program} {l : Launch} {e : Env} {s : State} {m : MethodId} {args : Array Value} {below : List Frame} {meth : Method} {c : Code} {D : va_G} {cI cR cZ : ClassId} {A : Nat → Prop} (C : Cx p s m args meth c D (tyG cI cR cZ) b_Mo_filled 5 "MaskLayersModel") (hr : meth.sig.returnType = some .boolean) (hA : ∀ q : Nat, s.heap.size ≤ q → A q) {a : (Nat → Nat)} {S : LyS} {v1 : Int32} {v2 : Int32} {v3 : Int32} {res : (Int32 × LyS)} (h : Mo_filled_b32 S v1 v2 v3 = some res) : J p l e rm_Mo_filled s m args below meth c D A (va_D A) 5 (MQ below (QcI D res.1 (fun _ : Nat => wMo cI cZ a res.2) A) args s 0 0 A) 0 0 (wMo cI cZ a S) [(0, .ref (a 0)), (1, .int v1), (2, .int v2), (3, .int v3)] [.ref (a 0)] 32 := by
  unfold Mo_filled_b32 at h
  refine j_iconst C (v := 0) d_Mo_filled_32 (by decide) ?_
  refine j_sub [0, 1, 2, 3] rfl ?_
  exact t_Mo_filled_b33 C hr hA h
set_option maxRecDepth 100000 in
set_option maxHeartbeats 4000000 in
theorem c_Mo_filled (l : Launch) (D : va_G) (cI cR cZ : ClassId) (a : (Nat → Nat)) (S : LyS) (p1 : Int32) (p2 : Int32) (p3 : Int32) {res : (Int32 × LyS)} (h : Mo_filled S p1 p2 p3 = some res) (sz : Nat) : Met l y_Mo_filled (Cond.code y_Mo_filled b_Mo_filled 5 (some .boolean) :: BIG) rm_Mo_filled (PcI [.ref (a 0), .int p1, .int p2, .int p3] D (tyG cI cR cZ) (wMo cI cZ a S) sz) (QcI D res.1 (fun _ : Nat => wMo cI cZ a res.2) (va_A (wMo cI cZ a S) sz)) 0 0 (va_A (wMo cI cZ a S) sz) := by
  refine met_I (by decide) (Nat.le_of_ble_eq_true rfl) (fun p e s m args below meth c A hA C hr => ?_)
  have C : Cx p s m args meth c D (tyG cI cR cZ) b_Mo_filled 5 "MaskLayersModel" := C
  have hr : meth.sig.returnType = some .boolean := hr
  show J p l e rm_Mo_filled s m args below meth c D A (va_D A) 5 (MQ below (QcI D res.1 (fun _ : Nat => wMo cI cZ a res.2) A) args s 0 0 A) 0 0 (wMo cI cZ a S) [(0, .ref (a 0)), (1, .int p1), (2, .int p2), (3, .int p3)] [] 0
  unfold Mo_filled at h
  refine j_aload_n C 0 d_Mo_filled_0 rfl ?_
  refine j_aload_n C 0 d_Mo_filled_1 rfl ?_
  refine j_iload_n C 2 d_Mo_filled_2 rfl ?_
  refine j_iload_n C 3 d_Mo_filled_3 rfl ?_
  obtain ⟨r1, hr1, h⟩ := bd_ok h
  refine j_PV C [.int p2, .int p3] 0 rfl rfl (c_Mo_refusal l D cI cR cZ a S p2 p3 hr1) (cw_Mo_141 C ⟨Nat.le_of_ble_eq_true rfl, Nat.le_of_ble_eq_true rfl⟩) [0, 1, 2, 3, 4, 5, 6, 7, 8, 9, 10] rfl rfl rfl (Nat.le_of_ble_eq_true rfl) d_Mo_filled_4 (by decide) ?_
  refine j_if_le C 19 d_Mo_filled_7 (by decide) (fun c16 => ?_) (fun c16 => ?_)
  · replace h := (if_pos c16).symm.trans h
    refine j_iload_n C 1 d_Mo_filled_19 rfl ?_
    refine j_if_eq C 32 d_Mo_filled_20 (by decide) (fun c14 => ?_) (fun c14 => ?_)
    · replace h := (if_pos c14).symm.trans h
      refine j_sub [0, 1, 2, 3] rfl ?_
      exact t_Mo_filled_b32 C hr hA h
    · replace h := (if_neg c14).symm.trans h
      refine j_iload_n C 1 d_Mo_filled_23 rfl ?_
      refine j_iconst C (v := 2) d_Mo_filled_24 (by decide) ?_
      refine j_icmp_eq C 32 d_Mo_filled_25 (by decide) (fun c13 => ?_) (fun c13 => ?_)
      · replace h := (if_pos c13).symm.trans h
        refine j_sub [0, 1, 2, 3] rfl ?_
        exact t_Mo_filled_b32 C hr hA h
      · replace h := (if_neg c13).symm.trans h
        refine j_iconst C (v := 3) d_Mo_filled_28 (by decide) ?_
        refine j_goto C 33 d_Mo_filled_29 (by decide) ?_
        refine j_sub [0, 1, 2, 3] rfl ?_
        exact t_Mo_filled_b33 C hr hA h
  · replace h := (if_neg c16).symm.trans h
    refine j_aload_n C 0 d_Mo_filled_10 rfl ?_
    refine j_iload_n C 2 d_Mo_filled_11 rfl ?_
    refine j_iload_n C 3 d_Mo_filled_12 rfl ?_
    obtain ⟨r15, hr15, h⟩ := bd_ok h
    refine j_PV C [.int p2, .int p3] 0 rfl rfl (c_Mo_refusal l D cI cR cZ a S p2 p3 hr15) (cw_Mo_141 C ⟨Nat.le_of_ble_eq_true rfl, Nat.le_of_ble_eq_true rfl⟩) [0, 1, 2, 3, 4, 5, 6, 7, 8, 9, 10] rfl rfl rfl (Nat.le_of_ble_eq_true rfl) d_Mo_filled_13 (by decide) ?_
    refine j_goto C 33 d_Mo_filled_16 (by decide) ?_
    refine j_sub [0, 1, 2, 3] rfl ?_
    exact t_Mo_filled_b33 C hr hA h
def Mo_joined (S : LyS) (p1 : Int32) (p2 : Int32) : Option (Int32 × LyS) :=
  (Mo_refusal S p1 p2).bind fun r1 =>
  (if ((Lf S 0 r1).1 0) ≤ 0 then (Mo_layMade (Lf S 0 r1) p2).bind fun r2 =>
  (Mo_joinedAt r2.2 p1 p2).bind fun r3 =>
  some (r3, r2.2)
  else some (0, Lf S 0 r1))
set_option maxRecDepth 100000 in
set_option maxHeartbeats 4000000 in
theorem c_Mo_joined (l : Launch) (D : va_G) (cI cR cZ : ClassId) (a : (Nat → Nat)) (S : LyS) (p1 : Int32) (p2 : Int32) {res : (Int32 × LyS)} (h : Mo_joined S p1 p2 = some res) (sz : Nat) : Met l y_Mo_joined (Cond.code y_Mo_joined b_Mo_joined 3 (some .int) :: BIG) rm_Mo_joined (PcI [.ref (a 0), .int p1, .int p2] D (tyG cI cR cZ) (wMo cI cZ a S) sz) (QcI D res.1 (fun _ : Nat => wMo cI cZ a res.2) (va_A (wMo cI cZ a S) sz)) 0 0 (va_A (wMo cI cZ a S) sz) := by
  refine met_I (by decide) (Nat.le_of_ble_eq_true rfl) (fun p e s m args below meth c A hA C hr => ?_)
  have C : Cx p s m args meth c D (tyG cI cR cZ) b_Mo_joined 3 "MaskLayersModel" := C
  have hr : meth.sig.returnType = some .int := hr
  show J p l e rm_Mo_joined s m args below meth c D A (va_D A) 3 (MQ below (QcI D res.1 (fun _ : Nat => wMo cI cZ a res.2) A) args s 0 0 A) 0 0 (wMo cI cZ a S) [(0, .ref (a 0)), (1, .int p1), (2, .int p2)] [] 0
  unfold Mo_joined at h
  refine j_aload_n C 0 d_Mo_joined_0 rfl ?_
  refine j_aload_n C 0 d_Mo_joined_1 rfl ?_
  refine j_iload_n C 1 d_Mo_joined_2 rfl ?_
  refine j_iload_n C 2 d_Mo_joined_3 rfl ?_
  obtain ⟨r1, hr1, h⟩ := bd_ok h
  refine j_PV C [.int p1, .int p2] 0 rfl rfl (c_Mo_refusal l D cI cR cZ a S p1 p2 hr1) (cw_Mo_141 C ⟨Nat.le_of_ble_eq_true rfl, Nat.le_of_ble_eq_true rfl⟩) [0, 1, 2, 3, 4, 5, 6, 7, 8, 9, 10] rfl rfl rfl (Nat.le_of_ble_eq_true rfl) d_Mo_joined_4 (by decide) ?_
  refine pf_Mo_51 C 0 (wMo cI cZ a (Lf S 0 r1)) mo_h rfl mo_f0 d_Mo_joined_7 ?_
  refine j_aload_n C 0 d_Mo_joined_10 rfl ?_
  refine gf_Mo_51 C 0 (v := .int ((Lf S 0 r1).1 0)) mo_h rfl d_Mo_joined_11 ?_
  refine j_if_le C 19 d_Mo_joined_14 (by decide) (fun c4 => ?_) (fun c4 => ?_)
  · replace h := (if_pos c4).symm.trans h
    refine j_aload_n C 0 d_Mo_joined_19 rfl ?_
    refine j_iload_n C 2 d_Mo_joined_20 rfl ?_
    obtain ⟨r2, hr2, h⟩ := bd_ok h
    refine j_IV C [.int p2] hA 0 rfl rfl (c_Mo_layMade l D cI cR cZ a (Lf S 0 r1) p2 hr2) (cw_Mo_144 C ⟨Nat.le_of_ble_eq_true rfl, Nat.le_of_ble_eq_true rfl⟩) [0, 1, 2, 3, 4, 5, 6, 7, 8, 9, 10] [] rfl rfl (by decide) (by decide) (by decide) rfl rfl (Nat.le_of_ble_eq_true rfl) d_Mo_joined_21 (by decide) (fun _ => ?_)
    refine j_ws (ws' := wMo cI cZ a r2.2) rfl ?_
    refine j_pop C d_Mo_joined_24 rfl ?_
    refine j_aload_n C 0 d_Mo_joined_25 rfl ?_
    refine j_iload_n C 1 d_Mo_joined_26 rfl ?_
    refine j_iload_n C 2 d_Mo_joined_27 rfl ?_
    obtain ⟨r3, hr3, h⟩ := bd_ok h
    refine j_PV C [.int p1, .int p2] 0 rfl rfl (c_Mo_joinedAt l D cI cR cZ a r2.2 p1 p2 hr3) (cw_Mo_118 C ⟨Nat.le_of_ble_eq_true rfl, Nat.le_of_ble_eq_true rfl⟩) [0, 1, 2, 3, 4, 5, 6, 7, 8, 9, 10] rfl rfl rfl (Nat.le_of_ble_eq_true rfl) d_Mo_joined_28 (by decide) ?_
    obtain rfl := Option.some.inj h
    exact j_iret C hr d_Mo_joined_31 0 rfl
  · replace h := (if_neg c4).symm.trans h
    refine j_iconst C (v := 0) d_Mo_joined_17 (by decide) ?_
    obtain rfl := Option.some.inj h
    exact j_iret C hr d_Mo_joined_18 0 rfl
