def Arrays_fill_l5 (n : Nat) (v1 : Int32) (v3 : Int32) : Nat → Int32 → (Nat → Int32) → Option (Nat × (Nat → Int32))
  | 0, _, _ => none
  | k + 1, v2, v =>
  (if v3 ≤ v2 then some (0, v)
  else gd v2 n (Arrays_fill_l5 n v1 v3 k (v2 + 1) (upd v v2.toNatClampNeg v1)))
def Arrays_fill (fu : Nat) (n : Nat) (v : (Nat → Int32)) (p2 : Int32) : Option ((Nat → Int32)) :=
  (Arrays_fill_l5 n p2 (nI n) fu 0 v).bind fun r3 =>
  some (r3.2)
set_option maxRecDepth 100000 in
set_option maxHeartbeats 4000000 in
theorem t_Arrays_fill_l5 {p : Program} {l : Launch} {e : Env} {s : State} {m : MethodId} {args : Array Value} {below : List Frame} {meth : Method} {c : Code} {D : va_G} {cI cR cZ : ClassId} {A : Nat → Prop} {Q : State → Prop} (C : Cx p s m args meth c D (tyG cI cR cZ) b_Arrays_fill 4 "java/util/Arrays") (hA : ∀ q : Nat, s.heap.size ≤ q → A q) {g : Nat} {n : Nat} {v1 : Int32} {v3 : Int32} {out : Nat × (Nat → Int32)} : ∀ (k : Nat) (v2 : Int32) (v : (Nat → Int32)), Arrays_fill_l5 n v1 v3 k v2 v = some out → (out.1 = 0 → J p l e rm_Arrays_fill s m args below meth c D A (va_D A) 4 Q 0 0 ([(g, .inl (cI, n, .inl out.2))]) [] [] 20) → J p l e rm_Arrays_fill s m args below meth c D A (va_D A) 4 Q 0 0 ([(g, .inl (cI, n, .inl v))]) [(0, .ref g), (1, .int v1), (2, .int v2), (3, .int v3)] [] 5 := by
  intro k
  induction k with
  | zero => intro v2 v h; cases (show none = some out from h)
  | succ k ih =>
    intro v2 v h x0
    rw [Arrays_fill_l5] at h
    refine j_iload_n C 2 d_Arrays_fill_5 rfl ?_
    refine j_iload_n C 3 d_Arrays_fill_6 rfl ?_
    refine j_icmp_ge C 20 d_Arrays_fill_7 (by decide) (fun c2 => ?_) (fun c2 => ?_)
    · replace h := (if_pos c2).symm.trans h
      obtain rfl := Option.some.inj h
      refine j_sub [] rfl ?_
      exact x0 rfl
    · replace h := (if_neg c2).symm.trans h
      refine j_aload_n C 0 d_Arrays_fill_10 rfl ?_
      refine j_iload_n C 2 d_Arrays_fill_11 rfl ?_
      refine j_iload_n C 1 d_Arrays_fill_12 rfl ?_
      obtain ⟨b1, h⟩ := gd_ok h
      refine j_iast C (0) ([(g, .inl (cI, n, .inl (upd v v2.toNatClampNeg v1)))]) (t0 := 0) rfl rfl rfl b1 d_Arrays_fill_13 ?_
      refine j_iinc C [(2, .int (v2 + 1)), (0, .ref g), (1, .int v1), (3, .int v3)] 2 (v2 + 1) d_Arrays_fill_14 rfl rfl (by decide) rfl ?_
      refine j_goto C 5 d_Arrays_fill_17 (by decide) ?_
      refine j_sub [1, 2, 0, 3] rfl ?_
      exact ih (v2 + 1) (upd v v2.toNatClampNeg v1) h x0
set_option maxRecDepth 100000 in
set_option maxHeartbeats 4000000 in
theorem c_Arrays_fill (l : Launch) (D : va_G) (cI cR cZ : ClassId) (fu : Nat) (g : Nat) (n : Nat) (v : (Nat → Int32)) (p2 : Int32) {res : ((Nat → Int32))} (h : Arrays_fill fu n v p2 = some res) (sz : Nat) : Met l y_Arrays_fill (Cond.code y_Arrays_fill b_Arrays_fill 4 none :: BIG) rm_Arrays_fill (PcI [.ref g, .int p2] D (tyG cI cR cZ) ([(g, .inl (cI, n, .inl v))]) sz) (QcV D (fun _ : Nat => [(g, .inl (cI, n, .inl res))]) (va_A ([(g, .inl (cI, n, .inl v))]) sz)) 0 0 (va_A ([(g, .inl (cI, n, .inl v))]) sz) := by
  refine met_V (by decide) (Nat.le_of_ble_eq_true rfl) (fun p e s m args below meth c A hA C hr => ?_)
  have C : Cx p s m args meth c D (tyG cI cR cZ) b_Arrays_fill 4 "java/util/Arrays" := C
  have hr : meth.sig.returnType = none := hr
  show J p l e rm_Arrays_fill s m args below meth c D A (va_D A) 4 (MQ below (QcV D (fun _ : Nat => [(g, .inl (cI, n, .inl res))]) A) args s 0 0 A) 0 0 ([(g, .inl (cI, n, .inl v))]) [(0, .ref g), (1, .int p2)] [] 0
  unfold Arrays_fill at h
  refine j_iconst C (v := 0) d_Arrays_fill_0 (by decide) ?_
  refine j_istore_n C [(2, .int 0), (0, .ref g), (1, .int p2)] d_Arrays_fill_1 (by decide) rfl ?_
  refine j_aload_n C 1 d_Arrays_fill_2 rfl ?_
  refine j_alen C (0) (t0 := 0) (v := nI n) rfl rfl rfl d_Arrays_fill_3 ?_
  refine j_istore_n C [(3, .int (nI n)), (2, .int 0), (0, .ref g), (1, .int p2)] d_Arrays_fill_4 (by decide) rfl ?_
  obtain ⟨r3, hr3, h⟩ := bd_ok h
  refine j_sub [2, 3, 1, 0] rfl ?_
  refine t_Arrays_fill_l5 C hA fu 0 v hr3 (fun e4 => ?_)
  · obtain rfl := Option.some.inj h
    exact j_vret C hr d_Arrays_fill_20 0 rfl
def Layers_forget (fu : Nat) (n : Nat) (L : LyS) : Option (LyS) :=
  (Arrays_fill fu 24 (L.2 4) 0).bind fun r1 =>
  some (Lf (La L 4 r1) 3 0)
set_option maxRecDepth 100000 in
set_option maxHeartbeats 4000000 in
theorem c_Layers_forget (l : Launch) (D : va_G) (cI cR cZ : ClassId) (fu : Nat) (a : (Nat → Nat)) (n : Nat) (L : LyS) {res : (LyS)} (h : Layers_forget fu n L = some res) (sz : Nat) : Met l y_Layers_forget (Cond.code y_Layers_forget b_Layers_forget 1 none :: BIG) rm_Layers_forget (PcI [.ref (a 0)] D (tyG cI cR cZ) (wLy cI cR a n L) sz) (QcV D (fun _ : Nat => wLy cI cR a n res) (va_A (wLy cI cR a n L) sz)) 0 0 (va_A (wLy cI cR a n L) sz) := by
  refine met_V (by decide) (Nat.le_of_ble_eq_true rfl) (fun p e s m args below meth c A hA C hr => ?_)
  have C : Cx p s m args meth c D (tyG cI cR cZ) b_Layers_forget 1 "MaskLayers$Layers" := C
  have hr : meth.sig.returnType = none := hr
  show J p l e rm_Layers_forget s m args below meth c D A (va_D A) 1 (MQ below (QcV D (fun _ : Nat => wLy cI cR a n res) A) args s 0 0 A) 0 0 (wLy cI cR a n L) [(0, .ref (a 0))] [] 0
  unfold Layers_forget at h
  refine j_aload_n C 0 d_Layers_forget_0 rfl ?_
  refine gf_Layers_16 C 0 (v := .ref (a 6)) rfl rfl d_Layers_forget_1 ?_
  refine j_iconst C (v := 0) d_Layers_forget_4 (by decide) ?_
  obtain ⟨r1, hr1, h⟩ := bd_ok h
  refine j_VS C [.ref (a 6), .int 0] hA (c_Arrays_fill l D cI cR cZ fu (a 6) 24 (L.2 4) 0 hr1) (cw_Layers_30 C ⟨Nat.le_of_ble_eq_true rfl, Nat.le_of_ble_eq_true rfl⟩) [6] [0, 1, 2, 3, 4, 5, 7, 8] rfl rfl (by decide) (by decide) (by decide) rfl rfl (Nat.le_of_ble_eq_true rfl) d_Layers_forget_5 (by decide) (fun _ => ?_)
  refine j_perm [0, 1, 2, 3, 4, 5, 8, 6, 7] (ws' := wLy cI cR a n (La L 4 r1)) rfl (by decide) ?_
  refine j_aload_n C 0 d_Layers_forget_8 rfl ?_
  refine j_iconst C (v := 0) d_Layers_forget_9 (by decide) ?_
  refine pf_Layers_36 C 0 (wLy cI cR a n (Lf (La L 4 r1) 3 0)) rfl rfl rfl d_Layers_forget_10 ?_
  obtain rfl := Option.some.inj h
  exact j_vret C hr d_Layers_forget_13 0 rfl
def Layers_shape_l34 (n : Nat) (v1 : Int32) : Nat → Int32 → LyS → Option (Nat × LyS)
  | 0, _, _ => none
  | k + 1, v6, L =>
  (if 3 < v6 then some (0, L)
  else gd v6 4 ((ML_parts v1 (L.2 5 v6.toNatClampNeg)).bind fun r4 =>
  gd v6 4 (Layers_shape_l34 n v1 k (v6 + 1) (Ls L 6 v6.toNatClampNeg r4))))
def Layers_shape (fu : Nat) (n : Nat) (L : LyS) (p1 : Int32) (p2 : Int32) (p3 : Int32) (p4 : Int32) (p5 : Int32) : Option (LyS) :=
  gd 2 4 (gd 0 4 ((Layers_shape_l34 n p1 fu 0 (Ls (Ls (Lf (Lf (Lf L 0 p1) 1 p2) 2 p3) 5 ((2 : Int32).toNatClampNeg) p4) 5 ((0 : Int32).toNatClampNeg) p5)).bind fun r7 =>
  some (r7.2)))
set_option maxRecDepth 100000 in
set_option maxHeartbeats 4000000 in
theorem t_Layers_shape_l34 {p : Program} {l : Launch} {e : Env} {s : State} {m : MethodId} {args : Array Value} {below : List Frame} {meth : Method} {c : Code} {D : va_G} {cI cR cZ : ClassId} {A : Nat → Prop} {Q : State → Prop} (C : Cx p s m args meth c D (tyG cI cR cZ) b_Layers_shape 7 "MaskLayers$Layers") (hA : ∀ q : Nat, s.heap.size ≤ q → A q) {a : (Nat → Nat)} {n : Nat} {v1 : Int32} {out : Nat × LyS} : ∀ (k : Nat) (v6 : Int32) (L : LyS), Layers_shape_l34 n v1 k v6 L = some out → (out.1 = 0 → J p l e rm_Layers_shape s m args below meth c D A (va_D A) 7 Q 0 0 (wLy cI cR a n out.2) [] [] 64) → J p l e rm_Layers_shape s m args below meth c D A (va_D A) 7 Q 0 0 (wLy cI cR a n L) [(0, .ref (a 0)), (1, .int v1), (6, .int v6)] [] 34 := by
  intro k
  induction k with
  | zero => intro v6 L h; cases (show none = some out from h)
  | succ k ih =>
    intro v6 L h x0
    rw [Layers_shape_l34] at h
    refine j_iload C 2 d_Layers_shape_34 rfl ?_
    refine j_iconst C (v := 3) d_Layers_shape_36 (by decide) ?_
    refine j_icmp_gt C 64 d_Layers_shape_37 (by decide) (fun c6 => ?_) (fun c6 => ?_)
    · replace h := (if_pos c6).symm.trans h
      obtain rfl := Option.some.inj h
      refine j_sub [] rfl ?_
      exact x0 rfl
    · replace h := (if_neg c6).symm.trans h
      refine j_aload_n C 0 d_Layers_shape_40 rfl ?_
      refine gf_Layers_23 C 0 (v := .ref (a 8)) rfl rfl d_Layers_shape_41 ?_
      refine j_iload C 2 d_Layers_shape_44 rfl ?_
      refine j_iload_n C 1 d_Layers_shape_46 rfl ?_
      refine j_aload_n C 0 d_Layers_shape_47 rfl ?_
      refine gf_Layers_20 C 0 (v := .ref (a 7)) rfl rfl d_Layers_shape_48 ?_
      refine j_iload C 2 d_Layers_shape_51 rfl ?_
      obtain ⟨b3, h⟩ := gd_ok h
      refine j_iald C (7) (t0 := 0) rfl rfl b3 d_Layers_shape_53 ?_
      obtain ⟨r4, hr4, h⟩ := bd_ok h
      refine j_PSN C [.int v1, .int (L.2 5 v6.toNatClampNeg)] (c_ML_parts l D cI cR cZ v1 (L.2 5 v6.toNatClampNeg) hr4) (cw_Layers_45 C ⟨Nat.le_of_ble_eq_true rfl, Nat.le_of_ble_eq_true rfl⟩) [] rfl rfl rfl (Nat.le_of_ble_eq_true rfl) d_Layers_shape_54 (by decide) ?_
      obtain ⟨b5, h⟩ := gd_ok h
      refine j_iast C (8) (wLy cI cR a n (Ls L 6 v6.toNatClampNeg r4)) (t0 := 0) rfl rfl rfl b5 d_Layers_shape_57 ?_
      refine j_iinc C [(6, .int (v6 + 1)), (0, .ref (a 0)), (1, .int v1)] 2 (v6 + 1) d_Layers_shape_58 rfl rfl (by decide) rfl ?_
      refine j_goto C 34 d_Layers_shape_61 (by decide) ?_
      refine j_sub [1, 2, 0] rfl ?_
      exact ih (v6 + 1) (Ls L 6 v6.toNatClampNeg r4) h x0
set_option maxRecDepth 100000 in
set_option maxHeartbeats 4000000 in
theorem c_Layers_shape (l : Launch) (D : va_G) (cI cR cZ : ClassId) (fu : Nat) (a : (Nat → Nat)) (n : Nat) (L : LyS) (p1 : Int32) (p2 : Int32) (p3 : Int32) (p4 : Int32) (p5 : Int32) {res : (LyS)} (h : Layers_shape fu n L p1 p2 p3 p4 p5 = some res) (sz : Nat) : Met l y_Layers_shape (Cond.code y_Layers_shape b_Layers_shape 7 none :: BIG) rm_Layers_shape (PcI [.ref (a 0), .int p1, .int p2, .int p3, .int p4, .int p5] D (tyG cI cR cZ) (wLy cI cR a n L) sz) (QcV D (fun _ : Nat => wLy cI cR a n res) (va_A (wLy cI cR a n L) sz)) 0 0 (va_A (wLy cI cR a n L) sz) := by
  refine met_V (by decide) (Nat.le_of_ble_eq_true rfl) (fun p e s m args below meth c A hA C hr => ?_)
  have C : Cx p s m args meth c D (tyG cI cR cZ) b_Layers_shape 7 "MaskLayers$Layers" := C
  have hr : meth.sig.returnType = none := hr
  show J p l e rm_Layers_shape s m args below meth c D A (va_D A) 7 (MQ below (QcV D (fun _ : Nat => wLy cI cR a n res) A) args s 0 0 A) 0 0 (wLy cI cR a n L) [(0, .ref (a 0)), (1, .int p1), (2, .int p2), (3, .int p3), (4, .int p4), (5, .int p5)] [] 0
  unfold Layers_shape at h
  refine j_aload_n C 0 d_Layers_shape_0 rfl ?_
  refine j_iload_n C 1 d_Layers_shape_1 rfl ?_
  refine pf_Layers_39 C 0 (wLy cI cR a n (Lf L 0 p1)) rfl rfl rfl d_Layers_shape_2 ?_
  refine j_aload_n C 0 d_Layers_shape_5 rfl ?_
  refine j_iload_n C 2 d_Layers_shape_6 rfl ?_
  refine pf_Layers_42 C 0 (wLy cI cR a n (Lf (Lf L 0 p1) 1 p2)) rfl rfl rfl d_Layers_shape_7 ?_
  refine j_aload_n C 0 d_Layers_shape_10 rfl ?_
  refine j_iload_n C 3 d_Layers_shape_11 rfl ?_
  refine pf_Layers_26 C 0 (wLy cI cR a n (Lf (Lf (Lf L 0 p1) 1 p2) 2 p3)) rfl rfl rfl d_Layers_shape_12 ?_
  refine j_aload_n C 0 d_Layers_shape_15 rfl ?_
  refine gf_Layers_20 C 0 (v := .ref (a 7)) rfl rfl d_Layers_shape_16 ?_
  refine j_iconst C (v := 2) d_Layers_shape_19 (by decide) ?_
  refine j_iload C 4 d_Layers_shape_20 rfl ?_
  obtain ⟨b1, h⟩ := gd_ok h
  refine j_iast C (7) (wLy cI cR a n (Ls (Lf (Lf (Lf L 0 p1) 1 p2) 2 p3) 5 ((2 : Int32).toNatClampNeg) p4)) (t0 := 0) rfl rfl rfl b1 d_Layers_shape_22 ?_
  refine j_aload_n C 0 d_Layers_shape_23 rfl ?_
  refine gf_Layers_20 C 0 (v := .ref (a 7)) rfl rfl d_Layers_shape_24 ?_
  refine j_iconst C (v := 0) d_Layers_shape_27 (by decide) ?_
  refine j_iload C 5 d_Layers_shape_28 rfl ?_
  obtain ⟨b2, h⟩ := gd_ok h
  refine j_iast C (7) (wLy cI cR a n (Ls (Ls (Lf (Lf (Lf L 0 p1) 1 p2) 2 p3) 5 ((2 : Int32).toNatClampNeg) p4) 5 ((0 : Int32).toNatClampNeg) p5)) (t0 := 0) rfl rfl rfl b2 d_Layers_shape_30 ?_
  refine j_iconst C (v := 0) d_Layers_shape_31 (by decide) ?_
  refine j_istore C [(6, .int 0), (0, .ref (a 0)), (1, .int p1), (2, .int p2), (3, .int p3), (4, .int p4), (5, .int p5)] d_Layers_shape_32 (by decide) rfl ?_
  obtain ⟨r7, hr7, h⟩ := bd_ok h
  refine j_sub [1, 2, 0] rfl ?_
  refine t_Layers_shape_l34 C hA fu 0 (Ls (Ls (Lf (Lf (Lf L 0 p1) 1 p2) 2 p3) 5 ((2 : Int32).toNatClampNeg) p4) 5 ((0 : Int32).toNatClampNeg) p5) hr7 (fun e8 => ?_)
  · obtain rfl := Option.some.inj h
    exact j_vret C hr d_Layers_shape_64 0 rfl
def Layers_add (n : Nat) (L : LyS) (p1 : Int32) (p2 : Int32) : Option (LyS) :=
  gd p1 24 (gd p1 24 (some (Lf (Ls L 4 p1.toNatClampNeg ((L.2 4 p1.toNatClampNeg) ||| ((1 : Int32) <<< (p2 &&& 31)))) 3 (((Ls L 4 p1.toNatClampNeg ((L.2 4 p1.toNatClampNeg) ||| ((1 : Int32) <<< (p2 &&& 31)))).1 3) + 1))))
set_option maxRecDepth 100000 in
set_option maxHeartbeats 4000000 in
theorem c_Layers_add (l : Launch) (D : va_G) (cI cR cZ : ClassId) (a : (Nat → Nat)) (n : Nat) (L : LyS) (p1 : Int32) (p2 : Int32) {res : (LyS)} (h : Layers_add n L p1 p2 = some res) (sz : Nat) : Met l y_Layers_add (Cond.code y_Layers_add b_Layers_add 3 none :: BIG) rm_Layers_add (PcI [.ref (a 0), .int p1, .int p2] D (tyG cI cR cZ) (wLy cI cR a n L) sz) (QcV D (fun _ : Nat => wLy cI cR a n res) (va_A (wLy cI cR a n L) sz)) 0 0 (va_A (wLy cI cR a n L) sz) := by
  refine met_V (by decide) (Nat.le_of_ble_eq_true rfl) (fun p e s m args below meth c A hA C hr => ?_)
  have C : Cx p s m args meth c D (tyG cI cR cZ) b_Layers_add 3 "MaskLayers$Layers" := C
  have hr : meth.sig.returnType = none := hr
  show J p l e rm_Layers_add s m args below meth c D A (va_D A) 3 (MQ below (QcV D (fun _ : Nat => wLy cI cR a n res) A) args s 0 0 A) 0 0 (wLy cI cR a n L) [(0, .ref (a 0)), (1, .int p1), (2, .int p2)] [] 0
  unfold Layers_add at h
  refine j_aload_n C 0 d_Layers_add_0 rfl ?_
  refine gf_Layers_16 C 0 (v := .ref (a 6)) rfl rfl d_Layers_add_1 ?_
  refine j_iload_n C 1 d_Layers_add_4 rfl ?_
  refine j_dup2 C d_Layers_add_5 rfl rfl ?_
  obtain ⟨b1, h⟩ := gd_ok h
  refine j_iald C (6) (t0 := 0) rfl rfl b1 d_Layers_add_6 ?_
  refine j_iconst C (v := 1) d_Layers_add_7 (by decide) ?_
  refine j_iload_n C 2 d_Layers_add_8 rfl ?_
  refine j_ishl C d_Layers_add_9 ?_
  refine j_ior C d_Layers_add_10 ?_
  obtain ⟨b2, h⟩ := gd_ok h
  refine j_iast C (6) (wLy cI cR a n (Ls L 4 p1.toNatClampNeg ((L.2 4 p1.toNatClampNeg) ||| ((1 : Int32) <<< (p2 &&& 31))))) (t0 := 0) rfl rfl rfl b2 d_Layers_add_11 ?_
  refine j_aload_n C 0 d_Layers_add_12 rfl ?_
  refine j_dup C d_Layers_add_13 rfl ?_
  refine gf_Layers_36 C 0 (v := .int ((Ls L 4 p1.toNatClampNeg ((L.2 4 p1.toNatClampNeg) ||| ((1 : Int32) <<< (p2 &&& 31)))).1 3)) rfl rfl d_Layers_add_14 ?_
  refine j_iconst C (v := 1) d_Layers_add_17 (by decide) ?_
  refine j_iadd C d_Layers_add_18 ?_
  refine pf_Layers_36 C 0 (wLy cI cR a n (Lf (Ls L 4 p1.toNatClampNeg ((L.2 4 p1.toNatClampNeg) ||| ((1 : Int32) <<< (p2 &&& 31)))) 3 (((Ls L 4 p1.toNatClampNeg ((L.2 4 p1.toNatClampNeg) ||| ((1 : Int32) <<< (p2 &&& 31)))).1 3) + 1))) rfl rfl rfl d_Layers_add_19 ?_
  obtain rfl := Option.some.inj h
  exact j_vret C hr d_Layers_add_22 0 rfl
