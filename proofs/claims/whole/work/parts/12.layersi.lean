def Arrays_fill_l5 (n : Nat) (v1 : Int32) (v3 : Int32) : Nat → Int32 → (Nat → Int32) → Option (Nat × (Nat → Int32))
  | 0, _, _ => none
  | k + 1, v2, v =>
  (if v3 ≤ v2 then some (0, v)
  else gd v2 n (Arrays_fill_l5 n v1 v3 k (v2 + 1) (upd v v2.toNatClampNeg v1)))
def Arrays_fill (fu : Nat) (n : Nat) (v : (Nat → Int32)) (p2 : Int32) : Option ((Nat → Int32)) :=
  (Arrays_fill_l5 n p2 (nI n) fu 0 v).bind fun r3 =>
  some (r3.2)
set_option maxRecDepth 100000 in
set_option maxHeartbeats 4000000 in
theorem t_Arrays_fill_l5 {p : Program} {l : Launch} {e : Env} {s : State} {m : MethodId} {args : Array Value} {below : List Frame} {meth : Method} {c : Code} {D : va_G} {cI cR cZ : ClassId} {A : Nat → Prop} {Q : State → Prop} (C : Cx p s m args meth c D (tyG cI cR cZ) b_Arrays_fill 4 "java/util/Arrays") (hA : ∀ q : Nat, s.heap.size ≤ q → A q) {g : Nat} {n : Nat} {v1 : Int32} {v3 : Int32} {out : Nat × (Nat → Int32)} : ∀ (k : Nat) (v2 : Int32) (v : (Nat → Int32)), Arrays_fill_l5 n v1 v3 k v2 v = some out → (out.1 = 0 → J p l e rm_Arrays_fill s m args below meth c D A (va_D A) 4 Q 0 0 ([(g, .inl (cI, n, .inl out.2))]) [] [] 20) → J p l e rm_Arrays_fill s m args below meth c D A (va_D A) 4 Q 0 0 ([(g, .inl (cI, n, .inl v))]) [(0, .ref g), (1, .int v1), (2, .int v2), (3, .int v3)] [] 5 := by
  intro k
  induction k with
  | zero => intro v2 v h; cases (show none = some out from h)
  | succ k ih =>
    intro v2 v h x0
    rw [Arrays_fill_l5] at h
    refine j_iload_n C 2 d_Arrays_fill_5 rfl ?_
    refine j_iload_n C 3 d_Arrays_fill_6 rfl ?_
    refine j_icmp_ge C 20 d_Arrays_fill_7 (by decide) (fun c2 => ?_) (fun c2 => ?_)
    · replace h := (if_pos c2).symm.trans h
      obtain rfl := Option.some.inj h
      refine j_sub [] rfl ?_
      exact x0 rfl
    · replace h := (if_neg c2).symm.trans h
      refine j_aload_n C 0 d_Arrays_fill_10 rfl ?_
      refine j_iload_n C 2 d_Arrays_fill_11 rfl ?_
      refine j_iload_n C 1 d_Arrays_fill_12 rfl ?_
      obtain ⟨b1, h⟩ := gd_ok h
      refine j_iast C (0) ([(g, .inl (cI, n, .inl (upd v v2.toNatClampNeg v1)))]) (t0 := 0) rfl rfl rfl b1 d_Arrays_fill_13 ?_
      refine j_iinc C [(2, .int (v2 + 1)), (0, .ref g), (1, .int v1), (3, .int v3)] 2 (v2 + 1) d_Arrays_fill_14 rfl rfl (by decide) rfl ?_
      refine j_goto C 5 d_Arrays_fill_17 (by decide) ?_
      refine j_sub [1, 2, 0, 3] rfl ?_
      exact ih (v2 + 1) (upd v v2.toNatClampNeg v1) h x0
set_option maxRecDepth 100000 in
set_option maxHeartbeats 4000000 in
theorem c_Arrays_fill (l : Launch) (D : va_G) (cI cR cZ : ClassId) (fu : Nat) (g : Nat) (n : Nat) (v : (Nat → Int32)) (p2 : Int32) {res : ((Nat → Int32))} (h : Arrays_fill fu n v p2 = some res) (sz : Nat) : Met l y_Arrays_fill (Cond.code y_Arrays_fill b_Arrays_fill 4 none :: BIG) rm_Arrays_fill (PcI [.ref g, .int p2] D (tyG cI cR cZ) ([(g, .inl (cI, n, .inl v))]) sz) (QcV D (fun _ : Nat => [(g, .inl (cI, n, .inl res))]) (va_A ([(g, .inl (cI, n, .inl v))]) sz)) 0 0 (va_A ([(g, .inl (cI, n, .inl v))]) sz) := by
  refine met_V (by decide) (Nat.le_of_ble_eq_true rfl) (fun p e s m args below meth c A hA C hr => ?_)
  have C : Cx p s m args meth c D (tyG cI cR cZ) b_Arrays_fill 4 "java/util/Arrays" := C
  have hr : meth.sig.returnType = none := hr
  show J p l e rm_Arrays_fill s m args below meth c D A (va_D A) 4 (MQ below (QcV D (fun _ : Nat => [(g, .inl (cI, n, .inl res))]) A) args s 0 0 A) 0 0 ([(g, .inl (cI, n, .inl v))]) [(0, .ref g), (1, .int p2)] [] 0
  unfold Arrays_fill at h
  refine j_iconst C (v := 0) d_Arrays_fill_0 (by decide) ?_
  refine j_istore_n C [(2, .int 0), (0, .ref g), (1, .int p2)] d_Arrays_fill_1 (by decide) rfl ?_
  refine j_aload_n C 1 d_Arrays_fill_2 rfl ?_
  refine j_alen C (0) (t0 := 0) (v := nI n) rfl rfl rfl d_Arrays_fill_3 ?_
  refine j_istore_n C [(3, .int (nI n)), (2, .int 0), (0, .ref g), (1, .int p2)] d_Arrays_fill_4 (by decide) rfl ?_
  obtain ⟨r3, hr3, h⟩ := bd_ok h
  refine j_sub [2, 3, 1, 0] rfl ?_
  refine t_Arrays_fill_l5 C hA fu 0 v hr3 (fun e4 => ?_)
  · obtain rfl := Option.some.inj h
    exact j_vret C hr d_Arrays_fill_20 0 rfl
def Layers_forget (fu : Nat) (n : Nat) (L : LyS) : Option (LyS) :=
  (Arrays_fill fu 24 (L.2 4) 0).bind fun r1 =>
  some (Lf (La L 4 r1) 3 0)
set_option maxRecDepth 100000 in
set_option maxHeartbeats 4000000 in
theorem c_Layers_forget (l : Launch) (D : va_G) (cI cR cZ : ClassId) (fu : Nat) (a : (Nat → Nat)) (n : Nat) (L : LyS) {res : (LyS)} (h : Layers_forget fu n L = some res) (sz : Nat) : Met l y_Layers_forget (Cond.code y_Layers_forget b_Layers_forget 1 none :: BIG) rm_Layers_forget (PcI [.ref (a 0)] D (tyG cI cR cZ) (wLy cI cR a n L) sz) (QcV D (fun _ : Nat => wLy cI cR a n res) (va_A (wLy cI cR a n L) sz)) 0 0 (va_A (wLy cI cR a n L) sz) := by
  refine met_V (by decide) (Nat.le_of_ble_eq_true rfl) (fun p e s m args below meth c A hA C hr => ?_)
  have C : Cx p s m args meth c D (tyG cI cR cZ) b_Layers_forget 1 "MaskLayers$Layers" := C
  have hr : meth.sig.returnType = none := hr
  show J p l e rm_Layers_forget s m args below meth c D A (va_D A) 1 (MQ below (QcV D (fun _ : Nat => wLy cI cR a n res) A) args s 0 0 A) 0 0 (wLy cI cR a n L) [(0, .ref (a 0))] [] 0
  unfold Layers_forget at h
  refine j_aload_n C 0 d_Layers_forget_0 rfl ?_
  refine gf_Layers_16 C 0 (v := .ref (a 6)) rfl rfl d_Layers_forget_1 ?_
  refine j_iconst C (v := 0) d_Layers_forget_4 (by decide) ?_
  obtain ⟨r1, hr1, h⟩ := bd_ok h
  refine j_VS C [.ref (a 6), .int 0] hA (c_Arrays_fill l D cI cR cZ fu (a 6) 24 (L.2 4) 0 hr1) (cw_Layers_20 C ⟨Nat.le_of_ble_eq_true rfl, Nat.le_of_ble_eq_true rfl⟩) [6] [0, 1, 2, 3, 4, 5] rfl rfl (by decide) (by decide) (by decide) rfl rfl (Nat.le_of_ble_eq_true rfl) d_Layers_forget_5 (by decide) (fun _ => ?_)
  refine j_perm [0, 1, 2, 3, 4, 5, 6] (ws' := wLy cI cR a n (La L 4 r1)) rfl (by decide) ?_
  refine j_aload_n C 0 d_Layers_forget_8 rfl ?_
  refine j_iconst C (v := 0) d_Layers_forget_9 (by decide) ?_
  refine pf_Layers_26 C 0 (wLy cI cR a n (Lf (La L 4 r1) 3 0)) rfl rfl rfl d_Layers_forget_10 ?_
  obtain rfl := Option.some.inj h
  exact j_vret C hr d_Layers_forget_13 0 rfl
def Layers_shape (n : Nat) (L : LyS) (p1 : Int32) (p2 : Int32) (p3 : Int32) (p4 : Int32) (p5 : Int32) : Option (LyS) :=
  some (Lf (Lf (Lf (Lf (Lf L 0 p1) 1 p2) 2 p3) 4 p4) 5 p5)
set_option maxRecDepth 100000 in
set_option maxHeartbeats 4000000 in
theorem c_Layers_shape (l : Launch) (D : va_G) (cI cR cZ : ClassId) (a : (Nat → Nat)) (n : Nat) (L : LyS) (p1 : Int32) (p2 : Int32) (p3 : Int32) (p4 : Int32) (p5 : Int32) {res : (LyS)} (h : Layers_shape n L p1 p2 p3 p4 p5 = some res) (sz : Nat) : Met l y_Layers_shape (Cond.code y_Layers_shape b_Layers_shape 6 none :: BIG) rm_Layers_shape (PcI [.ref (a 0), .int p1, .int p2, .int p3, .int p4, .int p5] D (tyG cI cR cZ) (wLy cI cR a n L) sz) (QcV D (fun _ : Nat => wLy cI cR a n res) (va_A (wLy cI cR a n L) sz)) 0 0 (va_A (wLy cI cR a n L) sz) := by
  refine met_V (by decide) (Nat.le_of_ble_eq_true rfl) (fun p e s m args below meth c A hA C hr => ?_)
  have C : Cx p s m args meth c D (tyG cI cR cZ) b_Layers_shape 6 "MaskLayers$Layers" := C
  have hr : meth.sig.returnType = none := hr
  show J p l e rm_Layers_shape s m args below meth c D A (va_D A) 6 (MQ below (QcV D (fun _ : Nat => wLy cI cR a n res) A) args s 0 0 A) 0 0 (wLy cI cR a n L) [(0, .ref (a 0)), (1, .int p1), (2, .int p2), (3, .int p3), (4, .int p4), (5, .int p5)] [] 0
  unfold Layers_shape at h
  refine j_aload_n C 0 d_Layers_shape_0 rfl ?_
  refine j_iload_n C 1 d_Layers_shape_1 rfl ?_
  refine pf_Layers_30 C 0 (wLy cI cR a n (Lf L 0 p1)) rfl rfl rfl d_Layers_shape_2 ?_
  refine j_aload_n C 0 d_Layers_shape_5 rfl ?_
  refine j_iload_n C 2 d_Layers_shape_6 rfl ?_
  refine pf_Layers_33 C 0 (wLy cI cR a n (Lf (Lf L 0 p1) 1 p2)) rfl rfl rfl d_Layers_shape_7 ?_
  refine j_aload_n C 0 d_Layers_shape_10 rfl ?_
  refine j_iload_n C 3 d_Layers_shape_11 rfl ?_
  refine pf_Layers_36 C 0 (wLy cI cR a n (Lf (Lf (Lf L 0 p1) 1 p2) 2 p3)) rfl rfl rfl d_Layers_shape_12 ?_
  refine j_aload_n C 0 d_Layers_shape_15 rfl ?_
  refine j_iload C 4 d_Layers_shape_16 rfl ?_
  refine pf_Layers_39 C 0 (wLy cI cR a n (Lf (Lf (Lf (Lf L 0 p1) 1 p2) 2 p3) 4 p4)) rfl rfl rfl d_Layers_shape_18 ?_
  refine j_aload_n C 0 d_Layers_shape_21 rfl ?_
  refine j_iload C 5 d_Layers_shape_22 rfl ?_
  refine pf_Layers_42 C 0 (wLy cI cR a n (Lf (Lf (Lf (Lf (Lf L 0 p1) 1 p2) 2 p3) 4 p4) 5 p5)) rfl rfl rfl d_Layers_shape_24 ?_
  obtain rfl := Option.some.inj h
  exact j_vret C hr d_Layers_shape_27 0 rfl
def Layers_add (n : Nat) (L : LyS) (p1 : Int32) (p2 : Int32) : Option (LyS) :=
  (Layers_holdsStripe n L p1).bind fun r1 =>
  (if r1 = 0 then some (L)
  else gd p1 24 (gd p1 24 (some (Lf (Ls L 4 p1.toNatClampNeg ((L.2 4 p1.toNatClampNeg) ||| ((1 : Int32) <<< (p2 &&& 31)))) 3 (((Ls L 4 p1.toNatClampNeg ((L.2 4 p1.toNatClampNeg) ||| ((1 : Int32) <<< (p2 &&& 31)))).1 3) + 1)))))
set_option maxRecDepth 100000 in
set_option maxHeartbeats 4000000 in
theorem c_Layers_add (l : Launch) (D : va_G) (cI cR cZ : ClassId) (a : (Nat → Nat)) (n : Nat) (L : LyS) (p1 : Int32) (p2 : Int32) {res : (LyS)} (h : Layers_add n L p1 p2 = some res) (sz : Nat) : Met l y_Layers_add (Cond.code y_Layers_add b_Layers_add 3 none :: BIG) rm_Layers_add (PcI [.ref (a 0), .int p1, .int p2] D (tyG cI cR cZ) (wLy cI cR a n L) sz) (QcV D (fun _ : Nat => wLy cI cR a n res) (va_A (wLy cI cR a n L) sz)) 0 0 (va_A (wLy cI cR a n L) sz) := by
  refine met_V (by decide) (Nat.le_of_ble_eq_true rfl) (fun p e s m args below meth c A hA C hr => ?_)
  have C : Cx p s m args meth c D (tyG cI cR cZ) b_Layers_add 3 "MaskLayers$Layers" := C
  have hr : meth.sig.returnType = none := hr
  show J p l e rm_Layers_add s m args below meth c D A (va_D A) 3 (MQ below (QcV D (fun _ : Nat => wLy cI cR a n res) A) args s 0 0 A) 0 0 (wLy cI cR a n L) [(0, .ref (a 0)), (1, .int p1), (2, .int p2)] [] 0
  unfold Layers_add at h
  refine j_aload_n C 0 d_Layers_add_0 rfl ?_
  refine j_iload_n C 1 d_Layers_add_1 rfl ?_
  obtain ⟨r1, hr1, h⟩ := bd_ok h
  refine j_PV C [.int p1] 0 rfl rfl (c_Layers_holdsStripe l D cI cR cZ a n L p1 hr1) (cw_Layers_45 C ⟨Nat.le_of_ble_eq_true rfl, Nat.le_of_ble_eq_true rfl⟩) [0, 1, 2, 3, 4, 5, 6] rfl rfl rfl (Nat.le_of_ble_eq_true rfl) d_Layers_add_2 (by decide) ?_
  refine j_if_eq C 30 d_Layers_add_5 (by decide) (fun c4 => ?_) (fun c4 => ?_)
  · replace h := (if_pos c4).symm.trans h
    obtain rfl := Option.some.inj h
    exact j_vret C hr d_Layers_add_30 0 rfl
  · replace h := (if_neg c4).symm.trans h
    refine j_aload_n C 0 d_Layers_add_8 rfl ?_
    refine gf_Layers_16 C 0 (v := .ref (a 6)) rfl rfl d_Layers_add_9 ?_
    refine j_iload_n C 1 d_Layers_add_12 rfl ?_
    refine j_dup2 C d_Layers_add_13 rfl rfl ?_
    obtain ⟨b2, h⟩ := gd_ok h
    refine j_iald C (6) (t0 := 0) rfl rfl b2 d_Layers_add_14 ?_
    refine j_iconst C (v := 1) d_Layers_add_15 (by decide) ?_
    refine j_iload_n C 2 d_Layers_add_16 rfl ?_
    refine j_ishl C d_Layers_add_17 ?_
    refine j_ior C d_Layers_add_18 ?_
    obtain ⟨b3, h⟩ := gd_ok h
    refine j_iast C (6) (wLy cI cR a n (Ls L 4 p1.toNatClampNeg ((L.2 4 p1.toNatClampNeg) ||| ((1 : Int32) <<< (p2 &&& 31))))) (t0 := 0) rfl rfl rfl b3 d_Layers_add_19 ?_
    refine j_aload_n C 0 d_Layers_add_20 rfl ?_
    refine j_dup C d_Layers_add_21 rfl ?_
    refine gf_Layers_26 C 0 (v := .int ((Ls L 4 p1.toNatClampNeg ((L.2 4 p1.toNatClampNeg) ||| ((1 : Int32) <<< (p2 &&& 31)))).1 3)) rfl rfl d_Layers_add_22 ?_
    refine j_iconst C (v := 1) d_Layers_add_25 (by decide) ?_
    refine j_iadd C d_Layers_add_26 ?_
    refine pf_Layers_26 C 0 (wLy cI cR a n (Lf (Ls L 4 p1.toNatClampNeg ((L.2 4 p1.toNatClampNeg) ||| ((1 : Int32) <<< (p2 &&& 31)))) 3 (((Ls L 4 p1.toNatClampNeg ((L.2 4 p1.toNatClampNeg) ||| ((1 : Int32) <<< (p2 &&& 31)))).1 3) + 1))) rfl rfl rfl d_Layers_add_27 ?_
    obtain rfl := Option.some.inj h
    exact j_vret C hr d_Layers_add_30 0 rfl
def Layers_set (n : Nat) (L : LyS) (p1 : Int32) (p2 : Int32) (p3 : Int32) : Option (LyS) :=
  (Layers_holdsPlace n L p1 p2).bind fun r1 =>
  (if r1 = 0 then some (L)
  else gd p1 4 (gd p2 n (some (Ls L p1.toNatClampNeg p2.toNatClampNeg p3))))
set_option maxRecDepth 100000 in
set_option maxHeartbeats 4000000 in
theorem c_Layers_set (l : Launch) (D : va_G) (cI cR cZ : ClassId) (a : (Nat → Nat)) (n : Nat) (L : LyS) (p1 : Int32) (p2 : Int32) (p3 : Int32) {res : (LyS)} (h : Layers_set n L p1 p2 p3 = some res) (sz : Nat) : Met l y_Layers_set (Cond.code y_Layers_set b_Layers_set 4 none :: BIG) rm_Layers_set (PcI [.ref (a 0), .int p1, .int p2, .int p3] D (tyG cI cR cZ) (wLy cI cR a n L) sz) (QcV D (fun _ : Nat => wLy cI cR a n res) (va_A (wLy cI cR a n L) sz)) 0 0 (va_A (wLy cI cR a n L) sz) := by
  refine met_V (by decide) (Nat.le_of_ble_eq_true rfl) (fun p e s m args below meth c A hA C hr => ?_)
  have C : Cx p s m args meth c D (tyG cI cR cZ) b_Layers_set 4 "MaskLayers$Layers" := C
  have hr : meth.sig.returnType = none := hr
  show J p l e rm_Layers_set s m args below meth c D A (va_D A) 4 (MQ below (QcV D (fun _ : Nat => wLy cI cR a n res) A) args s 0 0 A) 0 0 (wLy cI cR a n L) [(0, .ref (a 0)), (1, .int p1), (2, .int p2), (3, .int p3)] [] 0
  unfold Layers_set at h
  refine j_aload_n C 0 d_Layers_set_0 rfl ?_
  refine j_iload_n C 1 d_Layers_set_1 rfl ?_
  refine j_iload_n C 2 d_Layers_set_2 rfl ?_
  obtain ⟨r1, hr1, h⟩ := bd_ok h
  refine j_PV C [.int p1, .int p2] 0 rfl rfl (c_Layers_holdsPlace l D cI cR cZ a n L p1 p2 hr1) (cw_Layers_49 C ⟨Nat.le_of_ble_eq_true rfl, Nat.le_of_ble_eq_true rfl⟩) [0, 1, 2, 3, 4, 5, 6] rfl rfl rfl (Nat.le_of_ble_eq_true rfl) d_Layers_set_3 (by decide) ?_
  refine j_if_eq C 18 d_Layers_set_6 (by decide) (fun c4 => ?_) (fun c4 => ?_)
  · replace h := (if_pos c4).symm.trans h
    obtain rfl := Option.some.inj h
    exact j_vret C hr d_Layers_set_18 0 rfl
  · replace h := (if_neg c4).symm.trans h
    refine j_aload_n C 0 d_Layers_set_9 rfl ?_
    refine gf_Layers_11 C 0 (v := .ref (a 1)) rfl rfl d_Layers_set_10 ?_
    refine j_iload_n C 1 d_Layers_set_13 rfl ?_
    obtain ⟨b2, h⟩ := gd_ok h
    refine j_aald C 1 (t0 := 2) rfl rfl b2 d_Layers_set_14 ?_
    refine j_iload_n C 2 d_Layers_set_15 rfl ?_
    refine j_iload_n C 3 d_Layers_set_16 rfl ?_
    obtain ⟨b3, h⟩ := gd_ok h
    refine j_iast C (2 + p1.toNatClampNeg) (wLy cI cR a n (Ls L p1.toNatClampNeg p2.toNatClampNeg p3)) (t0 := 0) (co_4 (P := fun k => (wLy cI cR a n L)[2 + k]? = some (a (2 + k), .inl (cI, n, .inl (L.2 k)))) rfl rfl rfl rfl (in_lt b2)) (co_4 (P := fun k => (wLy cI cR a n L).set (2 + k) (a (2 + k), .inl (cI, n, .inl (upd (L.2 k) p2.toNatClampNeg p3))) = wLy cI cR a n (Ls L k p2.toNatClampNeg p3)) rfl rfl rfl rfl (in_lt b2)) rfl b3 d_Layers_set_17 ?_
    obtain rfl := Option.some.inj h
    exact j_vret C hr d_Layers_set_18 0 rfl
