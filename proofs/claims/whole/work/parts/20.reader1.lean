def Reader_mayEnd (n : Nat) (B : ByS) (pl : Int32) (rf : Int32) (hd : (Nat → Int32)) (L : LyS) (p1 : Int32) : Option Int32 :=
  (Layers_has n L p1 2).bind fun r1 =>
  (if r1 = 0 then (Layers_has n L p1 0).bind fun r3 =>
  (if r3 = 0 then zb 0 (some 0)
  else (Layers_has n L p1 1).bind fun r5 =>
  (if r5 = 0 then zb 1 (some 1)
  else zb 0 (some 0)))
  else zb 1 (some 1))
set_option maxRecDepth 100000 in
set_option maxHeartbeats 4000000 in
theorem c_Reader_mayEnd (l : Launch) (D : va_G) (cI cR cZ : ClassId) (o0 : Nat) (hh : Nat) (b : Nat) (q : Nat) (a : (Nat → Nat)) (n : Nat) (B : ByS) (pl : Int32) (rf : Int32) (hd : (Nat → Int32)) (L : LyS) (p1 : Int32) {res : Int32} (h : Reader_mayEnd n B pl rf hd L p1 = some res) : Met l y_Reader_mayEnd (Cond.code y_Reader_mayEnd b_Reader_mayEnd 2 (some .boolean) :: BIG) rm_Reader_mayEnd (PcP [.ref o0, .int p1] D (tyG cI cR cZ) (wRd cI cR o0 hh b q a n B pl rf hd L)) (QcP res) 0 0 no := by
  refine met_P (by decide) (Nat.le_of_ble_eq_true rfl) (fun p e s m args below meth c C hr => ?_)
  have C : Cx p s m args meth c D (tyG cI cR cZ) b_Reader_mayEnd 2 "MaskLayers$Reader" := C
  have hr : meth.sig.returnType = some .boolean := hr
  show J p l e rm_Reader_mayEnd s m args below meth c D no (fun _ => True) 2 (MQ below (QcP res) args s 0 0 no) 0 0 (wRd cI cR o0 hh b q a n B pl rf hd L) [(0, .ref o0), (1, .int p1)] [] 0
  unfold Reader_mayEnd at h
  refine j_aload_n C 0 d_Reader_mayEnd_0 rfl ?_
  refine gf_Reader_15 C 0 (v := .ref (a 0)) rfl rfl d_Reader_mayEnd_1 ?_
  refine j_iload_n C 1 d_Reader_mayEnd_4 rfl ?_
  refine j_iconst C (v := 2) d_Reader_mayEnd_5 (by decide) ?_
  obtain ⟨r1, hr1, h⟩ := bd_ok h
  refine j_PV C [.int p1, .int 2] 4 rfl rfl (c_Layers_has l D cI cR cZ a n L p1 2 hr1) (cw_Reader_83 C ⟨Nat.le_of_ble_eq_true rfl, Nat.le_of_ble_eq_true rfl⟩) [4, 5, 6, 7, 8, 9, 10] rfl rfl rfl (Nat.le_of_ble_eq_true rfl) d_Reader_mayEnd_6 (by decide) ?_
  refine j_if_ne C 36 d_Reader_mayEnd_9 (by decide) (fun c10 => ?_) (fun c10 => ?_)
  · replace h := (if_neg c10).symm.trans h
    refine j_iconst C (v := 1) d_Reader_mayEnd_36 (by decide) ?_
    refine j_goto C 41 d_Reader_mayEnd_37 (by decide) ?_
    obtain ⟨b2, h⟩ := zb_ok h
    obtain rfl := Option.some.inj h
    exact j_pretZ C hr d_Reader_mayEnd_41 b2
  · replace h := (if_pos c10).symm.trans h
    refine j_aload_n C 0 d_Reader_mayEnd_12 rfl ?_
    refine gf_Reader_15 C 0 (v := .ref (a 0)) rfl rfl d_Reader_mayEnd_13 ?_
    refine j_iload_n C 1 d_Reader_mayEnd_16 rfl ?_
    refine j_iconst C (v := 0) d_Reader_mayEnd_17 (by decide) ?_
    obtain ⟨r3, hr3, h⟩ := bd_ok h
    refine j_PV C [.int p1, .int 0] 4 rfl rfl (c_Layers_has l D cI cR cZ a n L p1 0 hr3) (cw_Reader_83 C ⟨Nat.le_of_ble_eq_true rfl, Nat.le_of_ble_eq_true rfl⟩) [4, 5, 6, 7, 8, 9, 10] rfl rfl rfl (Nat.le_of_ble_eq_true rfl) d_Reader_mayEnd_18 (by decide) ?_
    refine j_if_eq C 40 d_Reader_mayEnd_21 (by decide) (fun c9 => ?_) (fun c9 => ?_)
    · replace h := (if_pos c9).symm.trans h
      refine j_iconst C (v := 0) d_Reader_mayEnd_40 (by decide) ?_
      obtain ⟨b4, h⟩ := zb_ok h
      obtain rfl := Option.some.inj h
      exact j_pretZ C hr d_Reader_mayEnd_41 b4
    · replace h := (if_neg c9).symm.trans h
      refine j_aload_n C 0 d_Reader_mayEnd_24 rfl ?_
      refine gf_Reader_15 C 0 (v := .ref (a 0)) rfl rfl d_Reader_mayEnd_25 ?_
      refine j_iload_n C 1 d_Reader_mayEnd_28 rfl ?_
      refine j_iconst C (v := 1) d_Reader_mayEnd_29 (by decide) ?_
      obtain ⟨r5, hr5, h⟩ := bd_ok h
      refine j_PV C [.int p1, .int 1] 4 rfl rfl (c_Layers_has l D cI cR cZ a n L p1 1 hr5) (cw_Reader_83 C ⟨Nat.le_of_ble_eq_true rfl, Nat.le_of_ble_eq_true rfl⟩) [4, 5, 6, 7, 8, 9, 10] rfl rfl rfl (Nat.le_of_ble_eq_true rfl) d_Reader_mayEnd_30 (by decide) ?_
      refine j_if_ne C 40 d_Reader_mayEnd_33 (by decide) (fun c8 => ?_) (fun c8 => ?_)
      · replace h := (if_neg c8).symm.trans h
        refine j_iconst C (v := 0) d_Reader_mayEnd_40 (by decide) ?_
        obtain ⟨b6, h⟩ := zb_ok h
        obtain rfl := Option.some.inj h
        exact j_pretZ C hr d_Reader_mayEnd_41 b6
      · replace h := (if_pos c8).symm.trans h
        refine j_iconst C (v := 1) d_Reader_mayEnd_36 (by decide) ?_
        refine j_goto C 41 d_Reader_mayEnd_37 (by decide) ?_
        obtain ⟨b7, h⟩ := zb_ok h
        obtain rfl := Option.some.inj h
        exact j_pretZ C hr d_Reader_mayEnd_41 b7
def Reader_mayFollow (n : Nat) (B : ByS) (pl : Int32) (rf : Int32) (hd : (Nat → Int32)) (L : LyS) (p1 : Int32) (p2 : Int32) : Option Int32 :=
  (if p2 = 2 then (Layers_has n L p1 1).bind fun r14 =>
  zb r14 (some r14)
  else (if p2 = 3 then (Layers_has n L p1 0).bind fun r6 =>
  (if r6 = 0 then (Layers_has n L p1 2).bind fun r8 =>
  (if r8 = 0 then zb 0 (some 0)
  else zb 1 (some 1))
  else zb 1 (some 1))
  else (if p2 = 0 then zb 1 (some 1)
  else (if p2 = 1 then zb 1 (some 1)
  else zb 0 (some 0)))))
set_option maxRecDepth 100000 in
set_option maxHeartbeats 4000000 in
theorem c_Reader_mayFollow (l : Launch) (D : va_G) (cI cR cZ : ClassId) (o0 : Nat) (hh : Nat) (b : Nat) (q : Nat) (a : (Nat → Nat)) (n : Nat) (B : ByS) (pl : Int32) (rf : Int32) (hd : (Nat → Int32)) (L : LyS) (p1 : Int32) (p2 : Int32) {res : Int32} (h : Reader_mayFollow n B pl rf hd L p1 p2 = some res) : Met l y_Reader_mayFollow (Cond.code y_Reader_mayFollow b_Reader_mayFollow 3 (some .boolean) :: BIG) rm_Reader_mayFollow (PcP [.ref o0, .int p1, .int p2] D (tyG cI cR cZ) (wRd cI cR o0 hh b q a n B pl rf hd L)) (QcP res) 0 0 no := by
  refine met_P (by decide) (Nat.le_of_ble_eq_true rfl) (fun p e s m args below meth c C hr => ?_)
  have C : Cx p s m args meth c D (tyG cI cR cZ) b_Reader_mayFollow 3 "MaskLayers$Reader" := C
  have hr : meth.sig.returnType = some .boolean := hr
  show J p l e rm_Reader_mayFollow s m args below meth c D no (fun _ => True) 3 (MQ below (QcP res) args s 0 0 no) 0 0 (wRd cI cR o0 hh b q a n B pl rf hd L) [(0, .ref o0), (1, .int p1), (2, .int p2)] [] 0
  unfold Reader_mayFollow at h
  refine j_iload_n C 2 d_Reader_mayFollow_0 rfl ?_
  refine j_iconst C (v := 2) d_Reader_mayFollow_1 (by decide) ?_
  refine j_icmp_ne C 15 d_Reader_mayFollow_2 (by decide) (fun c16 => ?_) (fun c16 => ?_)
  · replace h := (if_neg c16).symm.trans h
    refine j_iload_n C 2 d_Reader_mayFollow_15 rfl ?_
    refine j_iconst C (v := 3) d_Reader_mayFollow_16 (by decide) ?_
    refine j_icmp_ne C 50 d_Reader_mayFollow_17 (by decide) (fun c13 => ?_) (fun c13 => ?_)
    · replace h := (if_neg c13).symm.trans h
      refine j_iload_n C 2 d_Reader_mayFollow_50 rfl ?_
      refine j_if_eq C 59 d_Reader_mayFollow_51 (by decide) (fun c5 => ?_) (fun c5 => ?_)
      · replace h := (if_pos c5).symm.trans h
        refine j_iconst C (v := 1) d_Reader_mayFollow_59 (by decide) ?_
        refine j_goto C 64 d_Reader_mayFollow_60 (by decide) ?_
        obtain ⟨b1, h⟩ := zb_ok h
        obtain rfl := Option.some.inj h
        exact j_pretZ C hr d_Reader_mayFollow_64 b1
      · replace h := (if_neg c5).symm.trans h
        refine j_iload_n C 2 d_Reader_mayFollow_54 rfl ?_
        refine j_iconst C (v := 1) d_Reader_mayFollow_55 (by decide) ?_
        refine j_icmp_ne C 63 d_Reader_mayFollow_56 (by decide) (fun c4 => ?_) (fun c4 => ?_)
        · replace h := (if_neg c4).symm.trans h
          refine j_iconst C (v := 0) d_Reader_mayFollow_63 (by decide) ?_
          obtain ⟨b2, h⟩ := zb_ok h
          obtain rfl := Option.some.inj h
          exact j_pretZ C hr d_Reader_mayFollow_64 b2
        · replace h := (if_pos c4).symm.trans h
          refine j_iconst C (v := 1) d_Reader_mayFollow_59 (by decide) ?_
          refine j_goto C 64 d_Reader_mayFollow_60 (by decide) ?_
          obtain ⟨b3, h⟩ := zb_ok h
          obtain rfl := Option.some.inj h
          exact j_pretZ C hr d_Reader_mayFollow_64 b3
    · replace h := (if_pos c13).symm.trans h
      refine j_aload_n C 0 d_Reader_mayFollow_20 rfl ?_
      refine gf_Reader_15 C 0 (v := .ref (a 0)) rfl rfl d_Reader_mayFollow_21 ?_
      refine j_iload_n C 1 d_Reader_mayFollow_24 rfl ?_
      refine j_iconst C (v := 0) d_Reader_mayFollow_25 (by decide) ?_
      obtain ⟨r6, hr6, h⟩ := bd_ok h
      refine j_PV C [.int p1, .int 0] 4 rfl rfl (c_Layers_has l D cI cR cZ a n L p1 0 hr6) (cw_Reader_83 C ⟨Nat.le_of_ble_eq_true rfl, Nat.le_of_ble_eq_true rfl⟩) [4, 5, 6, 7, 8, 9, 10] rfl rfl rfl (Nat.le_of_ble_eq_true rfl) d_Reader_mayFollow_26 (by decide) ?_
      refine j_if_ne C 44 d_Reader_mayFollow_29 (by decide) (fun c12 => ?_) (fun c12 => ?_)
      · replace h := (if_neg c12).symm.trans h
        refine j_iconst C (v := 1) d_Reader_mayFollow_44 (by decide) ?_
        refine j_goto C 49 d_Reader_mayFollow_45 (by decide) ?_
        obtain ⟨b7, h⟩ := zb_ok h
        obtain rfl := Option.some.inj h
        exact j_pretZ C hr d_Reader_mayFollow_49 b7
      · replace h := (if_pos c12).symm.trans h
        refine j_aload_n C 0 d_Reader_mayFollow_32 rfl ?_
        refine gf_Reader_15 C 0 (v := .ref (a 0)) rfl rfl d_Reader_mayFollow_33 ?_
        refine j_iload_n C 1 d_Reader_mayFollow_36 rfl ?_
        refine j_iconst C (v := 2) d_Reader_mayFollow_37 (by decide) ?_
        obtain ⟨r8, hr8, h⟩ := bd_ok h
        refine j_PV C [.int p1, .int 2] 4 rfl rfl (c_Layers_has l D cI cR cZ a n L p1 2 hr8) (cw_Reader_83 C ⟨Nat.le_of_ble_eq_true rfl, Nat.le_of_ble_eq_true rfl⟩) [4, 5, 6, 7, 8, 9, 10] rfl rfl rfl (Nat.le_of_ble_eq_true rfl) d_Reader_mayFollow_38 (by decide) ?_
        refine j_if_eq C 48 d_Reader_mayFollow_41 (by decide) (fun c11 => ?_) (fun c11 => ?_)
        · replace h := (if_pos c11).symm.trans h
          refine j_iconst C (v := 0) d_Reader_mayFollow_48 (by decide) ?_
          obtain ⟨b9, h⟩ := zb_ok h
          obtain rfl := Option.some.inj h
          exact j_pretZ C hr d_Reader_mayFollow_49 b9
        · replace h := (if_neg c11).symm.trans h
          refine j_iconst C (v := 1) d_Reader_mayFollow_44 (by decide) ?_
          refine j_goto C 49 d_Reader_mayFollow_45 (by decide) ?_
          obtain ⟨b10, h⟩ := zb_ok h
          obtain rfl := Option.some.inj h
          exact j_pretZ C hr d_Reader_mayFollow_49 b10
  · replace h := (if_pos c16).symm.trans h
    refine j_aload_n C 0 d_Reader_mayFollow_5 rfl ?_
    refine gf_Reader_15 C 0 (v := .ref (a 0)) rfl rfl d_Reader_mayFollow_6 ?_
    refine j_iload_n C 1 d_Reader_mayFollow_9 rfl ?_
    refine j_iconst C (v := 1) d_Reader_mayFollow_10 (by decide) ?_
    obtain ⟨r14, hr14, h⟩ := bd_ok h
    refine j_PV C [.int p1, .int 1] 4 rfl rfl (c_Layers_has l D cI cR cZ a n L p1 1 hr14) (cw_Reader_83 C ⟨Nat.le_of_ble_eq_true rfl, Nat.le_of_ble_eq_true rfl⟩) [4, 5, 6, 7, 8, 9, 10] rfl rfl rfl (Nat.le_of_ble_eq_true rfl) d_Reader_mayFollow_11 (by decide) ?_
    obtain ⟨b15, h⟩ := zb_ok h
    obtain rfl := Option.some.inj h
    exact j_pretZ C hr d_Reader_mayFollow_14 b15
def Reader_refuse (n : Nat) (B : ByS) (pl : Int32) (rf : Int32) (hd : (Nat → Int32)) (L : LyS) (p1 : Int32) : Option (Int32 × Int32) :=
  zb 0 (some (0, p1))
set_option maxRecDepth 100000 in
set_option maxHeartbeats 4000000 in
theorem c_Reader_refuse (l : Launch) (D : va_G) (cI cR cZ : ClassId) (o0 : Nat) (hh : Nat) (b : Nat) (q : Nat) (a : (Nat → Nat)) (n : Nat) (B : ByS) (pl : Int32) (rf : Int32) (hd : (Nat → Int32)) (L : LyS) (p1 : Int32) {res : (Int32 × Int32)} (h : Reader_refuse n B pl rf hd L p1 = some res) (sz : Nat) : Met l y_Reader_refuse (Cond.code y_Reader_refuse b_Reader_refuse 2 (some .boolean) :: BIG) rm_Reader_refuse (PcI [.ref o0, .int p1] D (tyG cI cR cZ) (wRd cI cR o0 hh b q a n B pl rf hd L) sz) (QcI D res.1 (fun _ : Nat => wRd cI cR o0 hh b q a n B pl res.2 hd L) (va_A (wRd cI cR o0 hh b q a n B pl rf hd L) sz)) 0 0 (va_A (wRd cI cR o0 hh b q a n B pl rf hd L) sz) := by
  refine met_I (by decide) (Nat.le_of_ble_eq_true rfl) (fun p e s m args below meth c A hA C hr => ?_)
  have C : Cx p s m args meth c D (tyG cI cR cZ) b_Reader_refuse 2 "MaskLayers$Reader" := C
  have hr : meth.sig.returnType = some .boolean := hr
  show J p l e rm_Reader_refuse s m args below meth c D A (va_D A) 2 (MQ below (QcI D res.1 (fun _ : Nat => wRd cI cR o0 hh b q a n B pl res.2 hd L) A) args s 0 0 A) 0 0 (wRd cI cR o0 hh b q a n B pl rf hd L) [(0, .ref o0), (1, .int p1)] [] 0
  unfold Reader_refuse at h
  refine j_aload_n C 0 d_Reader_refuse_0 rfl ?_
  refine j_iload_n C 1 d_Reader_refuse_1 rfl ?_
  refine pf_Reader_56 C 0 (wRd cI cR o0 hh b q a n B pl p1 hd L) rfl rfl rfl d_Reader_refuse_2 ?_
  refine j_iconst C (v := 0) d_Reader_refuse_5 (by decide) ?_
  obtain ⟨b1, h⟩ := zb_ok h
  obtain rfl := Option.some.inj h
  exact j_iretZ C hr d_Reader_refuse_6 b1 0 rfl
def Reader_take_b30 (n : Nat) (B : ByS) (pl : Int32) (rf : Int32) (hd : (Nat → Int32)) (L : LyS) (v1 : Int32) (v2 : Int32) (s0 : Int32) : Option (Int32 × Int32 × Int32) :=
  (if s0 < v1 then some ((-1), pl, pl)
  else (if s0 ≤ v2 then some (s0, pl + 1, rf)
  else some ((-1), pl, pl)))
def Reader_take (n : Nat) (B : ByS) (pl : Int32) (rf : Int32) (hd : (Nat → Int32)) (L : LyS) (p1 : Int32) (p2 : Int32) : Option (Int32 × Int32 × Int32) :=
  (if B.1 ≤ pl then Reader_take_b30 n B pl rf hd L p1 p2 ((-1))
  else gd pl B.2.1 (Reader_take_b30 n B pl rf hd L p1 p2 (B.2.2 pl.toNatClampNeg)))
set_option maxRecDepth 100000 in
set_option maxHeartbeats 4000000 in
theorem t_Reader_take_b30 {p : Program} {l : Launch} {e : Env} {s : State} {m : MethodId} {args : Array Value} {below : List Frame} {meth : Method} {c : Code} {D : va_G} {cI cR cZ : ClassId} {A : Nat → Prop} (C : Cx p s m args meth c D (tyG cI cR cZ) b_Reader_take 4 "MaskLayers$Reader") (hr : meth.sig.returnType = some .int) (hA : ∀ q : Nat, s.heap.size ≤ q → A q) {o0 : Nat} {hh : Nat} {b : Nat} {q : Nat} {a : (Nat → Nat)} {n : Nat} {B : ByS} {pl : Int32} {rf : Int32} {hd : (Nat → Int32)} {L : LyS} {v1 : Int32} {v2 : Int32} {s0 : Int32} {res : (Int32 × Int32 × Int32)} (h : Reader_take_b30 n B pl rf hd L v1 v2 s0 = some res) : J p l e rm_Reader_take s m args below meth c D A (va_D A) 4 (MQ below (QcI D res.1 (fun _ : Nat => wRd cI cR o0 hh b q a n B res.2.1 res.2.2 hd L) A) args s 0 0 A) 0 0 (wRd cI cR o0 hh b q a n B pl rf hd L) [(0, .ref o0), (1, .int v1), (2, .int v2)] [.int s0] 30 := by
  unfold Reader_take_b30 at h
  refine j_istore_n C [(3, .int s0), (0, .ref o0), (1, .int v1), (2, .int v2)] d_Reader_take_30 (by decide) rfl ?_
  refine j_iload_n C 0 d_Reader_take_31 rfl ?_
  refine j_iload_n C 2 d_Reader_take_32 rfl ?_
  refine j_icmp_lt C 41 d_Reader_take_33 (by decide) (fun c2 => ?_) (fun c2 => ?_)
  · replace h := (if_pos c2).symm.trans h
    refine j_aload_n C 1 d_Reader_take_41 rfl ?_
    refine j_aload_n C 1 d_Reader_take_42 rfl ?_
    refine gf_Reader_26 C 0 (v := .int pl) rfl rfl d_Reader_take_43 ?_
    refine pf_Reader_56 C 0 (wRd cI cR o0 hh b q a n B pl pl hd L) rfl rfl rfl d_Reader_take_46 ?_
    refine j_iconst C (v := (-1)) d_Reader_take_49 (by decide) ?_
    obtain rfl := Option.some.inj h
    exact j_iret C hr d_Reader_take_50 0 rfl
  · replace h := (if_neg c2).symm.trans h
    refine j_iload_n C 0 d_Reader_take_36 rfl ?_
    refine j_iload_n C 3 d_Reader_take_37 rfl ?_
    refine j_icmp_le C 51 d_Reader_take_38 (by decide) (fun c1 => ?_) (fun c1 => ?_)
    · replace h := (if_pos c1).symm.trans h
      refine j_aload_n C 1 d_Reader_take_51 rfl ?_
      refine j_dup C d_Reader_take_52 rfl ?_
      refine gf_Reader_26 C 0 (v := .int pl) rfl rfl d_Reader_take_53 ?_
      refine j_iconst C (v := 1) d_Reader_take_56 (by decide) ?_
      refine j_iadd C d_Reader_take_57 ?_
      refine pf_Reader_26 C 0 (wRd cI cR o0 hh b q a n B (pl + 1) rf hd L) rfl rfl rfl d_Reader_take_58 ?_
      refine j_iload_n C 0 d_Reader_take_61 rfl ?_
      obtain rfl := Option.some.inj h
      exact j_iret C hr d_Reader_take_62 0 rfl
    · replace h := (if_neg c1).symm.trans h
      refine j_aload_n C 1 d_Reader_take_41 rfl ?_
      refine j_aload_n C 1 d_Reader_take_42 rfl ?_
      refine gf_Reader_26 C 0 (v := .int pl) rfl rfl d_Reader_take_43 ?_
      refine pf_Reader_56 C 0 (wRd cI cR o0 hh b q a n B pl pl hd L) rfl rfl rfl d_Reader_take_46 ?_
      refine j_iconst C (v := (-1)) d_Reader_take_49 (by decide) ?_
      obtain rfl := Option.some.inj h
      exact j_iret C hr d_Reader_take_50 0 rfl
set_option maxRecDepth 100000 in
set_option maxHeartbeats 4000000 in
theorem c_Reader_take (l : Launch) (D : va_G) (cI cR cZ : ClassId) (o0 : Nat) (hh : Nat) (b : Nat) (q : Nat) (a : (Nat → Nat)) (n : Nat) (B : ByS) (pl : Int32) (rf : Int32) (hd : (Nat → Int32)) (L : LyS) (p1 : Int32) (p2 : Int32) {res : (Int32 × Int32 × Int32)} (h : Reader_take n B pl rf hd L p1 p2 = some res) (sz : Nat) : Met l y_Reader_take (Cond.code y_Reader_take b_Reader_take 4 (some .int) :: BIG) rm_Reader_take (PcI [.ref o0, .int p1, .int p2] D (tyG cI cR cZ) (wRd cI cR o0 hh b q a n B pl rf hd L) sz) (QcI D res.1 (fun _ : Nat => wRd cI cR o0 hh b q a n B res.2.1 res.2.2 hd L) (va_A (wRd cI cR o0 hh b q a n B pl rf hd L) sz)) 0 0 (va_A (wRd cI cR o0 hh b q a n B pl rf hd L) sz) := by
  refine met_I (by decide) (Nat.le_of_ble_eq_true rfl) (fun p e s m args below meth c A hA C hr => ?_)
  have C : Cx p s m args meth c D (tyG cI cR cZ) b_Reader_take 4 "MaskLayers$Reader" := C
  have hr : meth.sig.returnType = some .int := hr
  show J p l e rm_Reader_take s m args below meth c D A (va_D A) 4 (MQ below (QcI D res.1 (fun _ : Nat => wRd cI cR o0 hh b q a n B res.2.1 res.2.2 hd L) A) args s 0 0 A) 0 0 (wRd cI cR o0 hh b q a n B pl rf hd L) [(0, .ref o0), (1, .int p1), (2, .int p2)] [] 0
  unfold Reader_take at h
  refine j_aload_n C 0 d_Reader_take_0 rfl ?_
  refine gf_Reader_26 C 0 (v := .int pl) rfl rfl d_Reader_take_1 ?_
  refine j_aload_n C 0 d_Reader_take_4 rfl ?_
  refine gf_Reader_9 C 0 (v := .ref b) rfl rfl d_Reader_take_5 ?_
  refine gf_Reader_47 C 2 (v := .int B.1) rfl rfl d_Reader_take_8 ?_
  refine j_icmp_ge C 29 d_Reader_take_11 (by decide) (fun c4 => ?_) (fun c4 => ?_)
  · replace h := (if_pos c4).symm.trans h
    refine j_iconst C (v := (-1)) d_Reader_take_29 (by decide) ?_
    refine j_sub [0, 1, 2] rfl ?_
    exact t_Reader_take_b30 C hr hA h
  · replace h := (if_neg c4).symm.trans h
    refine j_aload_n C 0 d_Reader_take_14 rfl ?_
    refine gf_Reader_9 C 0 (v := .ref b) rfl rfl d_Reader_take_15 ?_
    refine gf_Reader_59 C 2 (v := .ref q) rfl rfl d_Reader_take_18 ?_
    refine j_aload_n C 0 d_Reader_take_21 rfl ?_
    refine gf_Reader_26 C 0 (v := .int pl) rfl rfl d_Reader_take_22 ?_
    obtain ⟨b3, h⟩ := gd_ok h
    refine j_iald C (3) (t0 := 0) rfl rfl b3 d_Reader_take_25 ?_
    refine j_goto C 30 d_Reader_take_26 (by decide) ?_
    refine j_sub [0, 1, 2] rfl ?_
    exact t_Reader_take_b30 C hr hA h
def Reader_takeValue_b56 (n : Nat) (B : ByS) (pl : Int32) (rf : Int32) (hd : (Nat → Int32)) (L : LyS) (v2 : Int32) (v3 : Int32) (s0 : Int32) : Option (Int32 × Int32 × Int32) :=
  (if s0 = ((-1)) then some ((-1), pl, rf)
  else (ML_colourOf v2 v3 s0).bind fun r4 =>
  some (r4, pl, rf))
def Reader_takeValue_b38 (n : Nat) (B : ByS) (pl : Int32) (rf : Int32) (hd : (Nat → Int32)) (L : LyS) (v2 : Int32) (s0 : Int32) : Option (Int32 × Int32 × Int32) :=
  (if s0 = ((-1)) then Reader_takeValue_b56 n B pl rf hd L v2 s0 ((-1))
  else (Reader_take n B pl rf hd L 0 255).bind fun r3 =>
  Reader_takeValue_b56 n B r3.2.1 r3.2.2 hd L v2 s0 r3.1)
def Reader_takeValue (n : Nat) (B : ByS) (pl : Int32) (rf : Int32) (hd : (Nat → Int32)) (L : LyS) (p1 : Int32) : Option (Int32 × Int32 × Int32) :=
  (if p1 = 1 then (Reader_take n B pl rf hd L 0 1).bind fun r8 =>
  some (r8.1, r8.2.1, r8.2.2)
  else (Reader_take n B pl rf hd L 0 255).bind fun r1 =>
  (if r1.1 = ((-1)) then Reader_takeValue_b38 n B r1.2.1 r1.2.2 hd L r1.1 ((-1))
  else (Reader_take n B r1.2.1 r1.2.2 hd L 0 255).bind fun r2 =>
  Reader_takeValue_b38 n B r2.2.1 r2.2.2 hd L r1.1 r2.1))
set_option maxRecDepth 100000 in
set_option maxHeartbeats 4000000 in
theorem t_Reader_takeValue_b56 {p : Program} {l : Launch} {e : Env} {s : State} {m : MethodId} {args : Array Value} {below : List Frame} {meth : Method} {c : Code} {D : va_G} {cI cR cZ : ClassId} {A : Nat → Prop} (C : Cx p s m args meth c D (tyG cI cR cZ) b_Reader_takeValue 5 "MaskLayers$Reader") (hr : meth.sig.returnType = some .int) (hA : ∀ q : Nat, s.heap.size ≤ q → A q) {o0 : Nat} {hh : Nat} {b : Nat} {q : Nat} {a : (Nat → Nat)} {n : Nat} {B : ByS} {pl : Int32} {rf : Int32} {hd : (Nat → Int32)} {L : LyS} {v2 : Int32} {v3 : Int32} {s0 : Int32} {res : (Int32 × Int32 × Int32)} (h : Reader_takeValue_b56 n B pl rf hd L v2 v3 s0 = some res) : J p l e rm_Reader_takeValue s m args below meth c D A (va_D A) 5 (MQ below (QcI D res.1 (fun _ : Nat => wRd cI cR o0 hh b q a n B res.2.1 res.2.2 hd L) A) args s 0 0 A) 0 0 (wRd cI cR o0 hh b q a n B pl rf hd L) [(2, .int v2), (3, .int v3)] [.int s0] 56 := by
  unfold Reader_takeValue_b56 at h
  refine j_istore C [(4, .int s0), (2, .int v2), (3, .int v3)] d_Reader_takeValue_56 (by decide) rfl ?_
  refine j_iload C 0 d_Reader_takeValue_58 rfl ?_
  refine j_iconst C (v := (-1)) d_Reader_takeValue_60 (by decide) ?_
  refine j_icmp_ne C 68 d_Reader_takeValue_61 (by decide) (fun c5 => ?_) (fun c5 => ?_)
  · replace h := (if_neg c5).symm.trans h
    refine j_iload_n C 1 d_Reader_takeValue_68 rfl ?_
    refine j_iload_n C 2 d_Reader_takeValue_69 rfl ?_
    refine j_iload C 0 d_Reader_takeValue_70 rfl ?_
    obtain ⟨r4, hr4, h⟩ := bd_ok h
    refine j_PSN C [.int v2, .int v3, .int s0] (c_ML_colourOf l D cI cR cZ v2 v3 s0 hr4) (cw_Reader_122 C ⟨Nat.le_of_ble_eq_true rfl, Nat.le_of_ble_eq_true rfl⟩) [] rfl rfl rfl (Nat.le_of_ble_eq_true rfl) d_Reader_takeValue_72 (by decide) ?_
    obtain rfl := Option.some.inj h
    exact j_iret C hr d_Reader_takeValue_75 0 rfl
  · replace h := (if_pos c5).symm.trans h
    refine j_iconst C (v := (-1)) d_Reader_takeValue_64 (by decide) ?_
    refine j_goto C 75 d_Reader_takeValue_65 (by decide) ?_
    obtain rfl := Option.some.inj h
    exact j_iret C hr d_Reader_takeValue_75 0 rfl
set_option maxRecDepth 100000 in
set_option maxHeartbeats 4000000 in
theorem t_Reader_takeValue_b38 {p : Program} {l : Launch} {e : Env} {s : State} {m : MethodId} {args : Array Value} {below : List Frame} {meth : Method} {c : Code} {D : va_G} {cI cR cZ : ClassId} {A : Nat → Prop} (C : Cx p s m args meth c D (tyG cI cR cZ) b_Reader_takeValue 5 "MaskLayers$Reader") (hr : meth.sig.returnType = some .int) (hA : ∀ q : Nat, s.heap.size ≤ q → A q) {o0 : Nat} {hh : Nat} {b : Nat} {q : Nat} {a : (Nat → Nat)} {n : Nat} {B : ByS} {pl : Int32} {rf : Int32} {hd : (Nat → Int32)} {L : LyS} {v2 : Int32} {s0 : Int32} {res : (Int32 × Int32 × Int32)} (h : Reader_takeValue_b38 n B pl rf hd L v2 s0 = some res) : J p l e rm_Reader_takeValue s m args below meth c D A (va_D A) 5 (MQ below (QcI D res.1 (fun _ : Nat => wRd cI cR o0 hh b q a n B res.2.1 res.2.2 hd L) A) args s 0 0 A) 0 0 (wRd cI cR o0 hh b q a n B pl rf hd L) [(0, .ref o0), (2, .int v2)] [.int s0] 38 := by
  unfold Reader_takeValue_b38 at h
  refine j_istore_n C [(3, .int s0), (0, .ref o0), (2, .int v2)] d_Reader_takeValue_38 (by decide) rfl ?_
  refine j_iload_n C 0 d_Reader_takeValue_39 rfl ?_
  refine j_iconst C (v := (-1)) d_Reader_takeValue_40 (by decide) ?_
  refine j_icmp_ne C 48 d_Reader_takeValue_41 (by decide) (fun c6 => ?_) (fun c6 => ?_)
  · replace h := (if_neg c6).symm.trans h
    refine j_aload_n C 1 d_Reader_takeValue_48 rfl ?_
    refine j_iconst C (v := 0) d_Reader_takeValue_49 (by decide) ?_
    refine j_sipush C (v := 255) d_Reader_takeValue_50 (by decide) ?_
    obtain ⟨r3, hr3, h⟩ := bd_ok h
    refine j_IV C [.int 0, .int 255] hA 0 rfl rfl (c_Reader_take l D cI cR cZ o0 hh b q a n B pl rf hd L 0 255 hr3) (cw_Reader_65 C ⟨Nat.le_of_ble_eq_true rfl, Nat.le_of_ble_eq_true rfl⟩) [0, 1, 2, 3, 4, 5, 6, 7, 8, 9, 10] [] rfl rfl (by decide) (by decide) (by decide) rfl rfl (Nat.le_of_ble_eq_true rfl) d_Reader_takeValue_53 (by decide) (fun _ => ?_)
    refine j_ws (ws' := wRd cI cR o0 hh b q a n B r3.2.1 r3.2.2 hd L) rfl ?_
    refine j_sub [2, 0] rfl ?_
    exact t_Reader_takeValue_b56 C hr hA h
  · replace h := (if_pos c6).symm.trans h
    refine j_iconst C (v := (-1)) d_Reader_takeValue_44 (by decide) ?_
    refine j_goto C 56 d_Reader_takeValue_45 (by decide) ?_
    refine j_sub [2, 0] rfl ?_
    exact t_Reader_takeValue_b56 C hr hA h
set_option maxRecDepth 100000 in
set_option maxHeartbeats 4000000 in
theorem c_Reader_takeValue (l : Launch) (D : va_G) (cI cR cZ : ClassId) (o0 : Nat) (hh : Nat) (b : Nat) (q : Nat) (a : (Nat → Nat)) (n : Nat) (B : ByS) (pl : Int32) (rf : Int32) (hd : (Nat → Int32)) (L : LyS) (p1 : Int32) {res : (Int32 × Int32 × Int32)} (h : Reader_takeValue n B pl rf hd L p1 = some res) (sz : Nat) : Met l y_Reader_takeValue (Cond.code y_Reader_takeValue b_Reader_takeValue 5 (some .int) :: BIG) rm_Reader_takeValue (PcI [.ref o0, .int p1] D (tyG cI cR cZ) (wRd cI cR o0 hh b q a n B pl rf hd L) sz) (QcI D res.1 (fun _ : Nat => wRd cI cR o0 hh b q a n B res.2.1 res.2.2 hd L) (va_A (wRd cI cR o0 hh b q a n B pl rf hd L) sz)) 0 0 (va_A (wRd cI cR o0 hh b q a n B pl rf hd L) sz) := by
  refine met_I (by decide) (Nat.le_of_ble_eq_true rfl) (fun p e s m args below meth c A hA C hr => ?_)
  have C : Cx p s m args meth c D (tyG cI cR cZ) b_Reader_takeValue 5 "MaskLayers$Reader" := C
  have hr : meth.sig.returnType = some .int := hr
  show J p l e rm_Reader_takeValue s m args below meth c D A (va_D A) 5 (MQ below (QcI D res.1 (fun _ : Nat => wRd cI cR o0 hh b q a n B res.2.1 res.2.2 hd L) A) args s 0 0 A) 0 0 (wRd cI cR o0 hh b q a n B pl rf hd L) [(0, .ref o0), (1, .int p1)] [] 0
  unfold Reader_takeValue at h
  refine j_iload_n C 1 d_Reader_takeValue_0 rfl ?_
  refine j_iconst C (v := 1) d_Reader_takeValue_1 (by decide) ?_
  refine j_icmp_ne C 12 d_Reader_takeValue_2 (by decide) (fun c9 => ?_) (fun c9 => ?_)
  · replace h := (if_neg c9).symm.trans h
    refine j_aload_n C 0 d_Reader_takeValue_12 rfl ?_
    refine j_iconst C (v := 0) d_Reader_takeValue_13 (by decide) ?_
    refine j_sipush C (v := 255) d_Reader_takeValue_14 (by decide) ?_
    obtain ⟨r1, hr1, h⟩ := bd_ok h
    refine j_IV C [.int 0, .int 255] hA 0 rfl rfl (c_Reader_take l D cI cR cZ o0 hh b q a n B pl rf hd L 0 255 hr1) (cw_Reader_65 C ⟨Nat.le_of_ble_eq_true rfl, Nat.le_of_ble_eq_true rfl⟩) [0, 1, 2, 3, 4, 5, 6, 7, 8, 9, 10] [] rfl rfl (by decide) (by decide) (by decide) rfl rfl (Nat.le_of_ble_eq_true rfl) d_Reader_takeValue_17 (by decide) (fun _ => ?_)
    refine j_ws (ws' := wRd cI cR o0 hh b q a n B r1.2.1 r1.2.2 hd L) rfl ?_
    refine j_istore_n C [(2, .int r1.1), (0, .ref o0), (1, .int p1)] d_Reader_takeValue_20 (by decide) rfl ?_
    refine j_iload_n C 0 d_Reader_takeValue_21 rfl ?_
    refine j_iconst C (v := (-1)) d_Reader_takeValue_22 (by decide) ?_
    refine j_icmp_ne C 30 d_Reader_takeValue_23 (by decide) (fun c7 => ?_) (fun c7 => ?_)
    · replace h := (if_neg c7).symm.trans h
      refine j_aload_n C 1 d_Reader_takeValue_30 rfl ?_
      refine j_iconst C (v := 0) d_Reader_takeValue_31 (by decide) ?_
      refine j_sipush C (v := 255) d_Reader_takeValue_32 (by decide) ?_
      obtain ⟨r2, hr2, h⟩ := bd_ok h
      refine j_IV C [.int 0, .int 255] hA 0 rfl rfl (c_Reader_take l D cI cR cZ o0 hh b q a n B r1.2.1 r1.2.2 hd L 0 255 hr2) (cw_Reader_65 C ⟨Nat.le_of_ble_eq_true rfl, Nat.le_of_ble_eq_true rfl⟩) [0, 1, 2, 3, 4, 5, 6, 7, 8, 9, 10] [] rfl rfl (by decide) (by decide) (by decide) rfl rfl (Nat.le_of_ble_eq_true rfl) d_Reader_takeValue_35 (by decide) (fun _ => ?_)
      refine j_ws (ws' := wRd cI cR o0 hh b q a n B r2.2.1 r2.2.2 hd L) rfl ?_
      refine j_sub [1, 0] rfl ?_
      exact t_Reader_takeValue_b38 C hr hA h
    · replace h := (if_pos c7).symm.trans h
      refine j_iconst C (v := (-1)) d_Reader_takeValue_26 (by decide) ?_
      refine j_goto C 38 d_Reader_takeValue_27 (by decide) ?_
      refine j_sub [1, 0] rfl ?_
      exact t_Reader_takeValue_b38 C hr hA h
  · replace h := (if_pos c9).symm.trans h
    refine j_aload_n C 0 d_Reader_takeValue_5 rfl ?_
    refine j_iconst C (v := 0) d_Reader_takeValue_6 (by decide) ?_
    refine j_iconst C (v := 1) d_Reader_takeValue_7 (by decide) ?_
    obtain ⟨r8, hr8, h⟩ := bd_ok h
    refine j_IV C [.int 0, .int 1] hA 0 rfl rfl (c_Reader_take l D cI cR cZ o0 hh b q a n B pl rf hd L 0 1 hr8) (cw_Reader_65 C ⟨Nat.le_of_ble_eq_true rfl, Nat.le_of_ble_eq_true rfl⟩) [0, 1, 2, 3, 4, 5, 6, 7, 8, 9, 10] [] rfl rfl (by decide) (by decide) (by decide) rfl rfl (Nat.le_of_ble_eq_true rfl) d_Reader_takeValue_8 (by decide) (fun _ => ?_)
    refine j_ws (ws' := wRd cI cR o0 hh b q a n B r8.2.1 r8.2.2 hd L) rfl ?_
    obtain rfl := Option.some.inj h
    exact j_iret C hr d_Reader_takeValue_11 0 rfl
def Reader_readColours_l3 (n : Nat) (B : ByS) (hd : (Nat → Int32)) (v1 : Int32) (v3 : Int32) : Nat → Int32 → Int32 → Int32 → LyS → Option (Nat × Int32 × Int32 × LyS)
  | 0, _, _, _, _ => none
  | k + 1, v4, pl, rf, L =>
  (if v3 ≤ v4 then some (0, pl, rf, L)
  else (Reader_takeValue n B pl rf hd L v1).bind fun r1 =>
  (if r1.1 = ((-1)) then some (1, r1.2.1, r1.2.2, L)
  else (Layers_set n L v1 v4 r1.1).bind fun r2 =>
  Reader_readColours_l3 n B hd v1 v3 k (v4 + 1) r1.2.1 r1.2.2 r2))
def Reader_readColours (fu : Nat) (n : Nat) (B : ByS) (pl : Int32) (rf : Int32) (hd : (Nat → Int32)) (L : LyS) (p1 : Int32) (p2 : Int32) (p3 : Int32) : Option (Int32 × Int32 × Int32 × LyS) :=
  (Reader_readColours_l3 n B hd p1 p3 fu p2 pl rf L).bind fun r5 =>
  (if r5.1 = 0 then zb 1 (some (1, r5.2.1, r5.2.2.1, r5.2.2.2))
  else zb 0 (some (0, r5.2.1, r5.2.2.1, r5.2.2.2)))
set_option maxRecDepth 100000 in
set_option maxHeartbeats 4000000 in
theorem t_Reader_readColours_l3 {p : Program} {l : Launch} {e : Env} {s : State} {m : MethodId} {args : Array Value} {below : List Frame} {meth : Method} {c : Code} {D : va_G} {cI cR cZ : ClassId} {A : Nat → Prop} {Q : State → Prop} (C : Cx p s m args meth c D (tyG cI cR cZ) b_Reader_readColours 6 "MaskLayers$Reader") (hA : ∀ q : Nat, s.heap.size ≤ q → A q) {o0 : Nat} {hh : Nat} {b : Nat} {q : Nat} {a : (Nat → Nat)} {n : Nat} {B : ByS} {hd : (Nat → Int32)} {v1 : Int32} {v3 : Int32} {out : Nat × Int32 × Int32 × LyS} : ∀ (k : Nat) (v4 : Int32) (pl : Int32) (rf : Int32) (L : LyS), Reader_readColours_l3 n B hd v1 v3 k v4 pl rf L = some out → (out.1 = 0 → J p l e rm_Reader_readColours s m args below meth c D A (va_D A) 6 Q 0 0 (wRd cI cR o0 hh b q a n B out.2.1 out.2.2.1 hd out.2.2.2) [] [] 42) → (out.1 = 1 → J p l e rm_Reader_readColours s m args below meth c D A (va_D A) 6 Q 0 0 (wRd cI cR o0 hh b q a n B out.2.1 out.2.2.1 hd out.2.2.2) [] [] 22) → J p l e rm_Reader_readColours s m args below meth c D A (va_D A) 6 Q 0 0 (wRd cI cR o0 hh b q a n B pl rf hd L) [(0, .ref o0), (1, .int v1), (3, .int v3), (4, .int v4)] [] 3 := by
  intro k
  induction k with
  | zero => intro v4 pl rf L h; cases (show none = some out from h)
  | succ k ih =>
    intro v4 pl rf L h x0 x1
    rw [Reader_readColours_l3] at h
    refine j_iload C 3 d_Reader_readColours_3 rfl ?_
    refine j_iload_n C 2 d_Reader_readColours_5 rfl ?_
    refine j_icmp_ge C 42 d_Reader_readColours_6 (by decide) (fun c4 => ?_) (fun c4 => ?_)
    · replace h := (if_pos c4).symm.trans h
      obtain rfl := Option.some.inj h
      refine j_sub [] rfl ?_
      exact x0 rfl
    · replace h := (if_neg c4).symm.trans h
      refine j_aload_n C 0 d_Reader_readColours_9 rfl ?_
      refine j_iload_n C 1 d_Reader_readColours_10 rfl ?_
      obtain ⟨r1, hr1, h⟩ := bd_ok h
      refine j_IV C [.int v1] hA 0 rfl rfl (c_Reader_takeValue l D cI cR cZ o0 hh b q a n B pl rf hd L v1 hr1) (cw_Reader_115 C ⟨Nat.le_of_ble_eq_true rfl, Nat.le_of_ble_eq_true rfl⟩) [0, 1, 2, 3, 4, 5, 6, 7, 8, 9, 10] [] rfl rfl (by decide) (by decide) (by decide) rfl rfl (Nat.le_of_ble_eq_true rfl) d_Reader_readColours_11 (by decide) (fun _ => ?_)
      refine j_ws (ws' := wRd cI cR o0 hh b q a n B r1.2.1 r1.2.2 hd L) rfl ?_
      refine j_istore C [(5, .int r1.1), (0, .ref o0), (1, .int v1), (3, .int v3), (4, .int v4)] d_Reader_readColours_14 (by decide) rfl ?_
      refine j_iload C 0 d_Reader_readColours_16 rfl ?_
      refine j_iconst C (v := (-1)) d_Reader_readColours_18 (by decide) ?_
      refine j_icmp_ne C 24 d_Reader_readColours_19 (by decide) (fun c3 => ?_) (fun c3 => ?_)
      · replace h := (if_neg c3).symm.trans h
        refine j_aload_n C 1 d_Reader_readColours_24 rfl ?_
        refine gf_Reader_15 C 0 (v := .ref (a 0)) rfl rfl d_Reader_readColours_25 ?_
        refine j_iload_n C 2 d_Reader_readColours_28 rfl ?_
        refine j_iload C 4 d_Reader_readColours_29 rfl ?_
        refine j_iload C 0 d_Reader_readColours_31 rfl ?_
        obtain ⟨r2, hr2, h⟩ := bd_ok h
        refine j_VV C [.int v1, .int v4, .int r1.1] hA 4 rfl rfl (c_Layers_set l D cI cR cZ a n L v1 v4 r1.1 hr2) (cw_Reader_118 C ⟨Nat.le_of_ble_eq_true rfl, Nat.le_of_ble_eq_true rfl⟩) [4, 5, 6, 7, 8, 9, 10] [0, 1, 2, 3] rfl rfl (by decide) (by decide) (by decide) rfl rfl (Nat.le_of_ble_eq_true rfl) d_Reader_readColours_33 (by decide) (fun _ => ?_)
        refine j_ws (ws' := wRd cI cR o0 hh b q a n B r1.2.1 r1.2.2 hd r2) rfl ?_
        refine j_iinc C [(4, .int (v4 + 1)), (5, .int r1.1), (0, .ref o0), (1, .int v1), (3, .int v3)] 4 (v4 + 1) d_Reader_readColours_36 rfl rfl (by decide) rfl ?_
        refine j_goto C 3 d_Reader_readColours_39 (by decide) ?_
        refine j_sub [2, 3, 4, 0] rfl ?_
        exact ih (v4 + 1) r1.2.1 r1.2.2 r2 h x0 x1
      · replace h := (if_pos c3).symm.trans h
        obtain rfl := Option.some.inj h
        refine j_sub [] rfl ?_
        exact x1 rfl
set_option maxRecDepth 100000 in
set_option maxHeartbeats 4000000 in
theorem c_Reader_readColours (l : Launch) (D : va_G) (cI cR cZ : ClassId) (fu : Nat) (o0 : Nat) (hh : Nat) (b : Nat) (q : Nat) (a : (Nat → Nat)) (n : Nat) (B : ByS) (pl : Int32) (rf : Int32) (hd : (Nat → Int32)) (L : LyS) (p1 : Int32) (p2 : Int32) (p3 : Int32) {res : (Int32 × Int32 × Int32 × LyS)} (h : Reader_readColours fu n B pl rf hd L p1 p2 p3 = some res) (sz : Nat) : Met l y_Reader_readColours (Cond.code y_Reader_readColours b_Reader_readColours 6 (some .boolean) :: BIG) rm_Reader_readColours (PcI [.ref o0, .int p1, .int p2, .int p3] D (tyG cI cR cZ) (wRd cI cR o0 hh b q a n B pl rf hd L) sz) (QcI D res.1 (fun _ : Nat => wRd cI cR o0 hh b q a n B res.2.1 res.2.2.1 hd res.2.2.2) (va_A (wRd cI cR o0 hh b q a n B pl rf hd L) sz)) 0 0 (va_A (wRd cI cR o0 hh b q a n B pl rf hd L) sz) := by
  refine met_I (by decide) (Nat.le_of_ble_eq_true rfl) (fun p e s m args below meth c A hA C hr => ?_)
  have C : Cx p s m args meth c D (tyG cI cR cZ) b_Reader_readColours 6 "MaskLayers$Reader" := C
  have hr : meth.sig.returnType = some .boolean := hr
  show J p l e rm_Reader_readColours s m args below meth c D A (va_D A) 6 (MQ below (QcI D res.1 (fun _ : Nat => wRd cI cR o0 hh b q a n B res.2.1 res.2.2.1 hd res.2.2.2) A) args s 0 0 A) 0 0 (wRd cI cR o0 hh b q a n B pl rf hd L) [(0, .ref o0), (1, .int p1), (2, .int p2), (3, .int p3)] [] 0
  unfold Reader_readColours at h
  refine j_iload_n C 2 d_Reader_readColours_0 rfl ?_
  refine j_istore C [(4, .int p2), (0, .ref o0), (1, .int p1), (2, .int p2), (3, .int p3)] d_Reader_readColours_1 (by decide) rfl ?_
  obtain ⟨r5, hr5, h⟩ := bd_ok h
  refine j_sub [1, 2, 4, 0] rfl ?_
  refine t_Reader_readColours_l3 C hA fu p2 pl rf L hr5 (fun e8 => ?_) (fun e9 => ?_)
  · replace h := (if_pos e8).symm.trans h
    refine j_iconst C (v := 1) d_Reader_readColours_42 (by decide) ?_
    obtain ⟨b6, h⟩ := zb_ok h
    obtain rfl := Option.some.inj h
    exact j_iretZ C hr d_Reader_readColours_43 b6 0 rfl
  · replace h := (if_neg (by rw [e9]; decide)).symm.trans h
    refine j_iconst C (v := 0) d_Reader_readColours_22 (by decide) ?_
    obtain ⟨b7, h⟩ := zb_ok h
    obtain rfl := Option.some.inj h
    exact j_iretZ C hr d_Reader_readColours_23 b7 0 rfl
def Reader_readBits_l28 (n : Nat) (B : ByS) (pl : Int32) (rf : Int32) (hd : (Nat → Int32)) (v2 : Int32) (v3 : Int32) (v4 : Int32) : Nat → Int32 → LyS → Option (Nat × LyS)
  | 0, _, _ => none
  | k + 1, v5, L =>
  (if 8 ≤ v5 then some (0, L)
  else (if v2 ≤ (v3 + v5) then (if ((v4 >>> ((7 - v5) &&& 31)) &&& 1) = 1 then some (1, L)
  else Reader_readBits_l28 n B pl rf hd v2 v3 v4 k (v5 + 1) L)
  else (Layers_set n L 1 (v3 + v5) ((v4 >>> ((7 - v5) &&& 31)) &&& 1)).bind fun r3 =>
  Reader_readBits_l28 n B pl rf hd v2 v3 v4 k (v5 + 1) r3))
def Reader_readBits_l2 (fu : Nat) (n : Nat) (B : ByS) (hd : (Nat → Int32)) (v2 : Int32) : Nat → Int32 → Int32 → Int32 → LyS → Option (Nat × Int32 × Int32 × LyS)
  | 0, _, _, _, _ => none
  | k + 1, v3, pl, rf, L =>
  (if v2 ≤ v3 then some (0, pl, rf, L)
  else (Reader_take n B pl rf hd L 0 255).bind fun r1 =>
  (if r1.1 = ((-1)) then some (1, r1.2.1, r1.2.2, L)
  else (Reader_readBits_l28 n B r1.2.1 r1.2.2 hd v2 v3 r1.1 fu 0 L).bind fun r6 =>
  (if r6.1 = 0 then Reader_readBits_l2 fu n B hd v2 k (v3 + 8) r1.2.1 r1.2.2 r6.2
  else some (2, r1.2.1, r1.2.2, r6.2))))
def Reader_readBits (fu : Nat) (n : Nat) (B : ByS) (pl : Int32) (rf : Int32) (hd : (Nat → Int32)) (L : LyS) (p1 : Int32) (p2 : Int32) : Option (Int32 × Int32 × Int32 × LyS) :=
  (Reader_readBits_l2 fu n B hd p2 fu p1 pl rf L).bind fun r11 =>
  (if r11.1 = 0 then zb 1 (some (1, r11.2.1, r11.2.2.1, r11.2.2.2))
  else (if r11.1 = 1 then zb 0 (some (0, r11.2.1, r11.2.2.1, r11.2.2.2))
  else (Reader_refuse n B r11.2.1 r11.2.2.1 hd r11.2.2.2 (r11.2.1 - 1)).bind fun r14 =>
  zb r14.1 (some (r14.1, r11.2.1, r14.2, r11.2.2.2))))
set_option maxRecDepth 100000 in
set_option maxHeartbeats 4000000 in
theorem t_Reader_readBits_l28 {p : Program} {l : Launch} {e : Env} {s : State} {m : MethodId} {args : Array Value} {below : List Frame} {meth : Method} {c : Code} {D : va_G} {cI cR cZ : ClassId} {A : Nat → Prop} {Q : State → Prop} (C : Cx p s m args meth c D (tyG cI cR cZ) b_Reader_readBits 7 "MaskLayers$Reader") (hA : ∀ q : Nat, s.heap.size ≤ q → A q) {o0 : Nat} {hh : Nat} {b : Nat} {q : Nat} {a : (Nat → Nat)} {n : Nat} {B : ByS} {pl : Int32} {rf : Int32} {hd : (Nat → Int32)} {v2 : Int32} {v3 : Int32} {v4 : Int32} {out : Nat × LyS} : ∀ (k : Nat) (v5 : Int32) (L : LyS), Reader_readBits_l28 n B pl rf hd v2 v3 v4 k v5 L = some out → (out.1 = 0 → J p l e rm_Reader_readBits s m args below meth c D A (va_D A) 7 Q 0 0 (wRd cI cR o0 hh b q a n B pl rf hd out.2) [(0, .ref o0), (2, .int v2), (3, .int v3)] [] 95) → (out.1 = 1 → J p l e rm_Reader_readBits s m args below meth c D A (va_D A) 7 Q 0 0 (wRd cI cR o0 hh b q a n B pl rf hd out.2) [(0, .ref o0)] [] 78) → J p l e rm_Reader_readBits s m args below meth c D A (va_D A) 7 Q 0 0 (wRd cI cR o0 hh b q a n B pl rf hd L) [(0, .ref o0), (2, .int v2), (3, .int v3), (4, .int v4), (5, .int v5)] [] 28 := by
  intro k
  induction k with
  | zero => intro v5 L h; cases (show none = some out from h)
  | succ k ih =>
    intro v5 L h x0 x1
    rw [Reader_readBits_l28] at h
    refine j_iload C 4 d_Reader_readBits_28 rfl ?_
    refine j_bipush C (v := 8) d_Reader_readBits_30 (by decide) ?_
    refine j_icmp_ge C 95 d_Reader_readBits_32 (by decide) (fun c5 => ?_) (fun c5 => ?_)
    · replace h := (if_pos c5).symm.trans h
      obtain rfl := Option.some.inj h
      refine j_sub [0, 1, 2] rfl ?_
      exact x0 rfl
    · replace h := (if_neg c5).symm.trans h
      refine j_iload C 3 d_Reader_readBits_35 rfl ?_
      refine j_bipush C (v := 7) d_Reader_readBits_37 (by decide) ?_
      refine j_iload C 4 d_Reader_readBits_39 rfl ?_
      refine j_isub C d_Reader_readBits_41 ?_
      refine j_ishr C d_Reader_readBits_42 ?_
      refine j_iconst C (v := 1) d_Reader_readBits_43 (by decide) ?_
      refine j_iand C d_Reader_readBits_44 ?_
      refine j_istore C [(6, .int ((v4 >>> ((7 - v5) &&& 31)) &&& 1)), (0, .ref o0), (2, .int v2), (3, .int v3), (4, .int v4), (5, .int v5)] d_Reader_readBits_45 (by decide) rfl ?_
      refine j_iload_n C 3 d_Reader_readBits_47 rfl ?_
      refine j_iload C 5 d_Reader_readBits_48 rfl ?_
      refine j_iadd C d_Reader_readBits_50 ?_
      refine j_iload_n C 2 d_Reader_readBits_51 rfl ?_
      refine j_icmp_ge C 72 d_Reader_readBits_52 (by decide) (fun c4 => ?_) (fun c4 => ?_)
      · replace h := (if_pos c4).symm.trans h
        refine j_iload C 0 d_Reader_readBits_72 rfl ?_
        refine j_iconst C (v := 1) d_Reader_readBits_74 (by decide) ?_
        refine j_icmp_ne C 89 d_Reader_readBits_75 (by decide) (fun c2 => ?_) (fun c2 => ?_)
        · replace h := (if_neg c2).symm.trans h
          refine j_iinc C [(5, .int (v5 + 1)), (6, .int ((v4 >>> ((7 - v5) &&& 31)) &&& 1)), (0, .ref o0), (2, .int v2), (3, .int v3), (4, .int v4)] 5 (v5 + 1) d_Reader_readBits_89 rfl rfl (by decide) rfl ?_
          refine j_goto C 28 d_Reader_readBits_92 (by decide) ?_
          refine j_sub [2, 3, 4, 5, 0] rfl ?_
          exact ih (v5 + 1) L h x0 x1
        · replace h := (if_pos c2).symm.trans h
          obtain rfl := Option.some.inj h
          refine j_sub [1] rfl ?_
          exact x1 rfl
      · replace h := (if_neg c4).symm.trans h
        refine j_aload_n C 1 d_Reader_readBits_55 rfl ?_
        refine gf_Reader_15 C 0 (v := .ref (a 0)) rfl rfl d_Reader_readBits_56 ?_
        refine j_iconst C (v := 1) d_Reader_readBits_59 (by decide) ?_
        refine j_iload_n C 3 d_Reader_readBits_60 rfl ?_
        refine j_iload C 5 d_Reader_readBits_61 rfl ?_
        refine j_iadd C d_Reader_readBits_63 ?_
        refine j_iload C 0 d_Reader_readBits_64 rfl ?_
        obtain ⟨r3, hr3, h⟩ := bd_ok h
        refine j_VV C [.int 1, .int (v3 + v5), .int ((v4 >>> ((7 - v5) &&& 31)) &&& 1)] hA 4 rfl rfl (c_Layers_set l D cI cR cZ a n L 1 (v3 + v5) ((v4 >>> ((7 - v5) &&& 31)) &&& 1) hr3) (cw_Reader_118 C ⟨Nat.le_of_ble_eq_true rfl, Nat.le_of_ble_eq_true rfl⟩) [4, 5, 6, 7, 8, 9, 10] [0, 1, 2, 3] rfl rfl (by decide) (by decide) (by decide) rfl rfl (Nat.le_of_ble_eq_true rfl) d_Reader_readBits_66 (by decide) (fun _ => ?_)
        refine j_ws (ws' := wRd cI cR o0 hh b q a n B pl rf hd r3) rfl ?_
        refine j_goto C 89 d_Reader_readBits_69 (by decide) ?_
        refine j_iinc C [(5, .int (v5 + 1)), (6, .int ((v4 >>> ((7 - v5) &&& 31)) &&& 1)), (0, .ref o0), (2, .int v2), (3, .int v3), (4, .int v4)] 5 (v5 + 1) d_Reader_readBits_89 rfl rfl (by decide) rfl ?_
        refine j_goto C 28 d_Reader_readBits_92 (by decide) ?_
        refine j_sub [2, 3, 4, 5, 0] rfl ?_
        exact ih (v5 + 1) r3 h x0 x1
set_option maxRecDepth 100000 in
set_option maxHeartbeats 4000000 in
theorem t_Reader_readBits_l2 {p : Program} {l : Launch} {e : Env} {s : State} {m : MethodId} {args : Array Value} {below : List Frame} {meth : Method} {c : Code} {D : va_G} {cI cR cZ : ClassId} {A : Nat → Prop} {Q : State → Prop} (C : Cx p s m args meth c D (tyG cI cR cZ) b_Reader_readBits 7 "MaskLayers$Reader") (hA : ∀ q : Nat, s.heap.size ≤ q → A q) {o0 : Nat} {hh : Nat} {b : Nat} {q : Nat} {a : (Nat → Nat)} {n : Nat} {fu : Nat} {B : ByS} {hd : (Nat → Int32)} {v2 : Int32} {out : Nat × Int32 × Int32 × LyS} : ∀ (k : Nat) (v3 : Int32) (pl : Int32) (rf : Int32) (L : LyS), Reader_readBits_l2 fu n B hd v2 k v3 pl rf L = some out → (out.1 = 0 → J p l e rm_Reader_readBits s m args below meth c D A (va_D A) 7 Q 0 0 (wRd cI cR o0 hh b q a n B out.2.1 out.2.2.1 hd out.2.2.2) [] [] 101) → (out.1 = 1 → J p l e rm_Reader_readBits s m args below meth c D A (va_D A) 7 Q 0 0 (wRd cI cR o0 hh b q a n B out.2.1 out.2.2.1 hd out.2.2.2) [] [] 23) → (out.1 = 2 → J p l e rm_Reader_readBits s m args below meth c D A (va_D A) 7 Q 0 0 (wRd cI cR o0 hh b q a n B out.2.1 out.2.2.1 hd out.2.2.2) [(0, .ref o0)] [] 78) → J p l e rm_Reader_readBits s m args below meth c D A (va_D A) 7 Q 0 0 (wRd cI cR o0 hh b q a n B pl rf hd L) [(0, .ref o0), (2, .int v2), (3, .int v3)] [] 2 := by
  intro k
  induction k with
  | zero => intro v3 pl rf L h; cases (show none = some out from h)
  | succ k ih =>
    intro v3 pl rf L h x0 x1 x2
    rw [Reader_readBits_l2] at h
    refine j_iload_n C 2 d_Reader_readBits_2 rfl ?_
    refine j_iload_n C 1 d_Reader_readBits_3 rfl ?_
    refine j_icmp_ge C 101 d_Reader_readBits_4 (by decide) (fun c10 => ?_) (fun c10 => ?_)
    · replace h := (if_pos c10).symm.trans h
      obtain rfl := Option.some.inj h
      refine j_sub [] rfl ?_
      exact x0 rfl
    · replace h := (if_neg c10).symm.trans h
      refine j_aload_n C 0 d_Reader_readBits_7 rfl ?_
      refine j_iconst C (v := 0) d_Reader_readBits_8 (by decide) ?_
      refine j_sipush C (v := 255) d_Reader_readBits_9 (by decide) ?_
      obtain ⟨r1, hr1, h⟩ := bd_ok h
      refine j_IV C [.int 0, .int 255] hA 0 rfl rfl (c_Reader_take l D cI cR cZ o0 hh b q a n B pl rf hd L 0 255 hr1) (cw_Reader_65 C ⟨Nat.le_of_ble_eq_true rfl, Nat.le_of_ble_eq_true rfl⟩) [0, 1, 2, 3, 4, 5, 6, 7, 8, 9, 10] [] rfl rfl (by decide) (by decide) (by decide) rfl rfl (Nat.le_of_ble_eq_true rfl) d_Reader_readBits_12 (by decide) (fun _ => ?_)
      refine j_ws (ws' := wRd cI cR o0 hh b q a n B r1.2.1 r1.2.2 hd L) rfl ?_
      refine j_istore C [(4, .int r1.1), (0, .ref o0), (2, .int v2), (3, .int v3)] d_Reader_readBits_15 (by decide) rfl ?_
      refine j_iload C 0 d_Reader_readBits_17 rfl ?_
      refine j_iconst C (v := (-1)) d_Reader_readBits_19 (by decide) ?_
      refine j_icmp_ne C 25 d_Reader_readBits_20 (by decide) (fun c9 => ?_) (fun c9 => ?_)
      · replace h := (if_neg c9).symm.trans h
        refine j_iconst C (v := 0) d_Reader_readBits_25 (by decide) ?_
        refine j_istore C [(5, .int 0), (4, .int r1.1), (0, .ref o0), (2, .int v2), (3, .int v3)] d_Reader_readBits_26 (by decide) rfl ?_
        obtain ⟨r6, hr6, h⟩ := bd_ok h
        refine j_sub [2, 3, 4, 1, 0] rfl ?_
        refine t_Reader_readBits_l28 C hA fu 0 L hr6 (fun e7 => ?_) (fun e8 => ?_)
        · replace h := (if_pos e7).symm.trans h
          refine j_iinc C [(3, .int (v3 + 8)), (0, .ref o0), (2, .int v2)] 2 (v3 + 8) d_Reader_readBits_95 rfl rfl (by decide) rfl ?_
          refine j_goto C 2 d_Reader_readBits_98 (by decide) ?_
          refine j_sub [1, 2, 0] rfl ?_
          exact ih (v3 + 8) r1.2.1 r1.2.2 r6.2 h x0 x1 x2
        · replace h := (if_neg (by rw [e8]; decide)).symm.trans h
          obtain rfl := Option.some.inj h
          refine j_sub [0] rfl ?_
          exact x2 rfl
      · replace h := (if_pos c9).symm.trans h
        obtain rfl := Option.some.inj h
        refine j_sub [] rfl ?_
        exact x1 rfl
set_option maxRecDepth 100000 in
set_option maxHeartbeats 4000000 in
theorem c_Reader_readBits (l : Launch) (D : va_G) (cI cR cZ : ClassId) (fu : Nat) (o0 : Nat) (hh : Nat) (b : Nat) (q : Nat) (a : (Nat → Nat)) (n : Nat) (B : ByS) (pl : Int32) (rf : Int32) (hd : (Nat → Int32)) (L : LyS) (p1 : Int32) (p2 : Int32) {res : (Int32 × Int32 × Int32 × LyS)} (h : Reader_readBits fu n B pl rf hd L p1 p2 = some res) (sz : Nat) : Met l y_Reader_readBits (Cond.code y_Reader_readBits b_Reader_readBits 7 (some .boolean) :: BIG) rm_Reader_readBits (PcI [.ref o0, .int p1, .int p2] D (tyG cI cR cZ) (wRd cI cR o0 hh b q a n B pl rf hd L) sz) (QcI D res.1 (fun _ : Nat => wRd cI cR o0 hh b q a n B res.2.1 res.2.2.1 hd res.2.2.2) (va_A (wRd cI cR o0 hh b q a n B pl rf hd L) sz)) 0 0 (va_A (wRd cI cR o0 hh b q a n B pl rf hd L) sz) := by
  refine met_I (by decide) (Nat.le_of_ble_eq_true rfl) (fun p e s m args below meth c A hA C hr => ?_)
  have C : Cx p s m args meth c D (tyG cI cR cZ) b_Reader_readBits 7 "MaskLayers$Reader" := C
  have hr : meth.sig.returnType = some .boolean := hr
  show J p l e rm_Reader_readBits s m args below meth c D A (va_D A) 7 (MQ below (QcI D res.1 (fun _ : Nat => wRd cI cR o0 hh b q a n B res.2.1 res.2.2.1 hd res.2.2.2) A) args s 0 0 A) 0 0 (wRd cI cR o0 hh b q a n B pl rf hd L) [(0, .ref o0), (1, .int p1), (2, .int p2)] [] 0
  unfold Reader_readBits at h
  refine j_iload_n C 1 d_Reader_readBits_0 rfl ?_
  refine j_istore_n C [(3, .int p1), (0, .ref o0), (1, .int p1), (2, .int p2)] d_Reader_readBits_1 (by decide) rfl ?_
  obtain ⟨r11, hr11, h⟩ := bd_ok h
  refine j_sub [1, 3, 0] rfl ?_
  refine t_Reader_readBits_l2 C hA fu p1 pl rf L hr11 (fun e16 => ?_) (fun e17 => ?_) (fun e18 => ?_)
  · replace h := (if_pos e16).symm.trans h
    refine j_iconst C (v := 1) d_Reader_readBits_101 (by decide) ?_
    obtain ⟨b12, h⟩ := zb_ok h
    obtain rfl := Option.some.inj h
    exact j_iretZ C hr d_Reader_readBits_102 b12 0 rfl
  · replace h := (if_neg (by rw [e17]; decide)).symm.trans h
    replace h := (if_pos e17).symm.trans h
    refine j_iconst C (v := 0) d_Reader_readBits_23 (by decide) ?_
    obtain ⟨b13, h⟩ := zb_ok h
    obtain rfl := Option.some.inj h
    exact j_iretZ C hr d_Reader_readBits_24 b13 0 rfl
  · replace h := (if_neg (by rw [e18]; decide)).symm.trans h
    replace h := (if_neg (by rw [e18]; decide)).symm.trans h
    refine j_aload_n C 0 d_Reader_readBits_78 rfl ?_
    refine j_aload_n C 0 d_Reader_readBits_79 rfl ?_
    refine gf_Reader_26 C 0 (v := .int r11.2.1) rfl rfl d_Reader_readBits_80 ?_
    refine j_iconst C (v := 1) d_Reader_readBits_83 (by decide) ?_
    refine j_isub C d_Reader_readBits_84 ?_
    obtain ⟨r14, hr14, h⟩ := bd_ok h
    refine j_IV C [.int (r11.2.1 - 1)] hA 0 rfl rfl (c_Reader_refuse l D cI cR cZ o0 hh b q a n B r11.2.1 r11.2.2.1 hd r11.2.2.2 (r11.2.1 - 1) hr14) (cw_Reader_52 C ⟨Nat.le_of_ble_eq_true rfl, Nat.le_of_ble_eq_true rfl⟩) [0, 1, 2, 3, 4, 5, 6, 7, 8, 9, 10] [] rfl rfl (by decide) (by decide) (by decide) rfl rfl (Nat.le_of_ble_eq_true rfl) d_Reader_readBits_85 (by decide) (fun _ => ?_)
    refine j_ws (ws' := wRd cI cR o0 hh b q a n B r11.2.1 r14.2 hd r11.2.2.2) rfl ?_
    obtain ⟨b15, h⟩ := zb_ok h
    obtain rfl := Option.some.inj h
    exact j_iretZ C hr d_Reader_readBits_88 b15 0 rfl
def Reader_readRuns_l9 (n : Nat) (B : ByS) (hd : (Nat → Int32)) (v1 : Int32) (v3 : Int32) : Nat → Int32 → Int32 → Int32 → Int32 → Int32 → LyS → Option (Nat × Int32 × Int32 × LyS)
  | 0, _, _, _, _, _, _ => none
  | k + 1, v4, v5, v6, pl, rf, L =>
  (if v3 ≤ v6 then some (0, pl, rf, L)
  else (if v4 = 0 then (Reader_take n B pl rf hd L 1 (mn 255 (v3 - v6))).bind fun r2 =>
  (if r2.1 = ((-1)) then some (((-1) : Int32), r2.2.1, r2.2.2)
  else (Reader_takeValue n B r2.2.1 r2.2.2 hd L v1).bind fun r4 =>
  some (r4.1, r4.2.1, r4.2.2)).bind fun r3 =>
  (if r3.1 = ((-1)) then some (1, r3.2.1, r3.2.2, L)
  else (Layers_set n L v1 v6 r3.1).bind fun r5 =>
  Reader_readRuns_l9 n B hd v1 v3 k (r2.1 + (-1)) r3.1 (v6 + 1) r3.2.1 r3.2.2 r5)
  else (Layers_set n L v1 v6 v5).bind fun r1 =>
  Reader_readRuns_l9 n B hd v1 v3 k (v4 + (-1)) v5 (v6 + 1) pl rf r1))
def Reader_readRuns (fu : Nat) (n : Nat) (B : ByS) (pl : Int32) (rf : Int32) (hd : (Nat → Int32)) (L : LyS) (p1 : Int32) (p2 : Int32) (p3 : Int32) : Option (Int32 × Int32 × Int32 × LyS) :=
  (Reader_readRuns_l9 n B hd p1 p3 fu 0 ((-1)) p2 pl rf L).bind fun r10 =>
  (if r10.1 = 0 then zb 1 (some (1, r10.2.1, r10.2.2.1, r10.2.2.2))
  else zb 0 (some (0, r10.2.1, r10.2.2.1, r10.2.2.2)))
set_option maxRecDepth 100000 in
set_option maxHeartbeats 4000000 in
theorem t_Reader_readRuns_l9 {p : Program} {l : Launch} {e : Env} {s : State} {m : MethodId} {args : Array Value} {below : List Frame} {meth : Method} {c : Code} {D : va_G} {cI cR cZ : ClassId} {A : Nat → Prop} {Q : State → Prop} (C : Cx p s m args meth c D (tyG cI cR cZ) b_Reader_readRuns 7 "MaskLayers$Reader") (hA : ∀ q : Nat, s.heap.size ≤ q → A q) {o0 : Nat} {hh : Nat} {b : Nat} {q : Nat} {a : (Nat → Nat)} {n : Nat} {B : ByS} {hd : (Nat → Int32)} {v1 : Int32} {v3 : Int32} {out : Nat × Int32 × Int32 × LyS} : ∀ (k : Nat) (v4 : Int32) (v5 : Int32) (v6 : Int32) (pl : Int32) (rf : Int32) (L : LyS), Reader_readRuns_l9 n B hd v1 v3 k v4 v5 v6 pl rf L = some out → (out.1 = 0 → J p l e rm_Reader_readRuns s m args below meth c D A (va_D A) 7 Q 0 0 (wRd cI cR o0 hh b q a n B out.2.1 out.2.2.1 hd out.2.2.2) [] [] 83) → (out.1 = 1 → J p l e rm_Reader_readRuns s m args below meth c D A (va_D A) 7 Q 0 0 (wRd cI cR o0 hh b q a n B out.2.1 out.2.2.1 hd out.2.2.2) [] [] 60) → J p l e rm_Reader_readRuns s m args below meth c D A (va_D A) 7 Q 0 0 (wRd cI cR o0 hh b q a n B pl rf hd L) [(0, .ref o0), (1, .int v1), (3, .int v3), (4, .int v4), (5, .int v5), (6, .int v6)] [] 9 := by
  intro k
  induction k with
  | zero => intro v4 v5 v6 pl rf L h; cases (show none = some out from h)
  | succ k ih =>
    intro v4 v5 v6 pl rf L h x0 x1
    rw [Reader_readRuns_l9] at h
    refine j_iload C 5 d_Reader_readRuns_9 rfl ?_
    refine j_iload_n C 2 d_Reader_readRuns_11 rfl ?_
    refine j_icmp_ge C 83 d_Reader_readRuns_12 (by decide) (fun c9 => ?_) (fun c9 => ?_)
    · replace h := (if_pos c9).symm.trans h
      obtain rfl := Option.some.inj h
      refine j_sub [] rfl ?_
      exact x0 rfl
    · replace h := (if_neg c9).symm.trans h
      refine j_iload C 3 d_Reader_readRuns_15 rfl ?_
      refine j_if_ne C 62 d_Reader_readRuns_17 (by decide) (fun c8 => ?_) (fun c8 => ?_)
      · replace h := (if_neg c8).symm.trans h
        refine j_aload_n C 0 d_Reader_readRuns_62 rfl ?_
        refine gf_Reader_15 C 0 (v := .ref (a 0)) rfl rfl d_Reader_readRuns_63 ?_
        refine j_iload_n C 1 d_Reader_readRuns_66 rfl ?_
        refine j_iload C 5 d_Reader_readRuns_67 rfl ?_
        refine j_iload C 4 d_Reader_readRuns_69 rfl ?_
        obtain ⟨r1, hr1, h⟩ := bd_ok h
        refine j_VV C [.int v1, .int v6, .int v5] hA 4 rfl rfl (c_Layers_set l D cI cR cZ a n L v1 v6 v5 hr1) (cw_Reader_118 C ⟨Nat.le_of_ble_eq_true rfl, Nat.le_of_ble_eq_true rfl⟩) [4, 5, 6, 7, 8, 9, 10] [0, 1, 2, 3] rfl rfl (by decide) (by decide) (by decide) rfl rfl (Nat.le_of_ble_eq_true rfl) d_Reader_readRuns_71 (by decide) (fun _ => ?_)
        refine j_ws (ws' := wRd cI cR o0 hh b q a n B pl rf hd r1) rfl ?_
        refine j_iinc C [(4, .int (v4 + (-1))), (0, .ref o0), (1, .int v1), (3, .int v3), (5, .int v5), (6, .int v6)] 3 (v4 + (-1)) d_Reader_readRuns_74 rfl rfl (by decide) rfl ?_
        refine j_iinc C [(6, .int (v6 + 1)), (4, .int (v4 + (-1))), (0, .ref o0), (1, .int v1), (3, .int v3), (5, .int v5)] 5 (v6 + 1) d_Reader_readRuns_77 rfl rfl (by decide) rfl ?_
        refine j_goto C 9 d_Reader_readRuns_80 (by decide) ?_
        refine j_sub [2, 3, 4, 1, 5, 0] rfl ?_
        exact ih (v4 + (-1)) v5 (v6 + 1) pl rf r1 h x0 x1
      · replace h := (if_pos c8).symm.trans h
        refine j_aload_n C 0 d_Reader_readRuns_20 rfl ?_
        refine j_iconst C (v := 1) d_Reader_readRuns_21 (by decide) ?_
        refine j_sipush C (v := 255) d_Reader_readRuns_22 (by decide) ?_
        refine j_iload_n C 2 d_Reader_readRuns_25 rfl ?_
        refine j_iload C 5 d_Reader_readRuns_26 rfl ?_
        refine j_isub C d_Reader_readRuns_28 ?_
        refine j_mmin C mw_Reader_110 (Nat.le_of_ble_eq_true rfl) (Nat.le_of_ble_eq_true rfl) (by decide) d_Reader_readRuns_29 ?_
        obtain ⟨r2, hr2, h⟩ := bd_ok h
        refine j_IV C [.int 1, .int (mn 255 (v3 - v6))] hA 0 rfl rfl (c_Reader_take l D cI cR cZ o0 hh b q a n B pl rf hd L 1 (mn 255 (v3 - v6)) hr2) (cw_Reader_65 C ⟨Nat.le_of_ble_eq_true rfl, Nat.le_of_ble_eq_true rfl⟩) [0, 1, 2, 3, 4, 5, 6, 7, 8, 9, 10] [] rfl rfl (by decide) (by decide) (by decide) rfl rfl (Nat.le_of_ble_eq_true rfl) d_Reader_readRuns_32 (by decide) (fun _ => ?_)
        refine j_ws (ws' := wRd cI cR o0 hh b q a n B r2.2.1 r2.2.2 hd L) rfl ?_
        refine j_istore C [(4, .int r2.1), (0, .ref o0), (1, .int v1), (3, .int v3), (5, .int v5), (6, .int v6)] d_Reader_readRuns_35 (by decide) rfl ?_
        refine j_iload C 0 d_Reader_readRuns_37 rfl ?_
        refine j_iconst C (v := (-1)) d_Reader_readRuns_39 (by decide) ?_
        obtain ⟨r3, hr3, gr3⟩ := bd_ok h
        refine j_let (ws' := wRd cI cR o0 hh b q a n B r3.2.1 r3.2.2 hd L) (lv' := [(0, .ref o0), (1, .int v1), (3, .int v3), (4, .int r2.1), (6, .int v6)]) (st' := [.int r3.1]) (pc' := 52) ?_ (fun Kr3 => ?_)
        · replace h := gr3
          refine j_istore C [(5, .int r3.1), (0, .ref o0), (1, .int v1), (3, .int v3), (4, .int r2.1), (6, .int v6)] d_Reader_readRuns_52 (by decide) rfl ?_
          refine j_iload C 0 d_Reader_readRuns_54 rfl ?_
          refine j_iconst C (v := (-1)) d_Reader_readRuns_56 (by decide) ?_
          refine j_icmp_ne C 62 d_Reader_readRuns_57 (by decide) (fun c6 => ?_) (fun c6 => ?_)
          · replace h := (if_neg c6).symm.trans h
            refine j_aload_n C 1 d_Reader_readRuns_62 rfl ?_
            refine gf_Reader_15 C 0 (v := .ref (a 0)) rfl rfl d_Reader_readRuns_63 ?_
            refine j_iload_n C 2 d_Reader_readRuns_66 rfl ?_
            refine j_iload C 5 d_Reader_readRuns_67 rfl ?_
            refine j_iload C 0 d_Reader_readRuns_69 rfl ?_
            obtain ⟨r5, hr5, h⟩ := bd_ok h
            refine j_VV C [.int v1, .int v6, .int r3.1] hA 4 rfl rfl (c_Layers_set l D cI cR cZ a n L v1 v6 r3.1 hr5) (cw_Reader_118 C ⟨Nat.le_of_ble_eq_true rfl, Nat.le_of_ble_eq_true rfl⟩) [4, 5, 6, 7, 8, 9, 10] [0, 1, 2, 3] rfl rfl (by decide) (by decide) (by decide) rfl rfl (Nat.le_of_ble_eq_true rfl) d_Reader_readRuns_71 (by decide) (fun _ => ?_)
            refine j_ws (ws' := wRd cI cR o0 hh b q a n B r3.2.1 r3.2.2 hd r5) rfl ?_
            refine j_iinc C [(4, .int (r2.1 + (-1))), (5, .int r3.1), (0, .ref o0), (1, .int v1), (3, .int v3), (6, .int v6)] 4 (r2.1 + (-1)) d_Reader_readRuns_74 rfl rfl (by decide) rfl ?_
            refine j_iinc C [(6, .int (v6 + 1)), (4, .int (r2.1 + (-1))), (5, .int r3.1), (0, .ref o0), (1, .int v1), (3, .int v3)] 5 (v6 + 1) d_Reader_readRuns_77 rfl rfl (by decide) rfl ?_
            refine j_goto C 9 d_Reader_readRuns_80 (by decide) ?_
            refine j_sub [3, 4, 5, 1, 2, 0] rfl ?_
            exact ih (r2.1 + (-1)) r3.1 (v6 + 1) r3.2.1 r3.2.2 r5 h x0 x1
          · replace h := (if_pos c6).symm.trans h
            obtain rfl := Option.some.inj h
            refine j_sub [] rfl ?_
            exact x1 rfl
        · replace h := hr3
          refine j_icmp_ne C 47 d_Reader_readRuns_40 (by decide) (fun c7 => ?_) (fun c7 => ?_)
          · replace h := (if_neg c7).symm.trans h
            refine j_aload_n C 1 d_Reader_readRuns_47 rfl ?_
            refine j_iload_n C 2 d_Reader_readRuns_48 rfl ?_
            obtain ⟨r4, hr4, h⟩ := bd_ok h
            refine j_IV C [.int v1] hA 0 rfl rfl (c_Reader_takeValue l D cI cR cZ o0 hh b q a n B r2.2.1 r2.2.2 hd L v1 hr4) (cw_Reader_115 C ⟨Nat.le_of_ble_eq_true rfl, Nat.le_of_ble_eq_true rfl⟩) [0, 1, 2, 3, 4, 5, 6, 7, 8, 9, 10] [] rfl rfl (by decide) (by decide) (by decide) rfl rfl (Nat.le_of_ble_eq_true rfl) d_Reader_readRuns_49 (by decide) (fun _ => ?_)
            refine j_ws (ws' := wRd cI cR o0 hh b q a n B r4.2.1 r4.2.2 hd L) rfl ?_
            obtain rfl := Option.some.inj h
            refine j_sub [1, 2, 3, 0, 5] rfl ?_
            exact Kr3
          · replace h := (if_pos c7).symm.trans h
            refine j_iconst C (v := (-1)) d_Reader_readRuns_43 (by decide) ?_
            refine j_goto C 52 d_Reader_readRuns_44 (by decide) ?_
            obtain rfl := Option.some.inj h
            refine j_sub [1, 2, 3, 0, 5] rfl ?_
            exact Kr3
set_option maxRecDepth 100000 in
set_option maxHeartbeats 4000000 in
theorem c_Reader_readRuns (l : Launch) (D : va_G) (cI cR cZ : ClassId) (fu : Nat) (o0 : Nat) (hh : Nat) (b : Nat) (q : Nat) (a : (Nat → Nat)) (n : Nat) (B : ByS) (pl : Int32) (rf : Int32) (hd : (Nat → Int32)) (L : LyS) (p1 : Int32) (p2 : Int32) (p3 : Int32) {res : (Int32 × Int32 × Int32 × LyS)} (h : Reader_readRuns fu n B pl rf hd L p1 p2 p3 = some res) (sz : Nat) : Met l y_Reader_readRuns (Cond.code y_Reader_readRuns b_Reader_readRuns 7 (some .boolean) :: BIG) rm_Reader_readRuns (PcI [.ref o0, .int p1, .int p2, .int p3] D (tyG cI cR cZ) (wRd cI cR o0 hh b q a n B pl rf hd L) sz) (QcI D res.1 (fun _ : Nat => wRd cI cR o0 hh b q a n B res.2.1 res.2.2.1 hd res.2.2.2) (va_A (wRd cI cR o0 hh b q a n B pl rf hd L) sz)) 0 0 (va_A (wRd cI cR o0 hh b q a n B pl rf hd L) sz) := by
  refine met_I (by decide) (Nat.le_of_ble_eq_true rfl) (fun p e s m args below meth c A hA C hr => ?_)
  have C : Cx p s m args meth c D (tyG cI cR cZ) b_Reader_readRuns 7 "MaskLayers$Reader" := C
  have hr : meth.sig.returnType = some .boolean := hr
  show J p l e rm_Reader_readRuns s m args below meth c D A (va_D A) 7 (MQ below (QcI D res.1 (fun _ : Nat => wRd cI cR o0 hh b q a n B res.2.1 res.2.2.1 hd res.2.2.2) A) args s 0 0 A) 0 0 (wRd cI cR o0 hh b q a n B pl rf hd L) [(0, .ref o0), (1, .int p1), (2, .int p2), (3, .int p3)] [] 0
  unfold Reader_readRuns at h
  refine j_iconst C (v := 0) d_Reader_readRuns_0 (by decide) ?_
  refine j_istore C [(4, .int 0), (0, .ref o0), (1, .int p1), (2, .int p2), (3, .int p3)] d_Reader_readRuns_1 (by decide) rfl ?_
  refine j_iconst C (v := (-1)) d_Reader_readRuns_3 (by decide) ?_
  refine j_istore C [(5, .int ((-1))), (4, .int 0), (0, .ref o0), (1, .int p1), (2, .int p2), (3, .int p3)] d_Reader_readRuns_4 (by decide) rfl ?_
  refine j_iload_n C 4 d_Reader_readRuns_6 rfl ?_
  refine j_istore C [(6, .int p2), (5, .int ((-1))), (4, .int 0), (0, .ref o0), (1, .int p1), (2, .int p2), (3, .int p3)] d_Reader_readRuns_7 (by decide) rfl ?_
  obtain ⟨r10, hr10, h⟩ := bd_ok h
  refine j_sub [3, 4, 6, 2, 1, 0] rfl ?_
  refine t_Reader_readRuns_l9 C hA fu 0 ((-1)) p2 pl rf L hr10 (fun e13 => ?_) (fun e14 => ?_)
  · replace h := (if_pos e13).symm.trans h
    refine j_iconst C (v := 1) d_Reader_readRuns_83 (by decide) ?_
    obtain ⟨b11, h⟩ := zb_ok h
    obtain rfl := Option.some.inj h
    exact j_iretZ C hr d_Reader_readRuns_84 b11 0 rfl
  · replace h := (if_neg (by rw [e14]; decide)).symm.trans h
    refine j_iconst C (v := 0) d_Reader_readRuns_60 (by decide) ?_
    obtain ⟨b12, h⟩ := zb_ok h
    obtain rfl := Option.some.inj h
    exact j_iretZ C hr d_Reader_readRuns_61 b12 0 rfl
