def Reader_readLayer_b157 (fu : Nat) (n : Nat) (B : ByS) (pl : Int32) (rf : Int32) (hd : (Nat → Int32)) (L : LyS) (v1 : Int32) (v2 : Int32) (v6 : Int32) (v9 : Int32) (s0 : Int32) : Option (Int32 × Int32 × Int32 × LyS) :=
  (if s0 = 0 then zb 0 (some (0, pl, rf, L))
  else (if ((pl - v6) - 2) = v9 then (Layers_add n L v1 v2).bind fun r7 =>
  zb 1 (some (1, pl, rf, r7))
  else (Reader_refuse n B pl rf hd L v6).bind fun r9 =>
  zb r9.1 (some (r9.1, pl, r9.2, L))))
def Reader_readLayer_b117 (fu : Nat) (n : Nat) (B : ByS) (pl : Int32) (rf : Int32) (hd : (Nat → Int32)) (L : LyS) (v1 : Int32) (v2 : Int32) (v3 : Int32) (v4 : Int32) (v5 : Int32) (v6 : Int32) (v9 : Int32) : Option (Int32 × Int32 × Int32 × LyS) :=
  (if v5 = 1 then (Reader_readRuns fu n B pl rf hd L v2 v3 v4).bind fun r16 =>
  Reader_readLayer_b157 fu n B r16.2.1 r16.2.2.1 hd r16.2.2.2 v1 v2 v6 v9 r16.1
  else (if v2 = 1 then (Reader_readBits fu n B pl rf hd L v3 v4).bind fun r14 =>
  Reader_readLayer_b157 fu n B r14.2.1 r14.2.2.1 hd r14.2.2.2 v1 v2 v6 v9 r14.1
  else (Reader_readColours fu n B pl rf hd L v2 v3 v4).bind fun r6 =>
  Reader_readLayer_b157 fu n B r6.2.1 r6.2.2.1 hd r6.2.2.2 v1 v2 v6 v9 r6.1))
def Reader_readLayer_b72 (fu : Nat) (n : Nat) (B : ByS) (pl : Int32) (rf : Int32) (hd : (Nat → Int32)) (L : LyS) (v1 : Int32) (v2 : Int32) (v3 : Int32) (v4 : Int32) (v5 : Int32) (v6 : Int32) (v7 : Int32) (s0 : Int32) : Option (Int32 × Int32 × Int32 × LyS) :=
  (if s0 = ((-1)) then zb 0 (some (0, pl, rf, L))
  else (if v5 = 0 then (ML_plainBytes v2 (v4 - v3)).bind fun r18 =>
  (if ((s0 <<< ((8 : Int32) &&& 31)) ||| v7) = r18 then Reader_readLayer_b117 fu n B pl rf hd L v1 v2 v3 v4 v5 v6 ((s0 <<< ((8 : Int32) &&& 31)) ||| v7)
  else (Reader_refuse n B pl rf hd L v6).bind fun r19 =>
  zb r19.1 (some (r19.1, pl, r19.2, L)))
  else Reader_readLayer_b117 fu n B pl rf hd L v1 v2 v3 v4 v5 v6 ((s0 <<< ((8 : Int32) &&& 31)) ||| v7)))
def Reader_readLayer_b52 (fu : Nat) (n : Nat) (B : ByS) (pl : Int32) (rf : Int32) (hd : (Nat → Int32)) (L : LyS) (v1 : Int32) (v2 : Int32) (v3 : Int32) (v4 : Int32) (v5 : Int32) (v6 : Int32) (s0 : Int32) : Option (Int32 × Int32 × Int32 × LyS) :=
  (if s0 = ((-1)) then Reader_readLayer_b72 fu n B pl rf hd L v1 v2 v3 v4 v5 v6 s0 ((-1))
  else (Reader_take n B pl rf hd L 0 255).bind fun r5 =>
  Reader_readLayer_b72 fu n B r5.2.1 r5.2.2 hd L v1 v2 v3 v4 v5 v6 s0 r5.1)
def Reader_readLayer (fu : Nat) (n : Nat) (B : ByS) (pl : Int32) (rf : Int32) (hd : (Nat → Int32)) (L : LyS) (p1 : Int32) (p2 : Int32) : Option (Int32 × Int32 × Int32 × LyS) :=
  (Layers_startOf n L p1).bind fun r1 =>
  (Layers_endOf n L p1 p2).bind fun r2 =>
  (Reader_take n B pl rf hd L 0 1).bind fun r3 =>
  (if r3.1 = ((-1)) then Reader_readLayer_b52 fu n B r3.2.1 r3.2.2 hd L p1 p2 r1 r2 r3.1 r3.2.1 ((-1))
  else (Reader_take n B r3.2.1 r3.2.2 hd L 0 255).bind fun r4 =>
  Reader_readLayer_b52 fu n B r4.2.1 r4.2.2 hd L p1 p2 r1 r2 r3.1 r3.2.1 r4.1)
set_option maxRecDepth 100000 in
set_option maxHeartbeats 4000000 in
theorem t_Reader_readLayer_b157 {p : Program} {l : Launch} {e : Env} {s : State} {m : MethodId} {args : Array Value} {below : List Frame} {meth : Method} {c : Code} {D : va_G} {cI cR cZ : ClassId} {A : Nat → Prop} (C : Cx p s m args meth c D (tyG cI cR cZ) b_Reader_readLayer 11 "MaskLayers$Reader") (hr : meth.sig.returnType = some .boolean) (hA : ∀ q : Nat, s.heap.size ≤ q → A q) {o0 : Nat} {hh : Nat} {b : Nat} {q : Nat} {a : (Nat → Nat)} {n : Nat} {B : ByS} {pl : Int32} {rf : Int32} {hd : (Nat → Int32)} {L : LyS} {fu : Nat} {v1 : Int32} {v2 : Int32} {v6 : Int32} {v9 : Int32} {s0 : Int32} {res : (Int32 × Int32 × Int32 × LyS)} (h : Reader_readLayer_b157 fu n B pl rf hd L v1 v2 v6 v9 s0 = some res) : J p l e rm_Reader_readLayer s m args below meth c D A (va_D A) 11 (MQ below (QcI D res.1 (fun _ : Nat => wRd cI cR o0 hh b q a n B res.2.1 res.2.2.1 hd res.2.2.2) A) args s 0 0 A) 0 0 (wRd cI cR o0 hh b q a n B pl rf hd L) [(0, .ref o0), (1, .int v1), (2, .int v2), (6, .int v6), (9, .int v9)] [.int s0] 157 := by
  unfold Reader_readLayer_b157 at h
  refine j_istore C [(10, .int s0), (0, .ref o0), (1, .int v1), (2, .int v2), (6, .int v6), (9, .int v9)] d_Reader_readLayer_157 (by decide) rfl ?_
  refine j_iload C 0 d_Reader_readLayer_159 rfl ?_
  refine j_if_ne C 166 d_Reader_readLayer_161 (by decide) (fun c13 => ?_) (fun c13 => ?_)
  · replace h := (if_neg c13).symm.trans h
    refine j_aload_n C 1 d_Reader_readLayer_166 rfl ?_
    refine gf_Reader_26 C 0 (v := .int pl) rfl rfl d_Reader_readLayer_167 ?_
    refine j_iload C 4 d_Reader_readLayer_170 rfl ?_
    refine j_isub C d_Reader_readLayer_172 ?_
    refine j_iconst C (v := 2) d_Reader_readLayer_173 (by decide) ?_
    refine j_isub C d_Reader_readLayer_174 ?_
    refine j_iload C 5 d_Reader_readLayer_175 rfl ?_
    refine j_icmp_eq C 187 d_Reader_readLayer_177 (by decide) (fun c11 => ?_) (fun c11 => ?_)
    · replace h := (if_pos c11).symm.trans h
      refine j_aload_n C 1 d_Reader_readLayer_187 rfl ?_
      refine gf_Reader_15 C 0 (v := .ref (a 0)) rfl rfl d_Reader_readLayer_188 ?_
      refine j_iload_n C 2 d_Reader_readLayer_191 rfl ?_
      refine j_iload_n C 3 d_Reader_readLayer_192 rfl ?_
      obtain ⟨r7, hr7, h⟩ := bd_ok h
      refine j_VV C [.int v1, .int v2] hA 4 rfl rfl (c_Layers_add l D cI cR cZ a n L v1 v2 hr7) (cw_Reader_106 C ⟨Nat.le_of_ble_eq_true rfl, Nat.le_of_ble_eq_true rfl⟩) [4, 5, 6, 7, 8, 9, 10] [0, 1, 2, 3] rfl rfl (by decide) (by decide) (by decide) rfl rfl (Nat.le_of_ble_eq_true rfl) d_Reader_readLayer_193 (by decide) (fun _ => ?_)
      refine j_ws (ws' := wRd cI cR o0 hh b q a n B pl rf hd r7) rfl ?_
      refine j_iconst C (v := 1) d_Reader_readLayer_196 (by decide) ?_
      obtain ⟨b8, h⟩ := zb_ok h
      obtain rfl := Option.some.inj h
      exact j_iretZ C hr d_Reader_readLayer_197 b8 0 rfl
    · replace h := (if_neg c11).symm.trans h
      refine j_aload_n C 1 d_Reader_readLayer_180 rfl ?_
      refine j_iload C 4 d_Reader_readLayer_181 rfl ?_
      obtain ⟨r9, hr9, h⟩ := bd_ok h
      refine j_IV C [.int v6] hA 0 rfl rfl (c_Reader_refuse l D cI cR cZ o0 hh b q a n B pl rf hd L v6 hr9) (cw_Reader_52 C ⟨Nat.le_of_ble_eq_true rfl, Nat.le_of_ble_eq_true rfl⟩) [0, 1, 2, 3, 4, 5, 6, 7, 8, 9, 10] [] rfl rfl (by decide) (by decide) (by decide) rfl rfl (Nat.le_of_ble_eq_true rfl) d_Reader_readLayer_183 (by decide) (fun _ => ?_)
      refine j_ws (ws' := wRd cI cR o0 hh b q a n B pl r9.2 hd L) rfl ?_
      obtain ⟨b10, h⟩ := zb_ok h
      obtain rfl := Option.some.inj h
      exact j_iretZ C hr d_Reader_readLayer_186 b10 0 rfl
  · replace h := (if_pos c13).symm.trans h
    refine j_iconst C (v := 0) d_Reader_readLayer_164 (by decide) ?_
    obtain ⟨b12, h⟩ := zb_ok h
    obtain rfl := Option.some.inj h
    exact j_iretZ C hr d_Reader_readLayer_165 b12 0 rfl
set_option maxRecDepth 100000 in
set_option maxHeartbeats 4000000 in
theorem t_Reader_readLayer_b117 {p : Program} {l : Launch} {e : Env} {s : State} {m : MethodId} {args : Array Value} {below : List Frame} {meth : Method} {c : Code} {D : va_G} {cI cR cZ : ClassId} {A : Nat → Prop} (C : Cx p s m args meth c D (tyG cI cR cZ) b_Reader_readLayer 11 "MaskLayers$Reader") (hr : meth.sig.returnType = some .boolean) (hA : ∀ q : Nat, s.heap.size ≤ q → A q) {o0 : Nat} {hh : Nat} {b : Nat} {q : Nat} {a : (Nat → Nat)} {n : Nat} {B : ByS} {pl : Int32} {rf : Int32} {hd : (Nat → Int32)} {L : LyS} {fu : Nat} {v1 : Int32} {v2 : Int32} {v3 : Int32} {v4 : Int32} {v5 : Int32} {v6 : Int32} {v9 : Int32} {res : (Int32 × Int32 × Int32 × LyS)} (h : Reader_readLayer_b117 fu n B pl rf hd L v1 v2 v3 v4 v5 v6 v9 = some res) : J p l e rm_Reader_readLayer s m args below meth c D A (va_D A) 11 (MQ below (QcI D res.1 (fun _ : Nat => wRd cI cR o0 hh b q a n B res.2.1 res.2.2.1 hd res.2.2.2) A) args s 0 0 A) 0 0 (wRd cI cR o0 hh b q a n B pl rf hd L) [(0, .ref o0), (1, .int v1), (2, .int v2), (3, .int v3), (4, .int v4), (5, .int v5), (6, .int v6), (9, .int v9)] [] 117 := by
  unfold Reader_readLayer_b117 at h
  refine j_iload C 5 d_Reader_readLayer_117 rfl ?_
  refine j_iconst C (v := 1) d_Reader_readLayer_119 (by decide) ?_
  refine j_icmp_ne C 134 d_Reader_readLayer_120 (by decide) (fun c17 => ?_) (fun c17 => ?_)
  · replace h := (if_neg c17).symm.trans h
    refine j_iload_n C 2 d_Reader_readLayer_134 rfl ?_
    refine j_iconst C (v := 1) d_Reader_readLayer_135 (by decide) ?_
    refine j_icmp_ne C 149 d_Reader_readLayer_136 (by decide) (fun c15 => ?_) (fun c15 => ?_)
    · replace h := (if_neg c15).symm.trans h
      refine j_aload_n C 0 d_Reader_readLayer_149 rfl ?_
      refine j_iload_n C 2 d_Reader_readLayer_150 rfl ?_
      refine j_iload_n C 3 d_Reader_readLayer_151 rfl ?_
      refine j_iload C 4 d_Reader_readLayer_152 rfl ?_
      obtain ⟨r6, hr6, h⟩ := bd_ok h
      refine j_IV C [.int v2, .int v3, .int v4] hA 0 rfl rfl (c_Reader_readColours l D cI cR cZ fu o0 hh b q a n B pl rf hd L v2 v3 v4 hr6) (cw_Reader_103 C ⟨Nat.le_of_ble_eq_true rfl, Nat.le_of_ble_eq_true rfl⟩) [0, 1, 2, 3, 4, 5, 6, 7, 8, 9, 10] [] rfl rfl (by decide) (by decide) (by decide) rfl rfl (Nat.le_of_ble_eq_true rfl) d_Reader_readLayer_154 (by decide) (fun _ => ?_)
      refine j_ws (ws' := wRd cI cR o0 hh b q a n B r6.2.1 r6.2.2.1 hd r6.2.2.2) rfl ?_
      refine j_sub [0, 1, 2, 6, 7] rfl ?_
      exact t_Reader_readLayer_b157 C hr hA h
    · replace h := (if_pos c15).symm.trans h
      refine j_aload_n C 0 d_Reader_readLayer_139 rfl ?_
      refine j_iload_n C 3 d_Reader_readLayer_140 rfl ?_
      refine j_iload C 4 d_Reader_readLayer_141 rfl ?_
      obtain ⟨r14, hr14, h⟩ := bd_ok h
      refine j_IV C [.int v3, .int v4] hA 0 rfl rfl (c_Reader_readBits l D cI cR cZ fu o0 hh b q a n B pl rf hd L v3 v4 hr14) (cw_Reader_100 C ⟨Nat.le_of_ble_eq_true rfl, Nat.le_of_ble_eq_true rfl⟩) [0, 1, 2, 3, 4, 5, 6, 7, 8, 9, 10] [] rfl rfl (by decide) (by decide) (by decide) rfl rfl (Nat.le_of_ble_eq_true rfl) d_Reader_readLayer_143 (by decide) (fun _ => ?_)
      refine j_ws (ws' := wRd cI cR o0 hh b q a n B r14.2.1 r14.2.2.1 hd r14.2.2.2) rfl ?_
      refine j_goto C 157 d_Reader_readLayer_146 (by decide) ?_
      refine j_sub [0, 1, 2, 6, 7] rfl ?_
      exact t_Reader_readLayer_b157 C hr hA h
  · replace h := (if_pos c17).symm.trans h
    refine j_aload_n C 0 d_Reader_readLayer_123 rfl ?_
    refine j_iload_n C 2 d_Reader_readLayer_124 rfl ?_
    refine j_iload_n C 3 d_Reader_readLayer_125 rfl ?_
    refine j_iload C 4 d_Reader_readLayer_126 rfl ?_
    obtain ⟨r16, hr16, h⟩ := bd_ok h
    refine j_IV C [.int v2, .int v3, .int v4] hA 0 rfl rfl (c_Reader_readRuns l D cI cR cZ fu o0 hh b q a n B pl rf hd L v2 v3 v4 hr16) (cw_Reader_96 C ⟨Nat.le_of_ble_eq_true rfl, Nat.le_of_ble_eq_true rfl⟩) [0, 1, 2, 3, 4, 5, 6, 7, 8, 9, 10] [] rfl rfl (by decide) (by decide) (by decide) rfl rfl (Nat.le_of_ble_eq_true rfl) d_Reader_readLayer_128 (by decide) (fun _ => ?_)
    refine j_ws (ws' := wRd cI cR o0 hh b q a n B r16.2.1 r16.2.2.1 hd r16.2.2.2) rfl ?_
    refine j_goto C 157 d_Reader_readLayer_131 (by decide) ?_
    refine j_sub [0, 1, 2, 6, 7] rfl ?_
    exact t_Reader_readLayer_b157 C hr hA h
set_option maxRecDepth 100000 in
set_option maxHeartbeats 4000000 in
theorem t_Reader_readLayer_b72 {p : Program} {l : Launch} {e : Env} {s : State} {m : MethodId} {args : Array Value} {below : List Frame} {meth : Method} {c : Code} {D : va_G} {cI cR cZ : ClassId} {A : Nat → Prop} (C : Cx p s m args meth c D (tyG cI cR cZ) b_Reader_readLayer 11 "MaskLayers$Reader") (hr : meth.sig.returnType = some .boolean) (hA : ∀ q : Nat, s.heap.size ≤ q → A q) {o0 : Nat} {hh : Nat} {b : Nat} {q : Nat} {a : (Nat → Nat)} {n : Nat} {B : ByS} {pl : Int32} {rf : Int32} {hd : (Nat → Int32)} {L : LyS} {fu : Nat} {v1 : Int32} {v2 : Int32} {v3 : Int32} {v4 : Int32} {v5 : Int32} {v6 : Int32} {v7 : Int32} {s0 : Int32} {res : (Int32 × Int32 × Int32 × LyS)} (h : Reader_readLayer_b72 fu n B pl rf hd L v1 v2 v3 v4 v5 v6 v7 s0 = some res) : J p l e rm_Reader_readLayer s m args below meth c D A (va_D A) 11 (MQ below (QcI D res.1 (fun _ : Nat => wRd cI cR o0 hh b q a n B res.2.1 res.2.2.1 hd res.2.2.2) A) args s 0 0 A) 0 0 (wRd cI cR o0 hh b q a n B pl rf hd L) [(0, .ref o0), (1, .int v1), (2, .int v2), (3, .int v3), (4, .int v4), (5, .int v5), (6, .int v6), (7, .int v7)] [.int s0] 72 := by
  unfold Reader_readLayer_b72 at h
  refine j_istore C [(8, .int s0), (0, .ref o0), (1, .int v1), (2, .int v2), (3, .int v3), (4, .int v4), (5, .int v5), (6, .int v6), (7, .int v7)] d_Reader_readLayer_72 (by decide) rfl ?_
  refine j_iload C 0 d_Reader_readLayer_74 rfl ?_
  refine j_iconst C (v := (-1)) d_Reader_readLayer_76 (by decide) ?_
  refine j_icmp_ne C 82 d_Reader_readLayer_77 (by decide) (fun c24 => ?_) (fun c24 => ?_)
  · replace h := (if_neg c24).symm.trans h
    refine j_iload C 0 d_Reader_readLayer_82 rfl ?_
    refine j_bipush C (v := 8) d_Reader_readLayer_84 (by decide) ?_
    refine j_ishl C d_Reader_readLayer_86 ?_
    refine j_iload C 8 d_Reader_readLayer_87 rfl ?_
    refine j_ior C d_Reader_readLayer_89 ?_
    refine j_istore C [(9, .int ((s0 <<< ((8 : Int32) &&& 31)) ||| v7)), (8, .int s0), (0, .ref o0), (1, .int v1), (2, .int v2), (3, .int v3), (4, .int v4), (5, .int v5), (6, .int v6), (7, .int v7)] d_Reader_readLayer_90 (by decide) rfl ?_
    refine j_iload C 7 d_Reader_readLayer_92 rfl ?_
    refine j_if_ne C 117 d_Reader_readLayer_94 (by decide) (fun c22 => ?_) (fun c22 => ?_)
    · replace h := (if_neg c22).symm.trans h
      refine j_sub [2, 3, 4, 5, 6, 7, 8, 0] rfl ?_
      exact t_Reader_readLayer_b117 C hr hA h
    · replace h := (if_pos c22).symm.trans h
      refine j_iload C 0 d_Reader_readLayer_97 rfl ?_
      refine j_iload_n C 4 d_Reader_readLayer_99 rfl ?_
      refine j_iload C 6 d_Reader_readLayer_100 rfl ?_
      refine j_iload_n C 5 d_Reader_readLayer_102 rfl ?_
      refine j_isub C d_Reader_readLayer_103 ?_
      obtain ⟨r18, hr18, h⟩ := bd_ok h
      refine j_PSN C [.int v2, .int (v4 - v3)] (c_ML_plainBytes l D cI cR cZ v2 (v4 - v3) hr18) (cw_Reader_93 C ⟨Nat.le_of_ble_eq_true rfl, Nat.le_of_ble_eq_true rfl⟩) [] rfl rfl rfl (Nat.le_of_ble_eq_true rfl) d_Reader_readLayer_104 (by decide) ?_
      refine j_icmp_eq C 117 d_Reader_readLayer_107 (by decide) (fun c21 => ?_) (fun c21 => ?_)
      · replace h := (if_pos c21).symm.trans h
        refine j_sub [2, 3, 4, 5, 6, 7, 8, 0] rfl ?_
        exact t_Reader_readLayer_b117 C hr hA h
      · replace h := (if_neg c21).symm.trans h
        refine j_aload_n C 2 d_Reader_readLayer_110 rfl ?_
        refine j_iload C 8 d_Reader_readLayer_111 rfl ?_
        obtain ⟨r19, hr19, h⟩ := bd_ok h
        refine j_IV C [.int v6] hA 0 rfl rfl (c_Reader_refuse l D cI cR cZ o0 hh b q a n B pl rf hd L v6 hr19) (cw_Reader_52 C ⟨Nat.le_of_ble_eq_true rfl, Nat.le_of_ble_eq_true rfl⟩) [0, 1, 2, 3, 4, 5, 6, 7, 8, 9, 10] [] rfl rfl (by decide) (by decide) (by decide) rfl rfl (Nat.le_of_ble_eq_true rfl) d_Reader_readLayer_113 (by decide) (fun _ => ?_)
        refine j_ws (ws' := wRd cI cR o0 hh b q a n B pl r19.2 hd L) rfl ?_
        obtain ⟨b20, h⟩ := zb_ok h
        obtain rfl := Option.some.inj h
        exact j_iretZ C hr d_Reader_readLayer_116 b20 0 rfl
  · replace h := (if_pos c24).symm.trans h
    refine j_iconst C (v := 0) d_Reader_readLayer_80 (by decide) ?_
    obtain ⟨b23, h⟩ := zb_ok h
    obtain rfl := Option.some.inj h
    exact j_iretZ C hr d_Reader_readLayer_81 b23 0 rfl
set_option maxRecDepth 100000 in
set_option maxHeartbeats 4000000 in
theorem t_Reader_readLayer_b52 {p : Program} {l : Launch} {e : Env} {s : State} {m : MethodId} {args : Array Value} {below : List Frame} {meth : Method} {c : Code} {D : va_G} {cI cR cZ : ClassId} {A : Nat → Prop} (C : Cx p s m args meth c D (tyG cI cR cZ) b_Reader_readLayer 11 "MaskLayers$Reader") (hr : meth.sig.returnType = some .boolean) (hA : ∀ q : Nat, s.heap.size ≤ q → A q) {o0 : Nat} {hh : Nat} {b : Nat} {q : Nat} {a : (Nat → Nat)} {n : Nat} {B : ByS} {pl : Int32} {rf : Int32} {hd : (Nat → Int32)} {L : LyS} {fu : Nat} {v1 : Int32} {v2 : Int32} {v3 : Int32} {v4 : Int32} {v5 : Int32} {v6 : Int32} {s0 : Int32} {res : (Int32 × Int32 × Int32 × LyS)} (h : Reader_readLayer_b52 fu n B pl rf hd L v1 v2 v3 v4 v5 v6 s0 = some res) : J p l e rm_Reader_readLayer s m args below meth c D A (va_D A) 11 (MQ below (QcI D res.1 (fun _ : Nat => wRd cI cR o0 hh b q a n B res.2.1 res.2.2.1 hd res.2.2.2) A) args s 0 0 A) 0 0 (wRd cI cR o0 hh b q a n B pl rf hd L) [(0, .ref o0), (1, .int v1), (2, .int v2), (3, .int v3), (4, .int v4), (5, .int v5), (6, .int v6)] [.int s0] 52 := by
  unfold Reader_readLayer_b52 at h
  refine j_istore C [(7, .int s0), (0, .ref o0), (1, .int v1), (2, .int v2), (3, .int v3), (4, .int v4), (5, .int v5), (6, .int v6)] d_Reader_readLayer_52 (by decide) rfl ?_
  refine j_iload C 0 d_Reader_readLayer_54 rfl ?_
  refine j_iconst C (v := (-1)) d_Reader_readLayer_56 (by decide) ?_
  refine j_icmp_ne C 64 d_Reader_readLayer_57 (by decide) (fun c25 => ?_) (fun c25 => ?_)
  · replace h := (if_neg c25).symm.trans h
    refine j_aload_n C 1 d_Reader_readLayer_64 rfl ?_
    refine j_iconst C (v := 0) d_Reader_readLayer_65 (by decide) ?_
    refine j_sipush C (v := 255) d_Reader_readLayer_66 (by decide) ?_
    obtain ⟨r5, hr5, h⟩ := bd_ok h
    refine j_IV C [.int 0, .int 255] hA 0 rfl rfl (c_Reader_take l D cI cR cZ o0 hh b q a n B pl rf hd L 0 255 hr5) (cw_Reader_65 C ⟨Nat.le_of_ble_eq_true rfl, Nat.le_of_ble_eq_true rfl⟩) [0, 1, 2, 3, 4, 5, 6, 7, 8, 9, 10] [] rfl rfl (by decide) (by decide) (by decide) rfl rfl (Nat.le_of_ble_eq_true rfl) d_Reader_readLayer_69 (by decide) (fun _ => ?_)
    refine j_ws (ws' := wRd cI cR o0 hh b q a n B r5.2.1 r5.2.2 hd L) rfl ?_
    refine j_sub [1, 2, 3, 4, 5, 6, 7, 0] rfl ?_
    exact t_Reader_readLayer_b72 C hr hA h
  · replace h := (if_pos c25).symm.trans h
    refine j_iconst C (v := (-1)) d_Reader_readLayer_60 (by decide) ?_
    refine j_goto C 72 d_Reader_readLayer_61 (by decide) ?_
    refine j_sub [1, 2, 3, 4, 5, 6, 7, 0] rfl ?_
    exact t_Reader_readLayer_b72 C hr hA h
set_option maxRecDepth 100000 in
set_option maxHeartbeats 4000000 in
theorem c_Reader_readLayer (l : Launch) (D : va_G) (cI cR cZ : ClassId) (fu : Nat) (o0 : Nat) (hh : Nat) (b : Nat) (q : Nat) (a : (Nat → Nat)) (n : Nat) (B : ByS) (pl : Int32) (rf : Int32) (hd : (Nat → Int32)) (L : LyS) (p1 : Int32) (p2 : Int32) {res : (Int32 × Int32 × Int32 × LyS)} (h : Reader_readLayer fu n B pl rf hd L p1 p2 = some res) (sz : Nat) : Met l y_Reader_readLayer (Cond.code y_Reader_readLayer b_Reader_readLayer 11 (some .boolean) :: BIG) rm_Reader_readLayer (PcI [.ref o0, .int p1, .int p2] D (tyG cI cR cZ) (wRd cI cR o0 hh b q a n B pl rf hd L) sz) (QcI D res.1 (fun _ : Nat => wRd cI cR o0 hh b q a n B res.2.1 res.2.2.1 hd res.2.2.2) (va_A (wRd cI cR o0 hh b q a n B pl rf hd L) sz)) 0 0 (va_A (wRd cI cR o0 hh b q a n B pl rf hd L) sz) := by
  refine met_I (by decide) (Nat.le_of_ble_eq_true rfl) (fun p e s m args below meth c A hA C hr => ?_)
  have C : Cx p s m args meth c D (tyG cI cR cZ) b_Reader_readLayer 11 "MaskLayers$Reader" := C
  have hr : meth.sig.returnType = some .boolean := hr
  show J p l e rm_Reader_readLayer s m args below meth c D A (va_D A) 11 (MQ below (QcI D res.1 (fun _ : Nat => wRd cI cR o0 hh b q a n B res.2.1 res.2.2.1 hd res.2.2.2) A) args s 0 0 A) 0 0 (wRd cI cR o0 hh b q a n B pl rf hd L) [(0, .ref o0), (1, .int p1), (2, .int p2)] [] 0
  unfold Reader_readLayer at h
  refine j_aload_n C 0 d_Reader_readLayer_0 rfl ?_
  refine gf_Reader_15 C 0 (v := .ref (a 0)) rfl rfl d_Reader_readLayer_1 ?_
  refine j_iload_n C 1 d_Reader_readLayer_4 rfl ?_
  obtain ⟨r1, hr1, h⟩ := bd_ok h
  refine j_PV C [.int p1] 4 rfl rfl (c_Layers_startOf l D cI cR cZ a n L p1 hr1) (cw_Reader_86 C ⟨Nat.le_of_ble_eq_true rfl, Nat.le_of_ble_eq_true rfl⟩) [4, 5, 6, 7, 8, 9, 10] rfl rfl rfl (Nat.le_of_ble_eq_true rfl) d_Reader_readLayer_5 (by decide) ?_
  refine j_istore_n C [(3, .int r1), (0, .ref o0), (1, .int p1), (2, .int p2)] d_Reader_readLayer_8 (by decide) rfl ?_
  refine j_aload_n C 1 d_Reader_readLayer_9 rfl ?_
  refine gf_Reader_15 C 0 (v := .ref (a 0)) rfl rfl d_Reader_readLayer_10 ?_
  refine j_iload_n C 2 d_Reader_readLayer_13 rfl ?_
  refine j_iload_n C 3 d_Reader_readLayer_14 rfl ?_
  obtain ⟨r2, hr2, h⟩ := bd_ok h
  refine j_PV C [.int p1, .int p2] 4 rfl rfl (c_Layers_endOf l D cI cR cZ a n L p1 p2 hr2) (cw_Reader_90 C ⟨Nat.le_of_ble_eq_true rfl, Nat.le_of_ble_eq_true rfl⟩) [4, 5, 6, 7, 8, 9, 10] rfl rfl rfl (Nat.le_of_ble_eq_true rfl) d_Reader_readLayer_15 (by decide) ?_
  refine j_istore C [(4, .int r2), (3, .int r1), (0, .ref o0), (1, .int p1), (2, .int p2)] d_Reader_readLayer_18 (by decide) rfl ?_
  refine j_aload_n C 2 d_Reader_readLayer_20 rfl ?_
  refine j_iconst C (v := 0) d_Reader_readLayer_21 (by decide) ?_
  refine j_iconst C (v := 1) d_Reader_readLayer_22 (by decide) ?_
  obtain ⟨r3, hr3, h⟩ := bd_ok h
  refine j_IV C [.int 0, .int 1] hA 0 rfl rfl (c_Reader_take l D cI cR cZ o0 hh b q a n B pl rf hd L 0 1 hr3) (cw_Reader_65 C ⟨Nat.le_of_ble_eq_true rfl, Nat.le_of_ble_eq_true rfl⟩) [0, 1, 2, 3, 4, 5, 6, 7, 8, 9, 10] [] rfl rfl (by decide) (by decide) (by decide) rfl rfl (Nat.le_of_ble_eq_true rfl) d_Reader_readLayer_23 (by decide) (fun _ => ?_)
  refine j_ws (ws' := wRd cI cR o0 hh b q a n B r3.2.1 r3.2.2 hd L) rfl ?_
  refine j_istore C [(5, .int r3.1), (4, .int r2), (3, .int r1), (0, .ref o0), (1, .int p1), (2, .int p2)] d_Reader_readLayer_26 (by decide) rfl ?_
  refine j_aload_n C 3 d_Reader_readLayer_28 rfl ?_
  refine gf_Reader_26 C 0 (v := .int r3.2.1) rfl rfl d_Reader_readLayer_29 ?_
  refine j_istore C [(6, .int r3.2.1), (5, .int r3.1), (4, .int r2), (3, .int r1), (0, .ref o0), (1, .int p1), (2, .int p2)] d_Reader_readLayer_32 (by decide) rfl ?_
  refine j_iload C 1 d_Reader_readLayer_34 rfl ?_
  refine j_iconst C (v := (-1)) d_Reader_readLayer_36 (by decide) ?_
  refine j_icmp_ne C 44 d_Reader_readLayer_37 (by decide) (fun c26 => ?_) (fun c26 => ?_)
  · replace h := (if_neg c26).symm.trans h
    refine j_aload_n C 4 d_Reader_readLayer_44 rfl ?_
    refine j_iconst C (v := 0) d_Reader_readLayer_45 (by decide) ?_
    refine j_sipush C (v := 255) d_Reader_readLayer_46 (by decide) ?_
    obtain ⟨r4, hr4, h⟩ := bd_ok h
    refine j_IV C [.int 0, .int 255] hA 0 rfl rfl (c_Reader_take l D cI cR cZ o0 hh b q a n B r3.2.1 r3.2.2 hd L 0 255 hr4) (cw_Reader_65 C ⟨Nat.le_of_ble_eq_true rfl, Nat.le_of_ble_eq_true rfl⟩) [0, 1, 2, 3, 4, 5, 6, 7, 8, 9, 10] [] rfl rfl (by decide) (by decide) (by decide) rfl rfl (Nat.le_of_ble_eq_true rfl) d_Reader_readLayer_49 (by decide) (fun _ => ?_)
    refine j_ws (ws' := wRd cI cR o0 hh b q a n B r4.2.1 r4.2.2 hd L) rfl ?_
    refine j_sub [4, 5, 6, 3, 2, 1, 0] rfl ?_
    exact t_Reader_readLayer_b52 C hr hA h
  · replace h := (if_pos c26).symm.trans h
    refine j_iconst C (v := (-1)) d_Reader_readLayer_40 (by decide) ?_
    refine j_goto C 52 d_Reader_readLayer_41 (by decide) ?_
    refine j_sub [4, 5, 6, 3, 2, 1, 0] rfl ?_
    exact t_Reader_readLayer_b52 C hr hA h
def Reader_readStripe_l4 (fu : Nat) (n : Nat) (B : ByS) (hd : (Nat → Int32)) (v1 : Int32) : Nat → Int32 → Int32 → Int32 → Int32 → LyS → Option (Nat × Int32 × Int32 × Int32 × LyS)
  | 0, _, _, _, _, _ => none
  | k + 1, v2, v3, pl, rf, L =>
  (if 4 < v3 then some (0, 0, pl, rf, L)
  else (Reader_take n B pl rf hd L 160 175).bind fun r1 =>
  (if r1.1 = ((-1)) then some (1, pl, r1.2.1, r1.2.2, L)
  else (if r1.1 = 175 then some (2, pl, r1.2.1, r1.2.2, L)
  else (if (r1.1 - 160) ≤ v2 then some (3, pl, r1.2.1, r1.2.2, L)
  else (Reader_mayFollow n B r1.2.1 r1.2.2 hd L v1 (r1.1 - 160)).bind fun r2 =>
  (if r2 = 0 then some (3, pl, r1.2.1, r1.2.2, L)
  else (Reader_readLayer fu n B r1.2.1 r1.2.2 hd L v1 (r1.1 - 160)).bind fun r3 =>
  (if r3.1 = 0 then some (4, pl, r3.2.1, r3.2.2.1, r3.2.2.2)
  else Reader_readStripe_l4 fu n B hd v1 k (r1.1 - 160) (v3 + 1) r3.2.1 r3.2.2.1 r3.2.2.2))))))
def Reader_readStripe (fu : Nat) (n : Nat) (B : ByS) (pl : Int32) (rf : Int32) (hd : (Nat → Int32)) (L : LyS) (p1 : Int32) : Option (Int32 × Int32 × Int32 × LyS) :=
  (Reader_readStripe_l4 fu n B hd p1 fu ((-1)) 0 pl rf L).bind fun r10 =>
  (if r10.1 = 0 then (Reader_refuse n B r10.2.2.1 r10.2.2.2.1 hd r10.2.2.2.2 r10.2.2.1).bind fun r11 =>
  zb r11.1 (some (r11.1, r10.2.2.1, r11.2, r10.2.2.2.2))
  else (if r10.1 = 1 then zb 0 (some (0, r10.2.2.1, r10.2.2.2.1, r10.2.2.2.2))
  else (if r10.1 = 2 then (Reader_mayEnd n B r10.2.2.1 r10.2.2.2.1 hd r10.2.2.2.2 p1).bind fun r14 =>
  (if r14 = 0 then (Reader_refuse n B r10.2.2.1 r10.2.2.2.1 hd r10.2.2.2.2 r10.2.1).bind fun r16 =>
  (if r16.1 = 0 then zb 0 (some (0, r10.2.2.1, r16.2, r10.2.2.2.2))
  else zb 1 (some (1, r10.2.2.1, r16.2, r10.2.2.2.2)))
  else zb 1 (some (1, r10.2.2.1, r10.2.2.2.1, r10.2.2.2.2)))
  else (if r10.1 = 3 then (Reader_refuse n B r10.2.2.1 r10.2.2.2.1 hd r10.2.2.2.2 r10.2.1).bind fun r21 =>
  zb r21.1 (some (r21.1, r10.2.2.1, r21.2, r10.2.2.2.2))
  else zb 0 (some (0, r10.2.2.1, r10.2.2.2.1, r10.2.2.2.2))))))
set_option maxRecDepth 100000 in
set_option maxHeartbeats 4000000 in
theorem t_Reader_readStripe_l4 {p : Program} {l : Launch} {e : Env} {s : State} {m : MethodId} {args : Array Value} {below : List Frame} {meth : Method} {c : Code} {D : va_G} {cI cR cZ : ClassId} {A : Nat → Prop} {Q : State → Prop} (C : Cx p s m args meth c D (tyG cI cR cZ) b_Reader_readStripe 7 "MaskLayers$Reader") (hA : ∀ q : Nat, s.heap.size ≤ q → A q) {o0 : Nat} {hh : Nat} {b : Nat} {q : Nat} {a : (Nat → Nat)} {n : Nat} {fu : Nat} {B : ByS} {hd : (Nat → Int32)} {v1 : Int32} {out : Nat × Int32 × Int32 × Int32 × LyS} : ∀ (k : Nat) (v2 : Int32) (v3 : Int32) (pl : Int32) (rf : Int32) (L : LyS), Reader_readStripe_l4 fu n B hd v1 k v2 v3 pl rf L = some out → (out.1 = 0 → J p l e rm_Reader_readStripe s m args below meth c D A (va_D A) 7 Q 0 0 (wRd cI cR o0 hh b q a n B out.2.2.1 out.2.2.2.1 hd out.2.2.2.2) [(0, .ref o0)] [] 118) → (out.1 = 1 → J p l e rm_Reader_readStripe s m args below meth c D A (va_D A) 7 Q 0 0 (wRd cI cR o0 hh b q a n B out.2.2.1 out.2.2.2.1 hd out.2.2.2.2) [] [] 33) → (out.1 = 2 → J p l e rm_Reader_readStripe s m args below meth c D A (va_D A) 7 Q 0 0 (wRd cI cR o0 hh b q a n B out.2.2.1 out.2.2.2.1 hd out.2.2.2.2) [(0, .ref o0), (1, .int v1), (4, .int out.2.1)] [] 51) → (out.1 = 3 → J p l e rm_Reader_readStripe s m args below meth c D A (va_D A) 7 Q 0 0 (wRd cI cR o0 hh b q a n B out.2.2.1 out.2.2.2.1 hd out.2.2.2.2) [(0, .ref o0), (4, .int out.2.1)] [] 90) → (out.1 = 4 → J p l e rm_Reader_readStripe s m args below meth c D A (va_D A) 7 Q 0 0 (wRd cI cR o0 hh b q a n B out.2.2.1 out.2.2.2.1 hd out.2.2.2.2) [] [] 107) → J p l e rm_Reader_readStripe s m args below meth c D A (va_D A) 7 Q 0 0 (wRd cI cR o0 hh b q a n B pl rf hd L) [(0, .ref o0), (1, .int v1), (2, .int v2), (3, .int v3)] [] 4 := by
  intro k
  induction k with
  | zero => intro v2 v3 pl rf L h; cases (show none = some out from h)
  | succ k ih =>
    intro v2 v3 pl rf L h x0 x1 x2 x3 x4
    rw [Reader_readStripe_l4] at h
    refine j_iload_n C 3 d_Reader_readStripe_4 rfl ?_
    refine j_iconst C (v := 4) d_Reader_readStripe_5 (by decide) ?_
    refine j_icmp_gt C 118 d_Reader_readStripe_6 (by decide) (fun c9 => ?_) (fun c9 => ?_)
    · replace h := (if_pos c9).symm.trans h
      obtain rfl := Option.some.inj h
      refine j_sub [0] rfl ?_
      exact x0 rfl
    · replace h := (if_neg c9).symm.trans h
      refine j_aload_n C 0 d_Reader_readStripe_9 rfl ?_
      refine gf_Reader_26 C 0 (v := .int pl) rfl rfl d_Reader_readStripe_10 ?_
      refine j_istore C [(4, .int pl), (0, .ref o0), (1, .int v1), (2, .int v2), (3, .int v3)] d_Reader_readStripe_13 (by decide) rfl ?_
      refine j_aload_n C 1 d_Reader_readStripe_15 rfl ?_
      refine j_sipush C (v := 160) d_Reader_readStripe_16 (by decide) ?_
      refine j_sipush C (v := 175) d_Reader_readStripe_19 (by decide) ?_
      obtain ⟨r1, hr1, h⟩ := bd_ok h
      refine j_IV C [.int 160, .int 175] hA 0 rfl rfl (c_Reader_take l D cI cR cZ o0 hh b q a n B pl rf hd L 160 175 hr1) (cw_Reader_65 C ⟨Nat.le_of_ble_eq_true rfl, Nat.le_of_ble_eq_true rfl⟩) [0, 1, 2, 3, 4, 5, 6, 7, 8, 9, 10] [] rfl rfl (by decide) (by decide) (by decide) rfl rfl (Nat.le_of_ble_eq_true rfl) d_Reader_readStripe_22 (by decide) (fun _ => ?_)
      refine j_ws (ws' := wRd cI cR o0 hh b q a n B r1.2.1 r1.2.2 hd L) rfl ?_
      refine j_istore C [(5, .int r1.1), (4, .int pl), (0, .ref o0), (1, .int v1), (2, .int v2), (3, .int v3)] d_Reader_readStripe_25 (by decide) rfl ?_
      refine j_iload C 0 d_Reader_readStripe_27 rfl ?_
      refine j_iconst C (v := (-1)) d_Reader_readStripe_29 (by decide) ?_
      refine j_icmp_ne C 35 d_Reader_readStripe_30 (by decide) (fun c8 => ?_) (fun c8 => ?_)
      · replace h := (if_neg c8).symm.trans h
        refine j_iload C 0 d_Reader_readStripe_35 rfl ?_
        refine j_sipush C (v := 160) d_Reader_readStripe_37 (by decide) ?_
        refine j_isub C d_Reader_readStripe_40 ?_
        refine j_istore C [(6, .int (r1.1 - 160)), (5, .int r1.1), (4, .int pl), (0, .ref o0), (1, .int v1), (2, .int v2), (3, .int v3)] d_Reader_readStripe_41 (by decide) rfl ?_
        refine j_iload C 1 d_Reader_readStripe_43 rfl ?_
        refine j_sipush C (v := 175) d_Reader_readStripe_45 (by decide) ?_
        refine j_icmp_ne C 74 d_Reader_readStripe_48 (by decide) (fun c7 => ?_) (fun c7 => ?_)
        · replace h := (if_neg c7).symm.trans h
          refine j_iload C 0 d_Reader_readStripe_74 rfl ?_
          refine j_iload_n C 5 d_Reader_readStripe_76 rfl ?_
          refine j_icmp_le C 90 d_Reader_readStripe_77 (by decide) (fun c6 => ?_) (fun c6 => ?_)
          · replace h := (if_pos c6).symm.trans h
            obtain rfl := Option.some.inj h
            refine j_sub [3, 2] rfl ?_
            exact x3 rfl
          · replace h := (if_neg c6).symm.trans h
            refine j_aload_n C 3 d_Reader_readStripe_80 rfl ?_
            refine j_iload_n C 4 d_Reader_readStripe_81 rfl ?_
            refine j_iload C 0 d_Reader_readStripe_82 rfl ?_
            obtain ⟨r2, hr2, h⟩ := bd_ok h
            refine j_PV C [.int v1, .int (r1.1 - 160)] 0 rfl rfl (c_Reader_mayFollow l D cI cR cZ o0 hh b q a n B r1.2.1 r1.2.2 hd L v1 (r1.1 - 160) hr2) (cw_Reader_76 C ⟨Nat.le_of_ble_eq_true rfl, Nat.le_of_ble_eq_true rfl⟩) [0, 1, 2, 3, 4, 5, 6, 7, 8, 9, 10] rfl rfl rfl (Nat.le_of_ble_eq_true rfl) d_Reader_readStripe_84 (by decide) ?_
            refine j_if_ne C 97 d_Reader_readStripe_87 (by decide) (fun c5 => ?_) (fun c5 => ?_)
            · replace h := (if_neg c5).symm.trans h
              refine j_aload_n C 3 d_Reader_readStripe_97 rfl ?_
              refine j_iload_n C 4 d_Reader_readStripe_98 rfl ?_
              refine j_iload C 0 d_Reader_readStripe_99 rfl ?_
              obtain ⟨r3, hr3, h⟩ := bd_ok h
              refine j_IV C [.int v1, .int (r1.1 - 160)] hA 0 rfl rfl (c_Reader_readLayer l D cI cR cZ fu o0 hh b q a n B r1.2.1 r1.2.2 hd L v1 (r1.1 - 160) hr3) (cw_Reader_80 C ⟨Nat.le_of_ble_eq_true rfl, Nat.le_of_ble_eq_true rfl⟩) [0, 1, 2, 3, 4, 5, 6, 7, 8, 9, 10] [] rfl rfl (by decide) (by decide) (by decide) rfl rfl (Nat.le_of_ble_eq_true rfl) d_Reader_readStripe_101 (by decide) (fun _ => ?_)
              refine j_ws (ws' := wRd cI cR o0 hh b q a n B r3.2.1 r3.2.2.1 hd r3.2.2.2) rfl ?_
              refine j_if_ne C 109 d_Reader_readStripe_104 (by decide) (fun c4 => ?_) (fun c4 => ?_)
              · replace h := (if_neg c4).symm.trans h
                refine j_iload C 0 d_Reader_readStripe_109 rfl ?_
                refine j_istore_n C [(2, .int (r1.1 - 160)), (6, .int (r1.1 - 160)), (5, .int r1.1), (4, .int pl), (0, .ref o0), (1, .int v1), (3, .int v3)] d_Reader_readStripe_111 (by decide) rfl ?_
                refine j_iinc C [(3, .int (v3 + 1)), (2, .int (r1.1 - 160)), (6, .int (r1.1 - 160)), (5, .int r1.1), (4, .int pl), (0, .ref o0), (1, .int v1)] 6 (v3 + 1) d_Reader_readStripe_112 rfl rfl (by decide) rfl ?_
                refine j_goto C 4 d_Reader_readStripe_115 (by decide) ?_
                refine j_sub [5, 6, 1, 0] rfl ?_
                exact ih (r1.1 - 160) (v3 + 1) r3.2.1 r3.2.2.1 r3.2.2.2 h x0 x1 x2 x3 x4
              · replace h := (if_pos c4).symm.trans h
                obtain rfl := Option.some.inj h
                refine j_sub [] rfl ?_
                exact x4 rfl
            · replace h := (if_pos c5).symm.trans h
              obtain rfl := Option.some.inj h
              refine j_sub [3, 2] rfl ?_
              exact x3 rfl
        · replace h := (if_pos c7).symm.trans h
          obtain rfl := Option.some.inj h
          refine j_sub [3, 4, 2] rfl ?_
          exact x2 rfl
      · replace h := (if_pos c8).symm.trans h
        obtain rfl := Option.some.inj h
        refine j_sub [] rfl ?_
        exact x1 rfl
set_option maxRecDepth 100000 in
set_option maxHeartbeats 4000000 in
theorem c_Reader_readStripe (l : Launch) (D : va_G) (cI cR cZ : ClassId) (fu : Nat) (o0 : Nat) (hh : Nat) (b : Nat) (q : Nat) (a : (Nat → Nat)) (n : Nat) (B : ByS) (pl : Int32) (rf : Int32) (hd : (Nat → Int32)) (L : LyS) (p1 : Int32) {res : (Int32 × Int32 × Int32 × LyS)} (h : Reader_readStripe fu n B pl rf hd L p1 = some res) (sz : Nat) : Met l y_Reader_readStripe (Cond.code y_Reader_readStripe b_Reader_readStripe 7 (some .boolean) :: BIG) rm_Reader_readStripe (PcI [.ref o0, .int p1] D (tyG cI cR cZ) (wRd cI cR o0 hh b q a n B pl rf hd L) sz) (QcI D res.1 (fun _ : Nat => wRd cI cR o0 hh b q a n B res.2.1 res.2.2.1 hd res.2.2.2) (va_A (wRd cI cR o0 hh b q a n B pl rf hd L) sz)) 0 0 (va_A (wRd cI cR o0 hh b q a n B pl rf hd L) sz) := by
  refine met_I (by decide) (Nat.le_of_ble_eq_true rfl) (fun p e s m args below meth c A hA C hr => ?_)
  have C : Cx p s m args meth c D (tyG cI cR cZ) b_Reader_readStripe 7 "MaskLayers$Reader" := C
  have hr : meth.sig.returnType = some .boolean := hr
  show J p l e rm_Reader_readStripe s m args below meth c D A (va_D A) 7 (MQ below (QcI D res.1 (fun _ : Nat => wRd cI cR o0 hh b q a n B res.2.1 res.2.2.1 hd res.2.2.2) A) args s 0 0 A) 0 0 (wRd cI cR o0 hh b q a n B pl rf hd L) [(0, .ref o0), (1, .int p1)] [] 0
  unfold Reader_readStripe at h
  refine j_iconst C (v := (-1)) d_Reader_readStripe_0 (by decide) ?_
  refine j_istore_n C [(2, .int ((-1))), (0, .ref o0), (1, .int p1)] d_Reader_readStripe_1 (by decide) rfl ?_
  refine j_iconst C (v := 0) d_Reader_readStripe_2 (by decide) ?_
  refine j_istore_n C [(3, .int 0), (2, .int ((-1))), (0, .ref o0), (1, .int p1)] d_Reader_readStripe_3 (by decide) rfl ?_
  obtain ⟨r10, hr10, h⟩ := bd_ok h
  refine j_sub [2, 3, 1, 0] rfl ?_
  refine t_Reader_readStripe_l4 C hA fu ((-1)) 0 pl rf L hr10 (fun e24 => ?_) (fun e25 => ?_) (fun e26 => ?_) (fun e27 => ?_) (fun e28 => ?_)
  · replace h := (if_pos e24).symm.trans h
    refine j_aload_n C 0 d_Reader_readStripe_118 rfl ?_
    refine j_aload_n C 0 d_Reader_readStripe_119 rfl ?_
    refine gf_Reader_26 C 0 (v := .int r10.2.2.1) rfl rfl d_Reader_readStripe_120 ?_
    obtain ⟨r11, hr11, h⟩ := bd_ok h
    refine j_IV C [.int r10.2.2.1] hA 0 rfl rfl (c_Reader_refuse l D cI cR cZ o0 hh b q a n B r10.2.2.1 r10.2.2.2.1 hd r10.2.2.2.2 r10.2.2.1 hr11) (cw_Reader_52 C ⟨Nat.le_of_ble_eq_true rfl, Nat.le_of_ble_eq_true rfl⟩) [0, 1, 2, 3, 4, 5, 6, 7, 8, 9, 10] [] rfl rfl (by decide) (by decide) (by decide) rfl rfl (Nat.le_of_ble_eq_true rfl) d_Reader_readStripe_123 (by decide) (fun _ => ?_)
    refine j_ws (ws' := wRd cI cR o0 hh b q a n B r10.2.2.1 r11.2 hd r10.2.2.2.2) rfl ?_
    obtain ⟨b12, h⟩ := zb_ok h
    obtain rfl := Option.some.inj h
    exact j_iretZ C hr d_Reader_readStripe_126 b12 0 rfl
  · replace h := (if_neg (by rw [e25]; decide)).symm.trans h
    replace h := (if_pos e25).symm.trans h
    refine j_iconst C (v := 0) d_Reader_readStripe_33 (by decide) ?_
    obtain ⟨b13, h⟩ := zb_ok h
    obtain rfl := Option.some.inj h
    exact j_iretZ C hr d_Reader_readStripe_34 b13 0 rfl
  · replace h := (if_neg (by rw [e26]; decide)).symm.trans h
    replace h := (if_neg (by rw [e26]; decide)).symm.trans h
    replace h := (if_pos e26).symm.trans h
    refine j_aload_n C 0 d_Reader_readStripe_51 rfl ?_
    refine j_iload_n C 1 d_Reader_readStripe_52 rfl ?_
    obtain ⟨r14, hr14, h⟩ := bd_ok h
    refine j_PV C [.int p1] 0 rfl rfl (c_Reader_mayEnd l D cI cR cZ o0 hh b q a n B r10.2.2.1 r10.2.2.2.1 hd r10.2.2.2.2 p1 hr14) (cw_Reader_73 C ⟨Nat.le_of_ble_eq_true rfl, Nat.le_of_ble_eq_true rfl⟩) [0, 1, 2, 3, 4, 5, 6, 7, 8, 9, 10] rfl rfl rfl (Nat.le_of_ble_eq_true rfl) d_Reader_readStripe_53 (by decide) ?_
    refine j_if_ne C 68 d_Reader_readStripe_56 (by decide) (fun c20 => ?_) (fun c20 => ?_)
    · replace h := (if_neg c20).symm.trans h
      refine j_iconst C (v := 1) d_Reader_readStripe_68 (by decide) ?_
      refine j_goto C 73 d_Reader_readStripe_69 (by decide) ?_
      obtain ⟨b15, h⟩ := zb_ok h
      obtain rfl := Option.some.inj h
      exact j_iretZ C hr d_Reader_readStripe_73 b15 0 rfl
    · replace h := (if_pos c20).symm.trans h
      refine j_aload_n C 0 d_Reader_readStripe_59 rfl ?_
      refine j_iload C 2 d_Reader_readStripe_60 rfl ?_
      obtain ⟨r16, hr16, h⟩ := bd_ok h
      refine j_IV C [.int r10.2.1] hA 0 rfl rfl (c_Reader_refuse l D cI cR cZ o0 hh b q a n B r10.2.2.1 r10.2.2.2.1 hd r10.2.2.2.2 r10.2.1 hr16) (cw_Reader_52 C ⟨Nat.le_of_ble_eq_true rfl, Nat.le_of_ble_eq_true rfl⟩) [0, 1, 2, 3, 4, 5, 6, 7, 8, 9, 10] [] rfl rfl (by decide) (by decide) (by decide) rfl rfl (Nat.le_of_ble_eq_true rfl) d_Reader_readStripe_62 (by decide) (fun _ => ?_)
      refine j_ws (ws' := wRd cI cR o0 hh b q a n B r10.2.2.1 r16.2 hd r10.2.2.2.2) rfl ?_
      refine j_if_eq C 72 d_Reader_readStripe_65 (by decide) (fun c19 => ?_) (fun c19 => ?_)
      · replace h := (if_pos c19).symm.trans h
        refine j_iconst C (v := 0) d_Reader_readStripe_72 (by decide) ?_
        obtain ⟨b17, h⟩ := zb_ok h
        obtain rfl := Option.some.inj h
        exact j_iretZ C hr d_Reader_readStripe_73 b17 0 rfl
      · replace h := (if_neg c19).symm.trans h
        refine j_iconst C (v := 1) d_Reader_readStripe_68 (by decide) ?_
        refine j_goto C 73 d_Reader_readStripe_69 (by decide) ?_
        obtain ⟨b18, h⟩ := zb_ok h
        obtain rfl := Option.some.inj h
        exact j_iretZ C hr d_Reader_readStripe_73 b18 0 rfl
  · replace h := (if_neg (by rw [e27]; decide)).symm.trans h
    replace h := (if_neg (by rw [e27]; decide)).symm.trans h
    replace h := (if_neg (by rw [e27]; decide)).symm.trans h
    replace h := (if_pos e27).symm.trans h
    refine j_aload_n C 0 d_Reader_readStripe_90 rfl ?_
    refine j_iload C 1 d_Reader_readStripe_91 rfl ?_
    obtain ⟨r21, hr21, h⟩ := bd_ok h
    refine j_IV C [.int r10.2.1] hA 0 rfl rfl (c_Reader_refuse l D cI cR cZ o0 hh b q a n B r10.2.2.1 r10.2.2.2.1 hd r10.2.2.2.2 r10.2.1 hr21) (cw_Reader_52 C ⟨Nat.le_of_ble_eq_true rfl, Nat.le_of_ble_eq_true rfl⟩) [0, 1, 2, 3, 4, 5, 6, 7, 8, 9, 10] [] rfl rfl (by decide) (by decide) (by decide) rfl rfl (Nat.le_of_ble_eq_true rfl) d_Reader_readStripe_93 (by decide) (fun _ => ?_)
    refine j_ws (ws' := wRd cI cR o0 hh b q a n B r10.2.2.1 r21.2 hd r10.2.2.2.2) rfl ?_
    obtain ⟨b22, h⟩ := zb_ok h
    obtain rfl := Option.some.inj h
    exact j_iretZ C hr d_Reader_readStripe_96 b22 0 rfl
  · replace h := (if_neg (by rw [e28]; decide)).symm.trans h
    replace h := (if_neg (by rw [e28]; decide)).symm.trans h
    replace h := (if_neg (by rw [e28]; decide)).symm.trans h
    replace h := (if_neg (by rw [e28]; decide)).symm.trans h
    refine j_iconst C (v := 0) d_Reader_readStripe_107 (by decide) ?_
    obtain ⟨b23, h⟩ := zb_ok h
    obtain rfl := Option.some.inj h
    exact j_iretZ C hr d_Reader_readStripe_108 b23 0 rfl
def Reader_readHead_l2 (n : Nat) (B : ByS) (L : LyS) : Nat → Int32 → Int32 → Int32 → (Nat → Int32) → Option (Nat × Int32 × Int32 × (Nat → Int32))
  | 0, _, _, _, _ => none
  | k + 1, v1, pl, rf, hd =>
  (if 7 ≤ v1 then some (0, pl, rf, hd)
  else gd v1 7 (gd v1 7 ((Reader_take n B pl rf hd L (hdLo v1.toNatClampNeg) (hdHi v1.toNatClampNeg)).bind fun r3 =>
  gd v1 7 (gd v1 7 ((if ((upd hd v1.toNatClampNeg r3.1) v1.toNatClampNeg) = ((-1)) then some (1, r3.2.1, r3.2.2, upd hd v1.toNatClampNeg r3.1)
  else Reader_readHead_l2 n B L k (v1 + 1) r3.2.1 r3.2.2 (upd hd v1.toNatClampNeg r3.1)))))))
def Reader_readHead (fu : Nat) (n : Nat) (B : ByS) (pl : Int32) (rf : Int32) (hd : (Nat → Int32)) (L : LyS) : Option (Int32 × Int32 × Int32 × (Nat → Int32) × LyS) :=
  (Reader_readHead_l2 n B L fu 0 pl rf hd).bind fun r8 =>
  (if r8.1 = 0 then gd 2 7 (gd 3 7 (gd 4 7 (gd 5 7 (gd 6 7 ((Layers_shape n L (r8.2.2.2 ((2 : Int32).toNatClampNeg)) (r8.2.2.2 ((3 : Int32).toNatClampNeg)) (r8.2.2.2 ((4 : Int32).toNatClampNeg)) (r8.2.2.2 ((5 : Int32).toNatClampNeg)) (r8.2.2.2 ((6 : Int32).toNatClampNeg))).bind fun r14 =>
  zb 1 (some (1, r8.2.1, r8.2.2.1, r8.2.2.2, r14)))))))
  else zb 0 (some (0, r8.2.1, r8.2.2.1, r8.2.2.2, L)))
set_option maxRecDepth 100000 in
set_option maxHeartbeats 4000000 in
theorem t_Reader_readHead_l2 {p : Program} {l : Launch} {e : Env} {s : State} {m : MethodId} {args : Array Value} {below : List Frame} {meth : Method} {c : Code} {D : va_G} {cI cR cZ : ClassId} {A : Nat → Prop} {Q : State → Prop} (C : Cx p s m args meth c D (tyG cI cR cZ) b_Reader_readHead 2 "MaskLayers$Reader") (hA : ∀ q : Nat, s.heap.size ≤ q → A q) {t1 t2 : Nat} (hX : SX t1 t2 A s s.heap) {o0 : Nat} {hh : Nat} {b : Nat} {q : Nat} {a : (Nat → Nat)} {n : Nat} {B : ByS} {L : LyS} {out : Nat × Int32 × Int32 × (Nat → Int32)} : ∀ (k : Nat) (v1 : Int32) (pl : Int32) (rf : Int32) (hd : (Nat → Int32)), Reader_readHead_l2 n B L k v1 pl rf hd = some out → (out.1 = 0 → J p l e rm_Reader_readHead s m args below meth c D A (va_D A) 2 Q 0 0 (wRd cI cR o0 hh b q a n B out.2.1 out.2.2.1 out.2.2.2 L) [(0, .ref o0)] [] 49) → (out.1 = 1 → J p l e rm_Reader_readHead s m args below meth c D A (va_D A) 2 Q 0 0 (wRd cI cR o0 hh b q a n B out.2.1 out.2.2.1 out.2.2.2 L) [] [] 41) → J p l e rm_Reader_readHead s m args below meth c D A (va_D A) 2 Q 0 0 (wRd cI cR o0 hh b q a n B pl rf hd L) [(0, .ref o0), (1, .int v1)] [] 2 := by
  intro k
  induction k with
  | zero => intro v1 pl rf hd h; cases (show none = some out from h)
  | succ k ih =>
    intro v1 pl rf hd h x0 x1
    rw [Reader_readHead_l2] at h
    refine j_iload_n C 1 d_Reader_readHead_2 rfl ?_
    refine j_aload_n C 0 d_Reader_readHead_3 rfl ?_
    refine gf_Reader_23 C 0 (v := .ref hh) rfl rfl d_Reader_readHead_4 ?_
    refine j_alen C (1) (t0 := 0) (v := 7) rfl rfl rfl d_Reader_readHead_7 ?_
    refine j_icmp_ge C 49 d_Reader_readHead_8 (by decide) (fun c7 => ?_) (fun c7 => ?_)
    · replace h := (if_pos c7).symm.trans h
      obtain rfl := Option.some.inj h
      refine j_sub [0] rfl ?_
      exact x0 rfl
    · replace h := (if_neg c7).symm.trans h
      refine j_aload_n C 0 d_Reader_readHead_11 rfl ?_
      refine gf_Reader_23 C 0 (v := .ref hh) rfl rfl d_Reader_readHead_12 ?_
      refine j_iload_n C 1 d_Reader_readHead_15 rfl ?_
      refine j_aload_n C 0 d_Reader_readHead_16 rfl ?_
      refine gs_Reader_19 C hX.1 d_Reader_readHead_17 ?_
      refine j_iload_n C 1 d_Reader_readHead_20 rfl ?_
      obtain ⟨b1, h⟩ := gd_ok h
      refine j_tald C hX.2.1 b1 d_Reader_readHead_21 ?_
      refine gs_Reader_62 C hX.2.2.1 d_Reader_readHead_22 ?_
      refine j_iload_n C 1 d_Reader_readHead_25 rfl ?_
      obtain ⟨b2, h⟩ := gd_ok h
      refine j_tald C hX.2.2.2 b2 d_Reader_readHead_26 ?_
      obtain ⟨r3, hr3, h⟩ := bd_ok h
      refine j_IV C [.int (hdLo v1.toNatClampNeg), .int (hdHi v1.toNatClampNeg)] hA 0 rfl rfl (c_Reader_take l D cI cR cZ o0 hh b q a n B pl rf hd L (hdLo v1.toNatClampNeg) (hdHi v1.toNatClampNeg) hr3) (cw_Reader_65 C ⟨Nat.le_of_ble_eq_true rfl, Nat.le_of_ble_eq_true rfl⟩) [0, 1, 2, 3, 4, 5, 6, 7, 8, 9, 10] [] rfl rfl (by decide) (by decide) (by decide) rfl rfl (Nat.le_of_ble_eq_true rfl) d_Reader_readHead_27 (by decide) (fun _ => ?_)
      refine j_ws (ws' := wRd cI cR o0 hh b q a n B r3.2.1 r3.2.2 hd L) rfl ?_
      obtain ⟨b4, h⟩ := gd_ok h
      refine j_iast C (1) (wRd cI cR o0 hh b q a n B r3.2.1 r3.2.2 (upd hd v1.toNatClampNeg r3.1) L) (t0 := 0) rfl rfl rfl b4 d_Reader_readHead_30 ?_
      refine j_aload_n C 0 d_Reader_readHead_31 rfl ?_
      refine gf_Reader_23 C 0 (v := .ref hh) rfl rfl d_Reader_readHead_32 ?_
      refine j_iload_n C 1 d_Reader_readHead_35 rfl ?_
      obtain ⟨b5, h⟩ := gd_ok h
      refine j_iald C (1) (t0 := 0) rfl rfl b5 d_Reader_readHead_36 ?_
      refine j_iconst C (v := (-1)) d_Reader_readHead_37 (by decide) ?_
      refine j_icmp_ne C 43 d_Reader_readHead_38 (by decide) (fun c6 => ?_) (fun c6 => ?_)
      · replace h := (if_neg c6).symm.trans h
        refine j_iinc C [(1, .int (v1 + 1)), (0, .ref o0)] 1 (v1 + 1) d_Reader_readHead_43 rfl rfl (by decide) rfl ?_
        refine j_goto C 2 d_Reader_readHead_46 (by decide) ?_
        refine j_sub [1, 0] rfl ?_
        exact ih (v1 + 1) r3.2.1 r3.2.2 (upd hd v1.toNatClampNeg r3.1) h x0 x1
      · replace h := (if_pos c6).symm.trans h
        obtain rfl := Option.some.inj h
        refine j_sub [] rfl ?_
        exact x1 rfl
set_option maxRecDepth 100000 in
set_option maxHeartbeats 4000000 in
theorem c_Reader_readHead (l : Launch) (D : va_G) (cI cR cZ : ClassId) (t1 t2 : Nat) (fu : Nat) (o0 : Nat) (hh : Nat) (b : Nat) (q : Nat) (a : (Nat → Nat)) (n : Nat) (B : ByS) (pl : Int32) (rf : Int32) (hd : (Nat → Int32)) (L : LyS) {res : (Int32 × Int32 × Int32 × (Nat → Int32) × LyS)} (h : Reader_readHead fu n B pl rf hd L = some res) (sz : Nat) : Met l y_Reader_readHead (Cond.code y_Reader_readHead b_Reader_readHead 2 (some .boolean) :: BIG) rm_Reader_readHead (PcS t1 t2 [.ref o0] D (tyG cI cR cZ) (wRd cI cR o0 hh b q a n B pl rf hd L) sz) (QcI D res.1 (fun _ : Nat => wRd cI cR o0 hh b q a n B res.2.1 res.2.2.1 res.2.2.2.1 res.2.2.2.2) (va_A (wRd cI cR o0 hh b q a n B pl rf hd L) sz)) 0 0 (va_A (wRd cI cR o0 hh b q a n B pl rf hd L) sz) := by
  refine met_Is (by decide) (Nat.le_of_ble_eq_true rfl) (fun p e s m args below meth c A hA hX C hr => ?_)
  have C : Cx p s m args meth c D (tyG cI cR cZ) b_Reader_readHead 2 "MaskLayers$Reader" := C
  have hr : meth.sig.returnType = some .boolean := hr
  show J p l e rm_Reader_readHead s m args below meth c D A (va_D A) 2 (MQ below (QcI D res.1 (fun _ : Nat => wRd cI cR o0 hh b q a n B res.2.1 res.2.2.1 res.2.2.2.1 res.2.2.2.2) A) args s 0 0 A) 0 0 (wRd cI cR o0 hh b q a n B pl rf hd L) [(0, .ref o0)] [] 0
  unfold Reader_readHead at h
  refine j_iconst C (v := 0) d_Reader_readHead_0 (by decide) ?_
  refine j_istore_n C [(1, .int 0), (0, .ref o0)] d_Reader_readHead_1 (by decide) rfl ?_
  obtain ⟨r8, hr8, h⟩ := bd_ok h
  refine j_sub [1, 0] rfl ?_
  refine t_Reader_readHead_l2 C hA hX fu 0 pl rf hd hr8 (fun e17 => ?_) (fun e18 => ?_)
  · replace h := (if_pos e17).symm.trans h
    refine j_aload_n C 0 d_Reader_readHead_49 rfl ?_
    refine gf_Reader_15 C 0 (v := .ref (a 0)) rfl rfl d_Reader_readHead_50 ?_
    refine j_aload_n C 0 d_Reader_readHead_53 rfl ?_
    refine gf_Reader_23 C 0 (v := .ref hh) rfl rfl d_Reader_readHead_54 ?_
    refine j_iconst C (v := 2) d_Reader_readHead_57 (by decide) ?_
    obtain ⟨b9, h⟩ := gd_ok h
    refine j_iald C (1) (t0 := 0) rfl rfl b9 d_Reader_readHead_58 ?_
    refine j_aload_n C 0 d_Reader_readHead_59 rfl ?_
    refine gf_Reader_23 C 0 (v := .ref hh) rfl rfl d_Reader_readHead_60 ?_
    refine j_iconst C (v := 3) d_Reader_readHead_63 (by decide) ?_
    obtain ⟨b10, h⟩ := gd_ok h
    refine j_iald C (1) (t0 := 0) rfl rfl b10 d_Reader_readHead_64 ?_
    refine j_aload_n C 0 d_Reader_readHead_65 rfl ?_
    refine gf_Reader_23 C 0 (v := .ref hh) rfl rfl d_Reader_readHead_66 ?_
    refine j_iconst C (v := 4) d_Reader_readHead_69 (by decide) ?_
    obtain ⟨b11, h⟩ := gd_ok h
    refine j_iald C (1) (t0 := 0) rfl rfl b11 d_Reader_readHead_70 ?_
    refine j_aload_n C 0 d_Reader_readHead_71 rfl ?_
    refine gf_Reader_23 C 0 (v := .ref hh) rfl rfl d_Reader_readHead_72 ?_
    refine j_iconst C (v := 5) d_Reader_readHead_75 (by decide) ?_
    obtain ⟨b12, h⟩ := gd_ok h
    refine j_iald C (1) (t0 := 0) rfl rfl b12 d_Reader_readHead_76 ?_
    refine j_aload_n C 0 d_Reader_readHead_77 rfl ?_
    refine gf_Reader_23 C 0 (v := .ref hh) rfl rfl d_Reader_readHead_78 ?_
    refine j_bipush C (v := 6) d_Reader_readHead_81 (by decide) ?_
    obtain ⟨b13, h⟩ := gd_ok h
    refine j_iald C (1) (t0 := 0) rfl rfl b13 d_Reader_readHead_83 ?_
    obtain ⟨r14, hr14, h⟩ := bd_ok h
    refine j_VV C [.int (r8.2.2.2 ((2 : Int32).toNatClampNeg)), .int (r8.2.2.2 ((3 : Int32).toNatClampNeg)), .int (r8.2.2.2 ((4 : Int32).toNatClampNeg)), .int (r8.2.2.2 ((5 : Int32).toNatClampNeg)), .int (r8.2.2.2 ((6 : Int32).toNatClampNeg))] hA 4 rfl rfl (c_Layers_shape l D cI cR cZ a n L (r8.2.2.2 ((2 : Int32).toNatClampNeg)) (r8.2.2.2 ((3 : Int32).toNatClampNeg)) (r8.2.2.2 ((4 : Int32).toNatClampNeg)) (r8.2.2.2 ((5 : Int32).toNatClampNeg)) (r8.2.2.2 ((6 : Int32).toNatClampNeg)) hr14) (cw_Reader_69 C ⟨Nat.le_of_ble_eq_true rfl, Nat.le_of_ble_eq_true rfl⟩) [4, 5, 6, 7, 8, 9, 10] [0, 1, 2, 3] rfl rfl (by decide) (by decide) (by decide) rfl rfl (Nat.le_of_ble_eq_true rfl) d_Reader_readHead_84 (by decide) (fun _ => ?_)
    refine j_ws (ws' := wRd cI cR o0 hh b q a n B r8.2.1 r8.2.2.1 r8.2.2.2 r14) rfl ?_
    refine j_iconst C (v := 1) d_Reader_readHead_87 (by decide) ?_
    obtain ⟨b15, h⟩ := zb_ok h
    obtain rfl := Option.some.inj h
    exact j_iretZ C hr d_Reader_readHead_88 b15 0 rfl
  · replace h := (if_neg (by rw [e18]; decide)).symm.trans h
    refine j_iconst C (v := 0) d_Reader_readHead_41 (by decide) ?_
    obtain ⟨b16, h⟩ := zb_ok h
    obtain rfl := Option.some.inj h
    exact j_iretZ C hr d_Reader_readHead_42 b16 0 rfl
def Reader_readAll_l19 (fu : Nat) (n : Nat) (B : ByS) (hd : (Nat → Int32)) : Nat → Int32 → Int32 → Int32 → Int32 → LyS → Option (Nat × Int32 × Int32 × Int32 × LyS)
  | 0, _, _, _, _, _ => none
  | k + 1, v1, v2, pl, rf, L =>
  (if v1 = 0 then some (0, v1, pl, rf, L)
  else (Layers_stripes n L).bind fun r3 =>
  (if r3 ≤ v2 then some (0, v1, pl, rf, L)
  else (Reader_readStripe fu n B pl rf hd L v2).bind fun r4 =>
  Reader_readAll_l19 fu n B hd k r4.1 (v2 + 1) r4.2.1 r4.2.2.1 r4.2.2.2))
def Reader_readAll_b73 (fu : Nat) (n : Nat) (B : ByS) (pl : Int32) (rf : Int32) (hd : (Nat → Int32)) (L : LyS) (v1 : Int32) : Option (Int32 × Int32 × Int32 × (Nat → Int32) × LyS) :=
  (if v1 = 0 then (Layers_forget fu n L).bind fun r8 =>
  some (((-1)) - rf, pl, rf, hd, r8)
  else some (L.1 3, pl, rf, hd, L))
def Reader_readAll_b46 (fu : Nat) (n : Nat) (B : ByS) (pl : Int32) (rf : Int32) (hd : (Nat → Int32)) (L : LyS) (v1 : Int32) : Option (Int32 × Int32 × Int32 × (Nat → Int32) × LyS) :=
  (if v1 = 0 then Reader_readAll_b73 fu n B pl rf hd L v1
  else (if B.1 ≤ pl then Reader_readAll_b73 fu n B pl rf hd L v1
  else (Reader_refuse n B pl rf hd L pl).bind fun r10 =>
  Reader_readAll_b73 fu n B pl r10.2 hd L r10.1))
def Reader_readAll (fu : Nat) (n : Nat) (B : ByS) (pl : Int32) (rf : Int32) (hd : (Nat → Int32)) (L : LyS) : Option (Int32 × Int32 × Int32 × (Nat → Int32) × LyS) :=
  (Layers_forget fu n L).bind fun r1 =>
  (Reader_readHead fu n B 0 rf hd r1).bind fun r2 =>
  (Reader_readAll_l19 fu n B r2.2.2.2.1 fu r2.1 0 r2.2.1 r2.2.2.1 r2.2.2.2.2).bind fun r7 =>
  Reader_readAll_b46 fu n B r7.2.2.1 r7.2.2.2.1 r2.2.2.2.1 r7.2.2.2.2 r7.2.1
set_option maxRecDepth 100000 in
set_option maxHeartbeats 4000000 in
theorem t_Reader_readAll_l19 {p : Program} {l : Launch} {e : Env} {s : State} {m : MethodId} {args : Array Value} {below : List Frame} {meth : Method} {c : Code} {D : va_G} {cI cR cZ : ClassId} {A : Nat → Prop} {Q : State → Prop} (C : Cx p s m args meth c D (tyG cI cR cZ) b_Reader_readAll 3 "MaskLayers$Reader") (hA : ∀ q : Nat, s.heap.size ≤ q → A q) {t1 t2 : Nat} (hX : SX t1 t2 A s s.heap) {o0 : Nat} {hh : Nat} {b : Nat} {q : Nat} {a : (Nat → Nat)} {n : Nat} {fu : Nat} {B : ByS} {hd : (Nat → Int32)} {out : Nat × Int32 × Int32 × Int32 × LyS} : ∀ (k : Nat) (v1 : Int32) (v2 : Int32) (pl : Int32) (rf : Int32) (L : LyS), Reader_readAll_l19 fu n B hd k v1 v2 pl rf L = some out → (out.1 = 0 → J p l e rm_Reader_readAll s m args below meth c D A (va_D A) 3 Q 0 0 (wRd cI cR o0 hh b q a n B out.2.2.1 out.2.2.2.1 hd out.2.2.2.2) [(0, .ref o0), (1, .int out.2.1)] [] 46) → J p l e rm_Reader_readAll s m args below meth c D A (va_D A) 3 Q 0 0 (wRd cI cR o0 hh b q a n B pl rf hd L) [(0, .ref o0), (1, .int v1), (2, .int v2)] [] 19 := by
  intro k
  induction k with
  | zero => intro v1 v2 pl rf L h; cases (show none = some out from h)
  | succ k ih =>
    intro v1 v2 pl rf L h x0
    rw [Reader_readAll_l19] at h
    refine j_iload_n C 1 d_Reader_readAll_19 rfl ?_
    refine j_if_eq C 46 d_Reader_readAll_20 (by decide) (fun c6 => ?_) (fun c6 => ?_)
    · replace h := (if_pos c6).symm.trans h
      obtain rfl := Option.some.inj h
      refine j_sub [0, 1] rfl ?_
      exact x0 rfl
    · replace h := (if_neg c6).symm.trans h
      refine j_iload_n C 2 d_Reader_readAll_23 rfl ?_
      refine j_aload_n C 0 d_Reader_readAll_24 rfl ?_
      refine gf_Reader_15 C 0 (v := .ref (a 0)) rfl rfl d_Reader_readAll_25 ?_
      obtain ⟨r3, hr3, h⟩ := bd_ok h
      refine j_PV C [] 4 rfl rfl (c_Layers_stripes l D cI cR cZ a n L hr3) (cw_Reader_39 C ⟨Nat.le_of_ble_eq_true rfl, Nat.le_of_ble_eq_true rfl⟩) [4, 5, 6, 7, 8, 9, 10] rfl rfl rfl (Nat.le_of_ble_eq_true rfl) d_Reader_readAll_28 (by decide) ?_
      refine j_icmp_ge C 46 d_Reader_readAll_31 (by decide) (fun c5 => ?_) (fun c5 => ?_)
      · replace h := (if_pos c5).symm.trans h
        obtain rfl := Option.some.inj h
        refine j_sub [0, 1] rfl ?_
        exact x0 rfl
      · replace h := (if_neg c5).symm.trans h
        refine j_aload_n C 0 d_Reader_readAll_34 rfl ?_
        refine j_iload_n C 2 d_Reader_readAll_35 rfl ?_
        obtain ⟨r4, hr4, h⟩ := bd_ok h
        refine j_IV C [.int v2] hA 0 rfl rfl (c_Reader_readStripe l D cI cR cZ fu o0 hh b q a n B pl rf hd L v2 hr4) (cw_Reader_43 C ⟨Nat.le_of_ble_eq_true rfl, Nat.le_of_ble_eq_true rfl⟩) [0, 1, 2, 3, 4, 5, 6, 7, 8, 9, 10] [] rfl rfl (by decide) (by decide) (by decide) rfl rfl (Nat.le_of_ble_eq_true rfl) d_Reader_readAll_36 (by decide) (fun _ => ?_)
        refine j_ws (ws' := wRd cI cR o0 hh b q a n B r4.2.1 r4.2.2.1 hd r4.2.2.2) rfl ?_
        refine j_istore_n C [(1, .int r4.1), (0, .ref o0), (2, .int v2)] d_Reader_readAll_39 (by decide) rfl ?_
        refine j_iinc C [(2, .int (v2 + 1)), (1, .int r4.1), (0, .ref o0)] 2 (v2 + 1) d_Reader_readAll_40 rfl rfl (by decide) rfl ?_
        refine j_goto C 19 d_Reader_readAll_43 (by decide) ?_
        refine j_sub [2, 1, 0] rfl ?_
        exact ih r4.1 (v2 + 1) r4.2.1 r4.2.2.1 r4.2.2.2 h x0
set_option maxRecDepth 100000 in
set_option maxHeartbeats 4000000 in
theorem t_Reader_readAll_b73 {p : Program} {l : Launch} {e : Env} {s : State} {m : MethodId} {args : Array Value} {below : List Frame} {meth : Method} {c : Code} {D : va_G} {cI cR cZ : ClassId} {A : Nat → Prop} (C : Cx p s m args meth c D (tyG cI cR cZ) b_Reader_readAll 3 "MaskLayers$Reader") (hr : meth.sig.returnType = some .int) (hA : ∀ q : Nat, s.heap.size ≤ q → A q) {t1 t2 : Nat} (hX : SX t1 t2 A s s.heap) {o0 : Nat} {hh : Nat} {b : Nat} {q : Nat} {a : (Nat → Nat)} {n : Nat} {B : ByS} {pl : Int32} {rf : Int32} {hd : (Nat → Int32)} {L : LyS} {fu : Nat} {v1 : Int32} {res : (Int32 × Int32 × Int32 × (Nat → Int32) × LyS)} (h : Reader_readAll_b73 fu n B pl rf hd L v1 = some res) : J p l e rm_Reader_readAll s m args below meth c D A (va_D A) 3 (MQ below (QcI D res.1 (fun _ : Nat => wRd cI cR o0 hh b q a n B res.2.1 res.2.2.1 res.2.2.2.1 res.2.2.2.2) A) args s 0 0 A) 0 0 (wRd cI cR o0 hh b q a n B pl rf hd L) [(0, .ref o0), (1, .int v1)] [] 73 := by
  unfold Reader_readAll_b73 at h
  refine j_iload_n C 1 d_Reader_readAll_73 rfl ?_
  refine j_if_eq C 85 d_Reader_readAll_74 (by decide) (fun c9 => ?_) (fun c9 => ?_)
  · replace h := (if_pos c9).symm.trans h
    refine j_aload_n C 0 d_Reader_readAll_85 rfl ?_
    refine gf_Reader_15 C 0 (v := .ref (a 0)) rfl rfl d_Reader_readAll_86 ?_
    obtain ⟨r8, hr8, h⟩ := bd_ok h
    refine j_VV C [] hA 4 rfl rfl (c_Layers_forget l D cI cR cZ fu a n L hr8) (cw_Reader_30 C ⟨Nat.le_of_ble_eq_true rfl, Nat.le_of_ble_eq_true rfl⟩) [4, 5, 6, 7, 8, 9, 10] [0, 1, 2, 3] rfl rfl (by decide) (by decide) (by decide) rfl rfl (Nat.le_of_ble_eq_true rfl) d_Reader_readAll_89 (by decide) (fun _ => ?_)
    refine j_ws (ws' := wRd cI cR o0 hh b q a n B pl rf hd r8) rfl ?_
    refine j_iconst C (v := (-1)) d_Reader_readAll_92 (by decide) ?_
    refine j_aload_n C 0 d_Reader_readAll_93 rfl ?_
    refine gf_Reader_56 C 0 (v := .int rf) rfl rfl d_Reader_readAll_94 ?_
    refine j_isub C d_Reader_readAll_97 ?_
    obtain rfl := Option.some.inj h
    exact j_iret C hr d_Reader_readAll_98 0 rfl
  · replace h := (if_neg c9).symm.trans h
    refine j_aload_n C 0 d_Reader_readAll_77 rfl ?_
    refine gf_Reader_15 C 0 (v := .ref (a 0)) rfl rfl d_Reader_readAll_78 ?_
    refine gf_Reader_55 C 4 (v := .int (L.1 3)) rfl rfl d_Reader_readAll_81 ?_
    obtain rfl := Option.some.inj h
    exact j_iret C hr d_Reader_readAll_84 0 rfl
set_option maxRecDepth 100000 in
set_option maxHeartbeats 4000000 in
theorem t_Reader_readAll_b46 {p : Program} {l : Launch} {e : Env} {s : State} {m : MethodId} {args : Array Value} {below : List Frame} {meth : Method} {c : Code} {D : va_G} {cI cR cZ : ClassId} {A : Nat → Prop} (C : Cx p s m args meth c D (tyG cI cR cZ) b_Reader_readAll 3 "MaskLayers$Reader") (hr : meth.sig.returnType = some .int) (hA : ∀ q : Nat, s.heap.size ≤ q → A q) {t1 t2 : Nat} (hX : SX t1 t2 A s s.heap) {o0 : Nat} {hh : Nat} {b : Nat} {q : Nat} {a : (Nat → Nat)} {n : Nat} {B : ByS} {pl : Int32} {rf : Int32} {hd : (Nat → Int32)} {L : LyS} {fu : Nat} {v1 : Int32} {res : (Int32 × Int32 × Int32 × (Nat → Int32) × LyS)} (h : Reader_readAll_b46 fu n B pl rf hd L v1 = some res) : J p l e rm_Reader_readAll s m args below meth c D A (va_D A) 3 (MQ below (QcI D res.1 (fun _ : Nat => wRd cI cR o0 hh b q a n B res.2.1 res.2.2.1 res.2.2.2.1 res.2.2.2.2) A) args s 0 0 A) 0 0 (wRd cI cR o0 hh b q a n B pl rf hd L) [(0, .ref o0), (1, .int v1)] [] 46 := by
  unfold Reader_readAll_b46 at h
  refine j_iload_n C 1 d_Reader_readAll_46 rfl ?_
  refine j_if_eq C 73 d_Reader_readAll_47 (by decide) (fun c12 => ?_) (fun c12 => ?_)
  · replace h := (if_pos c12).symm.trans h
    refine j_sub [0, 1] rfl ?_
    exact t_Reader_readAll_b73 C hr hA hX h
  · replace h := (if_neg c12).symm.trans h
    refine j_aload_n C 0 d_Reader_readAll_50 rfl ?_
    refine gf_Reader_26 C 0 (v := .int pl) rfl rfl d_Reader_readAll_51 ?_
    refine j_aload_n C 0 d_Reader_readAll_54 rfl ?_
    refine gf_Reader_9 C 0 (v := .ref b) rfl rfl d_Reader_readAll_55 ?_
    refine gf_Reader_47 C 2 (v := .int B.1) rfl rfl d_Reader_readAll_58 ?_
    refine j_icmp_ge C 73 d_Reader_readAll_61 (by decide) (fun c11 => ?_) (fun c11 => ?_)
    · replace h := (if_pos c11).symm.trans h
      refine j_sub [0, 1] rfl ?_
      exact t_Reader_readAll_b73 C hr hA hX h
    · replace h := (if_neg c11).symm.trans h
      refine j_aload_n C 0 d_Reader_readAll_64 rfl ?_
      refine j_aload_n C 0 d_Reader_readAll_65 rfl ?_
      refine gf_Reader_26 C 0 (v := .int pl) rfl rfl d_Reader_readAll_66 ?_
      obtain ⟨r10, hr10, h⟩ := bd_ok h
      refine j_IV C [.int pl] hA 0 rfl rfl (c_Reader_refuse l D cI cR cZ o0 hh b q a n B pl rf hd L pl hr10) (cw_Reader_52 C ⟨Nat.le_of_ble_eq_true rfl, Nat.le_of_ble_eq_true rfl⟩) [0, 1, 2, 3, 4, 5, 6, 7, 8, 9, 10] [] rfl rfl (by decide) (by decide) (by decide) rfl rfl (Nat.le_of_ble_eq_true rfl) d_Reader_readAll_69 (by decide) (fun _ => ?_)
      refine j_ws (ws' := wRd cI cR o0 hh b q a n B pl r10.2 hd L) rfl ?_
      refine j_istore_n C [(1, .int r10.1), (0, .ref o0)] d_Reader_readAll_72 (by decide) rfl ?_
      refine j_sub [1, 0] rfl ?_
      exact t_Reader_readAll_b73 C hr hA hX h
set_option maxRecDepth 100000 in
set_option maxHeartbeats 4000000 in
theorem c_Reader_readAll (l : Launch) (D : va_G) (cI cR cZ : ClassId) (t1 t2 : Nat) (fu : Nat) (o0 : Nat) (hh : Nat) (b : Nat) (q : Nat) (a : (Nat → Nat)) (n : Nat) (B : ByS) (pl : Int32) (rf : Int32) (hd : (Nat → Int32)) (L : LyS) {res : (Int32 × Int32 × Int32 × (Nat → Int32) × LyS)} (h : Reader_readAll fu n B pl rf hd L = some res) (sz : Nat) : Met l y_Reader_readAll (Cond.code y_Reader_readAll b_Reader_readAll 3 (some .int) :: BIG) rm_Reader_readAll (PcS t1 t2 [.ref o0] D (tyG cI cR cZ) (wRd cI cR o0 hh b q a n B pl rf hd L) sz) (QcI D res.1 (fun _ : Nat => wRd cI cR o0 hh b q a n B res.2.1 res.2.2.1 res.2.2.2.1 res.2.2.2.2) (va_A (wRd cI cR o0 hh b q a n B pl rf hd L) sz)) 0 0 (va_A (wRd cI cR o0 hh b q a n B pl rf hd L) sz) := by
  refine met_Is (by decide) (Nat.le_of_ble_eq_true rfl) (fun p e s m args below meth c A hA hX C hr => ?_)
  have C : Cx p s m args meth c D (tyG cI cR cZ) b_Reader_readAll 3 "MaskLayers$Reader" := C
  have hr : meth.sig.returnType = some .int := hr
  show J p l e rm_Reader_readAll s m args below meth c D A (va_D A) 3 (MQ below (QcI D res.1 (fun _ : Nat => wRd cI cR o0 hh b q a n B res.2.1 res.2.2.1 res.2.2.2.1 res.2.2.2.2) A) args s 0 0 A) 0 0 (wRd cI cR o0 hh b q a n B pl rf hd L) [(0, .ref o0)] [] 0
  unfold Reader_readAll at h
  refine j_aload_n C 0 d_Reader_readAll_0 rfl ?_
  refine j_iconst C (v := 0) d_Reader_readAll_1 (by decide) ?_
  refine pf_Reader_26 C 0 (wRd cI cR o0 hh b q a n B 0 rf hd L) rfl rfl rfl d_Reader_readAll_2 ?_
  refine j_aload_n C 0 d_Reader_readAll_5 rfl ?_
  refine gf_Reader_15 C 0 (v := .ref (a 0)) rfl rfl d_Reader_readAll_6 ?_
  obtain ⟨r1, hr1, h⟩ := bd_ok h
  refine j_VV C [] hA 4 rfl rfl (c_Layers_forget l D cI cR cZ fu a n L hr1) (cw_Reader_30 C ⟨Nat.le_of_ble_eq_true rfl, Nat.le_of_ble_eq_true rfl⟩) [4, 5, 6, 7, 8, 9, 10] [0, 1, 2, 3] rfl rfl (by decide) (by decide) (by decide) rfl rfl (Nat.le_of_ble_eq_true rfl) d_Reader_readAll_9 (by decide) (fun _ => ?_)
  refine j_ws (ws' := wRd cI cR o0 hh b q a n B 0 rf hd r1) rfl ?_
  refine j_aload_n C 0 d_Reader_readAll_12 rfl ?_
  obtain ⟨r2, hr2, h⟩ := bd_ok h
  refine j_IVs C [] hA hX 0 rfl rfl (c_Reader_readHead l D cI cR cZ t1 t2 fu o0 hh b q a n B 0 rf hd r1 hr2) (cw_Reader_35 C ⟨Nat.le_of_ble_eq_true rfl, Nat.le_of_ble_eq_true rfl⟩) [0, 1, 2, 3, 4, 5, 6, 7, 8, 9, 10] [] rfl rfl (by decide) (by decide) (by decide) rfl rfl (Nat.le_of_ble_eq_true rfl) d_Reader_readAll_13 (by decide) (fun _ => ?_)
  refine j_ws (ws' := wRd cI cR o0 hh b q a n B r2.2.1 r2.2.2.1 r2.2.2.2.1 r2.2.2.2.2) rfl ?_
  refine j_istore_n C [(1, .int r2.1), (0, .ref o0)] d_Reader_readAll_16 (by decide) rfl ?_
  refine j_iconst C (v := 0) d_Reader_readAll_17 (by decide) ?_
  refine j_istore_n C [(2, .int 0), (1, .int r2.1), (0, .ref o0)] d_Reader_readAll_18 (by decide) rfl ?_
  obtain ⟨r7, hr7, h⟩ := bd_ok h
  refine j_sub [2, 1, 0] rfl ?_
  refine t_Reader_readAll_l19 C hA hX fu r2.1 0 r2.2.1 r2.2.2.1 r2.2.2.2.2 hr7 (fun e13 => ?_)
  · refine j_sub [0, 1] rfl ?_
    exact t_Reader_readAll_b46 C hr hA hX h
