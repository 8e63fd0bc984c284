def Writer_writeHead (n : Nat) (L : LyS) (B : ByS) : Option ((ByS) × Nat × Nat) :=
  (ByteRow_append B 77).bind fun r1 =>
  ad r1.2.1 r1.2.2 ((ByteRow_append r1.1 76).bind fun r2 =>
  ad r2.2.1 r2.2.2 ((ByteRow_append r2.1 (L.1 0)).bind fun r3 =>
  ad r3.2.1 r3.2.2 ((ByteRow_append r3.1 (L.1 1)).bind fun r4 =>
  ad r4.2.1 r4.2.2 ((ByteRow_append r4.1 (L.1 2)).bind fun r5 =>
  ad r5.2.1 r5.2.2 ((ByteRow_append r5.1 (L.1 4)).bind fun r6 =>
  ad r6.2.1 r6.2.2 ((ByteRow_append r6.1 (L.1 5)).bind fun r7 =>
  ad r7.2.1 r7.2.2 (some ((r7.1), 0, 0))))))))
set_option maxRecDepth 100000 in
set_option maxHeartbeats 4000000 in
theorem c_Writer_writeHead (l : Launch) (D : va_G) (cI cR cZ : ClassId) (o0 : Nat) (a : (Nat → Nat)) (n : Nat) (b : Nat) (q : Nat) (L : LyS) (B : ByS) {res : ((ByS) × Nat × Nat)} (h : Writer_writeHead n L B = some res) (sz : Nat) : Met l y_Writer_writeHead (Cond.code y_Writer_writeHead b_Writer_writeHead 1 none :: BIG) (rm_Writer_writeHead res.2.1 res.2.2) (PcI [.ref o0] D (tyG cI cR cZ) (wWr cI cR o0 a n b q L B) sz) (QcV D (fun q9 : Nat => wWr cI cR o0 a n b q9 L res.1) (va_A (wWr cI cR o0 a n b q L B) sz)) res.2.1 res.2.2 (va_A (wWr cI cR o0 a n b q L B) sz) := by
  refine met_V (by decide) (Nat.le_of_ble_eq_true rfl) (fun p e s m args below meth c A hA C hr => ?_)
  have C : Cx p s m args meth c D (tyG cI cR cZ) b_Writer_writeHead 1 "MaskLayers$Writer" := C
  have hr : meth.sig.returnType = none := hr
  show J p l e (rm_Writer_writeHead res.2.1 res.2.2) s m args below meth c D A (va_D A) 1 (MQ below (QcV D (fun q9 : Nat => wWr cI cR o0 a n b q9 L res.1) A) args s res.2.1 res.2.2 A) 0 0 (wWr cI cR o0 a n b q L B) [(0, .ref o0)] [] 0
  unfold Writer_writeHead at h
  refine j_aload_n C 0 d_Writer_writeHead_0 rfl ?_
  refine gf_Writer_15 C 0 (v := .ref b) rfl rfl d_Writer_writeHead_1 ?_
  refine j_bipush C (v := 77) d_Writer_writeHead_4 (by decide) ?_
  obtain ⟨r1, hr1, h⟩ := bd_ok h
  obtain ⟨zr1, h, ezr1, fzr1, gzr1⟩ := ad_ok h
  refine j_VV C [.int 77] hA 8 rfl rfl (c_ByteRow_append l D cI cR cZ b q B 77 hr1) (cw_Writer_41 C ⟨Nat.le_of_ble_eq_true rfl, Nat.le_of_ble_eq_true rfl⟩) [8, 9] [0, 1, 2, 3, 4, 5, 6, 7] rfl rfl (by decide) (by decide) (by decide) rfl rfl (Nat.le_of_ble_eq_true rfl) d_Writer_writeHead_6 ⟨by show _ ≤ res.2.1; omega, by show _ ≤ res.2.2; omega⟩ (fun qr1 => ?_)
  refine j_ws (ws' := wWr cI cR o0 a n b qr1 L r1.1) rfl ?_
  refine j_aload_n C 0 d_Writer_writeHead_9 rfl ?_
  refine gf_Writer_15 C 0 (v := .ref b) rfl rfl d_Writer_writeHead_10 ?_
  refine j_bipush C (v := 76) d_Writer_writeHead_13 (by decide) ?_
  obtain ⟨r2, hr2, h⟩ := bd_ok h
  obtain ⟨zr2, h, ezr2, fzr2, gzr2⟩ := ad_ok h
  refine j_VV C [.int 76] hA 8 rfl rfl (c_ByteRow_append l D cI cR cZ b qr1 r1.1 76 hr2) (cw_Writer_41 C ⟨Nat.le_of_ble_eq_true rfl, Nat.le_of_ble_eq_true rfl⟩) [8, 9] [0, 1, 2, 3, 4, 5, 6, 7] rfl rfl (by decide) (by decide) (by decide) rfl rfl (Nat.le_of_ble_eq_true rfl) d_Writer_writeHead_15 ⟨by show _ ≤ res.2.1; omega, by show _ ≤ res.2.2; omega⟩ (fun qr2 => ?_)
  refine j_ws (ws' := wWr cI cR o0 a n b qr2 L r2.1) rfl ?_
  refine j_aload_n C 0 d_Writer_writeHead_18 rfl ?_
  refine gf_Writer_15 C 0 (v := .ref b) rfl rfl d_Writer_writeHead_19 ?_
  refine j_aload_n C 0 d_Writer_writeHead_22 rfl ?_
  refine gf_Writer_9 C 0 (v := .ref (a 0)) rfl rfl d_Writer_writeHead_23 ?_
  refine gf_Writer_49 C 1 (v := .int (L.1 0)) rfl rfl d_Writer_writeHead_26 ?_
  obtain ⟨r3, hr3, h⟩ := bd_ok h
  obtain ⟨zr3, h, ezr3, fzr3, gzr3⟩ := ad_ok h
  refine j_VV C [.int (L.1 0)] hA 8 rfl rfl (c_ByteRow_append l D cI cR cZ b qr2 r2.1 (L.1 0) hr3) (cw_Writer_41 C ⟨Nat.le_of_ble_eq_true rfl, Nat.le_of_ble_eq_true rfl⟩) [8, 9] [0, 1, 2, 3, 4, 5, 6, 7] rfl rfl (by decide) (by decide) (by decide) rfl rfl (Nat.le_of_ble_eq_true rfl) d_Writer_writeHead_29 ⟨by show _ ≤ res.2.1; omega, by show _ ≤ res.2.2; omega⟩ (fun qr3 => ?_)
  refine j_ws (ws' := wWr cI cR o0 a n b qr3 L r3.1) rfl ?_
  refine j_aload_n C 0 d_Writer_writeHead_32 rfl ?_
  refine gf_Writer_15 C 0 (v := .ref b) rfl rfl d_Writer_writeHead_33 ?_
  refine j_aload_n C 0 d_Writer_writeHead_36 rfl ?_
  refine gf_Writer_9 C 0 (v := .ref (a 0)) rfl rfl d_Writer_writeHead_37 ?_
  refine gf_Writer_52 C 1 (v := .int (L.1 1)) rfl rfl d_Writer_writeHead_40 ?_
  obtain ⟨r4, hr4, h⟩ := bd_ok h
  obtain ⟨zr4, h, ezr4, fzr4, gzr4⟩ := ad_ok h
  refine j_VV C [.int (L.1 1)] hA 8 rfl rfl (c_ByteRow_append l D cI cR cZ b qr3 r3.1 (L.1 1) hr4) (cw_Writer_41 C ⟨Nat.le_of_ble_eq_true rfl, Nat.le_of_ble_eq_true rfl⟩) [8, 9] [0, 1, 2, 3, 4, 5, 6, 7] rfl rfl (by decide) (by decide) (by decide) rfl rfl (Nat.le_of_ble_eq_true rfl) d_Writer_writeHead_43 ⟨by show _ ≤ res.2.1; omega, by show _ ≤ res.2.2; omega⟩ (fun qr4 => ?_)
  refine j_ws (ws' := wWr cI cR o0 a n b qr4 L r4.1) rfl ?_
  refine j_aload_n C 0 d_Writer_writeHead_46 rfl ?_
  refine gf_Writer_15 C 0 (v := .ref b) rfl rfl d_Writer_writeHead_47 ?_
  refine j_aload_n C 0 d_Writer_writeHead_50 rfl ?_
  refine gf_Writer_9 C 0 (v := .ref (a 0)) rfl rfl d_Writer_writeHead_51 ?_
  refine gf_Writer_55 C 1 (v := .int (L.1 2)) rfl rfl d_Writer_writeHead_54 ?_
  obtain ⟨r5, hr5, h⟩ := bd_ok h
  obtain ⟨zr5, h, ezr5, fzr5, gzr5⟩ := ad_ok h
  refine j_VV C [.int (L.1 2)] hA 8 rfl rfl (c_ByteRow_append l D cI cR cZ b qr4 r4.1 (L.1 2) hr5) (cw_Writer_41 C ⟨Nat.le_of_ble_eq_true rfl, Nat.le_of_ble_eq_true rfl⟩) [8, 9] [0, 1, 2, 3, 4, 5, 6, 7] rfl rfl (by decide) (by decide) (by decide) rfl rfl (Nat.le_of_ble_eq_true rfl) d_Writer_writeHead_57 ⟨by show _ ≤ res.2.1; omega, by show _ ≤ res.2.2; omega⟩ (fun qr5 => ?_)
  refine j_ws (ws' := wWr cI cR o0 a n b qr5 L r5.1) rfl ?_
  refine j_aload_n C 0 d_Writer_writeHead_60 rfl ?_
  refine gf_Writer_15 C 0 (v := .ref b) rfl rfl d_Writer_writeHead_61 ?_
  refine j_aload_n C 0 d_Writer_writeHead_64 rfl ?_
  refine gf_Writer_9 C 0 (v := .ref (a 0)) rfl rfl d_Writer_writeHead_65 ?_
  refine gf_Writer_58 C 1 (v := .int (L.1 4)) rfl rfl d_Writer_writeHead_68 ?_
  obtain ⟨r6, hr6, h⟩ := bd_ok h
  obtain ⟨zr6, h, ezr6, fzr6, gzr6⟩ := ad_ok h
  refine j_VV C [.int (L.1 4)] hA 8 rfl rfl (c_ByteRow_append l D cI cR cZ b qr5 r5.1 (L.1 4) hr6) (cw_Writer_41 C ⟨Nat.le_of_ble_eq_true rfl, Nat.le_of_ble_eq_true rfl⟩) [8, 9] [0, 1, 2, 3, 4, 5, 6, 7] rfl rfl (by decide) (by decide) (by decide) rfl rfl (Nat.le_of_ble_eq_true rfl) d_Writer_writeHead_71 ⟨by show _ ≤ res.2.1; omega, by show _ ≤ res.2.2; omega⟩ (fun qr6 => ?_)
  refine j_ws (ws' := wWr cI cR o0 a n b qr6 L r6.1) rfl ?_
  refine j_aload_n C 0 d_Writer_writeHead_74 rfl ?_
  refine gf_Writer_15 C 0 (v := .ref b) rfl rfl d_Writer_writeHead_75 ?_
  refine j_aload_n C 0 d_Writer_writeHead_78 rfl ?_
  refine gf_Writer_9 C 0 (v := .ref (a 0)) rfl rfl d_Writer_writeHead_79 ?_
  refine gf_Writer_61 C 1 (v := .int (L.1 5)) rfl rfl d_Writer_writeHead_82 ?_
  obtain ⟨r7, hr7, h⟩ := bd_ok h
  obtain ⟨zr7, h, ezr7, fzr7, gzr7⟩ := ad_ok h
  refine j_VV C [.int (L.1 5)] hA 8 rfl rfl (c_ByteRow_append l D cI cR cZ b qr6 r6.1 (L.1 5) hr7) (cw_Writer_41 C ⟨Nat.le_of_ble_eq_true rfl, Nat.le_of_ble_eq_true rfl⟩) [8, 9] [0, 1, 2, 3, 4, 5, 6, 7] rfl rfl (by decide) (by decide) (by decide) rfl rfl (Nat.le_of_ble_eq_true rfl) d_Writer_writeHead_85 ⟨by show _ ≤ res.2.1; omega, by show _ ≤ res.2.2; omega⟩ (fun qr7 => ?_)
  refine j_ws (ws' := wWr cI cR o0 a n b qr7 L r7.1) rfl ?_
  obtain rfl := Option.some.inj h
  rw [ezr1, ezr2, ezr3, ezr4, ezr5, ezr6, ezr7]
  refine j_widen (c2 := res.2.1) (s2 := res.2.2) (by omega) (by omega) ?_
  exact j_vret C hr d_Writer_writeHead_88 qr7 rfl
def Writer_writeLayer_b79 (fu : Nat) (n : Nat) (L : LyS) (B : ByS) (v2 : Int32) (v3 : Int32) (v4 : Int32) (v5 : Int32) (v6 : Int32) (s0 : Int32) : Option ((ByS) × Nat × Nat) :=
  (ByteRow_append B s0).bind fun r6 =>
  ad r6.2.1 r6.2.2 ((ByteRow_append r6.1 ((mn v6 v5) &&& 255)).bind fun r7 =>
  ad r7.2.1 r7.2.2 ((ByteRow_append r7.1 ((mn v6 v5) >>> ((8 : Int32) &&& 31))).bind fun r8 =>
  ad r8.2.1 r8.2.2 ((if v5 ≤ v6 then (if v2 = 1 then (Writer_writeBits fu n L r8.1 v3 v4).bind fun r10 =>
  ad r10.2.1 r10.2.2 (some ((r10.1), 0, 0))
  else (Writer_writeValues fu n L r8.1 v2 v3 v4).bind fun r9 =>
  ad r9.2.1 r9.2.2 (some ((r9.1), 0, 0)))
  else (Writer_writeRuns fu n L r8.1 v2 v3 v4).bind fun r12 =>
  ad r12.2.1 r12.2.2 (some ((r12.1), 0, 0))))))
def Writer_writeLayer_b48 (fu : Nat) (n : Nat) (L : LyS) (B : ByS) (v2 : Int32) (v3 : Int32) (v4 : Int32) (v5 : Int32) (s0 : Int32) (s1 : Int32) : Option ((ByS) × Nat × Nat) :=
  (ByteRow_append B (160 + v2)).bind fun r5 =>
  ad r5.2.1 r5.2.2 ((if v5 ≤ (s1 * s0) then Writer_writeLayer_b79 fu n L r5.1 v2 v3 v4 v5 (s1 * s0) 0
  else Writer_writeLayer_b79 fu n L r5.1 v2 v3 v4 v5 (s1 * s0) 1))
def Writer_writeLayer (fu : Nat) (n : Nat) (L : LyS) (B : ByS) (p1 : Int32) (p2 : Int32) : Option ((ByS) × Nat × Nat) :=
  (Layers_startOf n L p1).bind fun r1 =>
  (Layers_endOf n L p1 p2).bind fun r2 =>
  (ML_plainBytes p2 (r2 - r1)).bind fun r3 =>
  (Writer_countRuns fu n L B p2 r1 r2).bind fun r4 =>
  (if p2 = 1 then Writer_writeLayer_b48 fu n L B p2 r1 r2 r3 2 r4
  else Writer_writeLayer_b48 fu n L B p2 r1 r2 r3 4 r4)
set_option maxRecDepth 100000 in
set_option maxHeartbeats 4000000 in
theorem t_Writer_writeLayer_b79 {p : Program} {l : Launch} {e : Env} {s : State} {m : MethodId} {args : Array Value} {below : List Frame} {meth : Method} {c : Code} {D : va_G} {cI cR cZ : ClassId} {A : Nat → Prop} {cT sT cs ss : Nat} (C : Cx p s m args meth c D (tyG cI cR cZ) b_Writer_writeLayer 7 "MaskLayers$Writer") (hr : meth.sig.returnType = none) (hA : ∀ q : Nat, s.heap.size ≤ q → A q) {o0 : Nat} {a : (Nat → Nat)} {n : Nat} {b : Nat} {q : Nat} {L : LyS} {B : ByS} {fu : Nat} {v2 : Int32} {v3 : Int32} {v4 : Int32} {v5 : Int32} {v6 : Int32} {s0 : Int32} {res : ((ByS) × Nat × Nat)} (hcs : cs + res.2.1 ≤ cT) (hss : ss + res.2.2 ≤ sT) (h : Writer_writeLayer_b79 fu n L B v2 v3 v4 v5 v6 s0 = some res) : J p l e (rm_Writer_writeLayer cT sT) s m args below meth c D A (va_D A) 7 (MQ below (QcV D (fun q9 : Nat => wWr cI cR o0 a n b q9 L res.1) A) args s cT sT A) cs ss (wWr cI cR o0 a n b q L B) [(0, .ref o0), (2, .int v2), (3, .int v3), (4, .int v4), (5, .int v5), (6, .int v6)] [.int s0, .ref b] 79 := by
  unfold Writer_writeLayer_b79 at h
  obtain ⟨r6, hr6, h⟩ := bd_ok h
  obtain ⟨zr6, h, ezr6, fzr6, gzr6⟩ := ad_ok h
  refine j_VV C [.int s0] hA 8 rfl rfl (c_ByteRow_append l D cI cR cZ b q B s0 hr6) (cw_Writer_41 C ⟨Nat.le_of_ble_eq_true rfl, Nat.le_of_ble_eq_true rfl⟩) [8, 9] [0, 1, 2, 3, 4, 5, 6, 7] rfl rfl (by decide) (by decide) (by decide) rfl rfl (Nat.le_of_ble_eq_true rfl) d_Writer_writeLayer_79 ⟨by show _ ≤ cT; omega, by show _ ≤ sT; omega⟩ (fun qr6 => ?_)
  refine j_ws (ws' := wWr cI cR o0 a n b qr6 L r6.1) rfl ?_
  refine j_aload_n C 0 d_Writer_writeLayer_82 rfl ?_
  refine gf_Writer_15 C 0 (v := .ref b) rfl rfl d_Writer_writeLayer_83 ?_
  refine j_iload C 5 d_Writer_writeLayer_86 rfl ?_
  refine j_iload C 4 d_Writer_writeLayer_88 rfl ?_
  refine j_mmin C mw_Writer_79 (Nat.le_of_ble_eq_true rfl) (Nat.le_of_ble_eq_true rfl) ⟨by show _ ≤ cT; omega, by show _ ≤ sT; omega⟩ d_Writer_writeLayer_90 ?_
  refine j_sipush C (v := 255) d_Writer_writeLayer_93 (by decide) ?_
  refine j_iand C d_Writer_writeLayer_96 ?_
  obtain ⟨r7, hr7, h⟩ := bd_ok h
  obtain ⟨zr7, h, ezr7, fzr7, gzr7⟩ := ad_ok h
  refine j_VV C [.int ((mn v6 v5) &&& 255)] hA 8 rfl rfl (c_ByteRow_append l D cI cR cZ b qr6 r6.1 ((mn v6 v5) &&& 255) hr7) (cw_Writer_41 C ⟨Nat.le_of_ble_eq_true rfl, Nat.le_of_ble_eq_true rfl⟩) [8, 9] [0, 1, 2, 3, 4, 5, 6, 7] rfl rfl (by decide) (by decide) (by decide) rfl rfl (Nat.le_of_ble_eq_true rfl) d_Writer_writeLayer_97 ⟨by show _ ≤ cT; omega, by show _ ≤ sT; omega⟩ (fun qr7 => ?_)
  refine j_ws (ws' := wWr cI cR o0 a n b qr7 L r7.1) rfl ?_
  refine j_aload_n C 0 d_Writer_writeLayer_100 rfl ?_
  refine gf_Writer_15 C 0 (v := .ref b) rfl rfl d_Writer_writeLayer_101 ?_
  refine j_iload C 5 d_Writer_writeLayer_104 rfl ?_
  refine j_iload C 4 d_Writer_writeLayer_106 rfl ?_
  refine j_mmin C mw_Writer_79 (Nat.le_of_ble_eq_true rfl) (Nat.le_of_ble_eq_true rfl) ⟨by show _ ≤ cT; omega, by show _ ≤ sT; omega⟩ d_Writer_writeLayer_108 ?_
  refine j_bipush C (v := 8) d_Writer_writeLayer_111 (by decide) ?_
  refine j_ishr C d_Writer_writeLayer_113 ?_
  obtain ⟨r8, hr8, h⟩ := bd_ok h
  obtain ⟨zr8, h, ezr8, fzr8, gzr8⟩ := ad_ok h
  refine j_VV C [.int ((mn v6 v5) >>> ((8 : Int32) &&& 31))] hA 8 rfl rfl (c_ByteRow_append l D cI cR cZ b qr7 r7.1 ((mn v6 v5) >>> ((8 : Int32) &&& 31)) hr8) (cw_Writer_41 C ⟨Nat.le_of_ble_eq_true rfl, Nat.le_of_ble_eq_true rfl⟩) [8, 9] [0, 1, 2, 3, 4, 5, 6, 7] rfl rfl (by decide) (by decide) (by decide) rfl rfl (Nat.le_of_ble_eq_true rfl) d_Writer_writeLayer_114 ⟨by show _ ≤ cT; omega, by show _ ≤ sT; omega⟩ (fun qr8 => ?_)
  refine j_ws (ws' := wWr cI cR o0 a n b qr8 L r8.1) rfl ?_
  refine j_iload C 5 d_Writer_writeLayer_117 rfl ?_
  refine j_iload C 4 d_Writer_writeLayer_119 rfl ?_
  refine j_icmp_ge C 135 d_Writer_writeLayer_121 (by decide) (fun c13 => ?_) (fun c13 => ?_)
  · replace h := (if_pos c13).symm.trans h
    refine j_iload_n C 1 d_Writer_writeLayer_135 rfl ?_
    refine j_iconst C (v := 1) d_Writer_writeLayer_136 (by decide) ?_
    refine j_icmp_ne C 150 d_Writer_writeLayer_137 (by decide) (fun c11 => ?_) (fun c11 => ?_)
    · replace h := (if_neg c11).symm.trans h
      refine j_aload_n C 0 d_Writer_writeLayer_150 rfl ?_
      refine j_iload_n C 1 d_Writer_writeLayer_151 rfl ?_
      refine j_iload_n C 2 d_Writer_writeLayer_152 rfl ?_
      refine j_iload C 3 d_Writer_writeLayer_153 rfl ?_
      obtain ⟨r9, hr9, h⟩ := bd_ok h
      obtain ⟨zr9, h, ezr9, fzr9, gzr9⟩ := ad_ok h
      refine j_VV C [.int v2, .int v3, .int v4] hA 0 rfl rfl (c_Writer_writeValues l D cI cR cZ fu o0 a n b qr8 L r8.1 v2 v3 v4 hr9) (cw_Writer_91 C ⟨Nat.le_of_ble_eq_true rfl, Nat.le_of_ble_eq_true rfl⟩) [0, 1, 2, 3, 4, 5, 6, 7, 8, 9] [] rfl rfl (by decide) (by decide) (by decide) rfl rfl (Nat.le_of_ble_eq_true rfl) d_Writer_writeLayer_155 ⟨by show _ ≤ cT; omega, by show _ ≤ sT; omega⟩ (fun qr9 => ?_)
      refine j_ws (ws' := wWr cI cR o0 a n b qr9 L r9.1) rfl ?_
      obtain rfl := Option.some.inj h
      rw [ezr6, ezr7, ezr8, ezr9]
      refine j_widen (c2 := cT) (s2 := sT) (by omega) (by omega) ?_
      exact j_vret C hr d_Writer_writeLayer_158 qr9 rfl
    · replace h := (if_pos c11).symm.trans h
      refine j_aload_n C 0 d_Writer_writeLayer_140 rfl ?_
      refine j_iload_n C 2 d_Writer_writeLayer_141 rfl ?_
      refine j_iload C 3 d_Writer_writeLayer_142 rfl ?_
      obtain ⟨r10, hr10, h⟩ := bd_ok h
      obtain ⟨zr10, h, ezr10, fzr10, gzr10⟩ := ad_ok h
      refine j_VV C [.int v3, .int v4] hA 0 rfl rfl (c_Writer_writeBits l D cI cR cZ fu o0 a n b qr8 L r8.1 v3 v4 hr10) (cw_Writer_88 C ⟨Nat.le_of_ble_eq_true rfl, Nat.le_of_ble_eq_true rfl⟩) [0, 1, 2, 3, 4, 5, 6, 7, 8, 9] [] rfl rfl (by decide) (by decide) (by decide) rfl rfl (Nat.le_of_ble_eq_true rfl) d_Writer_writeLayer_144 ⟨by show _ ≤ cT; omega, by show _ ≤ sT; omega⟩ (fun qr10 => ?_)
      refine j_ws (ws' := wWr cI cR o0 a n b qr10 L r10.1) rfl ?_
      refine j_goto C 158 d_Writer_writeLayer_147 (by decide) ?_
      obtain rfl := Option.some.inj h
      rw [ezr6, ezr7, ezr8, ezr10]
      refine j_widen (c2 := cT) (s2 := sT) (by omega) (by omega) ?_
      exact j_vret C hr d_Writer_writeLayer_158 qr10 rfl
  · replace h := (if_neg c13).symm.trans h
    refine j_aload_n C 0 d_Writer_writeLayer_124 rfl ?_
    refine j_iload_n C 1 d_Writer_writeLayer_125 rfl ?_
    refine j_iload_n C 2 d_Writer_writeLayer_126 rfl ?_
    refine j_iload C 3 d_Writer_writeLayer_127 rfl ?_
    obtain ⟨r12, hr12, h⟩ := bd_ok h
    obtain ⟨zr12, h, ezr12, fzr12, gzr12⟩ := ad_ok h
    refine j_VV C [.int v2, .int v3, .int v4] hA 0 rfl rfl (c_Writer_writeRuns l D cI cR cZ fu o0 a n b qr8 L r8.1 v2 v3 v4 hr12) (cw_Writer_84 C ⟨Nat.le_of_ble_eq_true rfl, Nat.le_of_ble_eq_true rfl⟩) [0, 1, 2, 3, 4, 5, 6, 7, 8, 9] [] rfl rfl (by decide) (by decide) (by decide) rfl rfl (Nat.le_of_ble_eq_true rfl) d_Writer_writeLayer_129 ⟨by show _ ≤ cT; omega, by show _ ≤ sT; omega⟩ (fun qr12 => ?_)
    refine j_ws (ws' := wWr cI cR o0 a n b qr12 L r12.1) rfl ?_
    refine j_goto C 158 d_Writer_writeLayer_132 (by decide) ?_
    obtain rfl := Option.some.inj h
    rw [ezr6, ezr7, ezr8, ezr12]
    refine j_widen (c2 := cT) (s2 := sT) (by omega) (by omega) ?_
    exact j_vret C hr d_Writer_writeLayer_158 qr12 rfl
set_option maxRecDepth 100000 in
set_option maxHeartbeats 4000000 in
theorem t_Writer_writeLayer_b48 {p : Program} {l : Launch} {e : Env} {s : State} {m : MethodId} {args : Array Value} {below : List Frame} {meth : Method} {c : Code} {D : va_G} {cI cR cZ : ClassId} {A : Nat → Prop} {cT sT cs ss : Nat} (C : Cx p s m args meth c D (tyG cI cR cZ) b_Writer_writeLayer 7 "MaskLayers$Writer") (hr : meth.sig.returnType = none) (hA : ∀ q : Nat, s.heap.size ≤ q → A q) {o0 : Nat} {a : (Nat → Nat)} {n : Nat} {b : Nat} {q : Nat} {L : LyS} {B : ByS} {fu : Nat} {v2 : Int32} {v3 : Int32} {v4 : Int32} {v5 : Int32} {s0 : Int32} {s1 : Int32} {res : ((ByS) × Nat × Nat)} (hcs : cs + res.2.1 ≤ cT) (hss : ss + res.2.2 ≤ sT) (h : Writer_writeLayer_b48 fu n L B v2 v3 v4 v5 s0 s1 = some res) : J p l e (rm_Writer_writeLayer cT sT) s m args below meth c D A (va_D A) 7 (MQ below (QcV D (fun q9 : Nat => wWr cI cR o0 a n b q9 L res.1) A) args s cT sT A) cs ss (wWr cI cR o0 a n b q L B) [(0, .ref o0), (2, .int v2), (3, .int v3), (4, .int v4), (5, .int v5)] [.int s0, .int s1] 48 := by
  unfold Writer_writeLayer_b48 at h
  refine j_imul C d_Writer_writeLayer_48 ?_
  refine j_istore C [(6, .int (s1 * s0)), (0, .ref o0), (2, .int v2), (3, .int v3), (4, .int v4), (5, .int v5)] d_Writer_writeLayer_49 (by decide) rfl ?_
  refine j_aload_n C 1 d_Writer_writeLayer_51 rfl ?_
  refine gf_Writer_15 C 0 (v := .ref b) rfl rfl d_Writer_writeLayer_52 ?_
  refine j_sipush C (v := 160) d_Writer_writeLayer_55 (by decide) ?_
  refine j_iload_n C 2 d_Writer_writeLayer_58 rfl ?_
  refine j_iadd C d_Writer_writeLayer_59 ?_
  obtain ⟨r5, hr5, h⟩ := bd_ok h
  obtain ⟨zr5, h, ezr5, fzr5, gzr5⟩ := ad_ok h
  refine j_VV C [.int (160 + v2)] hA 8 rfl rfl (c_ByteRow_append l D cI cR cZ b q B (160 + v2) hr5) (cw_Writer_41 C ⟨Nat.le_of_ble_eq_true rfl, Nat.le_of_ble_eq_true rfl⟩) [8, 9] [0, 1, 2, 3, 4, 5, 6, 7] rfl rfl (by decide) (by decide) (by decide) rfl rfl (Nat.le_of_ble_eq_true rfl) d_Writer_writeLayer_60 ⟨by show _ ≤ cT; omega, by show _ ≤ sT; omega⟩ (fun qr5 => ?_)
  refine j_ws (ws' := wWr cI cR o0 a n b qr5 L r5.1) rfl ?_
  refine j_aload_n C 1 d_Writer_writeLayer_63 rfl ?_
  refine gf_Writer_15 C 0 (v := .ref b) rfl rfl d_Writer_writeLayer_64 ?_
  refine j_iload C 0 d_Writer_writeLayer_67 rfl ?_
  refine j_iload C 5 d_Writer_writeLayer_69 rfl ?_
  refine j_icmp_ge C 78 d_Writer_writeLayer_71 (by decide) (fun c14 => ?_) (fun c14 => ?_)
  · replace h := (if_pos c14).symm.trans h
    refine j_iconst C (v := 0) d_Writer_writeLayer_78 (by decide) ?_
    refine j_sub [1, 2, 3, 4, 5, 0] rfl ?_
    rw [ezr5]
    exact t_Writer_writeLayer_b79 C hr hA (by omega) (by omega) h
  · replace h := (if_neg c14).symm.trans h
    refine j_iconst C (v := 1) d_Writer_writeLayer_74 (by decide) ?_
    refine j_goto C 79 d_Writer_writeLayer_75 (by decide) ?_
    refine j_sub [1, 2, 3, 4, 5, 0] rfl ?_
    rw [ezr5]
    exact t_Writer_writeLayer_b79 C hr hA (by omega) (by omega) h
set_option maxRecDepth 100000 in
set_option maxHeartbeats 4000000 in
theorem c_Writer_writeLayer (l : Launch) (D : va_G) (cI cR cZ : ClassId) (fu : Nat) (o0 : Nat) (a : (Nat → Nat)) (n : Nat) (b : Nat) (q : Nat) (L : LyS) (B : ByS) (p1 : Int32) (p2 : Int32) {res : ((ByS) × Nat × Nat)} (h : Writer_writeLayer fu n L B p1 p2 = some res) (sz : Nat) : Met l y_Writer_writeLayer (Cond.code y_Writer_writeLayer b_Writer_writeLayer 7 none :: BIG) (rm_Writer_writeLayer res.2.1 res.2.2) (PcI [.ref o0, .int p1, .int p2] D (tyG cI cR cZ) (wWr cI cR o0 a n b q L B) sz) (QcV D (fun q9 : Nat => wWr cI cR o0 a n b q9 L res.1) (va_A (wWr cI cR o0 a n b q L B) sz)) res.2.1 res.2.2 (va_A (wWr cI cR o0 a n b q L B) sz) := by
  refine met_V (by decide) (Nat.le_of_ble_eq_true rfl) (fun p e s m args below meth c A hA C hr => ?_)
  have C : Cx p s m args meth c D (tyG cI cR cZ) b_Writer_writeLayer 7 "MaskLayers$Writer" := C
  have hr : meth.sig.returnType = none := hr
  show J p l e (rm_Writer_writeLayer res.2.1 res.2.2) s m args below meth c D A (va_D A) 7 (MQ below (QcV D (fun q9 : Nat => wWr cI cR o0 a n b q9 L res.1) A) args s res.2.1 res.2.2 A) 0 0 (wWr cI cR o0 a n b q L B) [(0, .ref o0), (1, .int p1), (2, .int p2)] [] 0
  unfold Writer_writeLayer at h
  refine j_aload_n C 0 d_Writer_writeLayer_0 rfl ?_
  refine gf_Writer_9 C 0 (v := .ref (a 0)) rfl rfl d_Writer_writeLayer_1 ?_
  refine j_iload_n C 1 d_Writer_writeLayer_4 rfl ?_
  obtain ⟨r1, hr1, h⟩ := bd_ok h
  refine j_PV C [.int p1] 1 rfl rfl (c_Layers_startOf l D cI cR cZ a n L p1 hr1) (cw_Writer_64 C ⟨Nat.le_of_ble_eq_true rfl, Nat.le_of_ble_eq_true rfl⟩) [1, 2, 3, 4, 5, 6, 7] rfl rfl rfl (Nat.le_of_ble_eq_true rfl) d_Writer_writeLayer_5 ⟨by show _ ≤ res.2.1; omega, by show _ ≤ res.2.2; omega⟩ ?_
  refine j_istore_n C [(3, .int r1), (0, .ref o0), (1, .int p1), (2, .int p2)] d_Writer_writeLayer_8 (by decide) rfl ?_
  refine j_aload_n C 1 d_Writer_writeLayer_9 rfl ?_
  refine gf_Writer_9 C 0 (v := .ref (a 0)) rfl rfl d_Writer_writeLayer_10 ?_
  refine j_iload_n C 2 d_Writer_writeLayer_13 rfl ?_
  refine j_iload_n C 3 d_Writer_writeLayer_14 rfl ?_
  obtain ⟨r2, hr2, h⟩ := bd_ok h
  refine j_PV C [.int p1, .int p2] 1 rfl rfl (c_Layers_endOf l D cI cR cZ a n L p1 p2 hr2) (cw_Writer_68 C ⟨Nat.le_of_ble_eq_true rfl, Nat.le_of_ble_eq_true rfl⟩) [1, 2, 3, 4, 5, 6, 7] rfl rfl rfl (Nat.le_of_ble_eq_true rfl) d_Writer_writeLayer_15 ⟨by show _ ≤ res.2.1; omega, by show _ ≤ res.2.2; omega⟩ ?_
  refine j_istore C [(4, .int r2), (3, .int r1), (0, .ref o0), (1, .int p1), (2, .int p2)] d_Writer_writeLayer_18 (by decide) rfl ?_
  refine j_iload_n C 4 d_Writer_writeLayer_20 rfl ?_
  refine j_iload C 0 d_Writer_writeLayer_21 rfl ?_
  refine j_iload_n C 1 d_Writer_writeLayer_23 rfl ?_
  refine j_isub C d_Writer_writeLayer_24 ?_
  obtain ⟨r3, hr3, h⟩ := bd_ok h
  refine j_PSN C [.int p2, .int (r2 - r1)] (c_ML_plainBytes l D cI cR cZ p2 (r2 - r1) hr3) (cw_Writer_72 C ⟨Nat.le_of_ble_eq_true rfl, Nat.le_of_ble_eq_true rfl⟩) [] rfl rfl rfl (Nat.le_of_ble_eq_true rfl) d_Writer_writeLayer_25 ⟨by show _ ≤ res.2.1; omega, by show _ ≤ res.2.2; omega⟩ ?_
  refine j_istore C [(5, .int r3), (4, .int r2), (3, .int r1), (0, .ref o0), (1, .int p1), (2, .int p2)] d_Writer_writeLayer_28 (by decide) rfl ?_
  refine j_aload_n C 3 d_Writer_writeLayer_30 rfl ?_
  refine j_iload_n C 5 d_Writer_writeLayer_31 rfl ?_
  refine j_iload_n C 2 d_Writer_writeLayer_32 rfl ?_
  refine j_iload C 1 d_Writer_writeLayer_33 rfl ?_
  obtain ⟨r4, hr4, h⟩ := bd_ok h
  refine j_PV C [.int p2, .int r1, .int r2] 0 rfl rfl (c_Writer_countRuns l D cI cR cZ fu o0 a n b q L B p2 r1 r2 hr4) (cw_Writer_75 C ⟨Nat.le_of_ble_eq_true rfl, Nat.le_of_ble_eq_true rfl⟩) [0, 1, 2, 3, 4, 5, 6, 7, 8, 9] rfl rfl rfl (Nat.le_of_ble_eq_true rfl) d_Writer_writeLayer_35 ⟨by show _ ≤ res.2.1; omega, by show _ ≤ res.2.2; omega⟩ ?_
  refine j_iload_n C 5 d_Writer_writeLayer_38 rfl ?_
  refine j_iconst C (v := 1) d_Writer_writeLayer_39 (by decide) ?_
  refine j_icmp_ne C 47 d_Writer_writeLayer_40 (by decide) (fun c15 => ?_) (fun c15 => ?_)
  · replace h := (if_neg c15).symm.trans h
    refine j_iconst C (v := 4) d_Writer_writeLayer_47 (by decide) ?_
    refine j_sub [3, 5, 2, 1, 0] rfl ?_
    exact t_Writer_writeLayer_b48 C hr hA (by omega) (by omega) h
  · replace h := (if_pos c15).symm.trans h
    refine j_iconst C (v := 2) d_Writer_writeLayer_43 (by decide) ?_
    refine j_goto C 48 d_Writer_writeLayer_44 (by decide) ?_
    refine j_sub [3, 5, 2, 1, 0] rfl ?_
    exact t_Writer_writeLayer_b48 C hr hA (by omega) (by omega) h
def Writer_writeAll_l26 (fu : Nat) (n : Nat) (L : LyS) (v1 : Int32) : Nat → Int32 → ByS → Option ((Nat × ByS) × Nat × Nat)
  | 0, _, _ => none
  | k + 1, v2, B =>
  (if 3 < v2 then some ((0, B), 0, 0)
  else (Layers_has n L v1 v2).bind fun r4 =>
  (if r4 = 0 then Writer_writeAll_l26 fu n L v1 k (v2 + 1) B
  else (Writer_writeLayer fu n L B v1 v2).bind fun r5 =>
  ad r5.2.1 r5.2.2 (Writer_writeAll_l26 fu n L v1 k (v2 + 1) r5.1)))
def Writer_writeAll_l13 (fu : Nat) (n : Nat) (L : LyS) : Nat → Int32 → ByS → Option ((Nat × ByS) × Nat × Nat)
  | 0, _, _ => none
  | k + 1, v1, B =>
  (Layers_stripes n L).bind fun r3 =>
  (if r3 ≤ v1 then some ((0, B), 0, 0)
  else (Writer_writeAll_l26 fu n L v1 fu 0 B).bind fun r8 =>
  ad r8.2.1 r8.2.2 ((ByteRow_append r8.1.2 175).bind fun r9 =>
  ad r9.2.1 r9.2.2 (Writer_writeAll_l13 fu n L k (v1 + 1) r9.1)))
def Writer_writeAll (fu : Nat) (n : Nat) (L : LyS) (B : ByS) : Option ((Int32 × ByS) × Nat × Nat) :=
  (ByteRow_empty B).bind fun r1 =>
  (Writer_writeHead n L r1).bind fun r2 =>
  ad r2.2.1 r2.2.2 ((Writer_writeAll_l13 fu n L fu 0 r2.1).bind fun r12 =>
  ad r12.2.1 r12.2.2 (some ((r12.1.2.1, r12.1.2), 0, 0)))
set_option maxRecDepth 100000 in
set_option maxHeartbeats 4000000 in
theorem t_Writer_writeAll_l26 {p : Program} {l : Launch} {e : Env} {s : State} {m : MethodId} {args : Array Value} {below : List Frame} {meth : Method} {c : Code} {D : va_G} {cI cR cZ : ClassId} {A : Nat → Prop} {cT sT : Nat} {Q : State → Prop} (C : Cx p s m args meth c D (tyG cI cR cZ) b_Writer_writeAll 3 "MaskLayers$Writer") (hA : ∀ q : Nat, s.heap.size ≤ q → A q) {o0 : Nat} {a : (Nat → Nat)} {n : Nat} {b : Nat} {fu : Nat} {L : LyS} {v1 : Int32} : ∀ (k : Nat) (v2 : Int32) (B : ByS) (q cs ss : Nat) (out : (Nat × ByS) × Nat × Nat), Writer_writeAll_l26 fu n L v1 k v2 B = some out → cs + out.2.1 ≤ cT → ss + out.2.2 ≤ sT → (∀ q9 : Nat, out.1.1 = 0 → J p l e (rm_Writer_writeAll cT sT) s m args below meth c D A (va_D A) 3 Q (cs + out.2.1) (ss + out.2.2) (wWr cI cR o0 a n b q9 L out.1.2) [(0, .ref o0), (1, .int v1)] [] 55) → J p l e (rm_Writer_writeAll cT sT) s m args below meth c D A (va_D A) 3 Q cs ss (wWr cI cR o0 a n b q L B) [(0, .ref o0), (1, .int v1), (2, .int v2)] [] 26 := by
  intro k
  induction k with
  | zero => intro v2 B q cs ss out h; cases (show none = some out from h)
  | succ k ih =>
    intro v2 B q cs ss out h hcs hss x0
    rw [Writer_writeAll_l26] at h
    refine j_iload_n C 2 d_Writer_writeAll_26 rfl ?_
    refine j_iconst C (v := 3) d_Writer_writeAll_27 (by decide) ?_
    refine j_icmp_gt C 55 d_Writer_writeAll_28 (by decide) (fun c7 => ?_) (fun c7 => ?_)
    · replace h := (if_pos c7).symm.trans h
      obtain rfl := Option.some.inj h
      refine j_sub [0, 1] rfl ?_
      have X := x0 q (by rfl)
      exact j_widen (by omega) (by omega) X
    · replace h := (if_neg c7).symm.trans h
      refine j_aload_n C 0 d_Writer_writeAll_31 rfl ?_
      refine gf_Writer_9 C 0 (v := .ref (a 0)) rfl rfl d_Writer_writeAll_32 ?_
      refine j_iload_n C 1 d_Writer_writeAll_35 rfl ?_
      refine j_iload_n C 2 d_Writer_writeAll_36 rfl ?_
      obtain ⟨r4, hr4, h⟩ := bd_ok h
      refine j_PV C [.int v1, .int v2] 1 rfl rfl (c_Layers_has l D cI cR cZ a n L v1 v2 hr4) (cw_Writer_33 C ⟨Nat.le_of_ble_eq_true rfl, Nat.le_of_ble_eq_true rfl⟩) [1, 2, 3, 4, 5, 6, 7] rfl rfl rfl (Nat.le_of_ble_eq_true rfl) d_Writer_writeAll_37 ⟨by show _ ≤ cT; omega, by show _ ≤ sT; omega⟩ ?_
      refine j_if_eq C 49 d_Writer_writeAll_40 (by decide) (fun c6 => ?_) (fun c6 => ?_)
      · replace h := (if_pos c6).symm.trans h
        refine j_iinc C [(2, .int (v2 + 1)), (0, .ref o0), (1, .int v1)] 2 (v2 + 1) d_Writer_writeAll_49 rfl rfl (by decide) rfl ?_
        refine j_goto C 26 d_Writer_writeAll_52 (by decide) ?_
        refine j_sub [1, 2, 0] rfl ?_
        exact ih (v2 + 1) B q cs ss _ h (by omega) (by omega) (fun q9 e9 => by have X := x0 q9 (by exact e9); exact j_widen (by omega) (by omega) X)
      · replace h := (if_neg c6).symm.trans h
        refine j_aload_n C 0 d_Writer_writeAll_43 rfl ?_
        refine j_iload_n C 1 d_Writer_writeAll_44 rfl ?_
        refine j_iload_n C 2 d_Writer_writeAll_45 rfl ?_
        obtain ⟨r5, hr5, h⟩ := bd_ok h
        obtain ⟨zr5, h, ezr5, fzr5, gzr5⟩ := ad_ok h
        refine j_VV C [.int v1, .int v2] hA 0 rfl rfl (c_Writer_writeLayer l D cI cR cZ fu o0 a n b q L B v1 v2 hr5) (cw_Writer_37 C ⟨Nat.le_of_ble_eq_true rfl, Nat.le_of_ble_eq_true rfl⟩) [0, 1, 2, 3, 4, 5, 6, 7, 8, 9] [] rfl rfl (by decide) (by decide) (by decide) rfl rfl (Nat.le_of_ble_eq_true rfl) d_Writer_writeAll_46 ⟨by show _ ≤ cT; omega, by show _ ≤ sT; omega⟩ (fun qr5 => ?_)
        refine j_ws (ws' := wWr cI cR o0 a n b qr5 L r5.1) rfl ?_
        refine j_iinc C [(2, .int (v2 + 1)), (0, .ref o0), (1, .int v1)] 2 (v2 + 1) d_Writer_writeAll_49 rfl rfl (by decide) rfl ?_
        refine j_goto C 26 d_Writer_writeAll_52 (by decide) ?_
        refine j_sub [1, 2, 0] rfl ?_
        exact ih (v2 + 1) r5.1 qr5 (cs + r5.2.1) (ss + r5.2.2) _ h (by omega) (by omega) (fun q9 e9 => by have X := x0 q9 (by rw [ezr5]; exact e9); rw [ezr5] at X; exact j_widen (by omega) (by omega) X)
set_option maxRecDepth 100000 in
set_option maxHeartbeats 4000000 in
theorem t_Writer_writeAll_l13 {p : Program} {l : Launch} {e : Env} {s : State} {m : MethodId} {args : Array Value} {below : List Frame} {meth : Method} {c : Code} {D : va_G} {cI cR cZ : ClassId} {A : Nat → Prop} {cT sT : Nat} {Q : State → Prop} (C : Cx p s m args meth c D (tyG cI cR cZ) b_Writer_writeAll 3 "MaskLayers$Writer") (hA : ∀ q : Nat, s.heap.size ≤ q → A q) {o0 : Nat} {a : (Nat → Nat)} {n : Nat} {b : Nat} {fu : Nat} {L : LyS} : ∀ (k : Nat) (v1 : Int32) (B : ByS) (q cs ss : Nat) (out : (Nat × ByS) × Nat × Nat), Writer_writeAll_l13 fu n L k v1 B = some out → cs + out.2.1 ≤ cT → ss + out.2.2 ≤ sT → (∀ q9 : Nat, out.1.1 = 0 → J p l e (rm_Writer_writeAll cT sT) s m args below meth c D A (va_D A) 3 Q (cs + out.2.1) (ss + out.2.2) (wWr cI cR o0 a n b q9 L out.1.2) [(0, .ref o0)] [] 71) → J p l e (rm_Writer_writeAll cT sT) s m args below meth c D A (va_D A) 3 Q cs ss (wWr cI cR o0 a n b q L B) [(0, .ref o0), (1, .int v1)] [] 13 := by
  intro k
  induction k with
  | zero => intro v1 B q cs ss out h; cases (show none = some out from h)
  | succ k ih =>
    intro v1 B q cs ss out h hcs hss x0
    rw [Writer_writeAll_l13] at h
    refine j_iload_n C 1 d_Writer_writeAll_13 rfl ?_
    refine j_aload_n C 0 d_Writer_writeAll_14 rfl ?_
    refine gf_Writer_9 C 0 (v := .ref (a 0)) rfl rfl d_Writer_writeAll_15 ?_
    obtain ⟨r3, hr3, h⟩ := bd_ok h
    refine j_PV C [] 1 rfl rfl (c_Layers_stripes l D cI cR cZ a n L hr3) (cw_Writer_27 C ⟨Nat.le_of_ble_eq_true rfl, Nat.le_of_ble_eq_true rfl⟩) [1, 2, 3, 4, 5, 6, 7] rfl rfl rfl (Nat.le_of_ble_eq_true rfl) d_Writer_writeAll_18 ⟨by show _ ≤ cT; omega, by show _ ≤ sT; omega⟩ ?_
    refine j_icmp_ge C 71 d_Writer_writeAll_21 (by decide) (fun c11 => ?_) (fun c11 => ?_)
    · replace h := (if_pos c11).symm.trans h
      obtain rfl := Option.some.inj h
      refine j_sub [0] rfl ?_
      have X := x0 q (by rfl)
      exact j_widen (by omega) (by omega) X
    · replace h := (if_neg c11).symm.trans h
      refine j_iconst C (v := 0) d_Writer_writeAll_24 (by decide) ?_
      refine j_istore_n C [(2, .int 0), (0, .ref o0), (1, .int v1)] d_Writer_writeAll_25 (by decide) rfl ?_
      obtain ⟨r8, hr8, h⟩ := bd_ok h
      obtain ⟨zr8, h, ezr8, fzr8, gzr8⟩ := ad_ok h
      refine j_sub [1, 2, 0] rfl ?_
      refine t_Writer_writeAll_l26 C hA fu 0 B q cs ss _ hr8 (by omega) (by omega) (fun qr8 e10 => ?_)
      · refine j_aload_n C 0 d_Writer_writeAll_55 rfl ?_
        refine gf_Writer_15 C 0 (v := .ref b) rfl rfl d_Writer_writeAll_56 ?_
        refine j_sipush C (v := 175) d_Writer_writeAll_59 (by decide) ?_
        obtain ⟨r9, hr9, h⟩ := bd_ok h
        obtain ⟨zr9, h, ezr9, fzr9, gzr9⟩ := ad_ok h
        refine j_VV C [.int 175] hA 8 rfl rfl (c_ByteRow_append l D cI cR cZ b qr8 r8.1.2 175 hr9) (cw_Writer_41 C ⟨Nat.le_of_ble_eq_true rfl, Nat.le_of_ble_eq_true rfl⟩) [8, 9] [0, 1, 2, 3, 4, 5, 6, 7] rfl rfl (by decide) (by decide) (by decide) rfl rfl (Nat.le_of_ble_eq_true rfl) d_Writer_writeAll_62 ⟨by show _ ≤ cT; omega, by show _ ≤ sT; omega⟩ (fun qr9 => ?_)
        refine j_ws (ws' := wWr cI cR o0 a n b qr9 L r9.1) rfl ?_
        refine j_iinc C [(1, .int (v1 + 1)), (0, .ref o0)] 1 (v1 + 1) d_Writer_writeAll_65 rfl rfl (by decide) rfl ?_
        refine j_goto C 13 d_Writer_writeAll_68 (by decide) ?_
        refine j_sub [1, 0] rfl ?_
        exact ih (v1 + 1) r9.1 qr9 ((cs + r8.2.1) + r9.2.1) ((ss + r8.2.2) + r9.2.2) _ h (by omega) (by omega) (fun q9 e9 => by have X := x0 q9 (by rw [ezr8, ezr9]; exact e9); rw [ezr8, ezr9] at X; exact j_widen (by omega) (by omega) X)
set_option maxRecDepth 100000 in
set_option maxHeartbeats 4000000 in
theorem c_Writer_writeAll (l : Launch) (D : va_G) (cI cR cZ : ClassId) (fu : Nat) (o0 : Nat) (a : (Nat → Nat)) (n : Nat) (b : Nat) (q : Nat) (L : LyS) (B : ByS) {res : ((Int32 × ByS) × Nat × Nat)} (h : Writer_writeAll fu n L B = some res) (sz : Nat) : Met l y_Writer_writeAll (Cond.code y_Writer_writeAll b_Writer_writeAll 3 (some .int) :: BIG) (rm_Writer_writeAll res.2.1 res.2.2) (PcI [.ref o0] D (tyG cI cR cZ) (wWr cI cR o0 a n b q L B) sz) (QcI D res.1.1 (fun q9 : Nat => wWr cI cR o0 a n b q9 L res.1.2) (va_A (wWr cI cR o0 a n b q L B) sz)) res.2.1 res.2.2 (va_A (wWr cI cR o0 a n b q L B) sz) := by
  refine met_I (by decide) (Nat.le_of_ble_eq_true rfl) (fun p e s m args below meth c A hA C hr => ?_)
  have C : Cx p s m args meth c D (tyG cI cR cZ) b_Writer_writeAll 3 "MaskLayers$Writer" := C
  have hr : meth.sig.returnType = some .int := hr
  show J p l e (rm_Writer_writeAll res.2.1 res.2.2) s m args below meth c D A (va_D A) 3 (MQ below (QcI D res.1.1 (fun q9 : Nat => wWr cI cR o0 a n b q9 L res.1.2) A) args s res.2.1 res.2.2 A) 0 0 (wWr cI cR o0 a n b q L B) [(0, .ref o0)] [] 0
  unfold Writer_writeAll at h
  refine j_aload_n C 0 d_Writer_writeAll_0 rfl ?_
  refine gf_Writer_15 C 0 (v := .ref b) rfl rfl d_Writer_writeAll_1 ?_
  obtain ⟨r1, hr1, h⟩ := bd_ok h
  refine j_VV C [] hA 8 rfl rfl (c_ByteRow_empty l D cI cR cZ b q B hr1) (cw_Writer_19 C ⟨Nat.le_of_ble_eq_true rfl, Nat.le_of_ble_eq_true rfl⟩) [8, 9] [0, 1, 2, 3, 4, 5, 6, 7] rfl rfl (by decide) (by decide) (by decide) rfl rfl (Nat.le_of_ble_eq_true rfl) d_Writer_writeAll_4 ⟨by show _ ≤ res.2.1; omega, by show _ ≤ res.2.2; omega⟩ (fun _ => ?_)
  refine j_ws (ws' := wWr cI cR o0 a n b q L r1) rfl ?_
  refine j_aload_n C 0 d_Writer_writeAll_7 rfl ?_
  obtain ⟨r2, hr2, h⟩ := bd_ok h
  obtain ⟨zr2, h, ezr2, fzr2, gzr2⟩ := ad_ok h
  refine j_VV C [] hA 0 rfl rfl (c_Writer_writeHead l D cI cR cZ o0 a n b q L r1 hr2) (cw_Writer_24 C ⟨Nat.le_of_ble_eq_true rfl, Nat.le_of_ble_eq_true rfl⟩) [0, 1, 2, 3, 4, 5, 6, 7, 8, 9] [] rfl rfl (by decide) (by decide) (by decide) rfl rfl (Nat.le_of_ble_eq_true rfl) d_Writer_writeAll_8 ⟨by show _ ≤ res.2.1; omega, by show _ ≤ res.2.2; omega⟩ (fun qr2 => ?_)
  refine j_ws (ws' := wWr cI cR o0 a n b qr2 L r2.1) rfl ?_
  refine j_iconst C (v := 0) d_Writer_writeAll_11 (by decide) ?_
  refine j_istore_n C [(1, .int 0), (0, .ref o0)] d_Writer_writeAll_12 (by decide) rfl ?_
  obtain ⟨r12, hr12, h⟩ := bd_ok h
  obtain ⟨zr12, h, ezr12, fzr12, gzr12⟩ := ad_ok h
  refine j_sub [1, 0] rfl ?_
  refine t_Writer_writeAll_l13 C hA fu 0 r2.1 qr2 (0 + r2.2.1) (0 + r2.2.2) _ hr12 (by omega) (by omega) (fun qr12 e13 => ?_)
  · refine j_aload_n C 0 d_Writer_writeAll_71 rfl ?_
    refine gf_Writer_15 C 0 (v := .ref b) rfl rfl d_Writer_writeAll_72 ?_
    refine gf_Writer_45 C 8 (v := .int r12.1.2.1) rfl rfl d_Writer_writeAll_75 ?_
    obtain rfl := Option.some.inj h
    rw [ezr2, ezr12]
    refine j_widen (c2 := res.2.1) (s2 := res.2.2) (by omega) (by omega) ?_
    exact j_iret C hr d_Writer_writeAll_78 qr12 rfl
