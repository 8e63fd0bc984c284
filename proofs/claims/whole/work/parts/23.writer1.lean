def Writer_writeValue (n : Nat) (L : LyS) (B : ByS) (p1 : Int32) (p2 : Int32) : Option ((ByS) × Nat × Nat) :=
  (if p1 = 1 then (ML_blue p2).bind fun r1 =>
  (ByteRow_append B r1).bind fun r2 =>
  ad r2.2.1 r2.2.2 (some ((r2.1), 0, 0))
  else (ML_red p2).bind fun r3 =>
  (ByteRow_append B r3).bind fun r4 =>
  ad r4.2.1 r4.2.2 ((ML_green p2).bind fun r5 =>
  (ByteRow_append r4.1 r5).bind fun r6 =>
  ad r6.2.1 r6.2.2 ((ML_blue p2).bind fun r7 =>
  (ByteRow_append r6.1 r7).bind fun r8 =>
  ad r8.2.1 r8.2.2 (some ((r8.1), 0, 0)))))
set_option maxRecDepth 100000 in
set_option maxHeartbeats 4000000 in
theorem c_Writer_writeValue (l : Launch) (D : va_G) (cI cR cZ : ClassId) (o0 : Nat) (a : (Nat → Nat)) (n : Nat) (b : Nat) (q : Nat) (L : LyS) (B : ByS) (p1 : Int32) (p2 : Int32) {res : ((ByS) × Nat × Nat)} (h : Writer_writeValue n L B p1 p2 = some res) (sz : Nat) : Met l y_Writer_writeValue (Cond.code y_Writer_writeValue b_Writer_writeValue 3 none :: BIG) (rm_Writer_writeValue res.2.1 res.2.2) (PcI [.ref o0, .int p1, .int p2] D (tyG cI cR cZ) (wWr cI cR o0 a n b q L B) sz) (QcV D (fun q9 : Nat => wWr cI cR o0 a n b q9 L res.1) (va_A (wWr cI cR o0 a n b q L B) sz)) res.2.1 res.2.2 (va_A (wWr cI cR o0 a n b q L B) sz) := by
  refine met_V (by decide) (Nat.le_of_ble_eq_true rfl) (fun p e s m args below meth c A hA C hr => ?_)
  have C : Cx p s m args meth c D (tyG cI cR cZ) b_Writer_writeValue 3 "MaskLayers$Writer" := C
  have hr : meth.sig.returnType = none := hr
  show J p l e (rm_Writer_writeValue res.2.1 res.2.2) s m args below meth c D A (va_D A) 3 (MQ below (QcV D (fun q9 : Nat => wWr cI cR o0 a n b q9 L res.1) A) args s res.2.1 res.2.2 A) 0 0 (wWr cI cR o0 a n b q L B) [(0, .ref o0), (1, .int p1), (2, .int p2)] [] 0
  unfold Writer_writeValue at h
  refine j_iload_n C 1 d_Writer_writeValue_0 rfl ?_
  refine j_iconst C (v := 1) d_Writer_writeValue_1 (by decide) ?_
  refine j_icmp_eq C 27 d_Writer_writeValue_2 (by decide) (fun c9 => ?_) (fun c9 => ?_)
  · replace h := (if_pos c9).symm.trans h
    refine j_aload_n C 0 d_Writer_writeValue_27 rfl ?_
    refine gf_Writer_15 C 0 (v := .ref b) rfl rfl d_Writer_writeValue_28 ?_
    refine j_iload_n C 2 d_Writer_writeValue_31 rfl ?_
    obtain ⟨r1, hr1, h⟩ := bd_ok h
    refine j_PSN C [.int p2] (c_ML_blue l D cI cR cZ p2 hr1) (cw_Writer_110 C ⟨Nat.le_of_ble_eq_true rfl, Nat.le_of_ble_eq_true rfl⟩) [] rfl rfl rfl (Nat.le_of_ble_eq_true rfl) d_Writer_writeValue_32 ⟨by show _ ≤ res.2.1; omega, by show _ ≤ res.2.2; omega⟩ ?_
    obtain ⟨r2, hr2, h⟩ := bd_ok h
    obtain ⟨zr2, h, ezr2, fzr2, gzr2⟩ := ad_ok h
    refine j_VV C [.int r1] hA 8 rfl rfl (c_ByteRow_append l D cI cR cZ b q B r1 hr2) (cw_Writer_41 C ⟨Nat.le_of_ble_eq_true rfl, Nat.le_of_ble_eq_true rfl⟩) [8, 9] [0, 1, 2, 3, 4, 5, 6, 7] rfl rfl (by decide) (by decide) (by decide) rfl rfl (Nat.le_of_ble_eq_true rfl) d_Writer_writeValue_35 ⟨by show _ ≤ res.2.1; omega, by show _ ≤ res.2.2; omega⟩ (fun qr2 => ?_)
    refine j_ws (ws' := wWr cI cR o0 a n b qr2 L r2.1) rfl ?_
    obtain rfl := Option.some.inj h
    rw [ezr2]
    refine j_widen (c2 := res.2.1) (s2 := res.2.2) (by omega) (by omega) ?_
    exact j_vret C hr d_Writer_writeValue_38 qr2 rfl
  · replace h := (if_neg c9).symm.trans h
    refine j_aload_n C 0 d_Writer_writeValue_5 rfl ?_
    refine gf_Writer_15 C 0 (v := .ref b) rfl rfl d_Writer_writeValue_6 ?_
    refine j_iload_n C 2 d_Writer_writeValue_9 rfl ?_
    obtain ⟨r3, hr3, h⟩ := bd_ok h
    refine j_PSN C [.int p2] (c_ML_red l D cI cR cZ p2 hr3) (cw_Writer_104 C ⟨Nat.le_of_ble_eq_true rfl, Nat.le_of_ble_eq_true rfl⟩) [] rfl rfl rfl (Nat.le_of_ble_eq_true rfl) d_Writer_writeValue_10 ⟨by show _ ≤ res.2.1; omega, by show _ ≤ res.2.2; omega⟩ ?_
    obtain ⟨r4, hr4, h⟩ := bd_ok h
    obtain ⟨zr4, h, ezr4, fzr4, gzr4⟩ := ad_ok h
    refine j_VV C [.int r3] hA 8 rfl rfl (c_ByteRow_append l D cI cR cZ b q B r3 hr4) (cw_Writer_41 C ⟨Nat.le_of_ble_eq_true rfl, Nat.le_of_ble_eq_true rfl⟩) [8, 9] [0, 1, 2, 3, 4, 5, 6, 7] rfl rfl (by decide) (by decide) (by decide) rfl rfl (Nat.le_of_ble_eq_true rfl) d_Writer_writeValue_13 ⟨by show _ ≤ res.2.1; omega, by show _ ≤ res.2.2; omega⟩ (fun qr4 => ?_)
    refine j_ws (ws' := wWr cI cR o0 a n b qr4 L r4.1) rfl ?_
    refine j_aload_n C 0 d_Writer_writeValue_16 rfl ?_
    refine gf_Writer_15 C 0 (v := .ref b) rfl rfl d_Writer_writeValue_17 ?_
    refine j_iload_n C 2 d_Writer_writeValue_20 rfl ?_
    obtain ⟨r5, hr5, h⟩ := bd_ok h
    refine j_PSN C [.int p2] (c_ML_green l D cI cR cZ p2 hr5) (cw_Writer_107 C ⟨Nat.le_of_ble_eq_true rfl, Nat.le_of_ble_eq_true rfl⟩) [] rfl rfl rfl (Nat.le_of_ble_eq_true rfl) d_Writer_writeValue_21 ⟨by show _ ≤ res.2.1; omega, by show _ ≤ res.2.2; omega⟩ ?_
    obtain ⟨r6, hr6, h⟩ := bd_ok h
    obtain ⟨zr6, h, ezr6, fzr6, gzr6⟩ := ad_ok h
    refine j_VV C [.int r5] hA 8 rfl rfl (c_ByteRow_append l D cI cR cZ b qr4 r4.1 r5 hr6) (cw_Writer_41 C ⟨Nat.le_of_ble_eq_true rfl, Nat.le_of_ble_eq_true rfl⟩) [8, 9] [0, 1, 2, 3, 4, 5, 6, 7] rfl rfl (by decide) (by decide) (by decide) rfl rfl (Nat.le_of_ble_eq_true rfl) d_Writer_writeValue_24 ⟨by show _ ≤ res.2.1; omega, by show _ ≤ res.2.2; omega⟩ (fun qr6 => ?_)
    refine j_ws (ws' := wWr cI cR o0 a n b qr6 L r6.1) rfl ?_
    refine j_aload_n C 0 d_Writer_writeValue_27 rfl ?_
    refine gf_Writer_15 C 0 (v := .ref b) rfl rfl d_Writer_writeValue_28 ?_
    refine j_iload_n C 2 d_Writer_writeValue_31 rfl ?_
    obtain ⟨r7, hr7, h⟩ := bd_ok h
    refine j_PSN C [.int p2] (c_ML_blue l D cI cR cZ p2 hr7) (cw_Writer_110 C ⟨Nat.le_of_ble_eq_true rfl, Nat.le_of_ble_eq_true rfl⟩) [] rfl rfl rfl (Nat.le_of_ble_eq_true rfl) d_Writer_writeValue_32 ⟨by show _ ≤ res.2.1; omega, by show _ ≤ res.2.2; omega⟩ ?_
    obtain ⟨r8, hr8, h⟩ := bd_ok h
    obtain ⟨zr8, h, ezr8, fzr8, gzr8⟩ := ad_ok h
    refine j_VV C [.int r7] hA 8 rfl rfl (c_ByteRow_append l D cI cR cZ b qr6 r6.1 r7 hr8) (cw_Writer_41 C ⟨Nat.le_of_ble_eq_true rfl, Nat.le_of_ble_eq_true rfl⟩) [8, 9] [0, 1, 2, 3, 4, 5, 6, 7] rfl rfl (by decide) (by decide) (by decide) rfl rfl (Nat.le_of_ble_eq_true rfl) d_Writer_writeValue_35 ⟨by show _ ≤ res.2.1; omega, by show _ ≤ res.2.2; omega⟩ (fun qr8 => ?_)
    refine j_ws (ws' := wWr cI cR o0 a n b qr8 L r8.1) rfl ?_
    obtain rfl := Option.some.inj h
    rw [ezr4, ezr6, ezr8]
    refine j_widen (c2 := res.2.1) (s2 := res.2.2) (by omega) (by omega) ?_
    exact j_vret C hr d_Writer_writeValue_38 qr8 rfl
def Writer_writeValues_l3 (n : Nat) (L : LyS) (v1 : Int32) (v3 : Int32) : Nat → Int32 → ByS → Option ((Nat × ByS) × Nat × Nat)
  | 0, _, _ => none
  | k + 1, v4, B =>
  (if v3 ≤ v4 then some ((0, B), 0, 0)
  else (Layers_value n L v1 v4).bind fun r1 =>
  (Writer_writeValue n L B v1 r1).bind fun r2 =>
  ad r2.2.1 r2.2.2 (Writer_writeValues_l3 n L v1 v3 k (v4 + 1) r2.1))
def Writer_writeValues (fu : Nat) (n : Nat) (L : LyS) (B : ByS) (p1 : Int32) (p2 : Int32) (p3 : Int32) : Option ((ByS) × Nat × Nat) :=
  (Writer_writeValues_l3 n L p1 p3 fu p2 B).bind fun r4 =>
  ad r4.2.1 r4.2.2 (some ((r4.1.2), 0, 0))
set_option maxRecDepth 100000 in
set_option maxHeartbeats 4000000 in
theorem t_Writer_writeValues_l3 {p : Program} {l : Launch} {e : Env} {s : State} {m : MethodId} {args : Array Value} {below : List Frame} {meth : Method} {c : Code} {D : va_G} {cI cR cZ : ClassId} {A : Nat → Prop} {cT sT : Nat} {Q : State → Prop} (C : Cx p s m args meth c D (tyG cI cR cZ) b_Writer_writeValues 5 "MaskLayers$Writer") (hA : ∀ q : Nat, s.heap.size ≤ q → A q) {o0 : Nat} {a : (Nat → Nat)} {n : Nat} {b : Nat} {L : LyS} {v1 : Int32} {v3 : Int32} : ∀ (k : Nat) (v4 : Int32) (B : ByS) (q cs ss : Nat) (out : (Nat × ByS) × Nat × Nat), Writer_writeValues_l3 n L v1 v3 k v4 B = some out → cs + out.2.1 ≤ cT → ss + out.2.2 ≤ sT → (∀ q9 : Nat, out.1.1 = 0 → J p l e (rm_Writer_writeValues cT sT) s m args below meth c D A (va_D A) 5 Q (cs + out.2.1) (ss + out.2.2) (wWr cI cR o0 a n b q9 L out.1.2) [] [] 30) → J p l e (rm_Writer_writeValues cT sT) s m args below meth c D A (va_D A) 5 Q cs ss (wWr cI cR o0 a n b q L B) [(0, .ref o0), (1, .int v1), (3, .int v3), (4, .int v4)] [] 3 := by
  intro k
  induction k with
  | zero => intro v4 B q cs ss out h; cases (show none = some out from h)
  | succ k ih =>
    intro v4 B q cs ss out h hcs hss x0
    rw [Writer_writeValues_l3] at h
    refine j_iload C 3 d_Writer_writeValues_3 rfl ?_
    refine j_iload_n C 2 d_Writer_writeValues_5 rfl ?_
    refine j_icmp_ge C 30 d_Writer_writeValues_6 (by decide) (fun c3 => ?_) (fun c3 => ?_)
    · replace h := (if_pos c3).symm.trans h
      obtain rfl := Option.some.inj h
      refine j_sub [] rfl ?_
      have X := x0 q (by rfl)
      exact j_widen (by omega) (by omega) X
    · replace h := (if_neg c3).symm.trans h
      refine j_aload_n C 0 d_Writer_writeValues_9 rfl ?_
      refine j_iload_n C 1 d_Writer_writeValues_10 rfl ?_
      refine j_aload_n C 0 d_Writer_writeValues_11 rfl ?_
      refine gf_Writer_9 C 0 (v := .ref (a 0)) rfl rfl d_Writer_writeValues_12 ?_
      refine j_iload_n C 1 d_Writer_writeValues_15 rfl ?_
      refine j_iload C 3 d_Writer_writeValues_16 rfl ?_
      obtain ⟨r1, hr1, h⟩ := bd_ok h
      refine j_PV C [.int v1, .int v4] 1 rfl rfl (c_Layers_value l D cI cR cZ a n L v1 v4 hr1) (cw_Writer_98 C ⟨Nat.le_of_ble_eq_true rfl, Nat.le_of_ble_eq_true rfl⟩) [1, 2, 3, 4, 5, 6, 7] rfl rfl rfl (Nat.le_of_ble_eq_true rfl) d_Writer_writeValues_18 ⟨by show _ ≤ cT; omega, by show _ ≤ sT; omega⟩ ?_
      obtain ⟨r2, hr2, h⟩ := bd_ok h
      obtain ⟨zr2, h, ezr2, fzr2, gzr2⟩ := ad_ok h
      refine j_VV C [.int v1, .int r1] hA 0 rfl rfl (c_Writer_writeValue l D cI cR cZ o0 a n b q L B v1 r1 hr2) (cw_Writer_101 C ⟨Nat.le_of_ble_eq_true rfl, Nat.le_of_ble_eq_true rfl⟩) [0, 1, 2, 3, 4, 5, 6, 7, 8, 9] [] rfl rfl (by decide) (by decide) (by decide) rfl rfl (Nat.le_of_ble_eq_true rfl) d_Writer_writeValues_21 ⟨by show _ ≤ cT; omega, by show _ ≤ sT; omega⟩ (fun qr2 => ?_)
      refine j_ws (ws' := wWr cI cR o0 a n b qr2 L r2.1) rfl ?_
      refine j_iinc C [(4, .int (v4 + 1)), (0, .ref o0), (1, .int v1), (3, .int v3)] 3 (v4 + 1) d_Writer_writeValues_24 rfl rfl (by decide) rfl ?_
      refine j_goto C 3 d_Writer_writeValues_27 (by decide) ?_
      refine j_sub [1, 2, 3, 0] rfl ?_
      exact ih (v4 + 1) r2.1 qr2 (cs + r2.2.1) (ss + r2.2.2) _ h (by omega) (by omega) (fun q9 e9 => by have X := x0 q9 (by rw [ezr2]; exact e9); rw [ezr2] at X; exact j_widen (by omega) (by omega) X)
set_option maxRecDepth 100000 in
set_option maxHeartbeats 4000000 in
theorem c_Writer_writeValues (l : Launch) (D : va_G) (cI cR cZ : ClassId) (fu : Nat) (o0 : Nat) (a : (Nat → Nat)) (n : Nat) (b : Nat) (q : Nat) (L : LyS) (B : ByS) (p1 : Int32) (p2 : Int32) (p3 : Int32) {res : ((ByS) × Nat × Nat)} (h : Writer_writeValues fu n L B p1 p2 p3 = some res) (sz : Nat) : Met l y_Writer_writeValues (Cond.code y_Writer_writeValues b_Writer_writeValues 5 none :: BIG) (rm_Writer_writeValues res.2.1 res.2.2) (PcI [.ref o0, .int p1, .int p2, .int p3] D (tyG cI cR cZ) (wWr cI cR o0 a n b q L B) sz) (QcV D (fun q9 : Nat => wWr cI cR o0 a n b q9 L res.1) (va_A (wWr cI cR o0 a n b q L B) sz)) res.2.1 res.2.2 (va_A (wWr cI cR o0 a n b q L B) sz) := by
  refine met_V (by decide) (Nat.le_of_ble_eq_true rfl) (fun p e s m args below meth c A hA C hr => ?_)
  have C : Cx p s m args meth c D (tyG cI cR cZ) b_Writer_writeValues 5 "MaskLayers$Writer" := C
  have hr : meth.sig.returnType = none := hr
  show J p l e (rm_Writer_writeValues res.2.1 res.2.2) s m args below meth c D A (va_D A) 5 (MQ below (QcV D (fun q9 : Nat => wWr cI cR o0 a n b q9 L res.1) A) args s res.2.1 res.2.2 A) 0 0 (wWr cI cR o0 a n b q L B) [(0, .ref o0), (1, .int p1), (2, .int p2), (3, .int p3)] [] 0
  unfold Writer_writeValues at h
  refine j_iload_n C 2 d_Writer_writeValues_0 rfl ?_
  refine j_istore C [(4, .int p2), (0, .ref o0), (1, .int p1), (2, .int p2), (3, .int p3)] d_Writer_writeValues_1 (by decide) rfl ?_
  obtain ⟨r4, hr4, h⟩ := bd_ok h
  obtain ⟨zr4, h, ezr4, fzr4, gzr4⟩ := ad_ok h
  refine j_sub [1, 2, 4, 0] rfl ?_
  refine t_Writer_writeValues_l3 C hA fu p2 B q 0 0 _ hr4 (by omega) (by omega) (fun qr4 e5 => ?_)
  · obtain rfl := Option.some.inj h
    rw [ezr4]
    refine j_widen (c2 := res.2.1) (s2 := res.2.2) (by omega) (by omega) ?_
    exact j_vret C hr d_Writer_writeValues_30 qr4 rfl
def Writer_writeRuns_l6 (n : Nat) (L : LyS) (v1 : Int32) (v3 : Int32) : Nat → Int32 → Int32 → ByS → Option ((Nat × ByS) × Nat × Nat)
  | 0, _, _, _ => none
  | k + 1, v4, v5, B =>
  (if v3 ≤ v5 then some ((0, B), 0, 0)
  else (Writer_runEnds n L B v1 v5 v3 (v4 + 1)).bind fun r1 =>
  (if r1 = 0 then Writer_writeRuns_l6 n L v1 v3 k (v4 + 1) (v5 + 1) B
  else (ByteRow_append B (v4 + 1)).bind fun r2 =>
  ad r2.2.1 r2.2.2 ((Layers_value n L v1 v5).bind fun r3 =>
  (Writer_writeValue n L r2.1 v1 r3).bind fun r4 =>
  ad r4.2.1 r4.2.2 (Writer_writeRuns_l6 n L v1 v3 k 0 (v5 + 1) r4.1))))
def Writer_writeRuns (fu : Nat) (n : Nat) (L : LyS) (B : ByS) (p1 : Int32) (p2 : Int32) (p3 : Int32) : Option ((ByS) × Nat × Nat) :=
  (Writer_writeRuns_l6 n L p1 p3 fu 0 p2 B).bind fun r7 =>
  ad r7.2.1 r7.2.2 (some ((r7.1.2), 0, 0))
set_option maxRecDepth 100000 in
set_option maxHeartbeats 4000000 in
theorem t_Writer_writeRuns_l6 {p : Program} {l : Launch} {e : Env} {s : State} {m : MethodId} {args : Array Value} {below : List Frame} {meth : Method} {c : Code} {D : va_G} {cI cR cZ : ClassId} {A : Nat → Prop} {cT sT : Nat} {Q : State → Prop} (C : Cx p s m args meth c D (tyG cI cR cZ) b_Writer_writeRuns 6 "MaskLayers$Writer") (hA : ∀ q : Nat, s.heap.size ≤ q → A q) {o0 : Nat} {a : (Nat → Nat)} {n : Nat} {b : Nat} {L : LyS} {v1 : Int32} {v3 : Int32} : ∀ (k : Nat) (v4 : Int32) (v5 : Int32) (B : ByS) (q cs ss : Nat) (out : (Nat × ByS) × Nat × Nat), Writer_writeRuns_l6 n L v1 v3 k v4 v5 B = some out → cs + out.2.1 ≤ cT → ss + out.2.2 ≤ sT → (∀ q9 : Nat, out.1.1 = 0 → J p l e (rm_Writer_writeRuns cT sT) s m args below meth c D A (va_D A) 6 Q (cs + out.2.1) (ss + out.2.2) (wWr cI cR o0 a n b q9 L out.1.2) [] [] 61) → J p l e (rm_Writer_writeRuns cT sT) s m args below meth c D A (va_D A) 6 Q cs ss (wWr cI cR o0 a n b q L B) [(0, .ref o0), (1, .int v1), (3, .int v3), (4, .int v4), (5, .int v5)] [] 6 := by
  intro k
  induction k with
  | zero => intro v4 v5 B q cs ss out h; cases (show none = some out from h)
  | succ k ih =>
    intro v4 v5 B q cs ss out h hcs hss x0
    rw [Writer_writeRuns_l6] at h
    refine j_iload C 4 d_Writer_writeRuns_6 rfl ?_
    refine j_iload_n C 2 d_Writer_writeRuns_8 rfl ?_
    refine j_icmp_ge C 61 d_Writer_writeRuns_9 (by decide) (fun c6 => ?_) (fun c6 => ?_)
    · replace h := (if_pos c6).symm.trans h
      obtain rfl := Option.some.inj h
      refine j_sub [] rfl ?_
      have X := x0 q (by rfl)
      exact j_widen (by omega) (by omega) X
    · replace h := (if_neg c6).symm.trans h
      refine j_iinc C [(4, .int (v4 + 1)), (0, .ref o0), (1, .int v1), (3, .int v3), (5, .int v5)] 3 (v4 + 1) d_Writer_writeRuns_12 rfl rfl (by decide) rfl ?_
      refine j_aload_n C 1 d_Writer_writeRuns_15 rfl ?_
      refine j_iload_n C 2 d_Writer_writeRuns_16 rfl ?_
      refine j_iload C 4 d_Writer_writeRuns_17 rfl ?_
      refine j_iload_n C 3 d_Writer_writeRuns_19 rfl ?_
      refine j_iload C 0 d_Writer_writeRuns_20 rfl ?_
      obtain ⟨r1, hr1, h⟩ := bd_ok h
      refine j_PV C [.int v1, .int v5, .int v3, .int (v4 + 1)] 0 rfl rfl (c_Writer_runEnds l D cI cR cZ o0 a n b q L B v1 v5 v3 (v4 + 1) hr1) (cw_Writer_94 C ⟨Nat.le_of_ble_eq_true rfl, Nat.le_of_ble_eq_true rfl⟩) [0, 1, 2, 3, 4, 5, 6, 7, 8, 9] rfl rfl rfl (Nat.le_of_ble_eq_true rfl) d_Writer_writeRuns_22 ⟨by show _ ≤ cT; omega, by show _ ≤ sT; omega⟩ ?_
      refine j_if_eq C 55 d_Writer_writeRuns_25 (by decide) (fun c5 => ?_) (fun c5 => ?_)
      · replace h := (if_pos c5).symm.trans h
        refine j_iinc C [(5, .int (v5 + 1)), (4, .int (v4 + 1)), (0, .ref o0), (1, .int v1), (3, .int v3)] 4 (v5 + 1) d_Writer_writeRuns_55 rfl rfl (by decide) rfl ?_
        refine j_goto C 6 d_Writer_writeRuns_58 (by decide) ?_
        refine j_sub [2, 3, 4, 1, 0] rfl ?_
        exact ih (v4 + 1) (v5 + 1) B q cs ss _ h (by omega) (by omega) (fun q9 e9 => by have X := x0 q9 (by exact e9); exact j_widen (by omega) (by omega) X)
      · replace h := (if_neg c5).symm.trans h
        refine j_aload_n C 1 d_Writer_writeRuns_28 rfl ?_
        refine gf_Writer_15 C 0 (v := .ref b) rfl rfl d_Writer_writeRuns_29 ?_
        refine j_iload C 0 d_Writer_writeRuns_32 rfl ?_
        obtain ⟨r2, hr2, h⟩ := bd_ok h
        obtain ⟨zr2, h, ezr2, fzr2, gzr2⟩ := ad_ok h
        refine j_VV C [.int (v4 + 1)] hA 8 rfl rfl (c_ByteRow_append l D cI cR cZ b q B (v4 + 1) hr2) (cw_Writer_41 C ⟨Nat.le_of_ble_eq_true rfl, Nat.le_of_ble_eq_true rfl⟩) [8, 9] [0, 1, 2, 3, 4, 5, 6, 7] rfl rfl (by decide) (by decide) (by decide) rfl rfl (Nat.le_of_ble_eq_true rfl) d_Writer_writeRuns_34 ⟨by show _ ≤ cT; omega, by show _ ≤ sT; omega⟩ (fun qr2 => ?_)
        refine j_ws (ws' := wWr cI cR o0 a n b qr2 L r2.1) rfl ?_
        refine j_aload_n C 1 d_Writer_writeRuns_37 rfl ?_
        refine j_iload_n C 2 d_Writer_writeRuns_38 rfl ?_
        refine j_aload_n C 1 d_Writer_writeRuns_39 rfl ?_
        refine gf_Writer_9 C 0 (v := .ref (a 0)) rfl rfl d_Writer_writeRuns_40 ?_
        refine j_iload_n C 2 d_Writer_writeRuns_43 rfl ?_
        refine j_iload C 4 d_Writer_writeRuns_44 rfl ?_
        obtain ⟨r3, hr3, h⟩ := bd_ok h
        refine j_PV C [.int v1, .int v5] 1 rfl rfl (c_Layers_value l D cI cR cZ a n L v1 v5 hr3) (cw_Writer_98 C ⟨Nat.le_of_ble_eq_true rfl, Nat.le_of_ble_eq_true rfl⟩) [1, 2, 3, 4, 5, 6, 7] rfl rfl rfl (Nat.le_of_ble_eq_true rfl) d_Writer_writeRuns_46 ⟨by show _ ≤ cT; omega, by show _ ≤ sT; omega⟩ ?_
        obtain ⟨r4, hr4, h⟩ := bd_ok h
        obtain ⟨zr4, h, ezr4, fzr4, gzr4⟩ := ad_ok h
        refine j_VV C [.int v1, .int r3] hA 0 rfl rfl (c_Writer_writeValue l D cI cR cZ o0 a n b qr2 L r2.1 v1 r3 hr4) (cw_Writer_101 C ⟨Nat.le_of_ble_eq_true rfl, Nat.le_of_ble_eq_true rfl⟩) [0, 1, 2, 3, 4, 5, 6, 7, 8, 9] [] rfl rfl (by decide) (by decide) (by decide) rfl rfl (Nat.le_of_ble_eq_true rfl) d_Writer_writeRuns_49 ⟨by show _ ≤ cT; omega, by show _ ≤ sT; omega⟩ (fun qr4 => ?_)
        refine j_ws (ws' := wWr cI cR o0 a n b qr4 L r4.1) rfl ?_
        refine j_iconst C (v := 0) d_Writer_writeRuns_52 (by decide) ?_
        refine j_istore C [(4, .int 0), (0, .ref o0), (1, .int v1), (3, .int v3), (5, .int v5)] d_Writer_writeRuns_53 (by decide) rfl ?_
        refine j_iinc C [(5, .int (v5 + 1)), (4, .int 0), (0, .ref o0), (1, .int v1), (3, .int v3)] 4 (v5 + 1) d_Writer_writeRuns_55 rfl rfl (by decide) rfl ?_
        refine j_goto C 6 d_Writer_writeRuns_58 (by decide) ?_
        refine j_sub [2, 3, 4, 1, 0] rfl ?_
        exact ih 0 (v5 + 1) r4.1 qr4 ((cs + r2.2.1) + r4.2.1) ((ss + r2.2.2) + r4.2.2) _ h (by omega) (by omega) (fun q9 e9 => by have X := x0 q9 (by rw [ezr2, ezr4]; exact e9); rw [ezr2, ezr4] at X; exact j_widen (by omega) (by omega) X)
set_option maxRecDepth 100000 in
set_option maxHeartbeats 4000000 in
theorem c_Writer_writeRuns (l : Launch) (D : va_G) (cI cR cZ : ClassId) (fu : Nat) (o0 : Nat) (a : (Nat → Nat)) (n : Nat) (b : Nat) (q : Nat) (L : LyS) (B : ByS) (p1 : Int32) (p2 : Int32) (p3 : Int32) {res : ((ByS) × Nat × Nat)} (h : Writer_writeRuns fu n L B p1 p2 p3 = some res) (sz : Nat) : Met l y_Writer_writeRuns (Cond.code y_Writer_writeRuns b_Writer_writeRuns 6 none :: BIG) (rm_Writer_writeRuns res.2.1 res.2.2) (PcI [.ref o0, .int p1, .int p2, .int p3] D (tyG cI cR cZ) (wWr cI cR o0 a n b q L B) sz) (QcV D (fun q9 : Nat => wWr cI cR o0 a n b q9 L res.1) (va_A (wWr cI cR o0 a n b q L B) sz)) res.2.1 res.2.2 (va_A (wWr cI cR o0 a n b q L B) sz) := by
  refine met_V (by decide) (Nat.le_of_ble_eq_true rfl) (fun p e s m args below meth c A hA C hr => ?_)
  have C : Cx p s m args meth c D (tyG cI cR cZ) b_Writer_writeRuns 6 "MaskLayers$Writer" := C
  have hr : meth.sig.returnType = none := hr
  show J p l e (rm_Writer_writeRuns res.2.1 res.2.2) s m args below meth c D A (va_D A) 6 (MQ below (QcV D (fun q9 : Nat => wWr cI cR o0 a n b q9 L res.1) A) args s res.2.1 res.2.2 A) 0 0 (wWr cI cR o0 a n b q L B) [(0, .ref o0), (1, .int p1), (2, .int p2), (3, .int p3)] [] 0
  unfold Writer_writeRuns at h
  refine j_iconst C (v := 0) d_Writer_writeRuns_0 (by decide) ?_
  refine j_istore C [(4, .int 0), (0, .ref o0), (1, .int p1), (2, .int p2), (3, .int p3)] d_Writer_writeRuns_1 (by decide) rfl ?_
  refine j_iload_n C 3 d_Writer_writeRuns_3 rfl ?_
  refine j_istore C [(5, .int p2), (4, .int 0), (0, .ref o0), (1, .int p1), (2, .int p2), (3, .int p3)] d_Writer_writeRuns_4 (by decide) rfl ?_
  obtain ⟨r7, hr7, h⟩ := bd_ok h
  obtain ⟨zr7, h, ezr7, fzr7, gzr7⟩ := ad_ok h
  refine j_sub [2, 3, 5, 1, 0] rfl ?_
  refine t_Writer_writeRuns_l6 C hA fu 0 p2 B q 0 0 _ hr7 (by omega) (by omega) (fun qr7 e8 => ?_)
  · obtain rfl := Option.some.inj h
    rw [ezr7]
    refine j_widen (c2 := res.2.1) (s2 := res.2.2) (by omega) (by omega) ?_
    exact j_vret C hr d_Writer_writeRuns_61 qr7 rfl
def Writer_writeBits_l13 (n : Nat) (L : LyS) (B : ByS) (v2 : Int32) (v3 : Int32) : Nat → Int32 → Int32 → Option (Nat × Int32)
  | 0, _, _ => none
  | k + 1, v4, v5 =>
  (if (v3 + 8) ≤ v5 then some (0, v4)
  else (if v2 ≤ v5 then Writer_writeBits_l13 n L B v2 v3 k ((v4 <<< ((1 : Int32) &&& 31)) ||| 0) (v5 + 1)
  else (Layers_value n L 1 v5).bind fun r1 =>
  Writer_writeBits_l13 n L B v2 v3 k ((v4 <<< ((1 : Int32) &&& 31)) ||| r1) (v5 + 1)))
def Writer_writeBits_l2 (fu : Nat) (n : Nat) (L : LyS) (v2 : Int32) : Nat → Int32 → ByS → Option ((Nat × ByS) × Nat × Nat)
  | 0, _, _ => none
  | k + 1, v3, B =>
  (if v2 ≤ v3 then some ((0, B), 0, 0)
  else (Writer_writeBits_l13 n L B v2 v3 fu 0 v3).bind fun r4 =>
  (ByteRow_append B r4.2).bind fun r5 =>
  ad r5.2.1 r5.2.2 (Writer_writeBits_l2 fu n L v2 k (v3 + 8) r5.1))
def Writer_writeBits (fu : Nat) (n : Nat) (L : LyS) (B : ByS) (p1 : Int32) (p2 : Int32) : Option ((ByS) × Nat × Nat) :=
  (Writer_writeBits_l2 fu n L p2 fu p1 B).bind fun r8 =>
  ad r8.2.1 r8.2.2 (some ((r8.1.2), 0, 0))
set_option maxRecDepth 100000 in
set_option maxHeartbeats 4000000 in
theorem t_Writer_writeBits_l13 {p : Program} {l : Launch} {e : Env} {s : State} {m : MethodId} {args : Array Value} {below : List Frame} {meth : Method} {c : Code} {D : va_G} {cI cR cZ : ClassId} {A : Nat → Prop} {cT sT cs ss : Nat} {Q : State → Prop} (C : Cx p s m args meth c D (tyG cI cR cZ) b_Writer_writeBits 6 "MaskLayers$Writer") (hA : ∀ q : Nat, s.heap.size ≤ q → A q) {o0 : Nat} {a : (Nat → Nat)} {n : Nat} {b : Nat} {q : Nat} {L : LyS} {B : ByS} {v2 : Int32} {v3 : Int32} {out : Nat × Int32} : ∀ (k : Nat) (v4 : Int32) (v5 : Int32), Writer_writeBits_l13 n L B v2 v3 k v4 v5 = some out → cs ≤ cT → ss ≤ sT → (out.1 = 0 → J p l e (rm_Writer_writeBits cT sT) s m args below meth c D A (va_D A) 6 Q cs ss (wWr cI cR o0 a n b q L B) [(0, .ref o0), (2, .int v2), (3, .int v3), (4, .int out.2)] [] 55) → J p l e (rm_Writer_writeBits cT sT) s m args below meth c D A (va_D A) 6 Q cs ss (wWr cI cR o0 a n b q L B) [(0, .ref o0), (2, .int v2), (3, .int v3), (4, .int v4), (5, .int v5)] [] 13 := by
  intro k
  induction k with
  | zero => intro v4 v5 h; cases (show none = some out from h)
  | succ k ih =>
    intro v4 v5 h hcs hss x0
    rw [Writer_writeBits_l13] at h
    refine j_iload C 4 d_Writer_writeBits_13 rfl ?_
    refine j_iload_n C 2 d_Writer_writeBits_15 rfl ?_
    refine j_bipush C (v := 8) d_Writer_writeBits_16 (by decide) ?_
    refine j_iadd C d_Writer_writeBits_18 ?_
    refine j_icmp_ge C 55 d_Writer_writeBits_19 (by decide) (fun c3 => ?_) (fun c3 => ?_)
    · replace h := (if_pos c3).symm.trans h
      obtain rfl := Option.some.inj h
      refine j_sub [0, 1, 2, 3] rfl ?_
      exact x0 rfl
    · replace h := (if_neg c3).symm.trans h
      refine j_iload C 3 d_Writer_writeBits_22 rfl ?_
      refine j_iconst C (v := 1) d_Writer_writeBits_24 (by decide) ?_
      refine j_ishl C d_Writer_writeBits_25 ?_
      refine j_iload C 4 d_Writer_writeBits_26 rfl ?_
      refine j_iload_n C 1 d_Writer_writeBits_28 rfl ?_
      refine j_icmp_ge C 45 d_Writer_writeBits_29 (by decide) (fun c2 => ?_) (fun c2 => ?_)
      · replace h := (if_pos c2).symm.trans h
        refine j_iconst C (v := 0) d_Writer_writeBits_45 (by decide) ?_
        refine j_ior C d_Writer_writeBits_46 ?_
        refine j_istore C [(4, .int ((v4 <<< ((1 : Int32) &&& 31)) ||| 0)), (0, .ref o0), (2, .int v2), (3, .int v3), (5, .int v5)] d_Writer_writeBits_47 (by decide) rfl ?_
        refine j_iinc C [(5, .int (v5 + 1)), (4, .int ((v4 <<< ((1 : Int32) &&& 31)) ||| 0)), (0, .ref o0), (2, .int v2), (3, .int v3)] 4 (v5 + 1) d_Writer_writeBits_49 rfl rfl (by decide) rfl ?_
        refine j_goto C 13 d_Writer_writeBits_52 (by decide) ?_
        refine j_sub [2, 3, 4, 1, 0] rfl ?_
        exact ih ((v4 <<< ((1 : Int32) &&& 31)) ||| 0) (v5 + 1) h hcs hss x0
      · replace h := (if_neg c2).symm.trans h
        refine j_aload_n C 0 d_Writer_writeBits_32 rfl ?_
        refine gf_Writer_9 C 0 (v := .ref (a 0)) rfl rfl d_Writer_writeBits_33 ?_
        refine j_iconst C (v := 1) d_Writer_writeBits_36 (by decide) ?_
        refine j_iload C 4 d_Writer_writeBits_37 rfl ?_
        obtain ⟨r1, hr1, h⟩ := bd_ok h
        refine j_PV C [.int 1, .int v5] 1 rfl rfl (c_Layers_value l D cI cR cZ a n L 1 v5 hr1) (cw_Writer_98 C ⟨Nat.le_of_ble_eq_true rfl, Nat.le_of_ble_eq_true rfl⟩) [1, 2, 3, 4, 5, 6, 7] rfl rfl rfl (Nat.le_of_ble_eq_true rfl) d_Writer_writeBits_39 ⟨by show _ ≤ cT; omega, by show _ ≤ sT; omega⟩ ?_
        refine j_goto C 46 d_Writer_writeBits_42 (by decide) ?_
        refine j_ior C d_Writer_writeBits_46 ?_
        refine j_istore C [(4, .int ((v4 <<< ((1 : Int32) &&& 31)) ||| r1)), (0, .ref o0), (2, .int v2), (3, .int v3), (5, .int v5)] d_Writer_writeBits_47 (by decide) rfl ?_
        refine j_iinc C [(5, .int (v5 + 1)), (4, .int ((v4 <<< ((1 : Int32) &&& 31)) ||| r1)), (0, .ref o0), (2, .int v2), (3, .int v3)] 4 (v5 + 1) d_Writer_writeBits_49 rfl rfl (by decide) rfl ?_
        refine j_goto C 13 d_Writer_writeBits_52 (by decide) ?_
        refine j_sub [2, 3, 4, 1, 0] rfl ?_
        exact ih ((v4 <<< ((1 : Int32) &&& 31)) ||| r1) (v5 + 1) h hcs hss x0
set_option maxRecDepth 100000 in
set_option maxHeartbeats 4000000 in
theorem t_Writer_writeBits_l2 {p : Program} {l : Launch} {e : Env} {s : State} {m : MethodId} {args : Array Value} {below : List Frame} {meth : Method} {c : Code} {D : va_G} {cI cR cZ : ClassId} {A : Nat → Prop} {cT sT : Nat} {Q : State → Prop} (C : Cx p s m args meth c D (tyG cI cR cZ) b_Writer_writeBits 6 "MaskLayers$Writer") (hA : ∀ q : Nat, s.heap.size ≤ q → A q) {o0 : Nat} {a : (Nat → Nat)} {n : Nat} {b : Nat} {fu : Nat} {L : LyS} {v2 : Int32} : ∀ (k : Nat) (v3 : Int32) (B : ByS) (q cs ss : Nat) (out : (Nat × ByS) × Nat × Nat), Writer_writeBits_l2 fu n L v2 k v3 B = some out → cs + out.2.1 ≤ cT → ss + out.2.2 ≤ sT → (∀ q9 : Nat, out.1.1 = 0 → J p l e (rm_Writer_writeBits cT sT) s m args below meth c D A (va_D A) 6 Q (cs + out.2.1) (ss + out.2.2) (wWr cI cR o0 a n b q9 L out.1.2) [] [] 70) → J p l e (rm_Writer_writeBits cT sT) s m args below meth c D A (va_D A) 6 Q cs ss (wWr cI cR o0 a n b q L B) [(0, .ref o0), (2, .int v2), (3, .int v3)] [] 2 := by
  intro k
  induction k with
  | zero => intro v3 B q cs ss out h; cases (show none = some out from h)
  | succ k ih =>
    intro v3 B q cs ss out h hcs hss x0
    rw [Writer_writeBits_l2] at h
    refine j_iload_n C 2 d_Writer_writeBits_2 rfl ?_
    refine j_iload_n C 1 d_Writer_writeBits_3 rfl ?_
    refine j_icmp_ge C 70 d_Writer_writeBits_4 (by decide) (fun c7 => ?_) (fun c7 => ?_)
    · replace h := (if_pos c7).symm.trans h
      obtain rfl := Option.some.inj h
      refine j_sub [] rfl ?_
      have X := x0 q (by rfl)
      exact j_widen (by omega) (by omega) X
    · replace h := (if_neg c7).symm.trans h
      refine j_iconst C (v := 0) d_Writer_writeBits_7 (by decide) ?_
      refine j_istore C [(4, .int 0), (0, .ref o0), (2, .int v2), (3, .int v3)] d_Writer_writeBits_8 (by decide) rfl ?_
      refine j_iload_n C 3 d_Writer_writeBits_10 rfl ?_
      refine j_istore C [(5, .int v3), (4, .int 0), (0, .ref o0), (2, .int v2), (3, .int v3)] d_Writer_writeBits_11 (by decide) rfl ?_
      obtain ⟨r4, hr4, h⟩ := bd_ok h
      refine j_sub [2, 3, 4, 1, 0] rfl ?_
      refine t_Writer_writeBits_l13 C hA fu 0 v3 hr4 (by omega) (by omega) (fun e6 => ?_)
      · refine j_aload_n C 0 d_Writer_writeBits_55 rfl ?_
        refine gf_Writer_15 C 0 (v := .ref b) rfl rfl d_Writer_writeBits_56 ?_
        refine j_iload C 3 d_Writer_writeBits_59 rfl ?_
        obtain ⟨r5, hr5, h⟩ := bd_ok h
        obtain ⟨zr5, h, ezr5, fzr5, gzr5⟩ := ad_ok h
        refine j_VV C [.int r4.2] hA 8 rfl rfl (c_ByteRow_append l D cI cR cZ b q B r4.2 hr5) (cw_Writer_41 C ⟨Nat.le_of_ble_eq_true rfl, Nat.le_of_ble_eq_true rfl⟩) [8, 9] [0, 1, 2, 3, 4, 5, 6, 7] rfl rfl (by decide) (by decide) (by decide) rfl rfl (Nat.le_of_ble_eq_true rfl) d_Writer_writeBits_61 ⟨by show _ ≤ cT; omega, by show _ ≤ sT; omega⟩ (fun qr5 => ?_)
        refine j_ws (ws' := wWr cI cR o0 a n b qr5 L r5.1) rfl ?_
        refine j_iinc C [(3, .int (v3 + 8)), (0, .ref o0), (2, .int v2), (4, .int r4.2)] 2 (v3 + 8) d_Writer_writeBits_64 rfl rfl (by decide) rfl ?_
        refine j_goto C 2 d_Writer_writeBits_67 (by decide) ?_
        refine j_sub [1, 2, 0] rfl ?_
        exact ih (v3 + 8) r5.1 qr5 (cs + r5.2.1) (ss + r5.2.2) _ h (by omega) (by omega) (fun q9 e9 => by have X := x0 q9 (by rw [ezr5]; exact e9); rw [ezr5] at X; exact j_widen (by omega) (by omega) X)
set_option maxRecDepth 100000 in
set_option maxHeartbeats 4000000 in
theorem c_Writer_writeBits (l : Launch) (D : va_G) (cI cR cZ : ClassId) (fu : Nat) (o0 : Nat) (a : (Nat → Nat)) (n : Nat) (b : Nat) (q : Nat) (L : LyS) (B : ByS) (p1 : Int32) (p2 : Int32) {res : ((ByS) × Nat × Nat)} (h : Writer_writeBits fu n L B p1 p2 = some res) (sz : Nat) : Met l y_Writer_writeBits (Cond.code y_Writer_writeBits b_Writer_writeBits 6 none :: BIG) (rm_Writer_writeBits res.2.1 res.2.2) (PcI [.ref o0, .int p1, .int p2] D (tyG cI cR cZ) (wWr cI cR o0 a n b q L B) sz) (QcV D (fun q9 : Nat => wWr cI cR o0 a n b q9 L res.1) (va_A (wWr cI cR o0 a n b q L B) sz)) res.2.1 res.2.2 (va_A (wWr cI cR o0 a n b q L B) sz) := by
  refine met_V (by decide) (Nat.le_of_ble_eq_true rfl) (fun p e s m args below meth c A hA C hr => ?_)
  have C : Cx p s m args meth c D (tyG cI cR cZ) b_Writer_writeBits 6 "MaskLayers$Writer" := C
  have hr : meth.sig.returnType = none := hr
  show J p l e (rm_Writer_writeBits res.2.1 res.2.2) s m args below meth c D A (va_D A) 6 (MQ below (QcV D (fun q9 : Nat => wWr cI cR o0 a n b q9 L res.1) A) args s res.2.1 res.2.2 A) 0 0 (wWr cI cR o0 a n b q L B) [(0, .ref o0), (1, .int p1), (2, .int p2)] [] 0
  unfold Writer_writeBits at h
  refine j_iload_n C 1 d_Writer_writeBits_0 rfl ?_
  refine j_istore_n C [(3, .int p1), (0, .ref o0), (1, .int p1), (2, .int p2)] d_Writer_writeBits_1 (by decide) rfl ?_
  obtain ⟨r8, hr8, h⟩ := bd_ok h
  obtain ⟨zr8, h, ezr8, fzr8, gzr8⟩ := ad_ok h
  refine j_sub [1, 3, 0] rfl ?_
  refine t_Writer_writeBits_l2 C hA fu p1 B q 0 0 _ hr8 (by omega) (by omega) (fun qr8 e9 => ?_)
  · obtain rfl := Option.some.inj h
    rw [ezr8]
    refine j_widen (c2 := res.2.1) (s2 := res.2.2) (by omega) (by omega) ?_
    exact j_vret C hr d_Writer_writeBits_70 qr8 rfl
