def Writer_runEnds (n : Nat) (L : LyS) (B : ByS) (p1 : Int32) (p2 : Int32) (p3 : Int32) (p4 : Int32) : Option Int32 :=
  (if p3 ≤ (p2 + 1) then zb 1 (some 1)
  else (if 255 ≤ p4 then zb 1 (some 1)
  else (Layers_value n L p1 (p2 + 1)).bind fun r3 =>
  (Layers_value n L p1 p2).bind fun r4 =>
  (if r3 = r4 then zb 0 (some 0)
  else zb 1 (some 1))))
set_option maxRecDepth 100000 in
set_option maxHeartbeats 4000000 in
theorem c_Writer_runEnds (l : Launch) (D : va_G) (cI cR cZ : ClassId) (o0 : Nat) (a : (Nat → Nat)) (n : Nat) (b : Nat) (q : Nat) (L : LyS) (B : ByS) (p1 : Int32) (p2 : Int32) (p3 : Int32) (p4 : Int32) {res : Int32} (h : Writer_runEnds n L B p1 p2 p3 p4 = some res) : Met l y_Writer_runEnds (Cond.code y_Writer_runEnds b_Writer_runEnds 5 (some .boolean) :: BIG) rm_Writer_runEnds (PcP [.ref o0, .int p1, .int p2, .int p3, .int p4] D (tyG cI cR cZ) (wWr cI cR o0 a n b q L B)) (QcP res) 0 0 no := by
  refine met_P (by decide) (Nat.le_of_ble_eq_true rfl) (fun p e s m args below meth c C hr => ?_)
  have C : Cx p s m args meth c D (tyG cI cR cZ) b_Writer_runEnds 5 "MaskLayers$Writer" := C
  have hr : meth.sig.returnType = some .boolean := hr
  show J p l e rm_Writer_runEnds s m args below meth c D no (fun _ => True) 5 (MQ below (QcP res) args s 0 0 no) 0 0 (wWr cI cR o0 a n b q L B) [(0, .ref o0), (1, .int p1), (2, .int p2), (3, .int p3), (4, .int p4)] [] 0
  unfold Writer_runEnds at h
  refine j_iload_n C 2 d_Writer_runEnds_0 rfl ?_
  refine j_iconst C (v := 1) d_Writer_runEnds_1 (by decide) ?_
  refine j_iadd C d_Writer_runEnds_2 ?_
  refine j_iload_n C 3 d_Writer_runEnds_3 rfl ?_
  refine j_icmp_ge C 38 d_Writer_runEnds_4 (by decide) (fun c9 => ?_) (fun c9 => ?_)
  · replace h := (if_pos c9).symm.trans h
    refine j_iconst C (v := 1) d_Writer_runEnds_38 (by decide) ?_
    refine j_goto C 43 d_Writer_runEnds_39 (by decide) ?_
    obtain ⟨b1, h⟩ := zb_ok h
    obtain rfl := Option.some.inj h
    exact j_pretZ C hr d_Writer_runEnds_43 b1
  · replace h := (if_neg c9).symm.trans h
    refine j_iload C 4 d_Writer_runEnds_7 rfl ?_
    refine j_sipush C (v := 255) d_Writer_runEnds_9 (by decide) ?_
    refine j_icmp_ge C 38 d_Writer_runEnds_12 (by decide) (fun c8 => ?_) (fun c8 => ?_)
    · replace h := (if_pos c8).symm.trans h
      refine j_iconst C (v := 1) d_Writer_runEnds_38 (by decide) ?_
      refine j_goto C 43 d_Writer_runEnds_39 (by decide) ?_
      obtain ⟨b2, h⟩ := zb_ok h
      obtain rfl := Option.some.inj h
      exact j_pretZ C hr d_Writer_runEnds_43 b2
    · replace h := (if_neg c8).symm.trans h
      refine j_aload_n C 0 d_Writer_runEnds_15 rfl ?_
      refine gf_Writer_9 C 0 (v := .ref (a 0)) rfl rfl d_Writer_runEnds_16 ?_
      refine j_iload_n C 1 d_Writer_runEnds_19 rfl ?_
      refine j_iload_n C 2 d_Writer_runEnds_20 rfl ?_
      refine j_iconst C (v := 1) d_Writer_runEnds_21 (by decide) ?_
      refine j_iadd C d_Writer_runEnds_22 ?_
      obtain ⟨r3, hr3, h⟩ := bd_ok h
      refine j_PV C [.int p1, .int (p2 + 1)] 1 rfl rfl (c_Layers_value l D cI cR cZ a n L p1 (p2 + 1) hr3) (cw_Writer_98 C ⟨Nat.le_of_ble_eq_true rfl, Nat.le_of_ble_eq_true rfl⟩) [1, 2, 3, 4, 5, 6, 7] rfl rfl rfl (Nat.le_of_ble_eq_true rfl) d_Writer_runEnds_23 (by decide) ?_
      refine j_aload_n C 0 d_Writer_runEnds_26 rfl ?_
      refine gf_Writer_9 C 0 (v := .ref (a 0)) rfl rfl d_Writer_runEnds_27 ?_
      refine j_iload_n C 1 d_Writer_runEnds_30 rfl ?_
      refine j_iload_n C 2 d_Writer_runEnds_31 rfl ?_
      obtain ⟨r4, hr4, h⟩ := bd_ok h
      refine j_PV C [.int p1, .int p2] 1 rfl rfl (c_Layers_value l D cI cR cZ a n L p1 p2 hr4) (cw_Writer_98 C ⟨Nat.le_of_ble_eq_true rfl, Nat.le_of_ble_eq_true rfl⟩) [1, 2, 3, 4, 5, 6, 7] rfl rfl rfl (Nat.le_of_ble_eq_true rfl) d_Writer_runEnds_32 (by decide) ?_
      refine j_icmp_eq C 42 d_Writer_runEnds_35 (by decide) (fun c7 => ?_) (fun c7 => ?_)
      · replace h := (if_pos c7).symm.trans h
        refine j_iconst C (v := 0) d_Writer_runEnds_42 (by decide) ?_
        obtain ⟨b5, h⟩ := zb_ok h
        obtain rfl := Option.some.inj h
        exact j_pretZ C hr d_Writer_runEnds_43 b5
      · replace h := (if_neg c7).symm.trans h
        refine j_iconst C (v := 1) d_Writer_runEnds_38 (by decide) ?_
        refine j_goto C 43 d_Writer_runEnds_39 (by decide) ?_
        obtain ⟨b6, h⟩ := zb_ok h
        obtain rfl := Option.some.inj h
        exact j_pretZ C hr d_Writer_runEnds_43 b6
def Writer_countRuns_l9 (n : Nat) (L : LyS) (B : ByS) (v1 : Int32) (v3 : Int32) : Nat → Int32 → Int32 → Int32 → Option (Nat × Int32)
  | 0, _, _, _ => none
  | k + 1, v4, v5, v6 =>
  (if v3 ≤ v6 then some (0, v4)
  else (Writer_runEnds n L B v1 v6 v3 (v5 + 1)).bind fun r1 =>
  (if r1 = 0 then Writer_countRuns_l9 n L B v1 v3 k v4 (v5 + 1) (v6 + 1)
  else Writer_countRuns_l9 n L B v1 v3 k (v4 + 1) 0 (v6 + 1)))
def Writer_countRuns (fu : Nat) (n : Nat) (L : LyS) (B : ByS) (p1 : Int32) (p2 : Int32) (p3 : Int32) : Option Int32 :=
  (Writer_countRuns_l9 n L B p1 p3 fu 0 0 p2).bind fun r4 =>
  some r4.2
set_option maxRecDepth 100000 in
set_option maxHeartbeats 4000000 in
theorem t_Writer_countRuns_l9 {p : Program} {l : Launch} {e : Env} {s : State} {m : MethodId} {args : Array Value} {below : List Frame} {meth : Method} {c : Code} {D : va_G} {cI cR cZ : ClassId} {Q : State → Prop} (C : Cx p s m args meth c D (tyG cI cR cZ) b_Writer_countRuns 7 "MaskLayers$Writer") {o0 : Nat} {a : (Nat → Nat)} {n : Nat} {b : Nat} {q : Nat} {L : LyS} {B : ByS} {v1 : Int32} {v3 : Int32} {out : Nat × Int32} : ∀ (k : Nat) (v4 : Int32) (v5 : Int32) (v6 : Int32), Writer_countRuns_l9 n L B v1 v3 k v4 v5 v6 = some out → (out.1 = 0 → J p l e rm_Writer_countRuns s m args below meth c D no (fun _ => True) 7 Q 0 0 (wWr cI cR o0 a n b q L B) [(4, .int out.2)] [] 43) → J p l e rm_Writer_countRuns s m args below meth c D no (fun _ => True) 7 Q 0 0 (wWr cI cR o0 a n b q L B) [(0, .ref o0), (1, .int v1), (3, .int v3), (4, .int v4), (5, .int v5), (6, .int v6)] [] 9 := by
  intro k
  induction k with
  | zero => intro v4 v5 v6 h; cases (show none = some out from h)
  | succ k ih =>
    intro v4 v5 v6 h x0
    rw [Writer_countRuns_l9] at h
    refine j_iload C 5 d_Writer_countRuns_9 rfl ?_
    refine j_iload_n C 2 d_Writer_countRuns_11 rfl ?_
    refine j_icmp_ge C 43 d_Writer_countRuns_12 (by decide) (fun c3 => ?_) (fun c3 => ?_)
    · replace h := (if_pos c3).symm.trans h
      obtain rfl := Option.some.inj h
      refine j_sub [3] rfl ?_
      exact x0 rfl
    · replace h := (if_neg c3).symm.trans h
      refine j_iinc C [(5, .int (v5 + 1)), (0, .ref o0), (1, .int v1), (3, .int v3), (4, .int v4), (6, .int v6)] 4 (v5 + 1) d_Writer_countRuns_15 rfl rfl (by decide) rfl ?_
      refine j_aload_n C 1 d_Writer_countRuns_18 rfl ?_
      refine j_iload_n C 2 d_Writer_countRuns_19 rfl ?_
      refine j_iload C 5 d_Writer_countRuns_20 rfl ?_
      refine j_iload_n C 3 d_Writer_countRuns_22 rfl ?_
      refine j_iload C 0 d_Writer_countRuns_23 rfl ?_
      obtain ⟨r1, hr1, h⟩ := bd_ok h
      refine j_PV C [.int v1, .int v6, .int v3, .int (v5 + 1)] 0 rfl rfl (c_Writer_runEnds l D cI cR cZ o0 a n b q L B v1 v6 v3 (v5 + 1) hr1) (cw_Writer_94 C ⟨Nat.le_of_ble_eq_true rfl, Nat.le_of_ble_eq_true rfl⟩) [0, 1, 2, 3, 4, 5, 6, 7, 8, 9] rfl rfl rfl (Nat.le_of_ble_eq_true rfl) d_Writer_countRuns_25 (by decide) ?_
      refine j_if_eq C 37 d_Writer_countRuns_28 (by decide) (fun c2 => ?_) (fun c2 => ?_)
      · replace h := (if_pos c2).symm.trans h
        refine j_iinc C [(6, .int (v6 + 1)), (5, .int (v5 + 1)), (0, .ref o0), (1, .int v1), (3, .int v3), (4, .int v4)] 5 (v6 + 1) d_Writer_countRuns_37 rfl rfl (by decide) rfl ?_
        refine j_goto C 9 d_Writer_countRuns_40 (by decide) ?_
        refine j_sub [2, 3, 4, 5, 1, 0] rfl ?_
        exact ih v4 (v5 + 1) (v6 + 1) h x0
      · replace h := (if_neg c2).symm.trans h
        refine j_iinc C [(4, .int (v4 + 1)), (5, .int (v5 + 1)), (0, .ref o0), (1, .int v1), (3, .int v3), (6, .int v6)] 4 (v4 + 1) d_Writer_countRuns_31 rfl rfl (by decide) rfl ?_
        refine j_iconst C (v := 0) d_Writer_countRuns_34 (by decide) ?_
        refine j_istore C [(5, .int 0), (4, .int (v4 + 1)), (0, .ref o0), (1, .int v1), (3, .int v3), (6, .int v6)] d_Writer_countRuns_35 (by decide) rfl ?_
        refine j_iinc C [(6, .int (v6 + 1)), (5, .int 0), (4, .int (v4 + 1)), (0, .ref o0), (1, .int v1), (3, .int v3)] 5 (v6 + 1) d_Writer_countRuns_37 rfl rfl (by decide) rfl ?_
        refine j_goto C 9 d_Writer_countRuns_40 (by decide) ?_
        refine j_sub [3, 4, 5, 2, 1, 0] rfl ?_
        exact ih (v4 + 1) 0 (v6 + 1) h x0
set_option maxRecDepth 100000 in
set_option maxHeartbeats 4000000 in
theorem c_Writer_countRuns (l : Launch) (D : va_G) (cI cR cZ : ClassId) (fu : Nat) (o0 : Nat) (a : (Nat → Nat)) (n : Nat) (b : Nat) (q : Nat) (L : LyS) (B : ByS) (p1 : Int32) (p2 : Int32) (p3 : Int32) {res : Int32} (h : Writer_countRuns fu n L B p1 p2 p3 = some res) : Met l y_Writer_countRuns (Cond.code y_Writer_countRuns b_Writer_countRuns 7 (some .int) :: BIG) rm_Writer_countRuns (PcP [.ref o0, .int p1, .int p2, .int p3] D (tyG cI cR cZ) (wWr cI cR o0 a n b q L B)) (QcP res) 0 0 no := by
  refine met_P (by decide) (Nat.le_of_ble_eq_true rfl) (fun p e s m args below meth c C hr => ?_)
  have C : Cx p s m args meth c D (tyG cI cR cZ) b_Writer_countRuns 7 "MaskLayers$Writer" := C
  have hr : meth.sig.returnType = some .int := hr
  show J p l e rm_Writer_countRuns s m args below meth c D no (fun _ => True) 7 (MQ below (QcP res) args s 0 0 no) 0 0 (wWr cI cR o0 a n b q L B) [(0, .ref o0), (1, .int p1), (2, .int p2), (3, .int p3)] [] 0
  unfold Writer_countRuns at h
  refine j_iconst C (v := 0) d_Writer_countRuns_0 (by decide) ?_
  refine j_istore C [(4, .int 0), (0, .ref o0), (1, .int p1), (2, .int p2), (3, .int p3)] d_Writer_countRuns_1 (by decide) rfl ?_
  refine j_iconst C (v := 0) d_Writer_countRuns_3 (by decide) ?_
  refine j_istore C [(5, .int 0), (4, .int 0), (0, .ref o0), (1, .int p1), (2, .int p2), (3, .int p3)] d_Writer_countRuns_4 (by decide) rfl ?_
  refine j_iload_n C 4 d_Writer_countRuns_6 rfl ?_
  refine j_istore C [(6, .int p2), (5, .int 0), (4, .int 0), (0, .ref o0), (1, .int p1), (2, .int p2), (3, .int p3)] d_Writer_countRuns_7 (by decide) rfl ?_
  obtain ⟨r4, hr4, h⟩ := bd_ok h
  refine j_sub [3, 4, 6, 2, 1, 0] rfl ?_
  refine t_Writer_countRuns_l9 C fu 0 0 p2 hr4 (fun e5 => ?_)
  · refine j_iload C 0 d_Writer_countRuns_43 rfl ?_
    obtain rfl := Option.some.inj h
    exact j_pret C hr d_Writer_countRuns_45
