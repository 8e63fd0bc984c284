def Writer_runEnds (n : Nat) (v : (Nat → Int32)) (p2 : Int32) (p3 : Int32) (p4 : Int32) : Option Int32 :=
  (if p3 ≤ (p2 + 1) then zb 1 (some 1)
  else (if 255 ≤ p4 then zb 1 (some 1)
  else gd (p2 + 1) n (gd p2 n ((if (v ((p2 + 1).toNatClampNeg)) = (v p2.toNatClampNeg) then zb 0 (some 0)
  else zb 1 (some 1))))))
set_option maxRecDepth 100000 in
set_option maxHeartbeats 4000000 in
theorem c_Writer_runEnds (l : Launch) (D : va_G) (cI cR cZ : ClassId) (g : Nat) (n : Nat) (v : (Nat → Int32)) (p2 : Int32) (p3 : Int32) (p4 : Int32) {res : Int32} (h : Writer_runEnds n v p2 p3 p4 = some res) : Met l y_Writer_runEnds (Cond.code y_Writer_runEnds b_Writer_runEnds 4 (some .boolean) :: BIG) rm_Writer_runEnds (PcP [.ref g, .int p2, .int p3, .int p4] D (tyG cI cR cZ) ([(g, .inl (cI, n, .inl v))])) (QcP res) 0 0 no := by
  refine met_P (by decide) (Nat.le_of_ble_eq_true rfl) (fun p e s m args below meth c C hr => ?_)
  have C : Cx p s m args meth c D (tyG cI cR cZ) b_Writer_runEnds 4 "MaskLayers$Writer" := C
  have hr : meth.sig.returnType = some .boolean := hr
  show J p l e rm_Writer_runEnds s m args below meth c D no (fun _ => True) 4 (MQ below (QcP res) args s 0 0 no) 0 0 ([(g, .inl (cI, n, .inl v))]) [(0, .ref g), (1, .int p2), (2, .int p3), (3, .int p4)] [] 0
  unfold Writer_runEnds at h
  refine j_iload_n C 1 d_Writer_runEnds_0 rfl ?_
  refine j_iconst C (v := 1) d_Writer_runEnds_1 (by decide) ?_
  refine j_iadd C d_Writer_runEnds_2 ?_
  refine j_iload_n C 2 d_Writer_runEnds_3 rfl ?_
  refine j_icmp_ge C 25 d_Writer_runEnds_4 (by decide) (fun c9 => ?_) (fun c9 => ?_)
  · replace h := (if_pos c9).symm.trans h
    refine j_iconst C (v := 1) d_Writer_runEnds_25 (by decide) ?_
    refine j_goto C 30 d_Writer_runEnds_26 (by decide) ?_
    obtain ⟨b1, h⟩ := zb_ok h
    obtain rfl := Option.some.inj h
    exact j_pretZ C hr d_Writer_runEnds_30 b1
  · replace h := (if_neg c9).symm.trans h
    refine j_iload_n C 3 d_Writer_runEnds_7 rfl ?_
    refine j_sipush C (v := 255) d_Writer_runEnds_8 (by decide) ?_
    refine j_icmp_ge C 25 d_Writer_runEnds_11 (by decide) (fun c8 => ?_) (fun c8 => ?_)
    · replace h := (if_pos c8).symm.trans h
      refine j_iconst C (v := 1) d_Writer_runEnds_25 (by decide) ?_
      refine j_goto C 30 d_Writer_runEnds_26 (by decide) ?_
      obtain ⟨b2, h⟩ := zb_ok h
      obtain rfl := Option.some.inj h
      exact j_pretZ C hr d_Writer_runEnds_30 b2
    · replace h := (if_neg c8).symm.trans h
      refine j_aload_n C 0 d_Writer_runEnds_14 rfl ?_
      refine j_iload_n C 1 d_Writer_runEnds_15 rfl ?_
      refine j_iconst C (v := 1) d_Writer_runEnds_16 (by decide) ?_
      refine j_iadd C d_Writer_runEnds_17 ?_
      obtain ⟨b3, h⟩ := gd_ok h
      refine j_iald C (0) (t0 := 0) rfl rfl b3 d_Writer_runEnds_18 ?_
      refine j_aload_n C 0 d_Writer_runEnds_19 rfl ?_
      refine j_iload_n C 1 d_Writer_runEnds_20 rfl ?_
      obtain ⟨b4, h⟩ := gd_ok h
      refine j_iald C (0) (t0 := 0) rfl rfl b4 d_Writer_runEnds_21 ?_
      refine j_icmp_eq C 29 d_Writer_runEnds_22 (by decide) (fun c7 => ?_) (fun c7 => ?_)
      · replace h := (if_pos c7).symm.trans h
        refine j_iconst C (v := 0) d_Writer_runEnds_29 (by decide) ?_
        obtain ⟨b5, h⟩ := zb_ok h
        obtain rfl := Option.some.inj h
        exact j_pretZ C hr d_Writer_runEnds_30 b5
      · replace h := (if_neg c7).symm.trans h
        refine j_iconst C (v := 1) d_Writer_runEnds_25 (by decide) ?_
        refine j_goto C 30 d_Writer_runEnds_26 (by decide) ?_
        obtain ⟨b6, h⟩ := zb_ok h
        obtain rfl := Option.some.inj h
        exact j_pretZ C hr d_Writer_runEnds_30 b6
def Writer_countRuns_l8 (n : Nat) (v : (Nat → Int32)) (v2 : Int32) : Nat → Int32 → Int32 → Int32 → Option (Nat × Int32)
  | 0, _, _, _ => none
  | k + 1, v3, v4, v5 =>
  (if v2 ≤ v5 then some (0, v3)
  else (Writer_runEnds n v v5 v2 (v4 + 1)).bind fun r1 =>
  (if r1 = 0 then Writer_countRuns_l8 n v v2 k v3 (v4 + 1) (v5 + 1)
  else Writer_countRuns_l8 n v v2 k (v3 + 1) 0 (v5 + 1)))
def Writer_countRuns (fu : Nat) (n : Nat) (v : (Nat → Int32)) (p2 : Int32) (p3 : Int32) : Option Int32 :=
  (Writer_countRuns_l8 n v p3 fu 0 0 p2).bind fun r4 =>
  some r4.2
set_option maxRecDepth 100000 in
set_option maxHeartbeats 4000000 in
theorem t_Writer_countRuns_l8 {p : Program} {l : Launch} {e : Env} {s : State} {m : MethodId} {args : Array Value} {below : List Frame} {meth : Method} {c : Code} {D : va_G} {cI cR cZ : ClassId} {Q : State → Prop} (C : Cx p s m args meth c D (tyG cI cR cZ) b_Writer_countRuns 6 "MaskLayers$Writer") {g : Nat} {n : Nat} {v : (Nat → Int32)} {v2 : Int32} {out : Nat × Int32} : ∀ (k : Nat) (v3 : Int32) (v4 : Int32) (v5 : Int32), Writer_countRuns_l8 n v v2 k v3 v4 v5 = some out → (out.1 = 0 → J p l e rm_Writer_countRuns s m args below meth c D no (fun _ => True) 6 Q 0 0 ([(g, .inl (cI, n, .inl v))]) [(3, .int out.2)] [] 41) → J p l e rm_Writer_countRuns s m args below meth c D no (fun _ => True) 6 Q 0 0 ([(g, .inl (cI, n, .inl v))]) [(0, .ref g), (2, .int v2), (3, .int v3), (4, .int v4), (5, .int v5)] [] 8 := by
  intro k
  induction k with
  | zero => intro v3 v4 v5 h; cases (show none = some out from h)
  | succ k ih =>
    intro v3 v4 v5 h x0
    rw [Writer_countRuns_l8] at h
    refine j_iload C 4 d_Writer_countRuns_8 rfl ?_
    refine j_iload_n C 1 d_Writer_countRuns_10 rfl ?_
    refine j_icmp_ge C 41 d_Writer_countRuns_11 (by decide) (fun c3 => ?_) (fun c3 => ?_)
    · replace h := (if_pos c3).symm.trans h
      obtain rfl := Option.some.inj h
      refine j_sub [2] rfl ?_
      exact x0 rfl
    · replace h := (if_neg c3).symm.trans h
      refine j_iinc C [(4, .int (v4 + 1)), (0, .ref g), (2, .int v2), (3, .int v3), (5, .int v5)] 3 (v4 + 1) d_Writer_countRuns_14 rfl rfl (by decide) rfl ?_
      refine j_aload_n C 1 d_Writer_countRuns_17 rfl ?_
      refine j_iload C 4 d_Writer_countRuns_18 rfl ?_
      refine j_iload_n C 2 d_Writer_countRuns_20 rfl ?_
      refine j_iload C 0 d_Writer_countRuns_21 rfl ?_
      obtain ⟨r1, hr1, h⟩ := bd_ok h
      refine j_PS C [.ref g, .int v5, .int v2, .int (v4 + 1)] (c_Writer_runEnds l D cI cR cZ g n v v5 v2 (v4 + 1) hr1) (cw_Writer_96 C ⟨Nat.le_of_ble_eq_true rfl, Nat.le_of_ble_eq_true rfl⟩) [0] rfl rfl rfl (Nat.le_of_ble_eq_true rfl) d_Writer_countRuns_23 (by decide) ?_
      refine j_if_eq C 35 d_Writer_countRuns_26 (by decide) (fun c2 => ?_) (fun c2 => ?_)
      · replace h := (if_pos c2).symm.trans h
        refine j_iinc C [(5, .int (v5 + 1)), (4, .int (v4 + 1)), (0, .ref g), (2, .int v2), (3, .int v3)] 4 (v5 + 1) d_Writer_countRuns_35 rfl rfl (by decide) rfl ?_
        refine j_goto C 8 d_Writer_countRuns_38 (by decide) ?_
        refine j_sub [2, 3, 4, 1, 0] rfl ?_
        exact ih v3 (v4 + 1) (v5 + 1) h x0
      · replace h := (if_neg c2).symm.trans h
        refine j_iinc C [(3, .int (v3 + 1)), (4, .int (v4 + 1)), (0, .ref g), (2, .int v2), (5, .int v5)] 3 (v3 + 1) d_Writer_countRuns_29 rfl rfl (by decide) rfl ?_
        refine j_iconst C (v := 0) d_Writer_countRuns_32 (by decide) ?_
        refine j_istore C [(4, .int 0), (3, .int (v3 + 1)), (0, .ref g), (2, .int v2), (5, .int v5)] d_Writer_countRuns_33 (by decide) rfl ?_
        refine j_iinc C [(5, .int (v5 + 1)), (4, .int 0), (3, .int (v3 + 1)), (0, .ref g), (2, .int v2)] 4 (v5 + 1) d_Writer_countRuns_35 rfl rfl (by decide) rfl ?_
        refine j_goto C 8 d_Writer_countRuns_38 (by decide) ?_
        refine j_sub [3, 4, 2, 1, 0] rfl ?_
        exact ih (v3 + 1) 0 (v5 + 1) h x0
set_option maxRecDepth 100000 in
set_option maxHeartbeats 4000000 in
theorem c_Writer_countRuns (l : Launch) (D : va_G) (cI cR cZ : ClassId) (fu : Nat) (g : Nat) (n : Nat) (v : (Nat → Int32)) (p2 : Int32) (p3 : Int32) {res : Int32} (h : Writer_countRuns fu n v p2 p3 = some res) : Met l y_Writer_countRuns (Cond.code y_Writer_countRuns b_Writer_countRuns 6 (some .int) :: BIG) rm_Writer_countRuns (PcP [.ref g, .int p2, .int p3] D (tyG cI cR cZ) ([(g, .inl (cI, n, .inl v))])) (QcP res) 0 0 no := by
  refine met_P (by decide) (Nat.le_of_ble_eq_true rfl) (fun p e s m args below meth c C hr => ?_)
  have C : Cx p s m args meth c D (tyG cI cR cZ) b_Writer_countRuns 6 "MaskLayers$Writer" := C
  have hr : meth.sig.returnType = some .int := hr
  show J p l e rm_Writer_countRuns s m args below meth c D no (fun _ => True) 6 (MQ below (QcP res) args s 0 0 no) 0 0 ([(g, .inl (cI, n, .inl v))]) [(0, .ref g), (1, .int p2), (2, .int p3)] [] 0
  unfold Writer_countRuns at h
  refine j_iconst C (v := 0) d_Writer_countRuns_0 (by decide) ?_
  refine j_istore_n C [(3, .int 0), (0, .ref g), (1, .int p2), (2, .int p3)] d_Writer_countRuns_1 (by decide) rfl ?_
  refine j_iconst C (v := 0) d_Writer_countRuns_2 (by decide) ?_
  refine j_istore C [(4, .int 0), (3, .int 0), (0, .ref g), (1, .int p2), (2, .int p3)] d_Writer_countRuns_3 (by decide) rfl ?_
  refine j_iload_n C 3 d_Writer_countRuns_5 rfl ?_
  refine j_istore C [(5, .int p2), (4, .int 0), (3, .int 0), (0, .ref g), (1, .int p2), (2, .int p3)] d_Writer_countRuns_6 (by decide) rfl ?_
  obtain ⟨r4, hr4, h⟩ := bd_ok h
  refine j_sub [3, 5, 2, 1, 0] rfl ?_
  refine t_Writer_countRuns_l8 C fu 0 0 p2 hr4 (fun e5 => ?_)
  · refine j_iload_n C 0 d_Writer_countRuns_41 rfl ?_
    obtain rfl := Option.some.inj h
    exact j_pret C hr d_Writer_countRuns_42
