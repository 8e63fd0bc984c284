section JC
variable {p : Program} {l : Launch} {e : Env} {R : Room} {s : State} {m : MethodId} {args : Array Value} {below : List Frame} {meth : Method} {c : Code} {D : va_G} {A : Nat → Prop} {X : va_W → Prop} {nL : Nat} {Q : State → Prop} {cells slots : Nat} {ws : va_W} {lv : List (Nat × Value)} {st : List Value} {pc : Nat}
variable {tys : List (ClassId × FieldType)} {cc : ByteArray}
variable {own : String}
def QcR {S : Type} (D : va_G) (w : S → Nat → va_W) (A : Nat → Prop) : Array Value → State → Outcome → State → Prop := va_Qr (fun (_ : S) => True) (fun u a t => va_P D vwCl (w u a) t.heap ∧ va_D A (w u a)) A
theorem j_aret (C : Cx p s m args meth c D tys cc nL own) {S : Type} {w : S → Nat → va_W} {rt : FieldType} (hr : meth.sig.returnType = some (.array rt)) (d : decode cc pc = .ok (.areturn, 1)) (u : S) {a : Nat} (hw : ws = w u a) : J p l e R s m args below meth c D A (va_D A) nL (MQ below (QcR D w A) args s cells slots A) cells slots ws lv [.ref a] pc := by
  subst hw
  exact fun H locs ls hP hD hS h => W.aret (v := .ref a) C.1.1 C.1.2.1 hr (Or.inr ⟨_, rfl⟩) (Or.inr ⟨_, rfl⟩) (fun t ht hW => ⟨⟨u, a, rfl, trivial, by rw [ht]; exact hP, hD⟩, hS.F ht⟩) hS.2.2 d C.2.2.2
theorem j_copy (C : Cx p s m args meth c D tys cc nL own) {index : Nat} (hl : Cond.methodLink own index arraycopyName ∈ BIG) (hna : Cond.native arraycopyName ∈ BIG) (hst : Cond.static arraycopyName ∈ BIG) (hi : Cond.initialized "java/lang/System" ∈ BIG) (q0 q1 : Nat) (ws' : va_W) {t0 : Nat} {a a0 : Nat} {cA : ClassId} {n0 n1 : Nat} {f g : Nat → Int32} (ha0 : ws[q0]? = some (a0, .inl (cA, n0, .inl f))) (ha1 : ws[q1]? = some (a, .inl (cA, n1, .inl g))) (ht0 : tys[t0]? = some (cA, .int)) {sp dp n : Int32} (h1 : ¬ sp < 0) (h2 : ¬ dp < 0) (h3 : ¬ n < 0) (h4 : sp.toNatClampNeg + n.toNatClampNeg ≤ n0) (h5 : dp.toNatClampNeg + n.toNatClampNeg ≤ n1)
    (hfr : 1 ≤ R.frames) (hlo : (st.map fun v => v.category).sum + (nativeFrameWords "java/lang/System" "arraycopy" 5 + 11) ≤ R.locals) (hw : ws.set q1 (a, .inl (cA, n1, .inl (va_cpy f g sp.toNatClampNeg dp.toNatClampNeg n.toNatClampNeg))) = ws') (d : decode cc pc = .ok (.invokestatic index, 3)) (k : J p l e R s m args below meth c D A (va_D A) nL Q cells slots ws' lv st (pc + 3)) : J p l e R s m args below meth c D A (va_D A) nL Q cells slots ws lv (.int n :: .int dp :: .ref a :: .int sp :: .ref a0 :: st) pc := by
  subst hw
  exact fun H locs ls hP hD hS h => va_copyi C.1.1 C.1.2.1 (C.1.2.2.1.trans h.1.symm) C.1.2.2.2.1 (C.1.2.2.2.2 _ hl) (C.1.2.2.2.2 _ hna) (C.1.2.2.2.2 _ hst) (C.1.2.2.2.2 _ hi) C.2.1 hP hD hS q0 q1 t0 t0 ha0 ha1 ht0 ht0 rfl h1 h2 h3 h4 h5 (fun _ _ => rfl) hfr hlo d (fun H1 locs1 hP hD hS => k H1 locs1 ls hP hD hS h)
theorem j_RS (C : Cx p s m args meth c D tys cc nL own) {y : MethodName} {bytes : ByteArray} {maxL n index : Nat} {ret : Option FieldType} {rm : Room} (As : List Value) {rest st0 : List Value} {wc : va_W} {S : Type} {w : S → Nat → va_W} {mc ms : Nat} (hA : ∀ q, s.heap.size ≤ q → A q) (hM : ∀ sz : Nat, Met l y (Cond.code y bytes maxL ret :: BIG) rm (PcI As D tys wc sz) (QcR D w (va_A wc sz)) mc ms (va_A wc sz)) (cw : CallB R s args own index y bytes maxL ret (Cond.code y bytes maxL ret :: BIG) rm mc ms n ∧ (Cond.static y).before args s = true) (is ir : List Nat) (hs : is.map (fun i => ws[i]?) = wc.map some) (hr0 : ir.map (fun i => ws[i]?) = (ir.filterMap (fun i => ws[i]?)).map some) (hnd : va_nd is = true) (hn0 : va_nd ir = true) (hdis : ∀ i ∈ ir, i ∉ is) (hn : As.length = n) (hst : st0 = As.reverse ++ rest) (hW : (rest.map fun v => v.category).sum ≤ 8) (d : decode cc pc = .ok (.invokestatic index, 3)) (hf : cells + mc ≤ R.cells ∧ slots + ms ≤ R.slots) (k : ∀ (u : S) (q : Nat), J p l e R s m args below meth c D A (va_D A) nL Q (cells + mc) (slots + ms) (ir.filterMap (fun i => ws[i]?) ++ w u q) lv (.ref q :: rest) (pc + 3)) : J p l e R s m args below meth c D A (va_D A) nL Q cells slots ws lv st0 pc := by
  subst hst
  exact fun H locs ls hP hD hS h => va_callr (va_runS C.1 (hM H.size) cw ⟨PcI.blind, fun U hU hW1 => ⟨rfl, by rw [hU], by rw [hU]; exact P_map hP is hs, C.kk.moved hW1, (hD.sub is hnd hs).weaken (fun _ _ _ _ => trivial)⟩⟩ rfl hn h.1 rfl (lv_room hW) d hf) hS (fun q _ z => va_free hD hS hA is hs q z) (fun q z => va_free hD hS hA is hs q z) (fun u ra t H1 locs1 ht hvm hw hB hz hk hS1 => by
    obtain ⟨hP1, hD1⟩ := hB
    rw [ht] at hP1
    obtain ⟨hP2, hD2⟩ := va_join hP hD is ir hs hr0 hn0 hdis hk (va_free hD hS hA is hs) hP1 hD1
    exact k u ra H1 locs1 ls hP2 hD2 hS1 h)
end JC
theorem met_R {l : Launch} {y : MethodName} {cc : ByteArray} {maxL mc ms : Nat} {rt : FieldType} {rm : Room} {av : List Value} {D : va_G} {tys : List (ClassId × FieldType)} {w : va_W} {S : Type} {w1 : S → Nat → va_W} {sz : Nat} (hy : plainName y.cls = true) (hlen : (lg_sl av).length ≤ maxL)
    (body : ∀ (p : Program) (e : Env) (s : State) (m : MethodId) (args : Array Value) (below : List Frame) (meth : Method) (c : Code) (A : Nat → Prop), (∀ q : Nat, s.heap.size ≤ q → A q) → Cx p s m args meth c D tys cc maxL y.cls → meth.sig.returnType = some rt → J p l e rm s m args below meth c D A (va_D A) maxL (MQ below (QcR D w1 A) args s mc ms A) 0 0 w (lv_args 0 av) [] 0) : Met l y (Cond.code y cc maxL (some rt) :: BIG) rm (PcI av D tys w sz) (QcR D w1 (va_A w sz)) mc ms (va_A w sz) := by
  refine Met.ofW (cc := cc) (maxL := maxL) (ret := some rt) hy rfl ?_
  intro p e s m args below meth c s₁ B hml hv
  obtain ⟨rfl, hsz, hP, hKK, hD0⟩ := hv
  subst hsz
  have hts := atoms_spec (ws := Cond.code y cc maxL (some rt) :: BIG) B.pre
  have hown : s.vm.findClass y.cls = some m.cls := findClass_of_methodNamed B.named
  have hl := lv_entry av (n := maxL) hlen
  rw [lg_entry_eq]
  exact body p e s m _ below meth c (va_A w s.heap.size) (fun q h => Or.inr h) ⟨⟨B.exec, B.bytes, hml, hown, fun w hw => hts w (List.mem_cons_of_mem _ hw)⟩, hKK.1, hKK.2, B.notSynchronized⟩ B.returns s.heap [] _ hP hD0.self va_S.rf hl
def cpO (v : Nat → Int32) (n N : Nat) : Nat → Int32 := va_cpy v (fun _ => 0) 0 0 (mn (nI n) (nI N)).toNatClampNeg
theorem mn_in {n N : Nat} (hn : n < 2 ^ 31) (hN : N < 2 ^ 31) : ¬ mn (nI n) (nI N) < 0 ∧ (mn (nI n) (nI N)).toNatClampNeg ≤ n ∧ (mn (nI n) (nI N)).toNatClampNeg ≤ N := by
  unfold mn
  by_cases h : N < n
  · rw [if_pos (nI_lt h hn), nI_clamp hN]; exact ⟨nI_pos hN, by omega, by omega⟩
  · rw [if_neg (nI_nlt (by omega) hN), nI_clamp hn]; exact ⟨nI_pos hn, by omega, by omega⟩
set_option maxRecDepth 100000 in
set_option maxHeartbeats 4000000 in
theorem c_Arrays_copyOf (l : Launch) (D : va_G) (cI cR cZ : ClassId) (g n : Nat) (v : Nat → Int32) (N : Nat) (hn : n ≤ 6400) (hN : N ≤ 6400) (hne : ¬ N = n) (sz : Nat) : Met l y_Arrays_copyOf (Cond.code y_Arrays_copyOf b_Arrays_copyOf 3 (some (.array .int)) :: BIG) (rm_Arrays_copyOf 1 N) (PcI [.ref g, .int (nI N)] D (tyG cI cR cZ) [(g, .inl (cI, n, .inl v))] sz) (QcR D (fun (_ : Unit) q => [(g, .inl (cI, n, .inl v)), (q, .inl (cI, N, .inl (cpO v n N)))]) (va_A [(g, .inl (cI, n, .inl v))] sz)) 1 N (va_A [(g, .inl (cI, n, .inl v))] sz) := by
  refine met_R (by decide) (Nat.le_of_ble_eq_true rfl) (fun p e s m args below meth c A hA C hr => ?_)
  have C : Cx p s m args meth c D (tyG cI cR cZ) b_Arrays_copyOf 3 "java/util/Arrays" := C
  have hm := mn_in (n := n) (N := N) (by omega) (by omega)
  show J p l e (rm_Arrays_copyOf 1 N) s m args below meth c D A (va_D A) 3 _ 0 0 [(g, .inl (cI, n, .inl v))] [(0, .ref g), (1, .int (nI N))] [] 0
  refine j_iload_n C 1 d_Arrays_copyOf_0 rfl ?_
  refine j_aload_n C 0 d_Arrays_copyOf_1 rfl ?_
  refine j_alen C 0 (t0 := 0) (v := nI n) rfl rfl rfl d_Arrays_copyOf_2 ?_
  refine j_icmp_ne C 14 d_Arrays_copyOf_3 (by decide) (fun _ => ?_) (fun c1 => absurd ((nI_eq (by omega) (by omega)).mp c1) hne)
  refine j_iload_n C 1 d_Arrays_copyOf_14 rfl ?_
  refine j_newa C hA (t0 := 0) (N := N) rfl (mb (by decide +kernel) rfl) (nI_pos (by omega)) (nI_clamp (by omega)) (by omega) (Nat.le_refl 1) (by show 0 + N ≤ N; omega) d_Arrays_copyOf_15 (fun q => ?_)
  refine j_astore_n C [(2, .ref q), (0, .ref g), (1, .int (nI N))] d_Arrays_copyOf_17 (by decide) rfl ?_
  refine j_aload_n C 1 d_Arrays_copyOf_18 rfl ?_
  refine j_iconst C (v := 0) d_Arrays_copyOf_19 (by decide) ?_
  refine j_aload_n C 0 d_Arrays_copyOf_20 rfl ?_
  refine j_iconst C (v := 0) d_Arrays_copyOf_21 (by decide) ?_
  refine j_aload_n C 1 d_Arrays_copyOf_22 rfl ?_
  refine j_alen C 0 (t0 := 0) (v := nI n) rfl rfl rfl d_Arrays_copyOf_23 ?_
  refine j_iload_n C 2 d_Arrays_copyOf_24 rfl ?_
  refine j_mmin C mw_Arrays_304 (Nat.le_of_ble_eq_true rfl) (Nat.le_of_ble_eq_true rfl) ⟨Nat.le_refl 1, by show 0 + N ≤ N; omega⟩ d_Arrays_copyOf_25 ?_
  refine j_copy C (mb (by decide +kernel) rfl) (mb (by decide +kernel) rfl) (mb (by decide +kernel) rfl) (mb (by decide +kernel) rfl) 0 1 [(g, .inl (cI, n, .inl v)), (q, .inl (cI, N, .inl (cpO v n N)))] (t0 := 0) rfl rfl rfl (by decide) (by decide) hm.1 (by rw [sb_cl0]; omega) (by rw [sb_cl0]; omega) (Nat.le_of_ble_eq_true rfl) (Nat.le_of_ble_eq_true rfl) rfl d_Arrays_copyOf_28 ?_
  refine j_aload_n C 0 d_Arrays_copyOf_31 rfl ?_
  refine j_widen (c2 := 1) (s2 := N) (by omega) (by omega) ?_
  exact j_aret C hr d_Arrays_copyOf_32 () rfl
def gN {α : Type} (len : Nat) (e : Int32) (k : Option α) : Option α := if len ≤ 6400 ∧ ¬ e < 0 ∧ e.toNatClampNeg ≤ 6400 ∧ ¬ e.toNatClampNeg = len then k else none
theorem gN_ok {α : Type} {len : Nat} {e : Int32} {k : Option α} {r : α} (h : gN len e k = some r) : (len ≤ 6400 ∧ ¬ e < 0 ∧ e.toNatClampNeg ≤ 6400 ∧ ¬ e.toNatClampNeg = len) ∧ k = some r := by
  unfold gN at h
  by_cases c : len ≤ 6400 ∧ ¬ e < 0 ∧ e.toNatClampNeg ≤ 6400 ∧ ¬ e.toNatClampNeg = len
  · rw [if_pos c] at h; exact ⟨c, h⟩
  · rw [if_neg c] at h; cases h
theorem gN_in {α : Type} {len : Nat} {e : Int32} {k : Option α} (h : len ≤ 6400 ∧ ¬ e < 0 ∧ e.toNatClampNeg ≤ 6400 ∧ ¬ e.toNatClampNeg = len) : gN len e k = k := if_pos h
theorem gN_nI {len : Nat} {e : Int32} (h : len ≤ 6400 ∧ ¬ e < 0 ∧ e.toNatClampNeg ≤ 6400 ∧ ¬ e.toNatClampNeg = len) : e = nI e.toNatClampNeg := by
  obtain ⟨j, hj, rfl⟩ := nI_of h.2.1
  rw [nI_clamp hj]
def ByteRow_append_b47 (B : ByS) (v1 : Int32) : Option ((ByS) × Nat × Nat) :=
  gd B.1 B.2.1 (some ((((((B.1, B.2.1, upd B.2.2 B.1.toNatClampNeg v1)).1) + 1, ((B.1, B.2.1, upd B.2.2 B.1.toNatClampNeg v1)).2)), 0, 0))
def ByteRow_append (B : ByS) (p1 : Int32) : Option ((ByS) × Nat × Nat) :=
  (ByteRow_room B).bind fun r1 =>
  (if 1 ≤ r1 then (if B.1 = (nI B.2.1) then gN B.2.1 (mn 6400 ((2 * B.1) + 64)) (ad 1 ((mn 6400 ((2 * B.1) + 64)).toNatClampNeg) (ByteRow_append_b47 ((B.1, (mn 6400 ((2 * B.1) + 64)).toNatClampNeg, cpO B.2.2 B.2.1 ((mn 6400 ((2 * B.1) + 64)).toNatClampNeg))) p1))
  else ByteRow_append_b47 B p1)
  else some ((B), 0, 0))
set_option maxRecDepth 100000 in
set_option maxHeartbeats 4000000 in
theorem t_ByteRow_append_b47 {p : Program} {l : Launch} {e : Env} {s : State} {m : MethodId} {args : Array Value} {below : List Frame} {meth : Method} {c : Code} {D : va_G} {cI cR cZ : ClassId} {A : Nat → Prop} {cT sT cs ss : Nat} (C : Cx p s m args meth c D (tyG cI cR cZ) b_ByteRow_append 2 "MaskLayers$ByteRow") (hr : meth.sig.returnType = none) (hA : ∀ q : Nat, s.heap.size ≤ q → A q) {b : Nat} {q : Nat} {B : ByS} {v1 : Int32} {res : ((ByS) × Nat × Nat)} (hcs : cs + res.2.1 ≤ cT) (hss : ss + res.2.2 ≤ sT) (h : ByteRow_append_b47 B v1 = some res) : J p l e (rm_ByteRow_append cT sT) s m args below meth c D A (va_D A) 2 (MQ below (QcV D (fun q9 : Nat => wBy cI b q9 res.1) A) args s cT sT A) cs ss (wBy cI b q B) [(0, .ref b), (1, .int v1)] [] 47 := by
  unfold ByteRow_append_b47 at h
  refine j_aload_n C 0 d_ByteRow_append_47 rfl ?_
  refine gf_ByteRow_9 C 0 (v := .ref q) rfl rfl d_ByteRow_append_48 ?_
  refine j_aload_n C 0 d_ByteRow_append_51 rfl ?_
  refine gf_ByteRow_15 C 0 (v := .int B.1) rfl rfl d_ByteRow_append_52 ?_
  refine j_iload_n C 1 d_ByteRow_append_55 rfl ?_
  obtain ⟨b2, h⟩ := gd_ok h
  refine j_iast C (1) (wBy cI b q ((B.1, B.2.1, upd B.2.2 B.1.toNatClampNeg v1))) (t0 := 0) rfl rfl rfl b2 d_ByteRow_append_56 ?_
  refine j_aload_n C 0 d_ByteRow_append_57 rfl ?_
  refine j_dup C d_ByteRow_append_58 rfl ?_
  refine gf_ByteRow_15 C 0 (v := .int (((B.1, B.2.1, upd B.2.2 B.1.toNatClampNeg v1)).1)) rfl rfl d_ByteRow_append_59 ?_
  refine j_iconst C (v := 1) d_ByteRow_append_62 (by decide) ?_
  refine j_iadd C d_ByteRow_append_63 ?_
  refine pf_ByteRow_15 C 0 (wBy cI b q (((((B.1, B.2.1, upd B.2.2 B.1.toNatClampNeg v1)).1) + 1, ((B.1, B.2.1, upd B.2.2 B.1.toNatClampNeg v1)).2))) rfl rfl rfl d_ByteRow_append_64 ?_
  obtain rfl := Option.some.inj h
  refine j_widen (c2 := cT) (s2 := sT) (by omega) (by omega) ?_
  exact j_vret C hr d_ByteRow_append_67 q rfl
set_option maxRecDepth 100000 in
set_option maxHeartbeats 4000000 in
theorem c_ByteRow_append (l : Launch) (D : va_G) (cI cR cZ : ClassId) (b : Nat) (q : Nat) (B : ByS) (p1 : Int32) {res : ((ByS) × Nat × Nat)} (h : ByteRow_append B p1 = some res) (sz : Nat) : Met l y_ByteRow_append (Cond.code y_ByteRow_append b_ByteRow_append 2 none :: BIG) (rm_ByteRow_append res.2.1 res.2.2) (PcI [.ref b, .int p1] D (tyG cI cR cZ) (wBy cI b q B) sz) (QcV D (fun q9 : Nat => wBy cI b q9 res.1) (va_A (wBy cI b q B) sz)) res.2.1 res.2.2 (va_A (wBy cI b q B) sz) := by
  refine met_V (by decide) (Nat.le_of_ble_eq_true rfl) (fun p e s m args below meth c A hA C hr => ?_)
  have C : Cx p s m args meth c D (tyG cI cR cZ) b_ByteRow_append 2 "MaskLayers$ByteRow" := C
  have hr : meth.sig.returnType = none := hr
  show J p l e (rm_ByteRow_append res.2.1 res.2.2) s m args below meth c D A (va_D A) 2 (MQ below (QcV D (fun q9 : Nat => wBy cI b q9 res.1) A) args s res.2.1 res.2.2 A) 0 0 (wBy cI b q B) [(0, .ref b), (1, .int p1)] [] 0
  unfold ByteRow_append at h
  refine j_aload_n C 0 d_ByteRow_append_0 rfl ?_
  obtain ⟨r1, hr1, h⟩ := bd_ok h
  refine j_PV C [] 0 rfl rfl (c_ByteRow_room l D cI cR cZ b q B hr1) (cw_ByteRow_23 C ⟨Nat.le_of_ble_eq_true rfl, Nat.le_of_ble_eq_true rfl⟩) [0, 1] rfl rfl rfl (Nat.le_of_ble_eq_true rfl) d_ByteRow_append_1 ⟨by show _ ≤ res.2.1; omega, by show _ ≤ res.2.2; omega⟩ ?_
  refine j_iconst C (v := 1) d_ByteRow_append_4 (by decide) ?_
  refine j_icmp_ge C 9 d_ByteRow_append_5 (by decide) (fun c6 => ?_) (fun c6 => ?_)
  · replace h := (if_pos c6).symm.trans h
    refine j_aload_n C 0 d_ByteRow_append_9 rfl ?_
    refine gf_ByteRow_15 C 0 (v := .int B.1) rfl rfl d_ByteRow_append_10 ?_
    refine j_aload_n C 0 d_ByteRow_append_13 rfl ?_
    refine gf_ByteRow_9 C 0 (v := .ref q) rfl rfl d_ByteRow_append_14 ?_
    refine j_alen C (1) (t0 := 0) (v := nI B.2.1) rfl rfl rfl d_ByteRow_append_17 ?_
    refine j_icmp_ne C 47 d_ByteRow_append_18 (by decide) (fun c5 => ?_) (fun c5 => ?_)
    · replace h := (if_neg c5).symm.trans h
      refine j_sub [0, 1] rfl ?_
      exact t_ByteRow_append_b47 C hr hA (by omega) (by omega) h
    · replace h := (if_pos c5).symm.trans h
      refine j_aload_n C 0 d_ByteRow_append_21 rfl ?_
      refine j_aload_n C 0 d_ByteRow_append_22 rfl ?_
      refine gf_ByteRow_9 C 0 (v := .ref q) rfl rfl d_ByteRow_append_23 ?_
      refine j_sipush C (v := 6400) d_ByteRow_append_26 (by decide) ?_
      refine j_iconst C (v := 2) d_ByteRow_append_29 (by decide) ?_
      refine j_aload_n C 0 d_ByteRow_append_30 rfl ?_
      refine gf_ByteRow_15 C 0 (v := .int B.1) rfl rfl d_ByteRow_append_31 ?_
      refine j_imul C d_ByteRow_append_34 ?_
      refine j_bipush C (v := 64) d_ByteRow_append_35 (by decide) ?_
      refine j_iadd C d_ByteRow_append_37 ?_
      refine j_mmin C mw_ByteRow_27 (Nat.le_of_ble_eq_true rfl) (Nat.le_of_ble_eq_true rfl) ⟨by show _ ≤ res.2.1; omega, by show _ ≤ res.2.2; omega⟩ d_ByteRow_append_38 ?_
      obtain ⟨b3, h⟩ := gN_ok h
      obtain ⟨zr4, h, ezr4, fzr4, gzr4⟩ := ad_ok h
      rw [show Value.int (mn 6400 ((2 * B.1) + 64)) = Value.int (nI ((mn 6400 ((2 * B.1) + 64)).toNatClampNeg)) from congrArg Value.int (gN_nI b3)]
      refine j_RS C [.ref q, .int (nI ((mn 6400 ((2 * B.1) + 64)).toNatClampNeg))] hA (c_Arrays_copyOf l D cI cR cZ q B.2.1 B.2.2 ((mn 6400 ((2 * B.1) + 64)).toNatClampNeg) b3.1 b3.2.2.1 b3.2.2.2) (cw_ByteRow_33 C ⟨Nat.le_of_ble_eq_true rfl, Nat.le_of_ble_eq_true rfl⟩) [1] [0] rfl rfl (by decide) (by decide) (by decide) rfl rfl (Nat.le_of_ble_eq_true rfl) d_ByteRow_append_41 ⟨by show _ ≤ res.2.1; omega, by show _ ≤ res.2.2; omega⟩ (fun _ qr4 => ?_)
      refine pf_ByteRow_9 C 0 _ rfl rfl rfl d_ByteRow_append_44 ?_
      refine j_perm [0, 2] (ws' := wBy cI b qr4 ((B.1, (mn 6400 ((2 * B.1) + 64)).toNatClampNeg, cpO B.2.2 B.2.1 ((mn 6400 ((2 * B.1) + 64)).toNatClampNeg)))) rfl (by decide) ?_
      refine j_sub [0, 1] rfl ?_
      rw [ezr4]
      exact t_ByteRow_append_b47 C hr hA (by omega) (by omega) h
  · replace h := (if_neg c6).symm.trans h
    obtain rfl := Option.some.inj h
    refine j_widen (c2 := 0) (s2 := 0) (by omega) (by omega) ?_
    exact j_vret C hr d_ByteRow_append_8 q rfl
