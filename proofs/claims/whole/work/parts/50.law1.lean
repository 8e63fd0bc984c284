/-! ===== the law's helpers: what the state holds throughout ===== -/
def NCL : List (String × String) := [("java/lang/IndexOutOfBoundsException", "java/lang/IllegalStateException"), ("java/lang/IllegalArgumentException", "java/lang/IndexOutOfBoundsException"), ("java/lang/IllegalArgumentException", "java/lang/IllegalStateException"), ("java/lang/UnsupportedOperationException", "java/lang/IllegalArgumentException"), ("java/lang/UnsupportedOperationException", "java/lang/IndexOutOfBoundsException")]
def NCs (U : State) : Prop := ∀ q ∈ NCL, NCq q.1 q.2 U
theorem NCs.moved {u U : State} (hvm : u.vm.Alike U.vm) (h : NCs u) : NCs U := fun q hq => (h q hq).moved hvm
def HX (D : va_G) (cJ : ClassId) (t1 t2 : Nat) (A : Nat → Prop) (U : State) (H : Heap) : Prop := SX t1 t2 A U H ∧ TW U ∧ SR U ∧ TZ A U H ∧ NCs U ∧ va_K D vwCl [(cJ, .long)] U
theorem HX.call {D : va_G} {cJ : ClassId} {t1 t2 : Nat} {A B : Nat → Prop} {s U : State} {H : Heap} {locs : List Loc} (hX : HX D cJ t1 t2 A s s.heap) (hW : s.WarmedH U.vm) (hU : U.heap = H) (hS : va_S A s.heap H locs) (hB : ∀ q, B q → A q) : HX D cJ t1 t2 B U U.heap :=
  ⟨SX.call hX.1 hW hU hS hB, hX.2.1.moved hW, hX.2.2.1.moved hW, by rw [hU]; exact ((hX.2.2.2.1.kept hS.2.1).narrow hB).moved hW.alike, hX.2.2.2.2.1.moved hW.alike, va_K.moved hW.alike hX.2.2.2.2.2⟩
theorem HX.same {D : va_G} {cJ : ClassId} {t1 t2 : Nat} {A : Nat → Prop} {u U : State} {H : Heap} (hvm : u.vm = U.vm) (hX : HX D cJ t1 t2 A u H) : HX D cJ t1 t2 A U H :=
  have ha : u.vm.Alike U.vm := by rw [hvm]; exact Vm.Alike.refl _
  ⟨SX.same ha hX.1, TW.same hvm hX.2.1, SR.same hvm hX.2.2.1, hX.2.2.2.1.moved ha, hX.2.2.2.2.1.moved ha, va_K.moved ha hX.2.2.2.2.2⟩
def PcH (cJ : ClassId) (t1 t2 : Nat) (av : List Value) (D : va_G) (tys : List (ClassId × FieldType)) (w : va_W) (sz : Nat) : Array Value → State → Prop := va_Pc av (fun U => U.heap.size = sz ∧ va_P D vwCl w U.heap ∧ KK D tys U ∧ va_D (fun _ => True) w ∧ HX D cJ t1 t2 (va_A w sz) U U.heap)
theorem PcH.blind {cJ : ClassId} {t1 t2 : Nat} {av : List Value} {D : va_G} {tys : List (ClassId × FieldType)} {w : va_W} {sz : Nat} : FrameBlind (PcH cJ t1 t2 av D tys w sz) := fun a U g mk q => ⟨q.1, q.2.1, q.2.2.1, KK.blind g mk a q.2.2.2.1, q.2.2.2.2.1, HX.same (u := U) (U := U.calling g mk a) rfl q.2.2.2.2.2⟩
theorem met_H {cJ : ClassId} {t1 t2 : Nat} {l : Launch} {y : MethodName} {cc : ByteArray} {maxL mc ms : Nat} {rt : FieldType} {hh : List (Nat × Nat × Nat × Nat)} {rm : Room} {av : List Value} {D : va_G} {tys : List (ClassId × FieldType)} {w : va_W} {S : Type} {w1 : S → va_W} {r : Int32} {sz : Nat} (hy : plainName y.cls = true) (hlen : (lg_sl av).length ≤ maxL)
    (body : ∀ (p : Program) (e : Env) (s : State) (m : MethodId) (args : Array Value) (below : List Frame) (meth : Method) (c : Code) (A : Nat → Prop), (∀ q : Nat, s.heap.size ≤ q → A q) → HX D cJ t1 t2 A s s.heap → c.exceptionTable.toList.map tup = hh → Cx p s m args meth c D tys cc maxL y.cls → meth.sig.returnType = some rt → J p l e rm s m args below meth c D A (va_D A) maxL (MQ below (QcI D r w1 A) args s mc ms A) 0 0 w (lv_args 0 av) [] 0) : Met l y (Cond.codeWith y cc maxL (some rt) hh :: BIG) rm (PcH cJ t1 t2 av D tys w sz) (QcI D r w1 (va_A w sz)) mc ms (va_A w sz) := by
  refine va_MetW (cc := cc) (maxL := maxL) (ret := some rt) (hh := hh) hy rfl ?_
  intro p e s m args below meth c s₁ B hml hv
  obtain ⟨rfl, hsz, hP, hKK, hD0, hX⟩ := hv
  subst hsz
  have hts := atoms_spec (ws := Cond.codeWith y cc maxL (some rt) hh :: BIG) B.pre
  have hown : s.vm.findClass y.cls = some m.cls := findClass_of_methodNamed B.named
  have hl := lv_entry av (n := maxL) hlen
  have htab : c.exceptionTable.toList.map tup = hh := by
    obtain ⟨m9, meth', c', hn9, h1, h2, -, -, h5, -⟩ := Cond.codeWith_spec (hts _ List.mem_cons_self)
    cases B.named.symm.trans hn9
    cases B.method.symm.trans h1
    cases (Stand.of_body B).code.symm.trans h2
    exact h5
  rw [lg_entry_eq]
  exact body p e s m _ below meth c (va_A w s.heap.size) (fun q h => Or.inr h) hX htab ⟨⟨B.exec, B.bytes, hml, hown, fun w hw => hts w (List.mem_cons_of_mem _ hw)⟩, hKK.1, hKK.2, B.notSynchronized⟩ B.returns s.heap [] _ hP hD0.self va_S.rf hl
/-- the words of a static call of a helper with handlers -/
def CallHW (R : Room) (s : State) (args : Array Value) (own : String) (index : Nat) (y : MethodName) (bytes : ByteArray) (maxL : Nat) (ret : Option FieldType) (hh : List (Nat × Nat × Nat × Nat)) (rm : Room) (mc ms n : Nat) : Prop :=
  rm.cells = mc ∧ rm.slots = ms ∧ rm.frames + 1 ≤ R.frames ∧ 8 + (maxL + 11) + rm.locals ≤ R.locals ∧ Cond.codeWith y bytes maxL ret hh ∈ BIG ∧ Cond.initialized y.cls ∈ BIG ∧ (y.cls ≠ "java/lang/invoke/MethodHandle" ∧ y.cls ≠ "java/lang/invoke/VarHandle") ∧ (∀ sig, parseMethodDescriptor y.desc = some sig → n = sig.parameters.length) ∧ Cond.methodLink own index y ∈ BIG ∧ Cond.static y ∈ BIG
section JL
variable {p : Program} {l : Launch} {e : Env} {R : Room} {s : State} {m : MethodId} {args : Array Value} {below : List Frame} {meth : Method} {c : Code} {D : va_G} {A : Nat → Prop} {X : va_W → Prop} {nL : Nat} {Q : State → Prop} {cells slots : Nat} {ws : va_W} {lv : List (Nat × Value)} {st : List Value} {pc : Nat}
variable {tys : List (ClassId × FieldType)} {cc : ByteArray}
variable {own : String}
theorem run_HS (C : Cx p s m args meth c D tys cc nL own) {y : MethodName} {bytes : ByteArray} {maxL n index mc ms : Nat} {ret : Option FieldType} {hh : List (Nat × Nat × Nat × Nat)} {rm : Room} {Pc : Array Value → State → Prop} {Qc : Array Value → State → Outcome → State → Prop} {free : Addr → Prop} {H : Heap} {locs : List Loc} {ls : Array Slot} {As rest : List Value} (hM : Met l y (Cond.codeWith y bytes maxL ret hh :: BIG) rm Pc Qc mc ms free) (cw : CallHW R s args own index y bytes maxL ret hh rm mc ms n) (hp : PreS s H Pc As) (hn : As.length = n) (hsize : ls.size = nL) (hW : (rest.map fun v => v.category).sum ≤ 8) (hdg : decode cc pc = .ok (.invokestatic index, 3)) (hf : cells + mc ≤ R.cells ∧ slots + ms ≤ R.slots) :
    va_Run p l e R s m args below meth c H locs cells slots mc ms (F0 m pc ls (As.reverse ++ rest)) rest (Qc As.toArray) free := by
  obtain ⟨hrc, hrs, hfr, hlo, hcm, him, hy, hlen, hlm, hsm⟩ := cw
  obtain ⟨hx, hb, hml, ho, hwd⟩ := C.1
  have hgood : ∀ w ∈ (Cond.codeWith y bytes maxL ret hh :: BIG), ∀ (a' : Array Value) (U : State), s.WarmedH U.vm → w.before a' U = true := fun w hw a' U hWm => by
    have hB : w ∈ BIG := by
      rcases List.mem_cons.mp hw with rfl | h
      · exact hcm
      · exact h
    exact word_at hWm (big_good _ hB) (hwd _ hB)
  have hK : Back l R p e below s args y 3 8 (PreOf R mc ms Pc) (PostOf Qc mc ms free) := va_backW (hh := hh) (bytes := bytes) (maxL := maxL) (ret := ret) hM hp.1 hrc hrs hfr hlo hgood List.mem_cons_self (fun a' U hWm => word_at hWm (big_good _ him) (hwd _ him))
  intro T hT X
  obtain ⟨mk, methM, cM, hnamed, hmethM, -, -, -, -, -, -, hsigM⟩ := Cond.codeWith_spec (hwd _ hcm)
  have hstatic : methM.isStatic = true := Cond.static_spec hnamed hmethM (hwd _ hsm)
  obtain ⟨kP, hkP, -⟩ := className_of_methodNamed hnamed
  have hinitP : kP.init = .initialized := Cond.initialized_spec (findClass_of_methodNamed hnamed) hkP (hwd _ him)
  obtain ⟨vm₁, X₁, hstep₁⟩ := X.invokestatic hx ho (hwd _ hlm) hnamed hmethM hstatic hkP hinitP hy (g := F0 m pc ls (As.reverse ++ rest)) rfl (argsL := As) (rest := rest) (hn.trans (hlen _ hsigM)) rfl (by rw [hb]; exact hdg)
  obtain ⟨v, ⟨U', l2, c2, s2⟩, X', ⟨g', mk', t, L, e1, e2, hq, h1, hL, h2, h3⟩, hsteps⟩ := hK m meth c ⟨T.setVm vm₁, locs, cells, slots⟩ (F0 m pc ls rest) (.invokestatic index) mk As.toArray X₁ rfl (hsize.trans hml.symm) (by rw [hb]; exact hdg) (by simp only [Nat.mul_zero, Nat.zero_add]; exact hW) (X₁.named hnamed) ⟨hf.1, hf.2, hp.2 (T.setVm vm₁) hT X₁.warmed⟩
  dsimp only [Pt.U, Pt.locs, Pt.cells, Pt.slots] at X' e1 e2 h1 h2 h3 hsteps
  subst h1; subst h2; subst h3
  exact ⟨v, (T.setVm vm₁).calling g' mk' As.toArray, t, U', L, hT, X', hL, e1, e2, hq, fun target h => hstep₁ _ fun acts => by rw [doInvoke_state]; exact hsteps.trans h⟩
theorem j_HS (C : Cx p s m args meth c D tys cc nL own) {y : MethodName} {bytes : ByteArray} {maxL n index : Nat} {ret : Option FieldType} {hh : List (Nat × Nat × Nat × Nat)} {rm : Room} (As : List Value) {rest st0 : List Value} {wc : va_W} {S : Type} {w : S → va_W} {r : Int32} {mc ms : Nat} {cJ : ClassId} (hA : ∀ q, s.heap.size ≤ q → A q) {t1 t2 : Nat} (hX : HX D cJ t1 t2 A s s.heap) (hM : ∀ sz : Nat, Met l y (Cond.codeWith y bytes maxL ret hh :: BIG) rm (PcH cJ t1 t2 As D tys wc sz) (QcI D r w (va_A wc sz)) mc ms (va_A wc sz)) (cw : CallHW R s args own index y bytes maxL ret hh rm mc ms n) (is ir : List Nat) (hs : is.map (fun i => ws[i]?) = wc.map some) (hr0 : ir.map (fun i => ws[i]?) = (ir.filterMap (fun i => ws[i]?)).map some) (hnd : va_nd is = true) (hn0 : va_nd ir = true) (hdis : ∀ i ∈ ir, i ∉ is) (hn : As.length = n) (hst : st0 = As.reverse ++ rest) (hW : (rest.map fun v => v.category).sum ≤ 8) (d : decode cc pc = .ok (.invokestatic index, 3)) (hf : cells + mc ≤ R.cells ∧ slots + ms ≤ R.slots) (k : ∀ q : S, J p l e R s m args below meth c D A (va_D A) nL Q (cells + mc) (slots + ms) (ir.filterMap (fun i => ws[i]?) ++ w q) lv (.int r :: rest) (pc + 3)) : J p l e R s m args below meth c D A (va_D A) nL Q cells slots ws lv st0 pc := by
  subst hst
  exact j_Is (a := As.toArray) (w := w) hA is ir hs hr0 hn0 hdis (fun H locs ls hP hD hS h => run_HS C (hM H.size) cw ⟨PcH.blind, fun U hU hW1 => ⟨rfl, by rw [hU], by rw [hU]; exact P_map hP is hs, C.kk.moved hW1, (hD.sub is hnd hs).weaken (fun _ _ _ _ => trivial), HX.call hX hW1 hU hS (va_free hD hS hA is hs)⟩⟩ hn h.1 hW d hf) k
theorem j_i2l (C : Cx p s m args meth c D tys cc nL own) {x : Int32} (d : decode cc pc = .ok (.i2l, 1)) (k : J p l e R s m args below meth c D A X nL Q cells slots ws lv (.long x.toInt64 :: st) (pc + 1)) : J p l e R s m args below meth c D A X nL Q cells slots ws lv (.int x :: st) pc :=
  fun H locs ls hP hD hS h => lv_i2l C.1.1 C.1.2.1 d rfl (k H locs ls hP hD hS h)
theorem j_lconst (C : Cx p s m args meth c D tys cc nL own) {n : Fin 2} {v : Int64} (d : decode cc pc = .ok (.lconst n, 1)) (hv : Int64.ofNat (n : Nat) = v) (k : J p l e R s m args below meth c D A X nL Q cells slots ws lv (.long v :: st) (pc + 1)) : J p l e R s m args below meth c D A X nL Q cells slots ws lv st pc :=
  fun H locs ls hP hD hS h => lv_lconst C.1.1 C.1.2.1 d hv (k H locs ls hP hD hS h)
theorem j_lald (C : Cx p s m args meth c D tys cc nL own) {tys2 : List (ClassId × FieldType)} (hK : va_K D vwCl tys2 s) (q0 t0 : Nat) {cA : ClassId} {n a : Nat} {f : Nat → Int64} {i : Int32} (ha : ws[q0]? = some (a, .inl (cA, n, .inr (.inl f)))) (ht : tys2[t0]? = some (cA, .long)) (hin : vp_in i n) (d : decode cc pc = .ok (.laload, 1)) (k : J p l e R s m args below meth c D A X nL Q cells slots ws lv (.long (f i.toNatClampNeg) :: st) (pc + 1)) : J p l e R s m args below meth c D A X nL Q cells slots ws lv (.int i :: .ref a :: st) pc :=
  fun H locs ls hP hD hS h => va_lald C.1.1 C.1.2.1 hK hP q0 t0 ha ht hin d (k H locs ls hP hD hS h)
theorem j_last (C : Cx p s m args meth c D tys cc nL own) {tys2 : List (ClassId × FieldType)} (hK : va_K D vwCl tys2 s) (q0 t0 : Nat) (ws' : va_W) {cA : ClassId} {n a : Nat} {f : Nat → Int64} {i : Int32} {x : Int64} (ha : ws[q0]? = some (a, .inl (cA, n, .inr (.inl f)))) (hw : ws.set q0 (a, .inl (cA, n, .inr (.inl (vp_updL f i.toNatClampNeg x)))) = ws') (ht : tys2[t0]? = some (cA, .long)) (hin : vp_in i n) (d : decode cc pc = .ok (.lastore, 1)) (k : J p l e R s m args below meth c D A (va_D A) nL Q cells slots ws' lv st (pc + 1)) : J p l e R s m args below meth c D A (va_D A) nL Q cells slots ws lv (.long x :: .int i :: .ref a :: st) pc := by
  subst hw
  exact fun H locs ls hP hD hS h => va_last C.1.1 C.1.2.1 hK hP hD hS q0 t0 ha ht hin d (fun H1 locs1 hP hD hS => k H1 locs1 ls hP hD hS h)
theorem j_lcmp (C : Cx p s m args meth c D tys cc nL own) {x y : Int64} (d : decode cc pc = .ok (.lcmp, 1)) (k : J p l e R s m args below meth c D A X nL Q cells slots ws lv (.int (lg_cmp x y) :: st) (pc + 1)) : J p l e R s m args below meth c D A X nL Q cells slots ws lv (.long y :: .long x :: st) pc :=
  fun H locs ls hP hD hS h => W.lcmp C.1.1 C.1.2.1 d (k H locs ls hP hD hS h)
end JL
