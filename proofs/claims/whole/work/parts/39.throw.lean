/-! ===== methods that throw: what they need of the state, and their contract ===== -/
def isT : Cond → Bool
  | .castable .. => true
  | .declares .. => true
  | .arrayOver (.array _) => true
  | _ => false
def TWL : List Cond := lw_tbl.filter isT
theorem twm {w : Cond} (h : w ∈ lw_tbl) (g : isT w = true) : w ∈ TWL := List.mem_filter.mpr ⟨h, g⟩
def TW (U : State) : Prop := ∀ w ∈ TWL, ∀ a : Array Value, w.before a U = true
theorem TW.moved {u U : State} (hW : u.WarmedH U.vm) (h : TW u) : TW U := fun w hw a => by
  have hn := (List.mem_filter.mp hw).2
  have hz := h w hw a
  cases w <;> first | (simp [isT] at hn; done) | exact Cond.before_shiftedFace (State.Shifted.of_warmed hW) _ rfl hz | (rename_i ty; cases ty <;> first | (simp [isT] at hn; done) | exact over_moved hW.alike hz)
theorem TW.same {u U : State} (hvm : u.vm = U.vm) (h : TW u) : TW U := fun w hw a => by
  have hn := (List.mem_filter.mp hw).2
  have hz := h w hw a
  cases w <;> first | (simp [isT] at hn; done) | (rename_i ty; cases ty <;> first | (simp [isT] at hn; done) | exact over_moved (by rw [hvm]; exact Vm.Alike.refl _) hz) | (first | exact va_tabs rfl hvm hz | (simp only [Cond.before, Cond.holds, Cond.value, hvm] at hz ⊢; exact hz))
def SRL : List (Nat × String) := [(90, "there is no such sample"), (98, "n is below 1, or there is no such colour"), (105, "n is below 1"), (107, "there is no such step"), (112, "there is no such scale"), (127, "nothing was run"), (131, "there is no such layer"), (137, "the layer has no blocks"), (154, "there is no such byte"), (162, "this is no byte"), (169, "there is no room"), (176, "n is below 0"), (184, "nothing was read")]
def SR (U : State) : Prop := ∀ q ∈ SRL, ∃ a : Nat, vk_R "MaskLayers" q.1 q.2 a U
theorem SR.moved {u U : State} (hW : u.WarmedH U.vm) (h : SR u) : SR U := fun q hq => (h q hq).elim fun a ha => ⟨a, vk_R.warm hW ha⟩
theorem SR.same {u U : State} (hvm : u.vm = U.vm) (h : SR u) : SR U := fun q hq => (h q hq).elim fun a ha => ⟨a, vk_R.same hvm.symm ha⟩
def LZ (C n d : String) (A : Nat → Prop) (U : State) (H : Heap) : Prop := ∃ (c : ClassId) (k : Class) (i : Nat) (f : Field) (a : Nat) (cell : Cell), U.vm.findClass C = some c ∧ U.fieldFound? C n d = some (c, k, i, f) ∧ f.isStatic = true ∧ k.statics = some a ∧ H[a]? = some cell ∧ cell.vm.isStatics = true ∧ cell.cls = c ∧ f.slot < cell.slots.size ∧ k.staticTypes[f.slot]? = some f.type ∧ ¬ A a
theorem LZ.moved {C n d : String} {A : Nat → Prop} {u U : State} {H : Heap} (hvm : u.vm.Alike U.vm) (h : LZ C n d A u H) : LZ C n d A U H := by
  obtain ⟨c, k, i, f, a, cell, h0, h1, h2, h3, h4⟩ := h
  obtain ⟨k', hi', he⟩ := State.fieldFound?_setVm hvm h1
  exact ⟨c, k', i, f, a, cell, by rw [hvm.findClass]; exact h0, hi', h2, by rw [he]; exact h3, h4.1, h4.2.1, h4.2.2.1, h4.2.2.2.1, by rw [he]; exact h4.2.2.2.2.1, h4.2.2.2.2.2⟩
theorem LZ.kept {C n d : String} {A : Nat → Prop} {U : State} {H H1 : Heap} (h : LZ C n d A U H) (hq : ∀ a : Nat, a < H.size → ¬ A a → H1[a]? = H[a]?) : LZ C n d A U H1 := by
  obtain ⟨c, k, i, f, a, cell, h0, h1, h2, h3, h5, h6, h7, h8, h9, h10⟩ := h
  exact ⟨c, k, i, f, a, cell, h0, h1, h2, h3, by rw [hq a (Array.getElem?_eq_some_iff.mp h5).1 h10]; exact h5, h6, h7, h8, h9, h10⟩
theorem LZ.narrow {C n d : String} {A B : Nat → Prop} {U : State} {H : Heap} (h : LZ C n d A U H) (hAB : ∀ q, B q → A q) : LZ C n d B U H := by
  obtain ⟨c, k, i, f, a, cell, h0, h1, h2, h3, h5, h6, h7, h8, h9, h10⟩ := h
  exact ⟨c, k, i, f, a, cell, h0, h1, h2, h3, h5, h6, h7, h8, h9, fun z => h10 (hAB a z)⟩
theorem LZ.of {args : Array Value} {s : State} {C n d : String} {A : Nat → Prop} (hl : (Cond.laysStatic C n d).before args s = true) (hA : ∀ a : Nat, a < s.heap.size → ¬ A a) : LZ C n d A s s.heap := by
  obtain ⟨c, k, i, f, a, cell, hc, hi, hst, ha, hcell, hs, hcls, hlt, hty⟩ := Cond.laysStatic_spec hl
  exact ⟨c, k, i, f, a, cell, hc, hi, hst, ha, hcell, hs, hcls, hlt, hty, hA a (Array.getElem?_eq_some_iff.mp hcell).1⟩
theorem LZ.word {args : Array Value} {s : State} {C n d : String} {A : Nat → Prop} (h : LZ C n d A s s.heap) : (Cond.laysStatic C n d).before args s = true := by
  obtain ⟨c, k, i, f, a, cell, h0, h1, h2, h3, h5, h6, h7, h8, h9, -⟩ := h
  simp [Cond.before, Cond.holds, Cond.value, h0, h1, h2, h3, h5, h6, h7, h8, h9]
abbrev tC : String := "java/lang/Throwable"
abbrev tU : String := "UNASSIGNED_STACK"
abbrev tUd : String := "[Ljava/lang/StackTraceElement;"
abbrev tS : String := "SUPPRESSED_SENTINEL"
abbrev tSd : String := "Ljava/util/List;"
def TZ (A : Nat → Prop) (U : State) (H : Heap) : Prop := va_Zq tC tU tUd A U H ∧ va_Zq tC tS tSd A U H ∧ LZ tC tU tUd A U H ∧ LZ tC tS tSd A U H
theorem TZ.moved {A : Nat → Prop} {u U : State} {H : Heap} (hvm : u.vm.Alike U.vm) (h : TZ A u H) : TZ A U H := ⟨h.1.moved hvm, h.2.1.moved hvm, h.2.2.1.moved hvm, h.2.2.2.moved hvm⟩
theorem TZ.kept {A : Nat → Prop} {U : State} {H H1 : Heap} (h : TZ A U H) (hq : ∀ a : Nat, a < H.size → ¬ A a → H1[a]? = H[a]?) : TZ A U H1 := ⟨h.1.kept hq, h.2.1.kept hq, h.2.2.1.kept hq, h.2.2.2.kept hq⟩
theorem TZ.narrow {A B : Nat → Prop} {U : State} {H : Heap} (h : TZ A U H) (hAB : ∀ q, B q → A q) : TZ B U H := ⟨h.1.narrow hAB, h.2.1.narrow hAB, h.2.2.1.narrow hAB, h.2.2.2.narrow hAB⟩
theorem Zq_ref {C n d : String} {A : Nat → Prop} {U : State} {a : Array Value} (h : va_Zq C n d A U U.heap) : (Cond.isRef (.static C n d)).before a U = true := by
  rcases h with ⟨cf, kf, fi, f, ad, cell, h1, h2, h3, h4, h5, h6, h7, -⟩ | ⟨t, cf, kf, fi, f, ad, cell, h1, h2, h3, h4, h5, h6, h7, -⟩ <;>
  simp [Cond.before, Cond.holds, Cond.value, Term.eval, State.fieldNamed?, h1, h2, h4, h5, h6, h7, Value.isRef]
def upN : List String := ["java/lang/RuntimeException", "java/lang/Exception"]
theorem mem_zip {L : List Cond} {I : List Nat} {P : Cond → Prop} (hl : L.length ≤ I.length) (h : ∀ q ∈ L.zip I, P q.1) : ∀ a ∈ L, P a := by
  induction L generalizing I with
  | nil => intro a ha; cases ha
  | cons x L ih =>
    cases I with
    | nil => simp at hl
    | cons i I =>
      intro a ha
      rcases List.mem_cons.mp ha with rfl | ha
      · exact h (a, i) (by simp)
      · exact ih (by simpa using hl) (fun q hq => h q (by simp [hq])) a ha
def exW : List Cond := [.isRef (.static tC tU tUd), .isRef (.static tC tS tSd), .laysStatic tC tU tUd, .laysStatic tC tS tSd]
theorem ex_ok {A : Nat → Prop} {a : Array Value} {U : State} (h : TZ A U U.heap) : ∀ w ∈ exW, w.before a U = true := by
  intro w hw
  simp only [exW, List.mem_cons, List.not_mem_nil, or_false] at hw
  rcases hw with rfl | rfl | rfl | rfl
  · exact Zq_ref h.1
  · exact Zq_ref h.2.1
  · exact h.2.2.1.word
  · exact h.2.2.2.word
def okW (q : Cond × Nat) : Bool := (decide (lw_tbl[q.2]? = some q.1) && (goodWord q.1 || isT q.1)) || decide (q.1 ∈ exW)
def TC (own : String) (ic : Nat) (E : String) : Prop := ∀ a ∈ Bundle.ownAtoms own ic E upN, a ∈ BIG ∨ a ∈ TWL ∨ a ∈ exW
theorem tc_of {own : String} {ic : Nat} {E : String} {I : List Nat} (hl : (Bundle.ownAtoms own ic E upN).length ≤ I.length) (h : ((Bundle.ownAtoms own ic E upN).zip I).all okW = true) : TC own ic E :=
  mem_zip hl (fun q hq => by
    have := List.all_eq_true.mp h q hq
    simp only [okW, Bool.or_eq_true, Bool.and_eq_true, decide_eq_true_eq] at this
    rcases this with ⟨h1, h2 | h2⟩ | h1
    · exact Or.inl (mb (List.mem_of_getElem? h1) h2)
    · exact Or.inr (Or.inl (twm (List.mem_of_getElem? h1) h2))
    · exact Or.inr (Or.inr h1))
/-- what a throwing method does: it threw an object of E; every cell that was there is as it was -/
def QcT (E : String) : Array Value → State → Outcome → State → Prop := fun _ st o t => ∃ (a : Nat) (ce : Cell), o = .threw a ∧ t.heap[a]? = some ce ∧ st.vm.findClass E = some ce.cls ∧ ce.vm = .none ∧ st.heap.size ≤ t.heap.size ∧ ∀ q : Nat, q < st.heap.size → t.heap[q]? = st.heap[q]?
def MQT (below : List Frame) (E : String) (a : Array Value) (s : State) : State → Prop := fun t => ∃ o, t.status = .running ∧ Ended t below o ∧ QcT E a s o t ∧ FrameEndT s o t [] 1 6
def MetT (l : Launch) (y : MethodName) (ws : List Cond) (rm : Room) (Pc : Array Value → State → Prop) (E : String) : Prop :=
  MetFree l y (headSpec ws rm) Pc (fun _ _ _ _ _ => True) (fun a st o t => QcT E a st o t ∧ FrameEndT st o t [] 1 6)
/-- what a method needs to throw, at its start -/
def FX (e : Env) (c : Code) (s : State) : Prop := e.platform.stackTraces = false ∧ c.exceptionTable.toList = [] ∧ TW s ∧ SR s ∧ TZ no s s.heap
def PcT (av : List Value) (D : va_G) (tys : List (ClassId × FieldType)) (w : va_W) : Array Value → State → Prop := va_Pc av (fun U => va_P D vwCl w U.heap ∧ KK D tys U ∧ TW U ∧ SR U ∧ TZ no U U.heap)
theorem same_cells {s t : State} {k n : Nat} (h : s.sameButNew t [] k n) : s.heap.size ≤ t.heap.size ∧ ∀ q : Nat, q < s.heap.size → t.heap[q]? = s.heap[q]? := by
  refine ⟨h.2.1, fun q hq => ?_⟩
  obtain ⟨c', h1, h2, h3, h4⟩ := h.2.2.2.2.2 q _ (Array.getElem?_eq_getElem hq)
  rw [h1, Array.getElem?_eq_getElem hq]
  have : c'.slots = (s.heap[q]'hq).slots := Array.ext_getElem? fun i => h4 i (by simp)
  rw [h2, this]
section JT
variable {p : Program} {l : Launch} {e : Env} {R : Room} {s : State} {m : MethodId} {args : Array Value} {below : List Frame} {meth : Method} {c : Code} {D : va_G} {A : Nat → Prop} {X : va_W → Prop} {nL : Nat} {Q : State → Prop} {cells slots : Nat} {ws : va_W} {lv : List (Nat × Value)} {st : List Value} {pc : Nat}
variable {tys : List (ClassId × FieldType)} {cc : ByteArray}
variable {own : String}
theorem j_throw (C : Cx p s m args meth c D tys cc nL own) (ho : own = "MaskLayers") (hF : FX e c s) {ik il ic : Nat} {E tx : String} (hfit : Bundle.fit E = true) (hat : TC own ic E) (hcl : Cond.classLink own ik E ∈ BIG) (hins : Cond.instantiable E 6 ∈ BIG) (hini : Cond.initialized E ∈ BIG) (hst : (il, tx) ∈ SRL)
    (d0 : decode cc pc = .ok (.new ik, 3)) (d1 : decode cc (pc + 3) = .ok (.dup, 1)) (d2 : decode cc (pc + 4) = .ok (.ldc il, 2)) (d3 : decode cc (pc + 6) = .ok (.invokespecial ic, 3)) (d4 : decode cc (pc + 9) = .ok (.athrow, 1))
    (hfr : 5 < R.frames) (hlo : 100 ≤ R.locals) (hc : 1 ≤ R.cells) (hs : 6 ≤ R.slots) : J p l e R s m args below meth c D no X nL (MQT below E args s) 0 0 ws lv [] pc := by
  intro H locs ls hP hX hS h T hT Xs
  subst ho
  have hlocs : locs = [] := by
    cases locs with
    | nil => rfl
    | cons x t => exact (hS.2.2 x (by simp)).elim
  subst hlocs
  have hloc : meth.locks = false := C.2.2.2
  have own' := C.1.2.2.2.1
  obtain ⟨vm₁, cX, kX, hfX, hkX, -, -, X₁, st1⟩ := Xs.newCold C.1.1 (C := E) (index := ik) (n := 6) own' (C.1.2.2.2.2 _ hcl) (C.1.2.2.2.2 _ hins) (C.1.2.2.2.2 _ hini) (g := F0 m pc ls []) rfl (by rw [C.1.2.1]; exact d0) (by omega) (by omega)
  generalize hT' : (T.setVm vm₁).pushCell { cls := cX, slots := kX.instanceTypes.map defaultValue, vm := .none } = T' at X₁ st1
  have hcellA : T'.heap[T.heap.size]? = some (freshCell cX kX) := by rw [← hT']; exact State.heap_pushCell_size _ _
  obtain ⟨sa, hZ⟩ := hF.2.2.2.1 (il, tx) hst
  obtain ⟨U, hsteps, hrun, hend, hW, hsame, ce, hce, K⟩ := X₁.ctorThrowS C.1.1 hF.1 (cls := E) (names := upN) (ic := ic) own' hfit (by decide +kernel)
    (fun y hy => by
      rcases hat y hy with h1 | h1 | h1
      · exact C.1.2.2.2.2 _ h1
      · exact hF.2.2.1 y h1 _
      · exact ex_ok hF.2.2.2.2 y h1)
    (fun y hy => by cases hy) hfX hkX hcellA (by rw [hT]; exact hS.1) (msg := .ref sa) rfl
    (g := F0 m (pc + 6) ls [.ref sa, .ref T.heap.size, .ref T.heap.size]) rfl (h.1.trans C.1.2.2.1.symm) rfl rfl (rest := []) rfl
    (by rw [C.1.2.1]; exact d3) (by rw [C.1.2.1]; exact d4) (fun x hx => by rw [hF.2.1] at hx; cases hx) (by simp only [upN, List.length_cons, List.length_nil]; omega) (by simp only [upN, List.length_cons, List.length_nil, List.map_cons, List.map_nil, List.sum_cons, List.sum_nil, Value.category]; omega)
  have hsc := same_cells hsame
  refine ⟨U, ?_, .threw T.heap.size, hrun, hend, ⟨_, ce, rfl, hce, K.cls, K.vm, hsc.1, hsc.2⟩, ⟨_, rfl⟩, hW, hsame.mono (by omega) (by omega)⟩
  refine st1 _ ?_
  show Steps p.tables e below (T'.setTop { method := m, pc := pc + 3, locals := ls, stack := [.ref T.heap.size], locked := none }) _
  jvm_step X₁.here [X₁.here.top, C.1.1, C.1.2.1, d1, Value.category]
  exact X₁.ldcString C.1.1 own' hZ.1 hZ.2 (g := F0 m (pc + 4) ls [.ref T.heap.size, .ref T.heap.size]) rfl (by rw [C.1.2.1]; exact d2) _ hsteps
end JT
theorem PcT.blind {D : va_G} {tys : List (ClassId × FieldType)} {av : List Value} {w : va_W} : FrameBlind (PcT av D tys w) := fun a U g mk q => ⟨q.1, q.2.1, KK.blind g mk a q.2.2.1, TW.same (u := U) (U := U.calling g mk a) rfl q.2.2.2.1, SR.same (u := U) (U := U.calling g mk a) rfl q.2.2.2.2.1, TZ.moved (u := U) (U := U.calling g mk a) (Vm.Alike.refl U.vm) q.2.2.2.2.2⟩
theorem met_T {l : Launch} (hl : l.stackTraces = false) {y : MethodName} {cc : ByteArray} {maxL : Nat} {rt : FieldType} {rm : Room} {av : List Value} {D : va_G} {tys : List (ClassId × FieldType)} {w : va_W} {E : String} (hy : plainName y.cls = true) (hlen : (lg_sl av).length ≤ maxL)
    (body : ∀ (p : Program) (e : Env) (s : State) (m : MethodId) (args : Array Value) (below : List Frame) (meth : Method) (c : Code), FX e c s → Cx p s m args meth c D tys cc maxL y.cls → J p l e rm s m args below meth c D no (fun _ => True) maxL (MQT below E args s) 0 0 w (lv_args 0 av) [] 0) : MetT l y (Cond.code y cc maxL (some rt) :: BIG) rm (PcT av D tys w) E := by
  refine MetFree.of_bodyS (code := cc) (maxLocals := maxL) (ret := some rt) hy ?_ ?_
  · intro args s m h hn
    obtain ⟨meth, c, h1, h2, h3, h4, h5, h6, -, -⟩ := Cond.code_spec hn (atoms_spec (ws := Cond.code y cc maxL (some rt) :: BIG) h _ List.mem_cons_self)
    exact ⟨meth, c, h1, h2, h3, h4, h5, h6⟩
  · intro p e s m args below meth c s₁ B hml hv _
    have hh0 : s₁.heap = s.heap := by rw [B.state]; rfl
    obtain ⟨rfl, hP, hKK, hTW, hSR, hTZ⟩ := hv
    have hts := atoms_spec (ws := Cond.code y cc maxL (some rt) :: BIG) B.pre
    have hown : s.vm.findClass y.cls = some m.cls := findClass_of_methodNamed B.named
    have hl1 := lv_entry av (n := maxL) hlen
    have hno : c.exceptionTable.toList = [] := by
      have := B.noHandlers (hts _ List.mem_cons_self)
      simpa using this
    have X := Stand.of_body B
    have htr : e.platform.stackTraces = false := by rw [X.admits.platform]; exact hl
    have hb := body p e s m _ below meth c ⟨htr, hno, hTW, hSR, hTZ⟩ ⟨⟨B.exec, B.bytes, hml, hown, fun w hw => hts w (List.mem_cons_of_mem _ hw)⟩, hKK.1, hKK.2, B.notSynchronized⟩ s.heap [] _ hP trivial va_S.rf hl1
    rw [← lg_entry_eq] at hb
    obtain ⟨t, a1, o, b1, b2, b3⟩ := hb s₁ hh0 X
    exact ⟨t, o, a1, b1, b2, b3⟩
def NCq (X Y : String) (U : State) : Prop := ∃ cX cY : ClassId, U.vm.findClass X = some cX ∧ U.vm.findClass Y = some cY ∧ U.vm.assignable cX cY = false
theorem NCq.of {X Y : String} {a : Array Value} {U : State} (h : (Cond.not (.castable X Y)).before a U = true) : NCq X Y U := by
  have hv := Cond.holds_not_iff.mp h
  simp only [Cond.value] at hv
  cases h1 : U.vm.findClass X with
  | none => simp [h1] at hv
  | some cX =>
    cases h2 : U.vm.findClass Y with
    | none => simp [h1, h2] at hv
    | some cY => exact ⟨cX, cY, h1, h2, by simpa [h1, h2] using hv⟩
theorem NCq.moved {X Y : String} {u U : State} (hvm : u.vm.Alike U.vm) (h : NCq X Y u) : NCq X Y U := by
  obtain ⟨cX, cY, h1, h2, h3⟩ := h
  exact ⟨cX, cY, by rw [hvm.findClass]; exact h1, by rw [hvm.findClass]; exact h2, by rw [hvm.assignable]; exact h3⟩
def tup (h : ExceptionTableEntry) : Nat × Nat × Nat × Nat := (h.startPc, h.endPc, h.handlerPc, h.catchType)
theorem hd_split : ∀ {L : List ExceptionTableEntry} {hs : List (Nat × Nat × Nat × Nat)} (k : Nat) {q : Nat × Nat × Nat × Nat}, L.map tup = hs → hs[k]? = some q → ∃ pre x rest, L = pre ++ x :: rest ∧ tup x = q ∧ ∀ y ∈ pre, tup y ∈ hs.take k := by
  intro L
  induction L with
  | nil => intro hs k q h hq; subst h; simp at hq
  | cons x L ih =>
    intro hs k q h hq
    subst h
    cases k with
    | zero => exact ⟨[], x, L, rfl, by simpa using hq, fun y hy => by cases hy⟩
    | succ k =>
      obtain ⟨pre, z, rest, h1, h2, h3⟩ := ih k rfl (by simpa using hq)
      refine ⟨x :: pre, z, rest, by rw [h1]; rfl, h2, fun y hy => ?_⟩
      rcases List.mem_cons.mp hy with rfl | hy
      · simp
      · simp only [List.map_cons, List.take_succ_cons]; exact List.mem_cons_of_mem _ (h3 y hy)
section JC
variable {p : Program} {l : Launch} {e : Env} {R : Room} {s : State} {m : MethodId} {args : Array Value} {below : List Frame} {meth : Method} {c : Code} {D : va_G} {A : Nat → Prop} {X : va_W → Prop} {nL : Nat} {Q : State → Prop} {cells slots : Nat} {ws : va_W} {lv : List (Nat × Value)} {st : List Value} {pc : Nat}
variable {tys : List (ClassId × FieldType)} {cc : ByteArray}
variable {own : String}
theorem back_T {R : Room} {s : State} {args : Array Value} {below : List Frame} {p : Program} {e : Env} {y : MethodName} {ws' : List Cond} {rm : Room} {Pc : Array Value → State → Prop} {E : String} {bytes : ByteArray} {maxL n index : Nat} {ret : Option FieldType} {own : String} (cb : CallB R s args own index y bytes maxL ret ws' rm 1 6 n) (hM : MetT l y ws' rm Pc E) (hblind : FrameBlind Pc) :
    BackT l R p e below s args y 3 8 (PreOf R 1 6 Pc) (fun A a x B => ∃ (g : JFrame) (mk : MethodId) (t : State), B.U.heap = t.heap ∧ B.U.vm = t.vm ∧ QcT E a (A.U.calling g mk a) (.threw x) t ∧ B.locs = A.locs ++ [] ∧ B.cells = A.cells + 1 ∧ B.slots = A.slots + 6) := by
  obtain ⟨hrc, hrs, hframes, hlocals, hws, hcode, -, hini, -⟩ := cb
  refine BackT.of_free (S := headSpec ws' rm) (P := Pc) (K := fun _ _ _ _ _ => True) (Q := fun a st o t => QcT E a st o t ∧ FrameEndT st o t [] 1 6) (bytes := bytes) (maxL := maxL) (ret := ret)
    (E := fun a st o t L k n => k = 1 ∧ n = 6 ∧ L = []) hM hframes hlocals ?_ ?_ (fun _ _ _ _ _ _ _ _ _ => trivial) ?_ ?_
  · intro m meth c A a X hp
    exact ⟨atoms_intro fun w hw => hws w hw _ _ X.warmed, hws _ hcode _ _ X.warmed, word_at X.warmed (Or.inl (by first | rfl | simp [Cond.onTables, Cond.keeps, Cond.steady])) hini, by rw [show (headSpec ws' rm).room.cells = 1 from hrc]; exact hp.1, by rw [show (headSpec ws' rm).room.slots = 6 from hrs]; exact hp.2.1⟩
  · intro m meth c A a g mk X hp
    exact hblind _ _ _ _ hp.2.2
  · intro a st o t ⟨hq, hF⟩
    exact ⟨[], 1, 6, hF, rfl, rfl, rfl⟩
  · intro m meth c A a g mk v t L k n X hp hq hF ⟨e1, e2, hL⟩
    subst e1; subst e2; subst hL
    exact ⟨g, mk, t, rfl, rfl, hq.1, rfl, rfl, rfl⟩
/-- a call of a method that throws, caught here: on to the handler -/
theorem j_TV (C : Cx p s m args meth c D tys cc nL own) {hs : List (Nat × Nat × Nat × Nat)} (hh : c.exceptionTable.toList.map tup = hs) (hTW : TW s) (hA : ∀ q, s.heap.size ≤ q → A q) (hTX : SR s ∧ TZ A s s.heap) {y : MethodName} {bytes : ByteArray} {maxL n index : Nat} {ret : Option FieldType} {rm : Room} {b : Nat} (As : List Value) {rest st0 : List Value} {wc : va_W} {E : String} (q0 : Nat) {ci : Nat} {fs : List Value} {qc : vw_C} (he : ws[q0]? = some (b, .inr (ci, fs))) (hc : vwCl[ci]? = some qc)
    (hM : MetT l y (Cond.code y bytes maxL ret :: BIG) rm (PcT (.ref b :: As) D tys wc) E) (cw : CallW R s args own qc.1 index y bytes maxL ret (Cond.code y bytes maxL ret :: BIG) rm 1 6 n) (is : List Nat) (hsub : is.map (fun i => ws[i]?) = wc.map some) (hn : As.length = n) (hst : st0 = As.reverse ++ .ref b :: rest) (hW : (rest.map fun v => v.category).sum ≤ 8) (d : decode cc pc = .ok (.invokevirtual index, 3)) (hf : cells + 1 ≤ R.cells ∧ slots + 6 ≤ R.slots)
    (k0 : Nat) {f0 t0 hp ct : Nat} (hq : hs[k0]? = some (f0, t0, hp, ct)) (hcov : f0 ≤ pc ∧ pc < t0) (hct : ct ≠ 0) (hlink : Cond.classLink own ct E ∈ BIG) (hcast : Cond.castable E E ∈ TWL) (hpass : ∀ q ∈ hs.take k0, q.2.2.2 ≠ 0 ∧ ∃ N, Cond.classLink own q.2.2.2 N ∈ BIG ∧ NCq E N s)
    (k : ∀ a : Nat, J p l e R s m args below meth c D A (va_D A) nL Q (cells + 1) (slots + 6) ws lv [.ref a] hp) : J p l e R s m args below meth c D A (va_D A) nL Q cells slots ws lv st0 pc := by
  subst hst
  intro H locs ls hP hD hS h T hT X
  have hK := back_T (p := p) (e := e) (below := below) cw.1 hM PcT.blind
  obtain ⟨⟨-, -, -, -, -, -, hcode, -, hy, hlen, hl⟩, hin, hse⟩ := cw
  obtain ⟨hx, hb, hml, ho, hwd⟩ := C.1
  obtain ⟨cellB, hcB, hoB, hclB⟩ := va_recv C.2.1 hP hc he
  obtain ⟨mk, methM, hnamed, hmethM, hstM, habM⟩ := Cond.instanceMethod_spec hin
  obtain ⟨methM', cM, hmethM', -, -, -, -, -, -, hsigM⟩ := Cond.code_spec hnamed hcode
  cases hmethM.symm.trans hmethM'
  obtain ⟨c2, r2, m2, q1, q2, q3, q4, kP, hkP, hkPi⟩ := Cond.selects_spec hse
  cases hclB.symm.trans q1
  cases (State.methodFound?_of_named hnamed hy).symm.trans q2
  cases hnamed.symm.trans q3
  have hselP : selectMethod e.platform s.vm cellB.cls mk = .method mk := by rw [Launch.admits_selectMethod X.admits]; exact q4
  obtain ⟨vm₁, X₁, hstep₁⟩ := X.invokevirtual hx ho hl hnamed hmethM hstM hkP hkPi hy (a := b) (cell := cellB) (by rw [hT]; exact hcB)
    (fun z h => by rw [h] at hoB; cases hoB) hselP hmethM habM hkP hkPi (g := F0 m pc ls (As.reverse ++ .ref b :: rest)) rfl (argsL := As) (rest := rest) (hn.trans (hlen _ hsigM)) rfl (by rw [hb]; exact d)
  have hPc : PcT (.ref b :: As) D tys wc (Value.ref b :: As).toArray (T.setVm vm₁) := ⟨rfl, by show va_P D vwCl wc T.heap; rw [hT]; exact P_map hP is hsub, C.kk.moved X₁.warmed, hTW.moved X₁.warmed, hTX.1.moved X₁.warmed, by show TZ no (T.setVm vm₁) T.heap; rw [hT]; exact ((hTX.2.kept hS.2.1).narrow (fun _ z => z.elim)).moved X₁.warmed.alike⟩
  obtain ⟨x, ⟨U', l2, c3, s3⟩, X', ⟨g', mk', t, e1, e2, ⟨a, ce, ha, hce, hfe, hvm, hsz, hold⟩, h1, h2, h3⟩, hsteps⟩ := hK m meth c ⟨T.setVm vm₁, locs, cells, slots⟩ (F0 m pc ls rest) (.invokevirtual index) mk (Value.ref b :: As).toArray X₁ rfl (h.1.trans hml.symm) (by rw [hb]; exact d) (by simp only [Nat.mul_zero, Nat.zero_add]; exact hW) (X₁.named hnamed) ⟨hf.1, hf.2, hPc⟩
  dsimp only [Pt.U, Pt.locs, Pt.cells, Pt.slots] at X' e1 e2 h1 h2 h3 hsteps hce hfe hsz hold
  subst h1; subst h2; subst h3
  cases ha
  rw [List.append_nil] at X'
  have hheap : U'.heap = t.heap := e1
  have hTh : ((T.setVm vm₁).calling g' mk' (Value.ref b :: As).toArray).heap = H := hT
  rw [hTh] at hsz hold
  have hfe' : s.vm.findClass E = some ce.cls := by
    have : ((T.setVm vm₁).calling g' mk' (Value.ref b :: As).toArray).vm = vm₁ := rfl
    have hal : s.vm.Alike vm₁ := X₁.warmed.alike
    rw [this, hal.findClass] at hfe
    exact hfe
  obtain ⟨cA, cB, hcA, hcB', hasg⟩ := Cond.castable_spec (hTW _ hcast args)
  cases hfe'.symm.trans hcA
  cases hfe'.symm.trans hcB'
  obtain ⟨pre, xx, rest', hsp, htx, hpre⟩ := hd_split k0 hh hq
  have hce' : U'.heap[x]? = some ce := by rw [hheap]; exact hce
  have hpl : e.platform.magicAccessors = ({} : Platform).magicAccessors := by rw [X'.admits.platform]
  have hxc : xx.catchType = ct := congrArg (fun q => q.2.2.2) htx
  have hxh : xx.handlerPc = hp := congrArg (fun q => q.2.2.1) htx
  have hxs : xx.startPc = f0 := congrArg (fun q => q.1) htx
  have hxe : xx.endPc = t0 := congrArg (fun q => q.2.1) htx
  obtain ⟨hrc, hk0⟩ := X'.catches_of_link ho (x := xx) (name := E) (by rw [hxc]; exact hct) (by rw [hxc]; exact hwd _ hlink) hfe' hasg
  obtain ⟨vm', XV, stV⟩ := X'.caughtThrough x (g := F0 m pc ls rest) rfl hce' (by rw [hvm]; rfl) hk0 pre xx rest' hsp
    (fun y hy => by
      obtain ⟨z0, N, zl, cX, cY, z1, z2, z3⟩ := hpass _ (hpre y hy)
      cases hfe'.symm.trans z1
      obtain ⟨c', hc', hcl⟩ := Cond.classLink_spec ho (hwd _ zl) e.platform hpl
      cases z2.symm.trans hc'
      exact Or.inr ⟨z0, cY, hcl, z3⟩)
    (by simp [covers, hxs, hxe, hcov.1, hcov.2]) hrc
  have hP' : va_P D vwCl ws U'.heap := by rw [hheap]; exact fun i q hq' => (hP i q hq').kept (hold q.1 (hP i q hq').lt)
  have hS' : va_S A s.heap U'.heap locs := ⟨by rw [hheap]; have := hS.1; omega, fun q h1 h2 => by rw [hheap, hold q (Nat.lt_of_lt_of_le h1 hS.1)]; exact hS.2.1 q h1 h2, hS.2.2⟩
  obtain ⟨tt, a1, b1⟩ := k x U'.heap locs ls hP' hD hS' h (U'.setVm vm') rfl XV
  refine ⟨tt, ?_, b1⟩
  refine hstep₁ _ fun acts => ?_
  rw [doInvoke_state]
  refine hsteps.trans ?_
  rw [X'.pushThrowing_eq]
  refine stV _ ?_
  rw [hxh]
  exact a1
end JC
theorem tc_92 : TC "MaskLayers" 92 "java/lang/IndexOutOfBoundsException" := tc_of (I := [71, 435, 444, 449, 452, 454, 436, 437, 86, 87, 438, 443, 450, 470, 425, 471, 427, 472, 429, 439, 440, 441, 442, 431, 466, 467, 469, 431, 457, 458, 459, 460, 417, 460, 461, 462, 463, 419, 463, 464, 465, 466, 421, 456, 414, 415, 422, 423, 424, 426, 428, 430, 1137, 1137, 434, 433, 432]) (by decide +kernel) (by decide +kernel)
theorem tc_100 : TC "MaskLayers" 100 "java/lang/IllegalArgumentException" := tc_of (I := [71, 435, 444, 449, 452, 454, 436, 437, 86, 87, 438, 443, 450, 470, 425, 471, 427, 472, 429, 439, 440, 441, 442, 431, 466, 467, 469, 431, 494, 495, 496, 460, 417, 460, 461, 462, 463, 419, 463, 464, 465, 466, 421, 493, 484, 485, 486, 446, 487, 488, 489, 490, 1137, 1137, 434, 433, 491]) (by decide +kernel) (by decide +kernel)
theorem tc_129 : TC "MaskLayers" 129 "java/lang/IllegalStateException" := tc_of (I := [71, 435, 444, 449, 452, 454, 436, 437, 86, 87, 438, 443, 450, 470, 425, 471, 427, 472, 429, 439, 440, 441, 442, 431, 466, 467, 469, 431, 637, 638, 639, 460, 417, 460, 461, 462, 463, 419, 463, 464, 465, 466, 421, 636, 627, 628, 629, 447, 630, 631, 632, 633, 1137, 1137, 434, 433, 634]) (by decide +kernel) (by decide +kernel)
theorem tc_171 : TC "MaskLayers" 171 "java/lang/UnsupportedOperationException" := tc_of (I := [71, 435, 444, 449, 452, 454, 436, 437, 86, 87, 438, 443, 450, 470, 425, 471, 427, 472, 429, 439, 440, 441, 442, 431, 466, 467, 469, 431, 798, 799, 800, 460, 417, 460, 461, 462, 463, 419, 463, 464, 465, 466, 421, 797, 788, 789, 790, 448, 791, 792, 793, 794, 1137, 1137, 434, 433, 795]) (by decide +kernel) (by decide +kernel)
