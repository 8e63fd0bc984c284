/-! THE CLAIM OUT OF ONE WALK OF THE LAW'S BODY. Your part is whole_start (and what it stands on); all else here is the same for every law, but numbers. -/
def R_law : String := "MaskLayersLaw"
def lw_P (b : Addr) (xs : List Int32) (args : Array Value) (s : State) : Prop := args = #[.ref b] ∧ s.IntsAt b xs ∧ xs.length ≤ 2562 ∧ (Jvm.Cond.and given_1 narrow_1).before args s = true
def lw_Q (_ : Array Value) (s : State) (o : Outcome) (t : State) : Prop := o = .returned (some (.int 1)) ∧ Framed s o t [] 601024 7293000
def lw_Z (below : List Frame) (a : Array Value) (s : State) : State → Prop := fun t => ∃ o, t.status = .running ∧ Ended t below o ∧ lw_Q a s o t
/-- the law's own end, with 1 on the stack, nothing written that was there before, its room as the claim has it -/
theorem lw_ret {p : Program} {l : Launch} {e : Env} {s : State} {m : MethodId} {below : List Frame} {meth : Method} {c : Code} {b : Nat} (hx : p.tables.exec = Jvm.exec) (hb : c.code = code) (hr : meth.sig.returnType = ret) (hlocks : meth.locks = false) {pc : Nat} {H : Heap} {ls : Array Slot} (hdg : decode code pc = .ok (.ireturn, 1)) : W p l e room_1 s m #[Value.ref b] below meth c H [] 601024 7293000 (lw_Z below #[Value.ref b] s) (F0 m pc ls [.int 1]) := by
  intro T hT X
  obtain ⟨fs, hret, hrun, hended, hW, hframe⟩ := X.leave (v := some (.int 1)) (hlocks := hlocks) (fun h => by rw [hr] at h; cases h)
  have hmeth' : T.vm.method? m = some meth := X.method'
  refine ⟨T.setFrames fs, ?_, .returned (some (.int 1)), hrun, hended, rfl, ⟨_, rfl⟩, hW, hframe⟩
  jvm_step X.here [X.here.top, hx, hb, hdg, hmeth', hr, ret, narrow_b1]
  (try refine ⟨rfl, ?_⟩); (try refine ⟨rfl, ?_⟩)
  first | (intro acts; rw [hret _ acts rfl rfl rfl]) | rw [hret _ _ rfl rfl rfl]
  exact Steps.refl _
/-- what holds at the law's entry: the machine, the code, the tables' words (any of lw_tbl by 'hts w (by decide +kernel)'), the script of L ints xs at the cell b, what the Statement gives of the start (any of its parts by flat_of_before) -/
def lw_At (p : Program) (s : State) (m : MethodId) (meth : Method) (c : Code) (b L : Nat) (xs : Nat → Int32) : Prop :=
  p.tables.exec = Jvm.exec ∧ c.code = code ∧ meth.sig.returnType = ret ∧ c.maxLocals = 7 ∧ s.vm.findClass R_law = some m.cls ∧ (∀ w ∈ lw_tbl, w.before #[Value.ref b] s = true) ∧ va_X b L xs s s.heap ∧ b < s.heap.size ∧ meth.locks = false ∧ (Jvm.Cond.and given_1 narrow_1).before #[Value.ref b] s = true
/-! ===== the start: what the Statement gives ===== -/
theorem arr_known {ty : FieldType} {a : Array Value} {s : State} (h : (Cond.arrayClass ty).before a s = true) (hn : ∀ C, ty ≠ .object C) : ∃ cA : ClassId, ArrOfT s cA ty ∧ va_RA s cA ty := by
  obtain ⟨c, k, comp, h1, h2, h3⟩ := Cond.arrayClass_spec h
  refine ⟨c, fun n z => ⟨fun k h => (by cases h), k, h2, comp, h3⟩, ?_⟩
  cases ty <;> first | exact h1 | exact absurd rfl (hn _)
theorem arr2_known {a : Array Value} {s : State} (h : (Cond.arrayOver (.array .int)).before a s = true) : ∃ cA : ClassId, ArrOfT s cA (.array .int) ∧ va_RA s cA (.array .int) := by
  obtain ⟨comp, c, k, -, -, h2, h3, h1⟩ := arrayOverA_spec h
  exact ⟨c, fun n z => ⟨fun k h => (by cases h), k, h2, comp, h3⟩, h1⟩
theorem head_known {nm : String} {f : Nat → Int32} {a : Array Value} {s : State} {A : Nat → Prop} (hl : (Cond.laysStatic "MaskLayers" nm "[I").before a s = true) (hini : (Cond.initialized "MaskLayers").before a s = true) (harr : (Cond.arrayOf (.static "MaskLayers" nm "[I") .int).before a s = true) (hlen : (Cond.eq (.length (.static "MaskLayers" nm "[I")) (.int 7)).before a s = true) (hel : ∀ j : Nat, j < 7 → (Cond.eq (.elem (.static "MaskLayers" nm "[I") (.int (Int32.ofNat j))) (.int (f j))).before a s = true) (hA : ∀ a : Nat, a < s.heap.size → ¬ A a) : ∃ t : Nat, va_Z "MaskLayers" nm "[I" (.ref t) A s s.heap ∧ va_T .int t 7 (fun j => .int (f j)) A s s.heap := by
  obtain ⟨t, h1, h2⟩ := va_Tof (N := 7) (f := fun j => .int (f j)) (A := A) (by decide) harr (va_eqt hlen) (fun j hj => va_eqt (hel j hj)) hA
  exact ⟨t, va_Zref hl hini h1 hA, h2⟩
def lwA (s : State) : Nat → Prop := fun q => s.heap.size ≤ q
theorem lw_known {p : Program} {s : State} {m : MethodId} {meth : Method} {c : Code} {b L : Nat} {xs : Nat → Int32} (C0 : lw_At p s m meth c b L xs) : ∃ (D : va_G) (cI cR cZ cJ : ClassId) (t1 t2 : Nat), KK D (tyG cI cR cZ) s ∧ HX D cJ t1 t2 (lwA s) s s.heap := by
  obtain ⟨hx, hb, hr, hml, hown, hts, hX, hbl, hlocks, hgv⟩ := C0
  have hs := flat_of_before _ hgv
  have hA : ∀ a : Nat, a < s.heap.size → ¬ lwA s a := fun a h1 h2 => Nat.lt_irrefl _ (Nat.lt_of_lt_of_le h1 h2)
  have hbig : ∀ w ∈ BIG, w.before #[Value.ref b] s = true := fun w hw => hts w (List.mem_filter.mp hw).1
  obtain ⟨c0, i0, k0⟩ := u_known (C := cn0) (T := cf0) (N := 2) hbig ch0 (hts (.instantiable "MaskLayers$ByteRow" 2) (List.mem_of_getElem? (i := 140) (by decide +kernel)))
  obtain ⟨c1, i1, k1⟩ := u_known (C := cn1) (T := cf1) (N := 8) hbig ch1 (hts (.instantiable "MaskLayers$Layers" 8) (List.mem_of_getElem? (i := 95) (by decide +kernel)))
  obtain ⟨c2, i2, k2⟩ := u_known (C := cn2) (T := cf2) (N := 4) hbig ch2 (hts (.instantiable "MaskLayers$Maker" 4) (List.mem_of_getElem? (i := 157) (by decide +kernel)))
  obtain ⟨c3, i3, k3⟩ := u_known (C := cn3) (T := cf3) (N := 5) hbig ch3 (hts (.instantiable "MaskLayers$Reader" 5) (List.mem_of_getElem? (i := 189) (by decide +kernel)))
  obtain ⟨c4, i4, k4⟩ := u_known (C := cn4) (T := cf4) (N := 2) hbig ch4 (hts (.instantiable "MaskLayers$Writer" 2) (List.mem_of_getElem? (i := 176) (by decide +kernel)))
  obtain ⟨c5, i5, k5⟩ := u_known (C := cn5) (T := cf5) (N := 12) hbig ch5 (hts (.instantiable "MaskLayers" 12) (List.mem_of_getElem? (i := 81) (by decide +kernel)))
  obtain ⟨c6, i6, k6⟩ := u_known (C := cn6) (T := cf6) (N := 30) hbig ch6 (hts (.instantiable "MaskLayersModel" 30) (List.mem_of_getElem? (i := 841) (by decide +kernel)))
  obtain ⟨cI, iI1, iI2⟩ := arr_known (ty := .int) (hts _ (List.mem_of_getElem? (i := 138) (by decide +kernel))) (fun C h => by cases h)
  obtain ⟨cZ, iZ1, iZ2⟩ := arr_known (ty := .boolean) (hts _ (List.mem_of_getElem? (i := 937) (by decide +kernel))) (fun C h => by cases h)
  obtain ⟨cJ, iJ1, iJ2⟩ := arr_known (ty := .long) (hts _ (List.mem_of_getElem? (i := 1135) (by decide +kernel))) (fun C h => by cases h)
  obtain ⟨cR, iR1, iR2⟩ := arr2_known (hts _ (List.mem_of_getElem? (i := 101) (by decide +kernel)))
  have hK1 : ∀ (c : Nat) (q : vw_C), vwCl[c]? = some q → u_Kn s q.1 q.2.1 q.2.2 ((fun k => match k with | 0 => c0 | 1 => c1 | 2 => c2 | 3 => c3 | 4 => c4 | 5 => c5 | _ => c6 : Nat → ClassId) c) ((fun k => match k with | 0 => i0 | 1 => i1 | 2 => i2 | 3 => i3 | 4 => i4 | 5 => i5 | _ => i6 : Nat → Nat → Nat) c) := fun c q hq => by
    match c, hq with
    | 0, hq => cases hq; exact k0
    | 1, hq => cases hq; exact k1
    | 2, hq => cases hq; exact k2
    | 3, hq => cases hq; exact k3
    | 4, hq => cases hq; exact k4
    | 5, hq => cases hq; exact k5
    | 6, hq => cases hq; exact k6
    | c + 7, hq => simp at hq
  obtain ⟨t1, z1, y1⟩ := head_known (nm := "HEAD_LEAST") (f := hdLo) (A := lwA s) (hts _ (List.mem_of_getElem? (i := 195) (by decide +kernel))) (hts _ (List.mem_of_getElem? (i := 63) (by decide +kernel))) (hs _ (by decide +kernel)) (hs _ (by decide +kernel)) (fun j hj => by rcases (by omega : j = 0 ∨ j = 1 ∨ j = 2 ∨ j = 3 ∨ j = 4 ∨ j = 5 ∨ j = 6) with rfl | rfl | rfl | rfl | rfl | rfl | rfl <;> exact hs _ (by decide +kernel)) hA
  obtain ⟨t2, z2, y2⟩ := head_known (nm := "HEAD_MOST") (f := hdHi) (A := lwA s) (hts _ (List.mem_of_getElem? (i := 269) (by decide +kernel))) (hts _ (List.mem_of_getElem? (i := 63) (by decide +kernel))) (hs _ (by decide +kernel)) (hs _ (by decide +kernel)) (fun j hj => by rcases (by omega : j = 0 ∨ j = 1 ∨ j = 2 ∨ j = 3 ∨ j = 4 ∨ j = 5 ∨ j = 6) with rfl | rfl | rfl | rfl | rfl | rfl | rfl <;> exact hs _ (by decide +kernel)) hA
  refine ⟨(_, _), cI, cR, cZ, cJ, t1, t2, ⟨⟨hK1, fun k q hq => ?_⟩, fun w hw => ?_⟩, ⟨z1, y1, z2, y2⟩, fun w hw a => ?_, fun q hq => ?_, ⟨va_Zqof (hts _ (List.mem_of_getElem? (i := 440) (by decide +kernel))) (hts _ (List.mem_of_getElem? (i := 71) (by decide +kernel))) (hs _ (by decide +kernel)) hA, va_Zqof (hts _ (List.mem_of_getElem? (i := 442) (by decide +kernel))) (hts _ (List.mem_of_getElem? (i := 71) (by decide +kernel))) (hs _ (by decide +kernel)) hA, LZ.of (hts _ (List.mem_of_getElem? (i := 440) (by decide +kernel))) hA, LZ.of (hts _ (List.mem_of_getElem? (i := 442) (by decide +kernel))) hA⟩, fun q hq => ?_, ⟨hK1, fun k q hq => ?_⟩⟩
  · match k, hq with
    | 0, hq => cases hq; exact ⟨iI1, iI2⟩
    | 1, hq => cases hq; exact ⟨iZ1, iZ2⟩
    | 2, hq => cases hq; exact ⟨iR1, iR2⟩
    | k + 3, hq => simp [tyG] at hq
  · have hn := (List.mem_filter.mp hw).2
    have hz := hts w (List.mem_filter.mp hw).1
    cases w <;> first | (simp [isNest] at hn; done) | exact va_Nw.of rfl hz
  · have hn := (List.mem_filter.mp hw).2
    have hz := hts w (List.mem_filter.mp hw).1
    cases w <;> first | (simp [isT] at hn; done) | exact va_any rfl hz | (rename_i ty; cases ty <;> first | (simp [isT] at hn; done) | exact over_moved (Vm.Alike.refl _) hz)
  · have hm : Cond.stringRef "MaskLayers" q.1 q.2 ∈ lw_tbl := (by decide +kernel : ∀ q ∈ SRL, Cond.stringRef "MaskLayers" q.1 q.2 ∈ lw_tbl) q hq
    have hz := hts _ hm
    obtain ⟨cur, -, hcur, -⟩ := Cond.instantiable_spec (hts (.instantiable "MaskLayers" 12) (List.mem_of_getElem? (i := 81) (by decide +kernel)))
    obtain ⟨-, -, -, sa, -, -, -, -, -, hev⟩ := Cond.stringRef_spec hcur hz
    exact ⟨sa, vk_R.of hz hev⟩
  · have hm : Cond.not (.castable q.1 q.2) ∈ flatC (Jvm.Cond.and given_1 narrow_1) := (by decide +kernel : ∀ q ∈ NCL, Cond.not (.castable q.1 q.2) ∈ flatC (Jvm.Cond.and given_1 narrow_1)) q hq
    exact NCq.of (hs _ hm)
  · match k, hq with
    | 0, hq => cases hq; exact ⟨iJ1, iJ2⟩
    | k + 1, hq => simp at hq
