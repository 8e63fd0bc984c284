theorem arrV_ext {c : ClassId} {N : Nat} {f g : Nat → Value} (h : ∀ j, j < N → f j = g j) : arrV c N f = arrV c N g := by
  have e : (fun j : Fin N => f j.val) = fun j => g j.val := funext fun j => h j.val j.isLt
  unfold arrV
  rw [e]
theorem mu_outer (c : ClassId) (h0 : Nat) : Jvm.Free.Multi.outerC c 4 h0 4 = vp_cell c (4, .inr (.inr (.inr (.inr (fun j => some (h0 + 1 + j)))))) := by
  show (((({ cls := c, slots := Array.replicate 4 .null, vm := .none } : Cell).setSlot 0 (.ref (h0 + 1 + 0))).setSlot 1 (.ref (h0 + 1 + 1))).setSlot 2 (.ref (h0 + 1 + 2))).setSlot 3 (.ref (h0 + 1 + 3)) = _
  rw [arrV_new, arrV_store, arrV_store, arrV_store, arrV_store, vp_cell_q]
  refine arrV_ext fun j hj => ?_
  rcases (by omega : j = 0 ∨ j = 1 ∨ j = 2 ∨ j = 3) with rfl | rfl | rfl | rfl <;> rfl
theorem mu_inner (c : ClassId) (n : Nat) : Jvm.Free.Multi.innerC c n (defaultValue .int) = vp_cell c (n, .inl (fun _ => 0)) := by
  rw [vp_cell_i]
  exact arrV_new c n (.int 0)
def wMu (cI cR : ClassId) (q n : Nat) : va_W := [(q, .inl (cR, 4, .inr (.inr (.inr (.inr (fun j => some (q + 1 + j))))))), (q + 1, .inl (cI, n, .inl (fun _ => 0))), (q + 2, .inl (cI, n, .inl (fun _ => 0))), (q + 3, .inl (cI, n, .inl (fun _ => 0))), (q + 4, .inl (cI, n, .inl (fun _ => 0)))]
theorem wMu_at {cI cR : ClassId} {q n i : Nat} {x : Nat × va_E} (h : (wMu cI cR q n)[i]? = some x) : i < 5 ∧ x.1 = q + i := by
  match i, h with
  | 0, h => cases h; exact ⟨by decide, rfl⟩
  | 1, h => cases h; exact ⟨by decide, rfl⟩
  | 2, h => cases h; exact ⟨by decide, rfl⟩
  | 3, h => cases h; exact ⟨by decide, rfl⟩
  | 4, h => cases h; exact ⟨by decide, rfl⟩
  | i + 5, h => simp [wMu] at h
def PcW (t1 t2 : Nat) (av : List Value) (D : va_G) (tys : List (ClassId × FieldType)) (w : va_W) (sz : Nat) : Array Value → State → Prop := va_Pc av (fun U => U.heap.size = sz ∧ va_P D vwCl w U.heap ∧ KK D tys U ∧ va_D (fun _ => True) w ∧ SX t1 t2 (va_A w sz) U U.heap ∧ TW U)
theorem PcW.blind {t1 t2 : Nat} {av : List Value} {D : va_G} {tys : List (ClassId × FieldType)} {w : va_W} {sz : Nat} : FrameBlind (PcW t1 t2 av D tys w sz) := fun a U g mk q => ⟨q.1, q.2.1, q.2.2.1, KK.blind g mk a q.2.2.2.1, q.2.2.2.2.1, SX.same (u := U) (U := U.calling g mk a) (Vm.Alike.refl U.vm) q.2.2.2.2.2.1, TW.same (u := U) (U := U.calling g mk a) rfl q.2.2.2.2.2.2⟩
section MU
variable {p : Program} {l : Launch} {e : Env} {R : Room} {s : State} {m : MethodId} {args : Array Value} {below : List Frame} {meth : Method} {c : Code} {D : va_G} {A : Nat → Prop} {X : va_W → Prop} {nL : Nat} {Q : State → Prop} {cells slots : Nat} {ws : va_W} {lv : List (Nat × Value)} {st : List Value} {pc : Nat}
variable {tys : List (ClassId × FieldType)} {cc : ByteArray}
variable {own : String}
theorem j_multi (C : Cx p s m args meth c D tys cc nL own) (hA : ∀ q, s.heap.size ≤ q → A q) {index n t0 t2 : Nat} {cI cR : ClassId} (ht0 : tys[t0]? = some (cI, .int)) (ht2 : tys[t2]? = some (cR, .array .int)) (hTW : TW s) (hcl : Cond.classLink own index "[[I" ∈ BIG) (hov : Cond.arrayOver (.array .int) ∈ TWL) (har : Cond.arrayClass .int ∈ BIG) (hn : n ≤ 576) (hcells : cells + (1 + 4) ≤ R.cells) (hslots : slots + (4 + 4 * n) ≤ R.slots) (d : decode cc pc = .ok (.multianewarray index 2, 4)) (k : ∀ q : Nat, J p l e R s m args below meth c D A (va_D A) nL Q (cells + 1 + 4) (slots + 4 + 4 * n) (ws ++ wMu cI cR q n) lv (.ref q :: st) (pc + 4)) : J p l e R s m args below meth c D A (va_D A) nL Q cells slots ws lv (.int (nI n) :: .int 4 :: st) pc := by
  intro H locs ls hP hD hS h T hT Xs
  have e4 : (4 : Int32).toNatClampNeg = 4 := by decide
  have en : (nI n).toNatClampNeg = n := nI_clamp (by omega)
  have F0' := Xs.multianewarray2F (ty := .int) C.1.1 C.1.2.2.2.1 (C.1.2.2.2.2 _ hcl) (hTW _ hov _) (C.1.2.2.2.2 _ har) (g := F0 m pc ls (.int (nI n) :: .int 4 :: st)) rfl (by rw [C.1.2.1]; exact d) (n := 4) (k := nI n) (rest := st) rfl (by decide) (nI_pos (by omega)) (by rw [e4]; decide) (by rw [en]; show n * 4 ≤ _; omega) (by rw [en]; omega) rfl rfl (by rw [e4]; exact hcells) (by rw [e4, en]; exact hslots)
  rw [e4, en] at F0'
  obtain ⟨vm₁, cA, comp, -, fA, fC, hO, hI, X', step⟩ := F0'
  have eA : cA = cR := Option.some.inj (fA.symm.trans (C.2.1.2 t2 _ ht2).2)
  have eC : comp = cI := Option.some.inj (fC.symm.trans (C.2.1.2 t0 _ ht0).2)
  subst eA
  subst eC
  generalize hF : Jvm.Free.Multi.fill (T.setVm vm₁) cA comp 4 n (defaultValue .int) 4 = F at X' step
  have hTh : (T.setVm vm₁).heap = H := hT
  obtain ⟨f1, f2, -, -⟩ := Jvm.Free.Multi.fill_facts (T.setVm vm₁) cA comp 4 n (defaultValue .int) 4
  rw [hF, hTh] at f1 f2
  rw [mu_outer] at f2
  have hold : ∀ x : Nat, x < H.size → F.heap[x]? = H[x]? := fun x hx => by
    have := Jvm.Free.Multi.fill_old (T.setVm vm₁) cA comp 4 n (defaultValue .int) (a := x) (by rw [hTh]; exact hx) 4
    rw [hF, hTh] at this
    exact this
  have hrow : ∀ j : Nat, j < 4 → F.heap[H.size + 1 + j]? = some (vp_cell comp (n, .inl (fun _ => 0))) := fun j hj => by
    have := Jvm.Free.Multi.fill_inner (T.setVm vm₁) cA comp 4 n (defaultValue .int) 4 j hj
    rw [hF, hTh, mu_inner] at this
    exact this
  have hP1 : va_P D vwCl (wMu comp cA H.size n) F.heap := by
    intro i x hx
    match i, hx with
    | 0, hx => cases hx; exact f2
    | 1, hx => cases hx; exact hrow 0 (by decide)
    | 2, hx => cases hx; exact hrow 1 (by decide)
    | 3, hx => cases hx; exact hrow 2 (by decide)
    | 4, hx => cases hx; exact hrow 3 (by decide)
    | i + 5, hx => simp [wMu] at hx
  have hD1 : va_D A (wMu comp cA H.size n) := by
    refine ⟨fun i j x y hi hj hxy => ?_, fun i x hx => ?_⟩
    · have h1 := wMu_at hi
      have h2 := wMu_at hj
      omega
    · rw [(wMu_at hx).2]
      exact hA _ (by have := hS.1; omega)
  have hD2 : va_D A (ws ++ wMu comp cA H.size n) := hD.app hD1 (fun i j x y hx hy hxy => by
    have h1 := (hP i x hx).lt
    have h2 := wMu_at hy
    omega)
  obtain ⟨t, a1, b1⟩ := k H.size F.heap locs ls ((hP.kept (fun i x hx => hold x.1 ((hP i x hx).lt))).app hP1) hD2 ⟨by have := hS.1; omega, fun x h1 h2 => (hold x (Nat.lt_of_lt_of_le h1 hS.1)).trans (hS.2.1 x h1 h2), hS.2.2⟩ h F rfl X'
  refine ⟨t, step t ?_, b1⟩
  rw [hT]
  exact a1
theorem j_objInit (C : Cx p s m args meth c D tys cc nL own) {idx a : Nat} (hl : Cond.methodLink own idx Lib.objectInit ∈ BIG) (hi : Cond.instanceMethod Lib.objectInit ∈ BIG) (hc : Cond.code Lib.objectInit ⟨#[0xb1]⟩ 1 none ∈ BIG) (d : decode cc pc = .ok (.invokespecial idx, 3)) (hfr : 1 ≤ R.frames) (hlo : (st.map fun v => v.category).sum + 12 ≤ R.locals) (k : J p l e R s m args below meth c D A X nL Q cells slots ws lv st (pc + 3)) : J p l e R s m args below meth c D A X nL Q cells slots ws lv (.ref a :: st) pc :=
  fun H locs ls hP hD hS h => W.objInit C.1.1 C.1.2.1 C.1.2.2.2.1 (C.1.2.2.2.2 _ hl) (C.1.2.2.2.2 _ hi) (C.1.2.2.2.2 _ hc) (g := F0 m pc ls (.ref a :: st)) rfl (h.1.trans C.1.2.2.1.symm) rfl d hfr (by show 2 * 0 + _ + 12 ≤ _; omega) (k H locs ls hP hD hS h)
theorem j_VIw (C : Cx p s m args meth c D tys cc nL own) {y : MethodName} {bytes : ByteArray} {maxL n index : Nat} {rm : Room} {b : Nat} (As : List Value) {rest st0 : List Value} {wc : va_W} {S : Type} {w : S → va_W} {mc ms : Nat} (hA : ∀ q, s.heap.size ≤ q → A q) {t1 t2 : Nat} (hX : SX t1 t2 A s s.heap) (hTW : TW s) (hM : ∀ sz : Nat, Met l y (Cond.code y bytes maxL none :: BIG) rm (PcW t1 t2 (.ref b :: As) D tys wc sz) (QcV D w (va_A wc sz)) mc ms (va_A wc sz)) (cw : CallB R s args own index y bytes maxL none (Cond.code y bytes maxL none :: BIG) rm mc ms n ∧ y.name = "<init>" ∧ (Cond.instanceMethod y).before args s = true) (is ir : List Nat) (hs : is.map (fun i => ws[i]?) = wc.map some) (hr0 : ir.map (fun i => ws[i]?) = (ir.filterMap (fun i => ws[i]?)).map some) (hnd : va_nd is = true) (hn0 : va_nd ir = true) (hdis : ∀ i ∈ ir, i ∉ is) (hn : As.length = n) (hst : st0 = As.reverse ++ .ref b :: rest) (hW : (rest.map fun v => v.category).sum ≤ 8) (d : decode cc pc = .ok (.invokespecial index, 3)) (hf : cells + mc ≤ R.cells ∧ slots + ms ≤ R.slots) (k : ∀ q : S, J p l e R s m args below meth c D A (va_D A) nL Q (cells + mc) (slots + ms) (ir.filterMap (fun i => ws[i]?) ++ w q) lv rest (pc + 3)) : J p l e R s m args below meth c D A (va_D A) nL Q cells slots ws lv st0 pc := by
  subst hst
  exact j_Vs (a := (Value.ref b :: As).toArray) (w := w) hA is ir hs hr0 hn0 hdis (fun H locs ls hP hD hS h => va_runI C.1 (hM H.size) cw ⟨PcW.blind, fun U hU hW1 => ⟨rfl, by rw [hU], by rw [hU]; exact P_map hP is hs, C.kk.moved hW1, (hD.sub is hnd hs).weaken (fun _ _ _ _ => trivial), SX.call hX hW1 hU hS (va_free hD hS hA is hs), hTW.moved hW1⟩⟩ rfl hn h.1 rfl (lv_room hW) d hf) k
theorem j_VIwN (C : Cx p s m args meth c D tys cc nL own) {y : MethodName} {bytes : ByteArray} {maxL n index : Nat} {rm : Room} {host : String} {b : Nat} (As : List Value) {rest st0 : List Value} {wc : va_W} {S : Type} {w : S → va_W} {mc ms : Nat} (hA : ∀ q, s.heap.size ≤ q → A q) {t1 t2 : Nat} (hX : SX t1 t2 A s s.heap) (hTW : TW s) (hM : ∀ sz : Nat, Met l y (Cond.code y bytes maxL none :: BIG) rm (PcW t1 t2 (.ref b :: As) D tys wc sz) (QcV D w (va_A wc sz)) mc ms (va_A wc sz)) (cw : va_CN R s args own index y host bytes maxL none (Cond.code y bytes maxL none :: BIG) rm mc ms n ∧ y.name = "<init>" ∧ (Cond.instanceMethod y).before args s = true) (is ir : List Nat) (hs : is.map (fun i => ws[i]?) = wc.map some) (hr0 : ir.map (fun i => ws[i]?) = (ir.filterMap (fun i => ws[i]?)).map some) (hnd : va_nd is = true) (hn0 : va_nd ir = true) (hdis : ∀ i ∈ ir, i ∉ is) (hn : As.length = n) (hst : st0 = As.reverse ++ .ref b :: rest) (hW : (rest.map fun v => v.category).sum ≤ 8) (d : decode cc pc = .ok (.invokespecial index, 3)) (hf : cells + mc ≤ R.cells ∧ slots + ms ≤ R.slots) (k : ∀ q : S, J p l e R s m args below meth c D A (va_D A) nL Q (cells + mc) (slots + ms) (ir.filterMap (fun i => ws[i]?) ++ w q) lv rest (pc + 3)) : J p l e R s m args below meth c D A (va_D A) nL Q cells slots ws lv st0 pc := by
  subst hst
  exact j_Vs (a := (Value.ref b :: As).toArray) (w := w) hA is ir hs hr0 hn0 hdis (fun H locs ls hP hD hS h => va_runIN C.1 (hM H.size) cw ⟨PcW.blind, fun U hU hW1 => ⟨rfl, by rw [hU], by rw [hU]; exact P_map hP is hs, C.kk.moved hW1, (hD.sub is hnd hs).weaken (fun _ _ _ _ => trivial), SX.call hX hW1 hU hS (va_free hD hS hA is hs), hTW.moved hW1⟩⟩ rfl hn h.1 rfl (lv_room hW) d hf) k
theorem refs_ext {cA : ClassId} {n : Nat} {f g : Nat → Option Nat} (h : ∀ j, j < n → f j = g j) : vp_cell cA (n, .inr (.inr (.inr (.inr f)))) = vp_cell cA (n, .inr (.inr (.inr (.inr g)))) := by
  rw [vp_cell_q, vp_cell_q]
  exact arrV_ext fun j hj => by simp only [h j hj]
theorem j_conv (ws' : va_W) (hp : ∀ H : Heap, va_P D vwCl ws H → va_P D vwCl ws' H) (hd : ws'.map (fun q => q.1) = ws.map (fun q => q.1)) (k : J p l e R s m args below meth c D A (va_D A) nL Q cells slots ws' lv st pc) : J p l e R s m args below meth c D A (va_D A) nL Q cells slots ws lv st pc := by
  have at' : ∀ {i : Nat} {x : Nat × va_E}, ws'[i]? = some x → ∃ y, ws[i]? = some y ∧ y.1 = x.1 := fun {i x} hx => by
    have h1 : (ws'.map (fun q => q.1))[i]? = some x.1 := by rw [List.getElem?_map, hx]; rfl
    rw [hd, List.getElem?_map] at h1
    cases hy : ws[i]? with
    | none => rw [hy] at h1; cases h1
    | some y => rw [hy] at h1; exact ⟨y, rfl, Option.some.inj h1⟩
  intro H locs ls hP hD hS h
  refine k H locs ls (hp H hP) ⟨fun i j x y hx hy hxy => ?_, fun i x hx => ?_⟩ hS h
  · obtain ⟨x', h1, h2⟩ := at' hx
    obtain ⟨y', h3, h4⟩ := at' hy
    exact hD.1 i j x' y' h1 h3 (by rw [h2, h4]; exact hxy)
  · obtain ⟨x', h1, h2⟩ := at' hx
    rw [← h2]
    exact hD.2 i x' h1
theorem ly_conv {D : va_G} {cI cR : ClassId} {o0 q1 q2 n : Nat} {fs : List Value} {f4 : Nat → Int32} {H : Heap} {L : LyS} (hf : fs = [.ref q1, .ref q2, .int (L.1 0), .int (L.1 1), .int (L.1 2), .int (L.1 4), .int (L.1 5), .int (L.1 3)]) (h0 : L.2 0 = fun _ => 0) (h1 : L.2 1 = fun _ => 0) (h2 : L.2 2 = fun _ => 0) (h3 : L.2 3 = fun _ => 0) (h4 : f4 = L.2 4)
    (hP : va_P D vwCl ([(o0, .inr (1, fs))] ++ (wMu cI cR q1 n ++ [(q2, .inl (cI, 24, .inl f4))])) H) {a : Nat → Nat} (ha : a 0 = o0 ∧ a 1 = q1 ∧ a 2 = q1 + 1 ∧ a 3 = q1 + 2 ∧ a 4 = q1 + 3 ∧ a 5 = q1 + 4 ∧ a 6 = q2) : va_P D vwCl (wLy cI cR a n L) H := by
  obtain ⟨a0, a1, a2, a3, a4, a5, a6⟩ := ha
  subst hf h4
  intro i x hx
  match i, hx with
  | 0, hx => cases hx; rw [a0, a1, a6]; exact hP 0 _ rfl
  | 1, hx =>
    cases hx
    have := hP 1 _ rfl
    refine (show va_at D vwCl (a 1, .inl (cR, 4, .inr (.inr (.inr (.inr (fun j => some (a (2 + j)))))))) H from ?_)
    rw [a1]
    refine Eq.trans this (congrArg some (refs_ext fun j hj => ?_))
    rcases (by omega : j = 0 ∨ j = 1 ∨ j = 2 ∨ j = 3) with rfl | rfl | rfl | rfl
    · rw [a2]
    · rw [a3]
    · rw [a4]
    · rw [a5]
  | 2, hx => cases hx; rw [a2, h0]; exact hP 2 _ rfl
  | 3, hx => cases hx; rw [a3, h1]; exact hP 3 _ rfl
  | 4, hx => cases hx; rw [a4, h2]; exact hP 4 _ rfl
  | 5, hx => cases hx; rw [a5, h3]; exact hP 5 _ rfl
  | 6, hx => cases hx; rw [a6]; exact hP 6 _ rfl
  | i + 7, hx => simp [wLy] at hx
end MU

theorem met_Cw {t1 t2 : Nat} {l : Launch} {y : MethodName} {cc : ByteArray} {maxL mc ms : Nat} {rm : Room} {av : List Value} {D : va_G} {tys : List (ClassId × FieldType)} {w : va_W} {S : Type} {w1 : S → va_W} {sz : Nat} (hy : plainName y.cls = true) (hlen : (lg_sl av).length ≤ maxL)
    (body : ∀ (p : Program) (e : Env) (s : State) (m : MethodId) (args : Array Value) (below : List Frame) (meth : Method) (c : Code) (A : Nat → Prop), (∀ q : Nat, s.heap.size ≤ q → A q) → SX t1 t2 A s s.heap → TW s → Cx p s m args meth c D tys cc maxL y.cls → meth.sig.returnType = none → meth.name = y.name → J p l e rm s m args below meth c D A (va_D A) maxL (MQ below (QcV D w1 A) args s mc ms A) 0 0 w (lv_args 0 av) [] 0) : Met l y (Cond.code y cc maxL none :: BIG) rm (PcW t1 t2 av D tys w sz) (QcV D w1 (va_A w sz)) mc ms (va_A w sz) := by
  refine Met.ofW (cc := cc) (maxL := maxL) (ret := none) hy rfl ?_
  intro p e s m args below meth c s₁ B hml hv
  obtain ⟨rfl, hsz, hP, hKK, hD0, hX, hTW⟩ := hv
  subst hsz
  have hts := atoms_spec (ws := Cond.code y cc maxL none :: BIG) B.pre
  have hown : s.vm.findClass y.cls = some m.cls := findClass_of_methodNamed B.named
  have hl := lv_entry av (n := maxL) hlen
  rw [lg_entry_eq]
  exact body p e s m _ below meth c (va_A w s.heap.size) (fun q h => Or.inr h) hX hTW ⟨⟨B.exec, B.bytes, hml, hown, fun w hw => hts w (List.mem_cons_of_mem _ hw)⟩, hKK.1, hKK.2, B.notSynchronized⟩ B.returns (name_of_methodNamed B.named B.method).1 s.heap [] _ hP hD0.self va_S.rf hl
def adr (o : Nat) (u : Nat → Nat) : Nat → Nat := fun k => match k with
  | 0 => o
  | k + 1 => u (k + 1)
def Ly0 : LyS := ((fun _ => 0), (fun _ _ => 0))
set_option maxRecDepth 100000 in
set_option maxHeartbeats 4000000 in
theorem c_ByteRow_init (l : Launch) (D : va_G) (cI cR cZ : ClassId) (t1 t2 : Nat) (o0 : Nat) (sz : Nat) : Met l y_ByteRow_init (Cond.code y_ByteRow_init b_ByteRow_init 1 none :: BIG) (rm_ByteRow_init (1) (0)) (PcW t1 t2 [.ref o0] D (tyG cI cR cZ) ([(o0, .inr (0, [.null, .int 0]))]) sz) (QcV D (fun u : Nat => wBy cI o0 u (0, 0, fun _ => 0)) (va_A ([(o0, .inr (0, [.null, .int 0]))]) sz)) (1) (0) (va_A ([(o0, .inr (0, [.null, .int 0]))]) sz) := by
  refine met_Cw (by decide) (Nat.le_of_ble_eq_true rfl) (fun p e s m args below meth c A hA hX hTW C hr hin => ?_)
  have C : Cx p s m args meth c D (tyG cI cR cZ) b_ByteRow_init 1 "MaskLayers$ByteRow" := C
  have hin : meth.name = "<init>" := hin
  refine j_aload_n C 0 d_ByteRow_init_0 rfl ?_
  refine j_objInit C (mb (List.mem_of_getElem? (i := 144) (by decide +kernel)) rfl) (mb (List.mem_of_getElem? (i := 86) (by decide +kernel)) rfl) (mb (List.mem_of_getElem? (i := 87) (by decide +kernel)) rfl) d_ByteRow_init_1 (Nat.le_of_ble_eq_true rfl) (Nat.le_of_ble_eq_true rfl) ?_
  refine j_aload_n C 0 d_ByteRow_init_4 rfl ?_
  refine j_iconst C (v := 0) d_ByteRow_init_5 (by decide) ?_
  refine j_newa C hA (t0 := 0) (N := 0) rfl (mb (List.mem_of_getElem? (i := 138) (by decide +kernel)) rfl) (by decide) rfl (by decide) (by show _ ≤ 1; omega) (by show _ ≤ 0; omega) d_ByteRow_init_6 (fun q1 => ?_)
  refine j_ws (ws' := [(o0, .inr (0, [.null, .int 0]))] ++ ([(q1, .inl (cI, 0, .inl (fun _ => 0)))])) rfl ?_
  refine pF_ByteRow_9 C 0 ([(o0, .inr (0, [.ref q1, .int 0]))] ++ ([(q1, .inl (cI, 0, .inl (fun _ => 0)))])) rfl rfl rfl rfl rfl d_ByteRow_init_8 ?_
  refine j_perm [0, 1] (ws' := wBy cI o0 q1 (0, 0, fun _ => 0)) rfl (by decide) ?_
  refine j_widen (c2 := 1) (s2 := 0) (by omega) (by omega) ?_
  exact j_vret C hr d_ByteRow_init_11 q1 rfl
set_option maxRecDepth 100000 in
set_option maxHeartbeats 4000000 in
theorem c_Layers_init (l : Launch) (D : va_G) (cI cR cZ : ClassId) (t1 t2 : Nat) (o0 n : Nat) (hn : n ≤ 576) (sz : Nat) : Met l y_Layers_init (Cond.code y_Layers_init b_Layers_init 2 none :: BIG) (rm_Layers_init (6) (28 + 4 * n)) (PcW t1 t2 [.ref o0, .int (nI n)] D (tyG cI cR cZ) ([(o0, .inr (1, [.null, .null, .int 0, .int 0, .int 0, .int 0, .int 0, .int 0]))]) sz) (QcV D (fun u : (Nat → Nat) => wLy cI cR (adr o0 u) n Ly0) (va_A ([(o0, .inr (1, [.null, .null, .int 0, .int 0, .int 0, .int 0, .int 0, .int 0]))]) sz)) (6) (28 + 4 * n) (va_A ([(o0, .inr (1, [.null, .null, .int 0, .int 0, .int 0, .int 0, .int 0, .int 0]))]) sz) := by
  refine met_Cw (by decide) (Nat.le_of_ble_eq_true rfl) (fun p e s m args below meth c A hA hX hTW C hr hin => ?_)
  have C : Cx p s m args meth c D (tyG cI cR cZ) b_Layers_init 2 "MaskLayers$Layers" := C
  have hin : meth.name = "<init>" := hin
  refine j_aload_n C 0 d_Layers_init_0 rfl ?_
  refine j_objInit C (mb (List.mem_of_getElem? (i := 99) (by decide +kernel)) rfl) (mb (List.mem_of_getElem? (i := 86) (by decide +kernel)) rfl) (mb (List.mem_of_getElem? (i := 87) (by decide +kernel)) rfl) d_Layers_init_1 (Nat.le_of_ble_eq_true rfl) (Nat.le_of_ble_eq_true rfl) ?_
  refine j_aload_n C 0 d_Layers_init_4 rfl ?_
  refine j_iconst C (v := 4) d_Layers_init_5 (by decide) ?_
  refine j_iload_n C 1 d_Layers_init_6 rfl ?_
  refine j_multi C hA (t0 := 0) (t2 := 2) (n := n) rfl rfl hTW (mb (List.mem_of_getElem? (i := 100) (by decide +kernel)) rfl) (twm (List.mem_of_getElem? (i := 101) (by decide +kernel)) rfl) (mb (List.mem_of_getElem? (i := 138) (by decide +kernel)) rfl) hn (by show _ ≤ 6; omega) (by show _ ≤ 28 + 4 * n; omega) d_Layers_init_7 (fun q1 => ?_)
  refine j_ws (ws' := [(o0, .inr (1, [.null, .null, .int 0, .int 0, .int 0, .int 0, .int 0, .int 0]))] ++ (wMu cI cR q1 n)) rfl ?_
  refine pF_Layers_11 C hin 0 ([(o0, .inr (1, [.ref q1, .null, .int 0, .int 0, .int 0, .int 0, .int 0, .int 0]))] ++ (wMu cI cR q1 n)) rfl rfl rfl rfl rfl d_Layers_init_11 ?_
  refine j_aload_n C 0 d_Layers_init_14 rfl ?_
  refine j_bipush C (v := 24) d_Layers_init_15 (by decide) ?_
  refine j_newa C hA (t0 := 0) (N := 24) rfl (mb (List.mem_of_getElem? (i := 138) (by decide +kernel)) rfl) (by decide) rfl (by decide) (by show _ ≤ 6; omega) (by show _ ≤ 28 + 4 * n; omega) d_Layers_init_17 (fun q2 => ?_)
  refine j_ws (ws' := [(o0, .inr (1, [.ref q1, .null, .int 0, .int 0, .int 0, .int 0, .int 0, .int 0]))] ++ (wMu cI cR q1 n ++ ([(q2, .inl (cI, 24, .inl (fun _ => 0)))]))) rfl ?_
  refine pF_Layers_16 C hin 0 ([(o0, .inr (1, [.ref q1, .ref q2, .int 0, .int 0, .int 0, .int 0, .int 0, .int 0]))] ++ (wMu cI cR q1 n ++ ([(q2, .inl (cI, 24, .inl (fun _ => 0)))]))) rfl rfl rfl rfl rfl d_Layers_init_19 ?_
  refine j_conv (wLy cI cR (adr o0 (fun k => match k with | 1 => q1 | 2 => q1 + 1 | 3 => q1 + 2 | 4 => q1 + 3 | 5 => q1 + 4 | _ => q2)) n Ly0) (fun H hP => ly_conv rfl rfl rfl rfl rfl rfl hP ⟨rfl, rfl, rfl, rfl, rfl, rfl, rfl⟩) rfl ?_
  refine j_widen (c2 := 6) (s2 := 28 + 4 * n) (by omega) (by omega) ?_
  exact j_vret C hr d_Layers_init_22 (fun k => match k with | 1 => q1 | 2 => q1 + 1 | 3 => q1 + 2 | 4 => q1 + 3 | 5 => q1 + 4 | _ => q2) rfl
set_option maxRecDepth 100000 in
set_option maxHeartbeats 4000000 in
theorem c_Maker_init (l : Launch) (D : va_G) (cI cR cZ : ClassId) (t1 t2 : Nat) (o0 a0 hc hm n : Nat) (col : Nat → Int32) (hn : n ≤ 576) (sz : Nat) : Met l y_Maker_init (Cond.code y_Maker_init b_Maker_init 4 none :: BIG) (rm_Maker_init (1) (n)) (PcW t1 t2 [.ref o0, .ref a0, .ref hc, .ref hm] D (tyG cI cR cZ) ([(o0, .inr (2, [.null, .null, .null, .null]))] ++ ([(hc, .inl (cI, n, .inl col))])) sz) (QcV D (fun u : Nat => [(o0, .inr (2, [.ref a0, .ref hc, .ref hm, .ref u])), (hc, .inl (cI, n, .inl col)), (u, .inl (cI, n, .inl (fun _ => 0)))]) (va_A ([(o0, .inr (2, [.null, .null, .null, .null]))] ++ ([(hc, .inl (cI, n, .inl col))])) sz)) (1) (n) (va_A ([(o0, .inr (2, [.null, .null, .null, .null]))] ++ ([(hc, .inl (cI, n, .inl col))])) sz) := by
  refine met_Cw (by decide) (Nat.le_of_ble_eq_true rfl) (fun p e s m args below meth c A hA hX hTW C hr hin => ?_)
  have C : Cx p s m args meth c D (tyG cI cR cZ) b_Maker_init 4 "MaskLayers$Maker" := C
  have hin : meth.name = "<init>" := hin
  refine j_aload_n C 0 d_Maker_init_0 rfl ?_
  refine j_objInit C (mb (List.mem_of_getElem? (i := 161) (by decide +kernel)) rfl) (mb (List.mem_of_getElem? (i := 86) (by decide +kernel)) rfl) (mb (List.mem_of_getElem? (i := 87) (by decide +kernel)) rfl) d_Maker_init_1 (Nat.le_of_ble_eq_true rfl) (Nat.le_of_ble_eq_true rfl) ?_
  refine j_aload_n C 0 d_Maker_init_4 rfl ?_
  refine j_aload_n C 1 d_Maker_init_5 rfl ?_
  refine pF_Maker_9 C hin 0 ([(o0, .inr (2, [.ref a0, .null, .null, .null]))] ++ ([(hc, .inl (cI, n, .inl col))])) rfl rfl rfl rfl rfl d_Maker_init_6 ?_
  refine j_aload_n C 0 d_Maker_init_9 rfl ?_
  refine j_aload_n C 2 d_Maker_init_10 rfl ?_
  refine pF_Maker_15 C hin 0 ([(o0, .inr (2, [.ref a0, .ref hc, .null, .null]))] ++ ([(hc, .inl (cI, n, .inl col))])) rfl rfl rfl rfl rfl d_Maker_init_11 ?_
  refine j_aload_n C 0 d_Maker_init_14 rfl ?_
  refine j_aload_n C 3 d_Maker_init_15 rfl ?_
  refine pF_Maker_19 C hin 0 ([(o0, .inr (2, [.ref a0, .ref hc, .ref hm, .null]))] ++ ([(hc, .inl (cI, n, .inl col))])) rfl rfl rfl rfl rfl d_Maker_init_16 ?_
  refine j_aload_n C 0 d_Maker_init_19 rfl ?_
  refine j_aload_n C 2 d_Maker_init_20 rfl ?_
  refine j_alen C (1) (t0 := 0) (v := nI n) rfl rfl rfl d_Maker_init_21 ?_
  refine j_newa C hA (t0 := 0) (N := n) rfl (mb (List.mem_of_getElem? (i := 138) (by decide +kernel)) rfl) (nI_pos (by omega)) (nI_clamp (by omega)) (by omega) (by show _ ≤ 1; omega) (by show _ ≤ n; omega) d_Maker_init_22 (fun q1 => ?_)
  refine j_ws (ws' := [(o0, .inr (2, [.ref a0, .ref hc, .ref hm, .null]))] ++ ([(hc, .inl (cI, n, .inl col))] ++ ([(q1, .inl (cI, n, .inl (fun _ => 0)))]))) rfl ?_
  refine pF_Maker_22 C hin 0 ([(o0, .inr (2, [.ref a0, .ref hc, .ref hm, .ref q1]))] ++ ([(hc, .inl (cI, n, .inl col))] ++ ([(q1, .inl (cI, n, .inl (fun _ => 0)))]))) rfl rfl rfl rfl rfl d_Maker_init_24 ?_
  refine j_perm [0, 1, 2] (ws' := [(o0, .inr (2, [.ref a0, .ref hc, .ref hm, .ref q1])), (hc, .inl (cI, n, .inl col)), (q1, .inl (cI, n, .inl (fun _ => 0)))]) rfl (by decide) ?_
  refine j_widen (c2 := 1) (s2 := n) (by omega) (by omega) ?_
  exact j_vret C hr d_Maker_init_27 q1 rfl
set_option maxRecDepth 100000 in
set_option maxHeartbeats 4000000 in
theorem c_Writer_init (l : Launch) (D : va_G) (cI cR cZ : ClassId) (t1 t2 : Nat) (o0 a0 b0 : Nat) (sz : Nat) : Met l y_Writer_init (Cond.code y_Writer_init b_Writer_init 3 none :: BIG) (rm_Writer_init (0) (0)) (PcW t1 t2 [.ref o0, .ref a0, .ref b0] D (tyG cI cR cZ) ([(o0, .inr (4, [.null, .null]))]) sz) (QcV D (fun u : Nat => [(o0, .inr (4, [.ref a0, .ref b0]))]) (va_A ([(o0, .inr (4, [.null, .null]))]) sz)) (0) (0) (va_A ([(o0, .inr (4, [.null, .null]))]) sz) := by
  refine met_Cw (by decide) (Nat.le_of_ble_eq_true rfl) (fun p e s m args below meth c A hA hX hTW C hr hin => ?_)
  have C : Cx p s m args meth c D (tyG cI cR cZ) b_Writer_init 3 "MaskLayers$Writer" := C
  have hin : meth.name = "<init>" := hin
  refine j_aload_n C 0 d_Writer_init_0 rfl ?_
  refine j_objInit C (mb (List.mem_of_getElem? (i := 180) (by decide +kernel)) rfl) (mb (List.mem_of_getElem? (i := 86) (by decide +kernel)) rfl) (mb (List.mem_of_getElem? (i := 87) (by decide +kernel)) rfl) d_Writer_init_1 (Nat.le_of_ble_eq_true rfl) (Nat.le_of_ble_eq_true rfl) ?_
  refine j_aload_n C 0 d_Writer_init_4 rfl ?_
  refine j_aload_n C 1 d_Writer_init_5 rfl ?_
  refine pF_Writer_9 C hin 0 ([(o0, .inr (4, [.ref a0, .null]))]) rfl rfl rfl rfl rfl d_Writer_init_6 ?_
  refine j_aload_n C 0 d_Writer_init_9 rfl ?_
  refine j_aload_n C 2 d_Writer_init_10 rfl ?_
  refine pF_Writer_15 C hin 0 ([(o0, .inr (4, [.ref a0, .ref b0]))]) rfl rfl rfl rfl rfl d_Writer_init_11 ?_
  refine j_perm [0] (ws' := [(o0, .inr (4, [.ref a0, .ref b0]))]) rfl (by decide) ?_
  refine j_widen (c2 := 0) (s2 := 0) (by omega) (by omega) ?_
  exact j_vret C hr d_Writer_init_14 0 rfl
set_option maxRecDepth 100000 in
set_option maxHeartbeats 4000000 in
theorem c_Reader_init (l : Launch) (D : va_G) (cI cR cZ : ClassId) (t1 t2 : Nat) (o0 b0 a0 : Nat) (sz : Nat) : Met l y_Reader_init (Cond.code y_Reader_init b_Reader_init 3 none :: BIG) (rm_Reader_init (1) (7)) (PcW t1 t2 [.ref o0, .ref b0, .ref a0] D (tyG cI cR cZ) ([(o0, .inr (3, [.null, .null, .null, .int 0, .int 0]))]) sz) (QcV D (fun u : Nat => [(o0, .inr (3, [.ref b0, .ref a0, .ref u, .int 0, .int 0])), (u, .inl (cI, 7, .inl (fun _ => 0)))]) (va_A ([(o0, .inr (3, [.null, .null, .null, .int 0, .int 0]))]) sz)) (1) (7) (va_A ([(o0, .inr (3, [.null, .null, .null, .int 0, .int 0]))]) sz) := by
  refine met_Cw (by decide) (Nat.le_of_ble_eq_true rfl) (fun p e s m args below meth c A hA hX hTW C hr hin => ?_)
  have C : Cx p s m args meth c D (tyG cI cR cZ) b_Reader_init 3 "MaskLayers$Reader" := C
  have hin : meth.name = "<init>" := hin
  refine j_aload_n C 0 d_Reader_init_0 rfl ?_
  refine j_objInit C (mb (List.mem_of_getElem? (i := 193) (by decide +kernel)) rfl) (mb (List.mem_of_getElem? (i := 86) (by decide +kernel)) rfl) (mb (List.mem_of_getElem? (i := 87) (by decide +kernel)) rfl) d_Reader_init_1 (Nat.le_of_ble_eq_true rfl) (Nat.le_of_ble_eq_true rfl) ?_
  refine j_aload_n C 0 d_Reader_init_4 rfl ?_
  refine j_aload_n C 1 d_Reader_init_5 rfl ?_
  refine pF_Reader_9 C hin 0 ([(o0, .inr (3, [.ref b0, .null, .null, .int 0, .int 0]))]) rfl rfl rfl rfl rfl d_Reader_init_6 ?_
  refine j_aload_n C 0 d_Reader_init_9 rfl ?_
  refine j_aload_n C 2 d_Reader_init_10 rfl ?_
  refine pF_Reader_15 C hin 0 ([(o0, .inr (3, [.ref b0, .ref a0, .null, .int 0, .int 0]))]) rfl rfl rfl rfl rfl d_Reader_init_11 ?_
  refine j_aload_n C 0 d_Reader_init_14 rfl ?_
  refine gs_Reader_19 C hX.1 d_Reader_init_15 ?_
  refine j_tlen C (v := 7) hX.2.1 rfl d_Reader_init_18 ?_
  refine j_newa C hA (t0 := 0) (N := 7) rfl (mb (List.mem_of_getElem? (i := 138) (by decide +kernel)) rfl) (by decide) rfl (by decide) (by show _ ≤ 1; omega) (by show _ ≤ 7; omega) d_Reader_init_19 (fun q1 => ?_)
  refine j_ws (ws' := [(o0, .inr (3, [.ref b0, .ref a0, .null, .int 0, .int 0]))] ++ ([(q1, .inl (cI, 7, .inl (fun _ => 0)))])) rfl ?_
  refine pF_Reader_23 C hin 0 ([(o0, .inr (3, [.ref b0, .ref a0, .ref q1, .int 0, .int 0]))] ++ ([(q1, .inl (cI, 7, .inl (fun _ => 0)))])) rfl rfl rfl rfl rfl d_Reader_init_21 ?_
  refine j_perm [0, 1] (ws' := [(o0, .inr (3, [.ref b0, .ref a0, .ref q1, .int 0, .int 0])), (q1, .inl (cI, 7, .inl (fun _ => 0)))]) rfl (by decide) ?_
  refine j_widen (c2 := 1) (s2 := 7) (by omega) (by omega) ?_
  exact j_vret C hr d_Reader_init_24 q1 rfl
set_option maxRecDepth 100000 in
set_option maxHeartbeats 4000000 in
theorem c_ML_init (l : Launch) (D : va_G) (cI cR cZ : ClassId) (t1 t2 : Nat) (o0 w h : Nat) (p1 p2 : Int32) (hw : mx 1 (mn 24 p1) = nI w) (hh0 : mx 1 (mn 24 p2) = nI h) (hn : w * h ≤ 576) (sz : Nat) : Met l y_ML_init (Cond.code y_ML_init b_ML_init 4 none :: BIG) (rm_ML_init (25) (2398 + 7 * (w * h))) (PcW t1 t2 [.ref o0, .int p1, .int p2] D (tyG cI cR cZ) ([(o0, .inr (5, [.int 0, .int 0, .null, .null, .null, .null, .null, .null, .null, .null, .null, .int 0]))]) sz) (QcV D (fun u : ((Nat → Nat) × (Nat → Nat) × (Nat → Nat)) => wML cI cR o0 (u.1 0) (u.1 1) (u.1 2) (u.1 3) (u.1 4) (u.1 5) (u.1 6) u.2.1 u.2.2 (u.1 7) (u.1 8) (u.1 9) (u.1 10) (w * h) (nI w) (nI h) 24 (fun _ => 0) (fun _ => 0) (fun _ => 0) Ly0 Ly0 (0, 0, fun _ => 0) (0, 0, fun _ => 0) 0 0 (fun _ => 0)) (va_A ([(o0, .inr (5, [.int 0, .int 0, .null, .null, .null, .null, .null, .null, .null, .null, .null, .int 0]))]) sz)) (25) (2398 + 7 * (w * h)) (va_A ([(o0, .inr (5, [.int 0, .int 0, .null, .null, .null, .null, .null, .null, .null, .null, .null, .int 0]))]) sz) := by
  refine met_Cw (by decide) (Nat.le_of_ble_eq_true rfl) (fun p e s m args below meth c A hA hX hTW C hr hin => ?_)
  have C : Cx p s m args meth c D (tyG cI cR cZ) b_ML_init 4 "MaskLayers" := C
  have hin : meth.name = "<init>" := hin
  refine j_aload_n C 0 d_ML_init_0 rfl ?_
  refine j_objInit C (mb (List.mem_of_getElem? (i := 85) (by decide +kernel)) rfl) (mb (List.mem_of_getElem? (i := 86) (by decide +kernel)) rfl) (mb (List.mem_of_getElem? (i := 87) (by decide +kernel)) rfl) d_ML_init_1 (Nat.le_of_ble_eq_true rfl) (Nat.le_of_ble_eq_true rfl) ?_
  refine j_aload_n C 0 d_ML_init_4 rfl ?_
  refine j_iconst C (v := 1) d_ML_init_5 (by decide) ?_
  refine j_bipush C (v := 24) d_ML_init_6 (by decide) ?_
  refine j_iload_n C 1 d_ML_init_8 rfl ?_
  refine j_mmin C mw_ML_9 (Nat.le_of_ble_eq_true rfl) (Nat.le_of_ble_eq_true rfl) ⟨by show _ ≤ 25; omega, by show _ ≤ 2398 + 7 * (w * h); omega⟩ d_ML_init_9 ?_
  refine j_mmax C mw_ML_15 (Nat.le_of_ble_eq_true rfl) (Nat.le_of_ble_eq_true rfl) ⟨by show _ ≤ 25; omega, by show _ ≤ 2398 + 7 * (w * h); omega⟩ d_ML_init_12 ?_
  rw [hw]
  refine pF_ML_18 C hin 0 ([(o0, .inr (5, [.int (nI w), .int 0, .null, .null, .null, .null, .null, .null, .null, .null, .null, .int 0]))]) rfl rfl rfl rfl rfl d_ML_init_15 ?_
  refine j_aload_n C 0 d_ML_init_18 rfl ?_
  refine j_iconst C (v := 1) d_ML_init_19 (by decide) ?_
  refine j_bipush C (v := 24) d_ML_init_20 (by decide) ?_
  refine j_iload_n C 2 d_ML_init_22 rfl ?_
  refine j_mmin C mw_ML_9 (Nat.le_of_ble_eq_true rfl) (Nat.le_of_ble_eq_true rfl) ⟨by show _ ≤ 25; omega, by show _ ≤ 2398 + 7 * (w * h); omega⟩ d_ML_init_23 ?_
  refine j_mmax C mw_ML_15 (Nat.le_of_ble_eq_true rfl) (Nat.le_of_ble_eq_true rfl) ⟨by show _ ≤ 25; omega, by show _ ≤ 2398 + 7 * (w * h); omega⟩ d_ML_init_26 ?_
  rw [hh0]
  refine pF_ML_22 C hin 0 ([(o0, .inr (5, [.int (nI w), .int (nI h), .null, .null, .null, .null, .null, .null, .null, .null, .null, .int 0]))]) rfl rfl rfl rfl rfl d_ML_init_29 ?_
  refine j_aload_n C 0 d_ML_init_32 rfl ?_
  refine gf_ML_18 C 0 (v := .int (nI w)) rfl rfl d_ML_init_33 ?_
  refine j_aload_n C 0 d_ML_init_36 rfl ?_
  refine gf_ML_22 C 0 (v := .int (nI h)) rfl rfl d_ML_init_37 ?_
  refine j_imul C d_ML_init_40 ?_
  rw [pk_mul]
  refine j_istore_n C [(3, .int (nI (w * h))), (0, .ref o0), (1, .int p1), (2, .int p2)] d_ML_init_41 (by decide) rfl ?_
  refine j_aload_n C 1 d_ML_init_42 rfl ?_
  refine j_iload_n C 0 d_ML_init_43 rfl ?_
  refine j_newa C hA (t0 := 0) (N := w * h) rfl (mb (List.mem_of_getElem? (i := 138) (by decide +kernel)) rfl) (nI_pos (by omega)) (nI_clamp (by omega)) (by omega) (by show _ ≤ 25; omega) (by show _ ≤ 2398 + 7 * (w * h); omega) d_ML_init_44 (fun q1 => ?_)
  refine j_ws (ws' := [(o0, .inr (5, [.int (nI w), .int (nI h), .null, .null, .null, .null, .null, .null, .null, .null, .null, .int 0]))] ++ ([(q1, .inl (cI, w * h, .inl (fun _ => 0)))])) rfl ?_
  refine pF_ML_25 C hin 0 ([(o0, .inr (5, [.int (nI w), .int (nI h), .ref q1, .null, .null, .null, .null, .null, .null, .null, .null, .int 0]))] ++ ([(q1, .inl (cI, w * h, .inl (fun _ => 0)))])) rfl rfl rfl rfl rfl d_ML_init_46 ?_
  refine j_aload_n C 1 d_ML_init_49 rfl ?_
  refine j_iload_n C 0 d_ML_init_50 rfl ?_
  refine j_newa C hA (t0 := 0) (N := w * h) rfl (mb (List.mem_of_getElem? (i := 138) (by decide +kernel)) rfl) (nI_pos (by omega)) (nI_clamp (by omega)) (by omega) (by show _ ≤ 25; omega) (by show _ ≤ 2398 + 7 * (w * h); omega) d_ML_init_51 (fun q2 => ?_)
  refine j_ws (ws' := [(o0, .inr (5, [.int (nI w), .int (nI h), .ref q1, .null, .null, .null, .null, .null, .null, .null, .null, .int 0]))] ++ ([(q1, .inl (cI, w * h, .inl (fun _ => 0)))] ++ ([(q2, .inl (cI, w * h, .inl (fun _ => 0)))]))) rfl ?_
  refine pF_ML_29 C hin 0 ([(o0, .inr (5, [.int (nI w), .int (nI h), .ref q1, .ref q2, .null, .null, .null, .null, .null, .null, .null, .int 0]))] ++ ([(q1, .inl (cI, w * h, .inl (fun _ => 0)))] ++ ([(q2, .inl (cI, w * h, .inl (fun _ => 0)))]))) rfl rfl rfl rfl rfl d_ML_init_53 ?_
  refine j_aload_n C 1 d_ML_init_56 rfl ?_
  refine nw_ML_32 C hA (by show _ ≤ 25; omega) (by show _ ≤ 2398 + 7 * (w * h); omega) d_ML_init_57 (fun q3 => ?_)
  refine j_ws (ws' := [(o0, .inr (5, [.int (nI w), .int (nI h), .ref q1, .ref q2, .null, .null, .null, .null, .null, .null, .null, .int 0]))] ++ ([(q1, .inl (cI, w * h, .inl (fun _ => 0)))] ++ ([(q2, .inl (cI, w * h, .inl (fun _ => 0)))] ++ ([(q3, .inr (1, [.null, .null, .int 0, .int 0, .int 0, .int 0, .int 0, .int 0]))])))) rfl ?_
  refine j_dup C d_ML_init_60 rfl ?_
  refine j_iload_n C 0 d_ML_init_61 rfl ?_
  refine j_VIw C [.int (nI (w * h))] hA hX hTW (c_Layers_init l D cI cR cZ t1 t2 q3 (w * h) (by omega)) (cw_ML_34 C ⟨Nat.le_of_ble_eq_true rfl, Nat.le_of_ble_eq_true rfl⟩) [3] [0, 1, 2] rfl rfl (by decide) (by decide) (by decide) rfl rfl (Nat.le_of_ble_eq_true rfl) d_ML_init_62 ⟨by show _ ≤ 25; omega, by show _ ≤ 2398 + 7 * (w * h); omega⟩ (fun u4 => ?_)
  refine j_ws (ws' := [(o0, .inr (5, [.int (nI w), .int (nI h), .ref q1, .ref q2, .null, .null, .null, .null, .null, .null, .null, .int 0]))] ++ ([(q1, .inl (cI, w * h, .inl (fun _ => 0)))] ++ ([(q2, .inl (cI, w * h, .inl (fun _ => 0)))] ++ (wLy cI cR (adr q3 u4) (w * h) Ly0)))) rfl ?_
  refine pF_ML_37 C hin 0 ([(o0, .inr (5, [.int (nI w), .int (nI h), .ref q1, .ref q2, .ref q3, .null, .null, .null, .null, .null, .null, .int 0]))] ++ ([(q1, .inl (cI, w * h, .inl (fun _ => 0)))] ++ ([(q2, .inl (cI, w * h, .inl (fun _ => 0)))] ++ (wLy cI cR (adr q3 u4) (w * h) Ly0)))) rfl rfl rfl rfl rfl d_ML_init_65 ?_
  refine j_aload_n C 1 d_ML_init_68 rfl ?_
  refine nw_ML_32 C hA (by show _ ≤ 25; omega) (by show _ ≤ 2398 + 7 * (w * h); omega) d_ML_init_69 (fun q5 => ?_)
  refine j_ws (ws' := [(o0, .inr (5, [.int (nI w), .int (nI h), .ref q1, .ref q2, .ref q3, .null, .null, .null, .null, .null, .null, .int 0]))] ++ ([(q1, .inl (cI, w * h, .inl (fun _ => 0)))] ++ ([(q2, .inl (cI, w * h, .inl (fun _ => 0)))] ++ (wLy cI cR (adr q3 u4) (w * h) Ly0 ++ ([(q5, .inr (1, [.null, .null, .int 0, .int 0, .int 0, .int 0, .int 0, .int 0]))]))))) rfl ?_
  refine j_dup C d_ML_init_72 rfl ?_
  refine j_sipush C (v := 576) d_ML_init_73 (by decide) ?_
  refine j_VIw C [.int 576] hA hX hTW (c_Layers_init l D cI cR cZ t1 t2 q5 576 (by omega)) (cw_ML_34 C ⟨Nat.le_of_ble_eq_true rfl, Nat.le_of_ble_eq_true rfl⟩) [10] [0, 1, 2, 3, 4, 5, 6, 7, 8, 9] rfl rfl (by decide) (by decide) (by decide) rfl rfl (Nat.le_of_ble_eq_true rfl) d_ML_init_76 ⟨by show _ ≤ 25; omega, by show _ ≤ 2398 + 7 * (w * h); omega⟩ (fun u6 => ?_)
  refine j_ws (ws' := [(o0, .inr (5, [.int (nI w), .int (nI h), .ref q1, .ref q2, .ref q3, .null, .null, .null, .null, .null, .null, .int 0]))] ++ ([(q1, .inl (cI, w * h, .inl (fun _ => 0)))] ++ ([(q2, .inl (cI, w * h, .inl (fun _ => 0)))] ++ (wLy cI cR (adr q3 u4) (w * h) Ly0 ++ (wLy cI cR (adr q5 u6) 576 Ly0))))) rfl ?_
  refine pF_ML_41 C hin 0 ([(o0, .inr (5, [.int (nI w), .int (nI h), .ref q1, .ref q2, .ref q3, .ref q5, .null, .null, .null, .null, .null, .int 0]))] ++ ([(q1, .inl (cI, w * h, .inl (fun _ => 0)))] ++ ([(q2, .inl (cI, w * h, .inl (fun _ => 0)))] ++ (wLy cI cR (adr q3 u4) (w * h) Ly0 ++ (wLy cI cR (adr q5 u6) 576 Ly0))))) rfl rfl rfl rfl rfl d_ML_init_79 ?_
  refine j_aload_n C 1 d_ML_init_82 rfl ?_
  refine nw_ML_44 C hA (by show _ ≤ 25; omega) (by show _ ≤ 2398 + 7 * (w * h); omega) d_ML_init_83 (fun q7 => ?_)
  refine j_ws (ws' := [(o0, .inr (5, [.int (nI w), .int (nI h), .ref q1, .ref q2, .ref q3, .ref q5, .null, .null, .null, .null, .null, .int 0]))] ++ ([(q1, .inl (cI, w * h, .inl (fun _ => 0)))] ++ ([(q2, .inl (cI, w * h, .inl (fun _ => 0)))] ++ (wLy cI cR (adr q3 u4) (w * h) Ly0 ++ (wLy cI cR (adr q5 u6) 576 Ly0 ++ ([(q7, .inr (0, [.null, .int 0]))])))))) rfl ?_
  refine j_dup C d_ML_init_86 rfl ?_
  refine j_VIwN C [] hA hX hTW (c_ByteRow_init l D cI cR cZ t1 t2 q7) (cw_ML_46 C ⟨Nat.le_of_ble_eq_true rfl, Nat.le_of_ble_eq_true rfl⟩) [17] [0, 1, 2, 3, 4, 5, 6, 7, 8, 9, 10, 11, 12, 13, 14, 15, 16] rfl rfl (by decide) (by decide) (by decide) rfl rfl (Nat.le_of_ble_eq_true rfl) d_ML_init_87 ⟨by show _ ≤ 25; omega, by show _ ≤ 2398 + 7 * (w * h); omega⟩ (fun u8 => ?_)
  refine j_ws (ws' := [(o0, .inr (5, [.int (nI w), .int (nI h), .ref q1, .ref q2, .ref q3, .ref q5, .null, .null, .null, .null, .null, .int 0]))] ++ ([(q1, .inl (cI, w * h, .inl (fun _ => 0)))] ++ ([(q2, .inl (cI, w * h, .inl (fun _ => 0)))] ++ (wLy cI cR (adr q3 u4) (w * h) Ly0 ++ (wLy cI cR (adr q5 u6) 576 Ly0 ++ (wBy cI q7 u8 (0, 0, fun _ => 0))))))) rfl ?_
  refine pF_ML_47 C hin 0 ([(o0, .inr (5, [.int (nI w), .int (nI h), .ref q1, .ref q2, .ref q3, .ref q5, .ref q7, .null, .null, .null, .null, .int 0]))] ++ ([(q1, .inl (cI, w * h, .inl (fun _ => 0)))] ++ ([(q2, .inl (cI, w * h, .inl (fun _ => 0)))] ++ (wLy cI cR (adr q3 u4) (w * h) Ly0 ++ (wLy cI cR (adr q5 u6) 576 Ly0 ++ (wBy cI q7 u8 (0, 0, fun _ => 0))))))) rfl rfl rfl rfl rfl d_ML_init_90 ?_
  refine j_aload_n C 1 d_ML_init_93 rfl ?_
  refine nw_ML_44 C hA (by show _ ≤ 25; omega) (by show _ ≤ 2398 + 7 * (w * h); omega) d_ML_init_94 (fun q9 => ?_)
  refine j_ws (ws' := [(o0, .inr (5, [.int (nI w), .int (nI h), .ref q1, .ref q2, .ref q3, .ref q5, .ref q7, .null, .null, .null, .null, .int 0]))] ++ ([(q1, .inl (cI, w * h, .inl (fun _ => 0)))] ++ ([(q2, .inl (cI, w * h, .inl (fun _ => 0)))] ++ (wLy cI cR (adr q3 u4) (w * h) Ly0 ++ (wLy cI cR (adr q5 u6) 576 Ly0 ++ (wBy cI q7 u8 (0, 0, fun _ => 0) ++ ([(q9, .inr (0, [.null, .int 0]))]))))))) rfl ?_
  refine j_dup C d_ML_init_97 rfl ?_
  refine j_VIwN C [] hA hX hTW (c_ByteRow_init l D cI cR cZ t1 t2 q9) (cw_ML_46 C ⟨Nat.le_of_ble_eq_true rfl, Nat.le_of_ble_eq_true rfl⟩) [19] [0, 1, 2, 3, 4, 5, 6, 7, 8, 9, 10, 11, 12, 13, 14, 15, 16, 17, 18] rfl rfl (by decide) (by decide) (by decide) rfl rfl (Nat.le_of_ble_eq_true rfl) d_ML_init_98 ⟨by show _ ≤ 25; omega, by show _ ≤ 2398 + 7 * (w * h); omega⟩ (fun u10 => ?_)
  refine j_ws (ws' := [(o0, .inr (5, [.int (nI w), .int (nI h), .ref q1, .ref q2, .ref q3, .ref q5, .ref q7, .null, .null, .null, .null, .int 0]))] ++ ([(q1, .inl (cI, w * h, .inl (fun _ => 0)))] ++ ([(q2, .inl (cI, w * h, .inl (fun _ => 0)))] ++ (wLy cI cR (adr q3 u4) (w * h) Ly0 ++ (wLy cI cR (adr q5 u6) 576 Ly0 ++ (wBy cI q7 u8 (0, 0, fun _ => 0) ++ (wBy cI q9 u10 (0, 0, fun _ => 0)))))))) rfl ?_
  refine pF_ML_51 C hin 0 ([(o0, .inr (5, [.int (nI w), .int (nI h), .ref q1, .ref q2, .ref q3, .ref q5, .ref q7, .ref q9, .null, .null, .null, .int 0]))] ++ ([(q1, .inl (cI, w * h, .inl (fun _ => 0)))] ++ ([(q2, .inl (cI, w * h, .inl (fun _ => 0)))] ++ (wLy cI cR (adr q3 u4) (w * h) Ly0 ++ (wLy cI cR (adr q5 u6) 576 Ly0 ++ (wBy cI q7 u8 (0, 0, fun _ => 0) ++ (wBy cI q9 u10 (0, 0, fun _ => 0)))))))) rfl rfl rfl rfl rfl d_ML_init_101 ?_
  refine j_aload_n C 1 d_ML_init_104 rfl ?_
  refine nw_ML_54 C hA (by show _ ≤ 25; omega) (by show _ ≤ 2398 + 7 * (w * h); omega) d_ML_init_105 (fun q11 => ?_)
  refine j_ws (ws' := [(o0, .inr (5, [.int (nI w), .int (nI h), .ref q1, .ref q2, .ref q3, .ref q5, .ref q7, .ref q9, .null, .null, .null, .int 0]))] ++ ([(q1, .inl (cI, w * h, .inl (fun _ => 0)))] ++ ([(q2, .inl (cI, w * h, .inl (fun _ => 0)))] ++ (wLy cI cR (adr q3 u4) (w * h) Ly0 ++ (wLy cI cR (adr q5 u6) 576 Ly0 ++ (wBy cI q7 u8 (0, 0, fun _ => 0) ++ (wBy cI q9 u10 (0, 0, fun _ => 0) ++ ([(q11, .inr (2, [.null, .null, .null, .null]))])))))))) rfl ?_
  refine j_dup C d_ML_init_108 rfl ?_
  refine j_aload_n C 1 d_ML_init_109 rfl ?_
  refine gf_ML_37 C 0 (v := .ref q3) rfl rfl d_ML_init_110 ?_
  refine j_aload_n C 1 d_ML_init_113 rfl ?_
  refine gf_ML_25 C 0 (v := .ref q1) rfl rfl d_ML_init_114 ?_
  refine j_aload_n C 1 d_ML_init_117 rfl ?_
  refine gf_ML_29 C 0 (v := .ref q2) rfl rfl d_ML_init_118 ?_
  refine j_VIw C [.ref q3, .ref q1, .ref q2] hA hX hTW (c_Maker_init l D cI cR cZ t1 t2 q11 q3 q1 q2 (w * h) (fun _ => 0) (by omega)) (cw_ML_56 C ⟨Nat.le_of_ble_eq_true rfl, Nat.le_of_ble_eq_true rfl⟩) [21, 1] [0, 2, 3, 4, 5, 6, 7, 8, 9, 10, 11, 12, 13, 14, 15, 16, 17, 18, 19, 20] rfl rfl (by decide) (by decide) (by decide) rfl rfl (Nat.le_of_ble_eq_true rfl) d_ML_init_121 ⟨by show _ ≤ 25; omega, by show _ ≤ 2398 + 7 * (w * h); omega⟩ (fun u12 => ?_)
  refine j_ws (ws' := [(o0, .inr (5, [.int (nI w), .int (nI h), .ref q1, .ref q2, .ref q3, .ref q5, .ref q7, .ref q9, .null, .null, .null, .int 0]))] ++ ([(q2, .inl (cI, w * h, .inl (fun _ => 0)))] ++ (wLy cI cR (adr q3 u4) (w * h) Ly0 ++ (wLy cI cR (adr q5 u6) 576 Ly0 ++ (wBy cI q7 u8 (0, 0, fun _ => 0) ++ (wBy cI q9 u10 (0, 0, fun _ => 0) ++ ([(q11, .inr (2, [.ref q3, .ref q1, .ref q2, .ref u12])), (q1, .inl (cI, w * h, .inl (fun _ => 0))), (u12, .inl (cI, w * h, .inl (fun _ => 0)))]))))))) rfl ?_
  refine pF_ML_59 C hin 0 ([(o0, .inr (5, [.int (nI w), .int (nI h), .ref q1, .ref q2, .ref q3, .ref q5, .ref q7, .ref q9, .ref q11, .null, .null, .int 0]))] ++ ([(q2, .inl (cI, w * h, .inl (fun _ => 0)))] ++ (wLy cI cR (adr q3 u4) (w * h) Ly0 ++ (wLy cI cR (adr q5 u6) 576 Ly0 ++ (wBy cI q7 u8 (0, 0, fun _ => 0) ++ (wBy cI q9 u10 (0, 0, fun _ => 0) ++ ([(q11, .inr (2, [.ref q3, .ref q1, .ref q2, .ref u12])), (q1, .inl (cI, w * h, .inl (fun _ => 0))), (u12, .inl (cI, w * h, .inl (fun _ => 0)))]))))))) rfl rfl rfl rfl rfl d_ML_init_124 ?_
  refine j_aload_n C 1 d_ML_init_127 rfl ?_
  refine nw_ML_63 C hA (by show _ ≤ 25; omega) (by show _ ≤ 2398 + 7 * (w * h); omega) d_ML_init_128 (fun q13 => ?_)
  refine j_ws (ws' := [(o0, .inr (5, [.int (nI w), .int (nI h), .ref q1, .ref q2, .ref q3, .ref q5, .ref q7, .ref q9, .ref q11, .null, .null, .int 0]))] ++ ([(q2, .inl (cI, w * h, .inl (fun _ => 0)))] ++ (wLy cI cR (adr q3 u4) (w * h) Ly0 ++ (wLy cI cR (adr q5 u6) 576 Ly0 ++ (wBy cI q7 u8 (0, 0, fun _ => 0) ++ (wBy cI q9 u10 (0, 0, fun _ => 0) ++ ([(q11, .inr (2, [.ref q3, .ref q1, .ref q2, .ref u12])), (q1, .inl (cI, w * h, .inl (fun _ => 0))), (u12, .inl (cI, w * h, .inl (fun _ => 0)))] ++ ([(q13, .inr (4, [.null, .null]))])))))))) rfl ?_
  refine j_dup C d_ML_init_131 rfl ?_
  refine j_aload_n C 1 d_ML_init_132 rfl ?_
  refine gf_ML_37 C 0 (v := .ref q3) rfl rfl d_ML_init_133 ?_
  refine j_aload_n C 1 d_ML_init_136 rfl ?_
  refine gf_ML_47 C 0 (v := .ref q7) rfl rfl d_ML_init_137 ?_
  refine j_VIw C [.ref q3, .ref q7] hA hX hTW (c_Writer_init l D cI cR cZ t1 t2 q13 q3 q7) (cw_ML_65 C ⟨Nat.le_of_ble_eq_true rfl, Nat.le_of_ble_eq_true rfl⟩) [23] [0, 1, 2, 3, 4, 5, 6, 7, 8, 9, 10, 11, 12, 13, 14, 15, 16, 17, 18, 19, 20, 21, 22] rfl rfl (by decide) (by decide) (by decide) rfl rfl (Nat.le_of_ble_eq_true rfl) d_ML_init_140 ⟨by show _ ≤ 25; omega, by show _ ≤ 2398 + 7 * (w * h); omega⟩ (fun u14 => ?_)
  refine j_ws (ws' := [(o0, .inr (5, [.int (nI w), .int (nI h), .ref q1, .ref q2, .ref q3, .ref q5, .ref q7, .ref q9, .ref q11, .null, .null, .int 0]))] ++ ([(q2, .inl (cI, w * h, .inl (fun _ => 0)))] ++ (wLy cI cR (adr q3 u4) (w * h) Ly0 ++ (wLy cI cR (adr q5 u6) 576 Ly0 ++ (wBy cI q7 u8 (0, 0, fun _ => 0) ++ (wBy cI q9 u10 (0, 0, fun _ => 0) ++ ([(q11, .inr (2, [.ref q3, .ref q1, .ref q2, .ref u12])), (q1, .inl (cI, w * h, .inl (fun _ => 0))), (u12, .inl (cI, w * h, .inl (fun _ => 0)))] ++ ([(q13, .inr (4, [.ref q3, .ref q7]))])))))))) rfl ?_
  refine pF_ML_68 C hin 0 ([(o0, .inr (5, [.int (nI w), .int (nI h), .ref q1, .ref q2, .ref q3, .ref q5, .ref q7, .ref q9, .ref q11, .ref q13, .null, .int 0]))] ++ ([(q2, .inl (cI, w * h, .inl (fun _ => 0)))] ++ (wLy cI cR (adr q3 u4) (w * h) Ly0 ++ (wLy cI cR (adr q5 u6) 576 Ly0 ++ (wBy cI q7 u8 (0, 0, fun _ => 0) ++ (wBy cI q9 u10 (0, 0, fun _ => 0) ++ ([(q11, .inr (2, [.ref q3, .ref q1, .ref q2, .ref u12])), (q1, .inl (cI, w * h, .inl (fun _ => 0))), (u12, .inl (cI, w * h, .inl (fun _ => 0)))] ++ ([(q13, .inr (4, [.ref q3, .ref q7]))])))))))) rfl rfl rfl rfl rfl d_ML_init_143 ?_
  refine j_aload_n C 1 d_ML_init_146 rfl ?_
  refine nw_ML_72 C hA (by show _ ≤ 25; omega) (by show _ ≤ 2398 + 7 * (w * h); omega) d_ML_init_147 (fun q15 => ?_)
  refine j_ws (ws' := [(o0, .inr (5, [.int (nI w), .int (nI h), .ref q1, .ref q2, .ref q3, .ref q5, .ref q7, .ref q9, .ref q11, .ref q13, .null, .int 0]))] ++ ([(q2, .inl (cI, w * h, .inl (fun _ => 0)))] ++ (wLy cI cR (adr q3 u4) (w * h) Ly0 ++ (wLy cI cR (adr q5 u6) 576 Ly0 ++ (wBy cI q7 u8 (0, 0, fun _ => 0) ++ (wBy cI q9 u10 (0, 0, fun _ => 0) ++ ([(q11, .inr (2, [.ref q3, .ref q1, .ref q2, .ref u12])), (q1, .inl (cI, w * h, .inl (fun _ => 0))), (u12, .inl (cI, w * h, .inl (fun _ => 0)))] ++ ([(q13, .inr (4, [.ref q3, .ref q7]))] ++ ([(q15, .inr (3, [.null, .null, .null, .int 0, .int 0]))]))))))))) rfl ?_
  refine j_dup C d_ML_init_150 rfl ?_
  refine j_aload_n C 1 d_ML_init_151 rfl ?_
  refine gf_ML_51 C 0 (v := .ref q9) rfl rfl d_ML_init_152 ?_
  refine j_aload_n C 1 d_ML_init_155 rfl ?_
  refine gf_ML_41 C 0 (v := .ref q5) rfl rfl d_ML_init_156 ?_
  refine j_VIw C [.ref q9, .ref q5] hA hX hTW (c_Reader_init l D cI cR cZ t1 t2 q15 q9 q5) (cw_ML_74 C ⟨Nat.le_of_ble_eq_true rfl, Nat.le_of_ble_eq_true rfl⟩) [24] [0, 1, 2, 3, 4, 5, 6, 7, 8, 9, 10, 11, 12, 13, 14, 15, 16, 17, 18, 19, 20, 21, 22, 23] rfl rfl (by decide) (by decide) (by decide) rfl rfl (Nat.le_of_ble_eq_true rfl) d_ML_init_159 ⟨by show _ ≤ 25; omega, by show _ ≤ 2398 + 7 * (w * h); omega⟩ (fun u16 => ?_)
  refine j_ws (ws' := [(o0, .inr (5, [.int (nI w), .int (nI h), .ref q1, .ref q2, .ref q3, .ref q5, .ref q7, .ref q9, .ref q11, .ref q13, .null, .int 0]))] ++ ([(q2, .inl (cI, w * h, .inl (fun _ => 0)))] ++ (wLy cI cR (adr q3 u4) (w * h) Ly0 ++ (wLy cI cR (adr q5 u6) 576 Ly0 ++ (wBy cI q7 u8 (0, 0, fun _ => 0) ++ (wBy cI q9 u10 (0, 0, fun _ => 0) ++ ([(q11, .inr (2, [.ref q3, .ref q1, .ref q2, .ref u12])), (q1, .inl (cI, w * h, .inl (fun _ => 0))), (u12, .inl (cI, w * h, .inl (fun _ => 0)))] ++ ([(q13, .inr (4, [.ref q3, .ref q7]))] ++ ([(q15, .inr (3, [.ref q9, .ref q5, .ref u16, .int 0, .int 0])), (u16, .inl (cI, 7, .inl (fun _ => 0)))]))))))))) rfl ?_
  refine pF_ML_77 C hin 0 ([(o0, .inr (5, [.int (nI w), .int (nI h), .ref q1, .ref q2, .ref q3, .ref q5, .ref q7, .ref q9, .ref q11, .ref q13, .ref q15, .int 0]))] ++ ([(q2, .inl (cI, w * h, .inl (fun _ => 0)))] ++ (wLy cI cR (adr q3 u4) (w * h) Ly0 ++ (wLy cI cR (adr q5 u6) 576 Ly0 ++ (wBy cI q7 u8 (0, 0, fun _ => 0) ++ (wBy cI q9 u10 (0, 0, fun _ => 0) ++ ([(q11, .inr (2, [.ref q3, .ref q1, .ref q2, .ref u12])), (q1, .inl (cI, w * h, .inl (fun _ => 0))), (u12, .inl (cI, w * h, .inl (fun _ => 0)))] ++ ([(q13, .inr (4, [.ref q3, .ref q7]))] ++ ([(q15, .inr (3, [.ref q9, .ref q5, .ref u16, .int 0, .int 0])), (u16, .inl (cI, 7, .inl (fun _ => 0)))]))))))))) rfl rfl rfl rfl rfl d_ML_init_162 ?_
  refine j_aload_n C 1 d_ML_init_165 rfl ?_
  refine j_bipush C (v := 24) d_ML_init_166 (by decide) ?_
  refine pF_ML_81 C 0 ([(o0, .inr (5, [.int (nI w), .int (nI h), .ref q1, .ref q2, .ref q3, .ref q5, .ref q7, .ref q9, .ref q11, .ref q13, .ref q15, .int 24]))] ++ ([(q2, .inl (cI, w * h, .inl (fun _ => 0)))] ++ (wLy cI cR (adr q3 u4) (w * h) Ly0 ++ (wLy cI cR (adr q5 u6) 576 Ly0 ++ (wBy cI q7 u8 (0, 0, fun _ => 0) ++ (wBy cI q9 u10 (0, 0, fun _ => 0) ++ ([(q11, .inr (2, [.ref q3, .ref q1, .ref q2, .ref u12])), (q1, .inl (cI, w * h, .inl (fun _ => 0))), (u12, .inl (cI, w * h, .inl (fun _ => 0)))] ++ ([(q13, .inr (4, [.ref q3, .ref q7]))] ++ ([(q15, .inr (3, [.ref q9, .ref q5, .ref u16, .int 0, .int 0])), (u16, .inl (cI, 7, .inl (fun _ => 0)))]))))))))) rfl rfl rfl rfl rfl d_ML_init_168 ?_
  refine j_perm [0, 21, 1, 20, 22, 23, 24, 25, 2, 3, 4, 5, 6, 7, 8, 9, 10, 11, 12, 13, 14, 15, 16, 17, 18, 19] (ws' := wML cI cR o0 q1 q2 q11 u12 q13 q15 u16 (adr q3 u4) (adr q5 u6) q7 u8 q9 u10 (w * h) (nI w) (nI h) 24 (fun _ => 0) (fun _ => 0) (fun _ => 0) Ly0 Ly0 (0, 0, fun _ => 0) (0, 0, fun _ => 0) 0 0 (fun _ => 0)) rfl (by decide) ?_
  refine j_widen (c2 := 25) (s2 := 2398 + 7 * (w * h)) (by omega) (by omega) ?_
  exact j_vret C hr d_ML_init_171 ((fun k => match k with | 0 => q1 | 1 => q2 | 2 => q11 | 3 => u12 | 4 => q13 | 5 => q15 | 6 => u16 | 7 => q7 | 8 => u8 | 9 => q9 | _ => u10), (adr q3 u4), (adr q5 u6)) rfl
