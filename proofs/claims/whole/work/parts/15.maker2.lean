def Maker_fillBlocks_l56 (n : Nat) (col : (Nat → Int32)) (msk : (Nat → Int32)) (w4 : Nat) (v2 : Int32) (v3 : Int32) (v5 : Int32) (v6 : Int32) (v8 : Int32) : Nat → Int32 → Int32 → (Nat → Int32) → LyS → Option (Nat × Int32 × (Nat → Int32) × LyS)
  | 0, _, _, _, _ => none
  | k + 1, v7, v9, bare, L =>
  (if v6 ≤ v9 then some (0, v7, bare, L)
  else gd v7 n ((if (L.2 w4 v7.toNatClampNeg) = ((-1)) then (if v9 ≤ 0 then some (((-1) : Int32))
  else gd (v7 - 1) n (some (L.2 w4 ((v7 - 1).toNatClampNeg)))).bind fun r6 =>
  (if v8 ≤ 0 then some (((-1) : Int32))
  else gd (v7 - v6) n (some (L.2 w4 ((v7 - v6).toNatClampNeg)))).bind fun r8 =>
  (Maker_fillBetween r6 r8 v3).bind fun r10 =>
  gd v7 n (gd v7 n (gd v7 n (Maker_fillBlocks_l56 n col msk w4 v2 v3 v5 v6 v8 k (v7 + 1) (v9 + 1) (upd bare v7.toNatClampNeg ((bare v7.toNatClampNeg) ||| ((1 : Int32) <<< (v2 &&& 31)))) (Ls L w4 v7.toNatClampNeg r10))))
  else Maker_fillBlocks_l56 n col msk w4 v2 v3 v5 v6 v8 k (v7 + 1) (v9 + 1) bare L)))
def Maker_fillBlocks_l46 (fu : Nat) (n : Nat) (col : (Nat → Int32)) (msk : (Nat → Int32)) (w4 : Nat) (v2 : Int32) (v3 : Int32) (v5 : Int32) (v6 : Int32) : Nat → Int32 → Int32 → (Nat → Int32) → LyS → Option (Nat × (Nat → Int32) × LyS)
  | 0, _, _, _, _ => none
  | k + 1, v7, v8, bare, L =>
  (if v5 ≤ v8 then some (0, bare, L)
  else (Maker_fillBlocks_l56 n col msk w4 v2 v3 v5 v6 v8 fu v7 0 bare L).bind fun r18 =>
  Maker_fillBlocks_l46 fu n col msk w4 v2 v3 v5 v6 k r18.2.1 (v8 + 1) r18.2.2.1 r18.2.2.2)
def Maker_fillBlocks (fu : Nat) (n : Nat) (col : (Nat → Int32)) (msk : (Nat → Int32)) (bare : (Nat → Int32)) (L : LyS) (p1 : Int32) (p2 : Int32) (p3 : Int32) : Option ((Nat → Int32) × LyS) :=
  gd p2 4 ((Layers_rowsOf n L p1 p2).bind fun r2 =>
  gd p2 4 ((Layers_startOf n L p1).bind fun r4 =>
  (Maker_fillBlocks_l46 fu n col msk p2.toNatClampNeg p2 p3 r2 (L.2 6 p2.toNatClampNeg) fu r4 0 bare L).bind fun r21 =>
  some (r21.2.1, r21.2.2)))
set_option maxRecDepth 100000 in
set_option maxHeartbeats 4000000 in
theorem t_Maker_fillBlocks_l56 {p : Program} {l : Launch} {e : Env} {s : State} {m : MethodId} {args : Array Value} {below : List Frame} {meth : Method} {c : Code} {D : va_G} {cI cR cZ : ClassId} {A : Nat → Prop} {Q : State → Prop} (C : Cx p s m args meth c D (tyG cI cR cZ) b_Maker_fillBlocks 12 "MaskLayers$Maker") (hA : ∀ q : Nat, s.heap.size ≤ q → A q) {o0 : Nat} {hc : Nat} {hm : Nat} {hb : Nat} {a : (Nat → Nat)} {n : Nat} {col : (Nat → Int32)} {msk : (Nat → Int32)} {w4 : Nat} (hw4 : w4 < 4) {v2 : Int32} {v3 : Int32} {v5 : Int32} {v6 : Int32} {v8 : Int32} {out : Nat × Int32 × (Nat → Int32) × LyS} : ∀ (k : Nat) (v7 : Int32) (v9 : Int32) (bare : (Nat → Int32)) (L : LyS), Maker_fillBlocks_l56 n col msk w4 v2 v3 v5 v6 v8 k v7 v9 bare L = some out → (out.1 = 0 → J p l e rm_Maker_fillBlocks s m args below meth c D A (va_D A) 12 Q 0 0 (wMk cI cR o0 hc hm hb a n col msk out.2.2.1 out.2.2.2) [(0, .ref o0), (2, .int v2), (3, .int v3), (4, .ref (a (2 + w4))), (5, .int v5), (6, .int v6), (7, .int out.2.1), (8, .int v8)] [] 144) → J p l e rm_Maker_fillBlocks s m args below meth c D A (va_D A) 12 Q 0 0 (wMk cI cR o0 hc hm hb a n col msk bare L) [(0, .ref o0), (2, .int v2), (3, .int v3), (4, .ref (a (2 + w4))), (5, .int v5), (6, .int v6), (7, .int v7), (8, .int v8), (9, .int v9)] [] 56 := by
  intro k
  induction k with
  | zero => intro v7 v9 bare L h; cases (show none = some out from h)
  | succ k ih =>
    intro v7 v9 bare L h x0
    rw [Maker_fillBlocks_l56] at h
    refine j_iload C 8 d_Maker_fillBlocks_56 rfl ?_
    refine j_iload C 5 d_Maker_fillBlocks_58 rfl ?_
    refine j_icmp_ge C 144 d_Maker_fillBlocks_60 (by decide) (fun c17 => ?_) (fun c17 => ?_)
    · replace h := (if_pos c17).symm.trans h
      obtain rfl := Option.some.inj h
      refine j_sub [0, 1, 2, 3, 4, 5, 6, 7] rfl ?_
      exact x0 rfl
    · replace h := (if_neg c17).symm.trans h
      refine j_aload C 3 d_Maker_fillBlocks_63 rfl ?_
      refine j_iload C 6 d_Maker_fillBlocks_65 rfl ?_
      obtain ⟨b5, h⟩ := gd_ok h
      refine j_iald C (6 + w4) (t0 := 0) (co_4 (P := fun k => (wMk cI cR o0 hc hm hb a n col msk bare L)[6 + k]? = some (a (2 + k), .inl (cI, n, .inl (L.2 k)))) rfl rfl rfl rfl hw4) rfl b5 d_Maker_fillBlocks_67 ?_
      refine j_iconst C (v := (-1)) d_Maker_fillBlocks_68 (by decide) ?_
      refine j_icmp_ne C 135 d_Maker_fillBlocks_69 (by decide) (fun c16 => ?_) (fun c16 => ?_)
      · replace h := (if_neg c16).symm.trans h
        refine j_iinc C [(7, .int (v7 + 1)), (0, .ref o0), (2, .int v2), (3, .int v3), (4, .ref (a (2 + w4))), (5, .int v5), (6, .int v6), (8, .int v8), (9, .int v9)] 6 (v7 + 1) d_Maker_fillBlocks_135 rfl rfl (by decide) rfl ?_
        refine j_iinc C [(9, .int (v9 + 1)), (7, .int (v7 + 1)), (0, .ref o0), (2, .int v2), (3, .int v3), (4, .ref (a (2 + w4))), (5, .int v5), (6, .int v6), (8, .int v8)] 8 (v9 + 1) d_Maker_fillBlocks_138 rfl rfl (by decide) rfl ?_
        refine j_goto C 56 d_Maker_fillBlocks_141 (by decide) ?_
        refine j_sub [2, 3, 4, 5, 6, 7, 1, 8, 0] rfl ?_
        exact ih (v7 + 1) (v9 + 1) bare L h x0
      · replace h := (if_pos c16).symm.trans h
        refine j_iload C 8 d_Maker_fillBlocks_72 rfl ?_
        obtain ⟨r6, hr6, gr6⟩ := bd_ok h
        refine j_let (ws' := wMk cI cR o0 hc hm hb a n col msk bare L) (lv' := [(0, .ref o0), (2, .int v2), (3, .int v3), (4, .ref (a (2 + w4))), (5, .int v5), (6, .int v6), (7, .int v7), (8, .int v8), (9, .int v9)]) (st' := [.int r6]) (pc' := 88) ?_ (fun Kr6 => ?_)
        · replace h := gr6
          refine j_istore C [(10, .int r6), (0, .ref o0), (2, .int v2), (3, .int v3), (4, .ref (a (2 + w4))), (5, .int v5), (6, .int v6), (7, .int v7), (8, .int v8), (9, .int v9)] d_Maker_fillBlocks_88 (by decide) rfl ?_
          refine j_iload C 8 d_Maker_fillBlocks_90 rfl ?_
          obtain ⟨r8, hr8, gr8⟩ := bd_ok h
          refine j_let (ws' := wMk cI cR o0 hc hm hb a n col msk bare L) (lv' := [(0, .ref o0), (2, .int v2), (3, .int v3), (4, .ref (a (2 + w4))), (5, .int v5), (6, .int v6), (7, .int v7), (8, .int v8), (9, .int v9), (10, .int r6)]) (st' := [.int r8]) (pc' := 107) ?_ (fun Kr8 => ?_)
          · replace h := gr8
            refine j_istore C [(11, .int r8), (0, .ref o0), (2, .int v2), (3, .int v3), (4, .ref (a (2 + w4))), (5, .int v5), (6, .int v6), (7, .int v7), (8, .int v8), (9, .int v9), (10, .int r6)] d_Maker_fillBlocks_107 (by decide) rfl ?_
            refine j_aload C 4 d_Maker_fillBlocks_109 rfl ?_
            refine j_iload C 7 d_Maker_fillBlocks_111 rfl ?_
            refine j_iload C 10 d_Maker_fillBlocks_113 rfl ?_
            refine j_iload C 0 d_Maker_fillBlocks_115 rfl ?_
            refine j_iload_n C 3 d_Maker_fillBlocks_117 rfl ?_
            obtain ⟨r10, hr10, h⟩ := bd_ok h
            refine j_PS C [.int r6, .int r8, .int v3] (c_Maker_fillBetween l D cI cR cZ r6 r8 v3 hr10) (cw_Maker_131 C ⟨Nat.le_of_ble_eq_true rfl, Nat.le_of_ble_eq_true rfl⟩) [] rfl rfl rfl (Nat.le_of_ble_eq_true rfl) d_Maker_fillBlocks_118 (by decide) ?_
            obtain ⟨b11, h⟩ := gd_ok h
            refine j_iast C (6 + w4) (wMk cI cR o0 hc hm hb a n col msk bare (Ls L w4 v7.toNatClampNeg r10)) (t0 := 0) (co_4 (P := fun k => (wMk cI cR o0 hc hm hb a n col msk bare L)[6 + k]? = some (a (2 + k), .inl (cI, n, .inl (L.2 k)))) rfl rfl rfl rfl hw4) (co_4 (P := fun k => (wMk cI cR o0 hc hm hb a n col msk bare L).set (6 + k) (a (2 + k), .inl (cI, n, .inl (upd (L.2 k) v7.toNatClampNeg r10))) = wMk cI cR o0 hc hm hb a n col msk bare (Ls L k v7.toNatClampNeg r10)) rfl rfl rfl rfl hw4) rfl b11 d_Maker_fillBlocks_121 ?_
            refine j_aload_n C 1 d_Maker_fillBlocks_122 rfl ?_
            refine gf_Maker_22 C 0 (v := .ref hb) rfl rfl d_Maker_fillBlocks_123 ?_
            refine j_iload C 7 d_Maker_fillBlocks_126 rfl ?_
            refine j_dup2 C d_Maker_fillBlocks_128 rfl rfl ?_
            obtain ⟨b12, h⟩ := gd_ok h
            refine j_iald C (3) (t0 := 0) rfl rfl b12 d_Maker_fillBlocks_129 ?_
            refine j_iconst C (v := 1) d_Maker_fillBlocks_130 (by decide) ?_
            refine j_iload_n C 2 d_Maker_fillBlocks_131 rfl ?_
            refine j_ishl C d_Maker_fillBlocks_132 ?_
            refine j_ior C d_Maker_fillBlocks_133 ?_
            obtain ⟨b13, h⟩ := gd_ok h
            refine j_iast C (3) (wMk cI cR o0 hc hm hb a n col msk (upd bare v7.toNatClampNeg ((bare v7.toNatClampNeg) ||| ((1 : Int32) <<< (v2 &&& 31)))) (Ls L w4 v7.toNatClampNeg r10)) (t0 := 0) rfl rfl rfl b13 d_Maker_fillBlocks_134 ?_
            refine j_iinc C [(7, .int (v7 + 1)), (11, .int r8), (0, .ref o0), (2, .int v2), (3, .int v3), (4, .ref (a (2 + w4))), (5, .int v5), (6, .int v6), (8, .int v8), (9, .int v9), (10, .int r6)] 7 (v7 + 1) d_Maker_fillBlocks_135 rfl rfl (by decide) rfl ?_
            refine j_iinc C [(9, .int (v9 + 1)), (7, .int (v7 + 1)), (11, .int r8), (0, .ref o0), (2, .int v2), (3, .int v3), (4, .ref (a (2 + w4))), (5, .int v5), (6, .int v6), (8, .int v8), (10, .int r6)] 9 (v9 + 1) d_Maker_fillBlocks_138 rfl rfl (by decide) rfl ?_
            refine j_goto C 56 d_Maker_fillBlocks_141 (by decide) ?_
            refine j_sub [3, 4, 5, 6, 7, 8, 1, 9, 0] rfl ?_
            exact ih (v7 + 1) (v9 + 1) (upd bare v7.toNatClampNeg ((bare v7.toNatClampNeg) ||| ((1 : Int32) <<< (v2 &&& 31)))) (Ls L w4 v7.toNatClampNeg r10) h x0
          · replace h := hr8
            refine j_if_le C 106 d_Maker_fillBlocks_92 (by decide) (fun c14 => ?_) (fun c14 => ?_)
            · replace h := (if_pos c14).symm.trans h
              refine j_iconst C (v := (-1)) d_Maker_fillBlocks_106 (by decide) ?_
              obtain rfl := Option.some.inj h
              refine j_sub [1, 2, 3, 4, 5, 6, 7, 8, 9, 0] rfl ?_
              exact Kr8
            · replace h := (if_neg c14).symm.trans h
              refine j_aload C 4 d_Maker_fillBlocks_95 rfl ?_
              refine j_iload C 7 d_Maker_fillBlocks_97 rfl ?_
              refine j_iload C 6 d_Maker_fillBlocks_99 rfl ?_
              refine j_isub C d_Maker_fillBlocks_101 ?_
              obtain ⟨b9, h⟩ := gd_ok h
              refine j_iald C (6 + w4) (t0 := 0) (co_4 (P := fun k => (wMk cI cR o0 hc hm hb a n col msk bare L)[6 + k]? = some (a (2 + k), .inl (cI, n, .inl (L.2 k)))) rfl rfl rfl rfl hw4) rfl b9 d_Maker_fillBlocks_102 ?_
              refine j_goto C 107 d_Maker_fillBlocks_103 (by decide) ?_
              obtain rfl := Option.some.inj h
              refine j_sub [1, 2, 3, 4, 5, 6, 7, 8, 9, 0] rfl ?_
              exact Kr8
        · replace h := hr6
          refine j_if_le C 87 d_Maker_fillBlocks_74 (by decide) (fun c15 => ?_) (fun c15 => ?_)
          · replace h := (if_pos c15).symm.trans h
            refine j_iconst C (v := (-1)) d_Maker_fillBlocks_87 (by decide) ?_
            obtain rfl := Option.some.inj h
            refine j_sub [0, 1, 2, 3, 4, 5, 6, 7, 8] rfl ?_
            exact Kr6
          · replace h := (if_neg c15).symm.trans h
            refine j_aload C 3 d_Maker_fillBlocks_77 rfl ?_
            refine j_iload C 6 d_Maker_fillBlocks_79 rfl ?_
            refine j_iconst C (v := 1) d_Maker_fillBlocks_81 (by decide) ?_
            refine j_isub C d_Maker_fillBlocks_82 ?_
            obtain ⟨b7, h⟩ := gd_ok h
            refine j_iald C (6 + w4) (t0 := 0) (co_4 (P := fun k => (wMk cI cR o0 hc hm hb a n col msk bare L)[6 + k]? = some (a (2 + k), .inl (cI, n, .inl (L.2 k)))) rfl rfl rfl rfl hw4) rfl b7 d_Maker_fillBlocks_83 ?_
            refine j_goto C 88 d_Maker_fillBlocks_84 (by decide) ?_
            obtain rfl := Option.some.inj h
            refine j_sub [0, 1, 2, 3, 4, 5, 6, 7, 8] rfl ?_
            exact Kr6
set_option maxRecDepth 100000 in
set_option maxHeartbeats 4000000 in
theorem t_Maker_fillBlocks_l46 {p : Program} {l : Launch} {e : Env} {s : State} {m : MethodId} {args : Array Value} {below : List Frame} {meth : Method} {c : Code} {D : va_G} {cI cR cZ : ClassId} {A : Nat → Prop} {Q : State → Prop} (C : Cx p s m args meth c D (tyG cI cR cZ) b_Maker_fillBlocks 12 "MaskLayers$Maker") (hA : ∀ q : Nat, s.heap.size ≤ q → A q) {o0 : Nat} {hc : Nat} {hm : Nat} {hb : Nat} {a : (Nat → Nat)} {n : Nat} {fu : Nat} {col : (Nat → Int32)} {msk : (Nat → Int32)} {w4 : Nat} (hw4 : w4 < 4) {v2 : Int32} {v3 : Int32} {v5 : Int32} {v6 : Int32} {out : Nat × (Nat → Int32) × LyS} : ∀ (k : Nat) (v7 : Int32) (v8 : Int32) (bare : (Nat → Int32)) (L : LyS), Maker_fillBlocks_l46 fu n col msk w4 v2 v3 v5 v6 k v7 v8 bare L = some out → (out.1 = 0 → J p l e rm_Maker_fillBlocks s m args below meth c D A (va_D A) 12 Q 0 0 (wMk cI cR o0 hc hm hb a n col msk out.2.1 out.2.2) [] [] 150) → J p l e rm_Maker_fillBlocks s m args below meth c D A (va_D A) 12 Q 0 0 (wMk cI cR o0 hc hm hb a n col msk bare L) [(0, .ref o0), (2, .int v2), (3, .int v3), (4, .ref (a (2 + w4))), (5, .int v5), (6, .int v6), (7, .int v7), (8, .int v8)] [] 46 := by
  intro k
  induction k with
  | zero => intro v7 v8 bare L h; cases (show none = some out from h)
  | succ k ih =>
    intro v7 v8 bare L h x0
    rw [Maker_fillBlocks_l46] at h
    refine j_iload C 7 d_Maker_fillBlocks_46 rfl ?_
    refine j_iload C 4 d_Maker_fillBlocks_48 rfl ?_
    refine j_icmp_ge C 150 d_Maker_fillBlocks_50 (by decide) (fun c20 => ?_) (fun c20 => ?_)
    · replace h := (if_pos c20).symm.trans h
      obtain rfl := Option.some.inj h
      refine j_sub [] rfl ?_
      exact x0 rfl
    · replace h := (if_neg c20).symm.trans h
      refine j_iconst C (v := 0) d_Maker_fillBlocks_53 (by decide) ?_
      refine j_istore C [(9, .int 0), (0, .ref o0), (2, .int v2), (3, .int v3), (4, .ref (a (2 + w4))), (5, .int v5), (6, .int v6), (7, .int v7), (8, .int v8)] d_Maker_fillBlocks_54 (by decide) rfl ?_
      obtain ⟨r18, hr18, h⟩ := bd_ok h
      refine j_sub [1, 2, 3, 4, 5, 6, 7, 8, 0] rfl ?_
      refine t_Maker_fillBlocks_l56 C hA hw4 fu v7 0 bare L hr18 (fun e19 => ?_)
      · refine j_iinc C [(8, .int (v8 + 1)), (0, .ref o0), (2, .int v2), (3, .int v3), (4, .ref (a (2 + w4))), (5, .int v5), (6, .int v6), (7, .int r18.2.1)] 7 (v8 + 1) d_Maker_fillBlocks_144 rfl rfl (by decide) rfl ?_
        refine j_goto C 46 d_Maker_fillBlocks_147 (by decide) ?_
        refine j_sub [1, 2, 3, 4, 5, 6, 7, 0] rfl ?_
        exact ih r18.2.1 (v8 + 1) r18.2.2.1 r18.2.2.2 h x0
set_option maxRecDepth 100000 in
set_option maxHeartbeats 4000000 in
theorem c_Maker_fillBlocks (l : Launch) (D : va_G) (cI cR cZ : ClassId) (fu : Nat) (o0 : Nat) (hc : Nat) (hm : Nat) (hb : Nat) (a : (Nat → Nat)) (n : Nat) (col : (Nat → Int32)) (msk : (Nat → Int32)) (bare : (Nat → Int32)) (L : LyS) (p1 : Int32) (p2 : Int32) (p3 : Int32) {res : ((Nat → Int32) × LyS)} (h : Maker_fillBlocks fu n col msk bare L p1 p2 p3 = some res) (sz : Nat) : Met l y_Maker_fillBlocks (Cond.code y_Maker_fillBlocks b_Maker_fillBlocks 12 none :: BIG) rm_Maker_fillBlocks (PcI [.ref o0, .int p1, .int p2, .int p3] D (tyG cI cR cZ) (wMk cI cR o0 hc hm hb a n col msk bare L) sz) (QcV D (fun _ : Nat => wMk cI cR o0 hc hm hb a n col msk res.1 res.2) (va_A (wMk cI cR o0 hc hm hb a n col msk bare L) sz)) 0 0 (va_A (wMk cI cR o0 hc hm hb a n col msk bare L) sz) := by
  refine met_V (by decide) (Nat.le_of_ble_eq_true rfl) (fun p e s m args below meth c A hA C hr => ?_)
  have C : Cx p s m args meth c D (tyG cI cR cZ) b_Maker_fillBlocks 12 "MaskLayers$Maker" := C
  have hr : meth.sig.returnType = none := hr
  show J p l e rm_Maker_fillBlocks s m args below meth c D A (va_D A) 12 (MQ below (QcV D (fun _ : Nat => wMk cI cR o0 hc hm hb a n col msk res.1 res.2) A) args s 0 0 A) 0 0 (wMk cI cR o0 hc hm hb a n col msk bare L) [(0, .ref o0), (1, .int p1), (2, .int p2), (3, .int p3)] [] 0
  unfold Maker_fillBlocks at h
  refine j_aload_n C 0 d_Maker_fillBlocks_0 rfl ?_
  refine gf_Maker_9 C 0 (v := .ref (a 0)) rfl rfl d_Maker_fillBlocks_1 ?_
  refine gf_Maker_85 C 4 (v := .ref (a 1)) rfl rfl d_Maker_fillBlocks_4 ?_
  refine j_iload_n C 2 d_Maker_fillBlocks_7 rfl ?_
  obtain ⟨b1, h⟩ := gd_ok h
  refine j_aald C 5 (t0 := 2) rfl rfl b1 d_Maker_fillBlocks_8 ?_
  refine j_astore C [(4, .ref (a (2 + p2.toNatClampNeg))), (0, .ref o0), (1, .int p1), (2, .int p2), (3, .int p3)] d_Maker_fillBlocks_9 (by decide) rfl ?_
  refine j_aload_n C 1 d_Maker_fillBlocks_11 rfl ?_
  refine gf_Maker_9 C 0 (v := .ref (a 0)) rfl rfl d_Maker_fillBlocks_12 ?_
  refine j_iload_n C 2 d_Maker_fillBlocks_15 rfl ?_
  refine j_iload_n C 3 d_Maker_fillBlocks_16 rfl ?_
  obtain ⟨r2, hr2, h⟩ := bd_ok h
  refine j_PV C [.int p1, .int p2] 4 rfl rfl (c_Layers_rowsOf l D cI cR cZ a n L p1 p2 hr2) (cw_Maker_89 C ⟨Nat.le_of_ble_eq_true rfl, Nat.le_of_ble_eq_true rfl⟩) [4, 5, 6, 7, 8, 9, 10, 11, 12] rfl rfl rfl (Nat.le_of_ble_eq_true rfl) d_Maker_fillBlocks_17 (by decide) ?_
  refine j_istore C [(5, .int r2), (4, .ref (a (2 + p2.toNatClampNeg))), (0, .ref o0), (1, .int p1), (2, .int p2), (3, .int p3)] d_Maker_fillBlocks_20 (by decide) rfl ?_
  refine j_aload_n C 2 d_Maker_fillBlocks_22 rfl ?_
  refine gf_Maker_9 C 0 (v := .ref (a 0)) rfl rfl d_Maker_fillBlocks_23 ?_
  refine gf_Maker_92 C 4 (v := .ref (a 8)) rfl rfl d_Maker_fillBlocks_26 ?_
  refine j_iload_n C 4 d_Maker_fillBlocks_29 rfl ?_
  obtain ⟨b3, h⟩ := gd_ok h
  refine j_iald C (12) (t0 := 0) rfl rfl b3 d_Maker_fillBlocks_30 ?_
  refine j_istore C [(6, .int (L.2 6 p2.toNatClampNeg)), (5, .int r2), (4, .ref (a (2 + p2.toNatClampNeg))), (0, .ref o0), (1, .int p1), (2, .int p2), (3, .int p3)] d_Maker_fillBlocks_31 (by decide) rfl ?_
  refine j_aload_n C 3 d_Maker_fillBlocks_33 rfl ?_
  refine gf_Maker_9 C 0 (v := .ref (a 0)) rfl rfl d_Maker_fillBlocks_34 ?_
  refine j_iload_n C 4 d_Maker_fillBlocks_37 rfl ?_
  obtain ⟨r4, hr4, h⟩ := bd_ok h
  refine j_PV C [.int p1] 4 rfl rfl (c_Layers_startOf l D cI cR cZ a n L p1 hr4) (cw_Maker_67 C ⟨Nat.le_of_ble_eq_true rfl, Nat.le_of_ble_eq_true rfl⟩) [4, 5, 6, 7, 8, 9, 10, 11, 12] rfl rfl rfl (Nat.le_of_ble_eq_true rfl) d_Maker_fillBlocks_38 (by decide) ?_
  refine j_istore C [(7, .int r4), (6, .int (L.2 6 p2.toNatClampNeg)), (5, .int r2), (4, .ref (a (2 + p2.toNatClampNeg))), (0, .ref o0), (1, .int p1), (2, .int p2), (3, .int p3)] d_Maker_fillBlocks_41 (by decide) rfl ?_
  refine j_iconst C (v := 0) d_Maker_fillBlocks_43 (by decide) ?_
  refine j_istore C [(8, .int 0), (7, .int r4), (6, .int (L.2 6 p2.toNatClampNeg)), (5, .int r2), (4, .ref (a (2 + p2.toNatClampNeg))), (0, .ref o0), (1, .int p1), (2, .int p2), (3, .int p3)] d_Maker_fillBlocks_44 (by decide) rfl ?_
  obtain ⟨r21, hr21, h⟩ := bd_ok h
  refine j_sub [5, 7, 8, 4, 3, 2, 1, 0] rfl ?_
  refine t_Maker_fillBlocks_l46 C hA (in_lt b1) fu r4 0 bare L hr21 (fun e22 => ?_)
  · obtain rfl := Option.some.inj h
    exact j_vret C hr d_Maker_fillBlocks_150 0 rfl
def Maker_makeRest_l41 (n : Nat) (col : (Nat → Int32)) (msk : (Nat → Int32)) (bare : (Nat → Int32)) (v4 : Int32) (v5 : Int32) : Nat → Int32 → Int32 → Int32 → LyS → Option (Nat × Int32 × Int32 × LyS)
  | 0, _, _, _, _ => none
  | k + 1, v2, v3, v6, L =>
  (if (L.1 0) ≤ v6 then some (0, v2, v3, L)
  else gd v3 n ((if (msk v3.toNatClampNeg) = 1 then some ((2 : Int32))
  else some ((0 : Int32))).bind fun r5 =>
  gd r5 4 ((Layers_placeOf n L r5 v6 v5).bind fun r7 =>
  gd r7 n (gd v3 n ((ML_difference (col v3.toNatClampNeg) (L.2 r5.toNatClampNeg r7.toNatClampNeg)).bind fun r10 =>
  gd 3 4 (gd v3 n ((if v2 = 0 then (if r10 = 0 then Maker_makeRest_l41 n col msk bare v4 v5 k 0 (v3 + 1) (v6 + 1) (Ls L ((3 : Int32).toNatClampNeg) v3.toNatClampNeg r10)
  else Maker_makeRest_l41 n col msk bare v4 v5 k 1 (v3 + 1) (v6 + 1) (Ls L ((3 : Int32).toNatClampNeg) v3.toNatClampNeg r10))
  else Maker_makeRest_l41 n col msk bare v4 v5 k 1 (v3 + 1) (v6 + 1) (Ls L ((3 : Int32).toNatClampNeg) v3.toNatClampNeg r10)))))))))
def Maker_makeRest_l31 (fu : Nat) (n : Nat) (col : (Nat → Int32)) (msk : (Nat → Int32)) (bare : (Nat → Int32)) (v4 : Int32) : Nat → Int32 → Int32 → Int32 → LyS → Option (Nat × Int32 × LyS)
  | 0, _, _, _, _ => none
  | k + 1, v2, v3, v5, L =>
  (if v4 ≤ v5 then some (0, v2, L)
  else (Maker_makeRest_l41 n col msk bare v4 v5 fu v2 v3 0 L).bind fun r17 =>
  Maker_makeRest_l31 fu n col msk bare v4 k r17.2.1 r17.2.2.1 (v5 + 1) r17.2.2.2)
def Maker_makeRest (fu : Nat) (n : Nat) (col : (Nat → Int32)) (msk : (Nat → Int32)) (bare : (Nat → Int32)) (L : LyS) (p1 : Int32) : Option (Int32 × LyS) :=
  (Layers_startOf n L p1).bind fun r1 =>
  (Layers_bottomOf n L p1).bind fun r2 =>
  (Layers_topOf n L p1).bind fun r3 =>
  (Maker_makeRest_l31 fu n col msk bare r2 fu 0 r1 r3 L).bind fun r20 =>
  zb r20.2.1 (some (r20.2.1, r20.2.2))
set_option maxRecDepth 100000 in
set_option maxHeartbeats 4000000 in
theorem t_Maker_makeRest_l41 {p : Program} {l : Launch} {e : Env} {s : State} {m : MethodId} {args : Array Value} {below : List Frame} {meth : Method} {c : Code} {D : va_G} {cI cR cZ : ClassId} {A : Nat → Prop} {Q : State → Prop} (C : Cx p s m args meth c D (tyG cI cR cZ) b_Maker_makeRest 10 "MaskLayers$Maker") (hA : ∀ q : Nat, s.heap.size ≤ q → A q) {o0 : Nat} {hc : Nat} {hm : Nat} {hb : Nat} {a : (Nat → Nat)} {n : Nat} {col : (Nat → Int32)} {msk : (Nat → Int32)} {bare : (Nat → Int32)} {v4 : Int32} {v5 : Int32} {out : Nat × Int32 × Int32 × LyS} : ∀ (k : Nat) (v2 : Int32) (v3 : Int32) (v6 : Int32) (L : LyS), Maker_makeRest_l41 n col msk bare v4 v5 k v2 v3 v6 L = some out → (out.1 = 0 → J p l e rm_Maker_makeRest s m args below meth c D A (va_D A) 10 Q 0 0 (wMk cI cR o0 hc hm hb a n col msk bare out.2.2.2) [(0, .ref o0), (2, .int out.2.1), (3, .int out.2.2.1), (4, .int v4), (5, .int v5)] [] 146) → J p l e rm_Maker_makeRest s m args below meth c D A (va_D A) 10 Q 0 0 (wMk cI cR o0 hc hm hb a n col msk bare L) [(0, .ref o0), (2, .int v2), (3, .int v3), (4, .int v4), (5, .int v5), (6, .int v6)] [] 41 := by
  intro k
  induction k with
  | zero => intro v2 v3 v6 L h; cases (show none = some out from h)
  | succ k ih =>
    intro v2 v3 v6 L h x0
    rw [Maker_makeRest_l41] at h
    refine j_iload C 5 d_Maker_makeRest_41 rfl ?_
    refine j_aload_n C 0 d_Maker_makeRest_43 rfl ?_
    refine gf_Maker_9 C 0 (v := .ref (a 0)) rfl rfl d_Maker_makeRest_44 ?_
    refine gf_Maker_113 C 4 (v := .int (L.1 0)) rfl rfl d_Maker_makeRest_47 ?_
    refine j_icmp_ge C 146 d_Maker_makeRest_50 (by decide) (fun c16 => ?_) (fun c16 => ?_)
    · replace h := (if_pos c16).symm.trans h
      obtain rfl := Option.some.inj h
      refine j_sub [0, 1, 2, 3, 4] rfl ?_
      exact x0 rfl
    · replace h := (if_neg c16).symm.trans h
      refine j_aload_n C 0 d_Maker_makeRest_53 rfl ?_
      refine gf_Maker_19 C 0 (v := .ref hm) rfl rfl d_Maker_makeRest_54 ?_
      refine j_iload_n C 2 d_Maker_makeRest_57 rfl ?_
      obtain ⟨b4, h⟩ := gd_ok h
      refine j_iald C (2) (t0 := 0) rfl rfl b4 d_Maker_makeRest_58 ?_
      refine j_iconst C (v := 1) d_Maker_makeRest_59 (by decide) ?_
      obtain ⟨r5, hr5, gr5⟩ := bd_ok h
      refine j_let (ws' := wMk cI cR o0 hc hm hb a n col msk bare L) (lv' := [(0, .ref o0), (2, .int v2), (3, .int v3), (4, .int v4), (5, .int v5), (6, .int v6)]) (st' := [.int r5]) (pc' := 68) ?_ (fun Kr5 => ?_)
      · replace h := gr5
        refine j_istore C [(7, .int r5), (0, .ref o0), (2, .int v2), (3, .int v3), (4, .int v4), (5, .int v5), (6, .int v6)] d_Maker_makeRest_68 (by decide) rfl ?_
        refine j_aload_n C 1 d_Maker_makeRest_70 rfl ?_
        refine gf_Maker_9 C 0 (v := .ref (a 0)) rfl rfl d_Maker_makeRest_71 ?_
        refine gf_Maker_85 C 4 (v := .ref (a 1)) rfl rfl d_Maker_makeRest_74 ?_
        refine j_iload C 0 d_Maker_makeRest_77 rfl ?_
        obtain ⟨b6, h⟩ := gd_ok h
        refine j_aald C 5 (t0 := 2) rfl rfl b6 d_Maker_makeRest_79 ?_
        refine j_aload_n C 1 d_Maker_makeRest_80 rfl ?_
        refine gf_Maker_9 C 0 (v := .ref (a 0)) rfl rfl d_Maker_makeRest_81 ?_
        refine j_iload C 0 d_Maker_makeRest_84 rfl ?_
        refine j_iload C 6 d_Maker_makeRest_86 rfl ?_
        refine j_iload C 5 d_Maker_makeRest_88 rfl ?_
        obtain ⟨r7, hr7, h⟩ := bd_ok h
        refine j_PV C [.int r5, .int v6, .int v5] 4 rfl rfl (c_Layers_placeOf l D cI cR cZ a n L r5 v6 v5 hr7) (cw_Maker_56 C ⟨Nat.le_of_ble_eq_true rfl, Nat.le_of_ble_eq_true rfl⟩) [4, 5, 6, 7, 8, 9, 10, 11, 12] rfl rfl rfl (Nat.le_of_ble_eq_true rfl) d_Maker_makeRest_90 (by decide) ?_
        obtain ⟨b8, h⟩ := gd_ok h
        refine j_iald C (6 + r5.toNatClampNeg) (t0 := 0) (co_4 (P := fun k => (wMk cI cR o0 hc hm hb a n col msk bare L)[6 + k]? = some (a (2 + k), .inl (cI, n, .inl (L.2 k)))) rfl rfl rfl rfl (in_lt b6)) rfl b8 d_Maker_makeRest_93 ?_
        refine j_istore C [(8, .int (L.2 r5.toNatClampNeg r7.toNatClampNeg)), (7, .int r5), (0, .ref o0), (2, .int v2), (3, .int v3), (4, .int v4), (5, .int v5), (6, .int v6)] d_Maker_makeRest_94 (by decide) rfl ?_
        refine j_aload_n C 2 d_Maker_makeRest_96 rfl ?_
        refine gf_Maker_15 C 0 (v := .ref hc) rfl rfl d_Maker_makeRest_97 ?_
        refine j_iload_n C 4 d_Maker_makeRest_100 rfl ?_
        obtain ⟨b9, h⟩ := gd_ok h
        refine j_iald C (1) (t0 := 0) rfl rfl b9 d_Maker_makeRest_101 ?_
        refine j_iload C 0 d_Maker_makeRest_102 rfl ?_
        obtain ⟨r10, hr10, h⟩ := bd_ok h
        refine j_PSN C [.int (col v3.toNatClampNeg), .int (L.2 r5.toNatClampNeg r7.toNatClampNeg)] (c_ML_difference l D cI cR cZ (col v3.toNatClampNeg) (L.2 r5.toNatClampNeg r7.toNatClampNeg) hr10) (cw_Maker_137 C ⟨Nat.le_of_ble_eq_true rfl, Nat.le_of_ble_eq_true rfl⟩) [] rfl rfl rfl (Nat.le_of_ble_eq_true rfl) d_Maker_makeRest_104 (by decide) ?_
        refine j_istore C [(9, .int r10), (8, .int (L.2 r5.toNatClampNeg r7.toNatClampNeg)), (7, .int r5), (0, .ref o0), (2, .int v2), (3, .int v3), (4, .int v4), (5, .int v5), (6, .int v6)] d_Maker_makeRest_107 (by decide) rfl ?_
        refine j_aload_n C 3 d_Maker_makeRest_109 rfl ?_
        refine gf_Maker_9 C 0 (v := .ref (a 0)) rfl rfl d_Maker_makeRest_110 ?_
        refine gf_Maker_85 C 4 (v := .ref (a 1)) rfl rfl d_Maker_makeRest_113 ?_
        refine j_iconst C (v := 3) d_Maker_makeRest_116 (by decide) ?_
        obtain ⟨b11, h⟩ := gd_ok h
        refine j_aald C 5 (t0 := 2) rfl rfl b11 d_Maker_makeRest_117 ?_
        refine j_iload_n C 5 d_Maker_makeRest_118 rfl ?_
        refine j_iload C 0 d_Maker_makeRest_119 rfl ?_
        obtain ⟨b12, h⟩ := gd_ok h
        refine j_iast C (6 + (3 : Int32).toNatClampNeg) (wMk cI cR o0 hc hm hb a n col msk bare (Ls L ((3 : Int32).toNatClampNeg) v3.toNatClampNeg r10)) (t0 := 0) (co_4 (P := fun k => (wMk cI cR o0 hc hm hb a n col msk bare L)[6 + k]? = some (a (2 + k), .inl (cI, n, .inl (L.2 k)))) rfl rfl rfl rfl (in_lt b11)) (co_4 (P := fun k => (wMk cI cR o0 hc hm hb a n col msk bare L).set (6 + k) (a (2 + k), .inl (cI, n, .inl (upd (L.2 k) v3.toNatClampNeg r10))) = wMk cI cR o0 hc hm hb a n col msk bare (Ls L k v3.toNatClampNeg r10)) rfl rfl rfl rfl (in_lt b11)) rfl b12 d_Maker_makeRest_121 ?_
        refine j_iload_n C 4 d_Maker_makeRest_122 rfl ?_
        refine j_if_ne C 131 d_Maker_makeRest_123 (by decide) (fun c14 => ?_) (fun c14 => ?_)
        · replace h := (if_neg c14).symm.trans h
          refine j_iconst C (v := 1) d_Maker_makeRest_131 (by decide) ?_
          refine j_goto C 136 d_Maker_makeRest_132 (by decide) ?_
          refine j_istore_n C [(2, .int 1), (9, .int r10), (8, .int (L.2 r5.toNatClampNeg r7.toNatClampNeg)), (7, .int r5), (0, .ref o0), (3, .int v3), (4, .int v4), (5, .int v5), (6, .int v6)] d_Maker_makeRest_136 (by decide) rfl ?_
          refine j_iinc C [(3, .int (v3 + 1)), (2, .int 1), (9, .int r10), (8, .int (L.2 r5.toNatClampNeg r7.toNatClampNeg)), (7, .int r5), (0, .ref o0), (4, .int v4), (5, .int v5), (6, .int v6)] 5 (v3 + 1) d_Maker_makeRest_137 rfl rfl (by decide) rfl ?_
          refine j_iinc C [(6, .int (v6 + 1)), (3, .int (v3 + 1)), (2, .int 1), (9, .int r10), (8, .int (L.2 r5.toNatClampNeg r7.toNatClampNeg)), (7, .int r5), (0, .ref o0), (4, .int v4), (5, .int v5)] 8 (v6 + 1) d_Maker_makeRest_140 rfl rfl (by decide) rfl ?_
          refine j_goto C 41 d_Maker_makeRest_143 (by decide) ?_
          refine j_sub [6, 2, 1, 7, 8, 0] rfl ?_
          exact ih 1 (v3 + 1) (v6 + 1) (Ls L ((3 : Int32).toNatClampNeg) v3.toNatClampNeg r10) h x0
        · replace h := (if_pos c14).symm.trans h
          refine j_iload C 0 d_Maker_makeRest_126 rfl ?_
          refine j_if_eq C 135 d_Maker_makeRest_128 (by decide) (fun c13 => ?_) (fun c13 => ?_)
          · replace h := (if_pos c13).symm.trans h
            refine j_iconst C (v := 0) d_Maker_makeRest_135 (by decide) ?_
            refine j_istore_n C [(2, .int 0), (9, .int r10), (8, .int (L.2 r5.toNatClampNeg r7.toNatClampNeg)), (7, .int r5), (0, .ref o0), (3, .int v3), (4, .int v4), (5, .int v5), (6, .int v6)] d_Maker_makeRest_136 (by decide) rfl ?_
            refine j_iinc C [(3, .int (v3 + 1)), (2, .int 0), (9, .int r10), (8, .int (L.2 r5.toNatClampNeg r7.toNatClampNeg)), (7, .int r5), (0, .ref o0), (4, .int v4), (5, .int v5), (6, .int v6)] 5 (v3 + 1) d_Maker_makeRest_137 rfl rfl (by decide) rfl ?_
            refine j_iinc C [(6, .int (v6 + 1)), (3, .int (v3 + 1)), (2, .int 0), (9, .int r10), (8, .int (L.2 r5.toNatClampNeg r7.toNatClampNeg)), (7, .int r5), (0, .ref o0), (4, .int v4), (5, .int v5)] 8 (v6 + 1) d_Maker_makeRest_140 rfl rfl (by decide) rfl ?_
            refine j_goto C 41 d_Maker_makeRest_143 (by decide) ?_
            refine j_sub [6, 2, 1, 7, 8, 0] rfl ?_
            exact ih 0 (v3 + 1) (v6 + 1) (Ls L ((3 : Int32).toNatClampNeg) v3.toNatClampNeg r10) h x0
          · replace h := (if_neg c13).symm.trans h
            refine j_iconst C (v := 1) d_Maker_makeRest_131 (by decide) ?_
            refine j_goto C 136 d_Maker_makeRest_132 (by decide) ?_
            refine j_istore_n C [(2, .int 1), (9, .int r10), (8, .int (L.2 r5.toNatClampNeg r7.toNatClampNeg)), (7, .int r5), (0, .ref o0), (3, .int v3), (4, .int v4), (5, .int v5), (6, .int v6)] d_Maker_makeRest_136 (by decide) rfl ?_
            refine j_iinc C [(3, .int (v3 + 1)), (2, .int 1), (9, .int r10), (8, .int (L.2 r5.toNatClampNeg r7.toNatClampNeg)), (7, .int r5), (0, .ref o0), (4, .int v4), (5, .int v5), (6, .int v6)] 5 (v3 + 1) d_Maker_makeRest_137 rfl rfl (by decide) rfl ?_
            refine j_iinc C [(6, .int (v6 + 1)), (3, .int (v3 + 1)), (2, .int 1), (9, .int r10), (8, .int (L.2 r5.toNatClampNeg r7.toNatClampNeg)), (7, .int r5), (0, .ref o0), (4, .int v4), (5, .int v5)] 8 (v6 + 1) d_Maker_makeRest_140 rfl rfl (by decide) rfl ?_
            refine j_goto C 41 d_Maker_makeRest_143 (by decide) ?_
            refine j_sub [6, 2, 1, 7, 8, 0] rfl ?_
            exact ih 1 (v3 + 1) (v6 + 1) (Ls L ((3 : Int32).toNatClampNeg) v3.toNatClampNeg r10) h x0
      · replace h := hr5
        refine j_icmp_ne C 67 d_Maker_makeRest_60 (by decide) (fun c15 => ?_) (fun c15 => ?_)
        · replace h := (if_neg c15).symm.trans h
          refine j_iconst C (v := 0) d_Maker_makeRest_67 (by decide) ?_
          obtain rfl := Option.some.inj h
          refine j_sub [0, 1, 2, 3, 4, 5] rfl ?_
          exact Kr5
        · replace h := (if_pos c15).symm.trans h
          refine j_iconst C (v := 2) d_Maker_makeRest_63 (by decide) ?_
          refine j_goto C 68 d_Maker_makeRest_64 (by decide) ?_
          obtain rfl := Option.some.inj h
          refine j_sub [0, 1, 2, 3, 4, 5] rfl ?_
          exact Kr5
set_option maxRecDepth 100000 in
set_option maxHeartbeats 4000000 in
theorem t_Maker_makeRest_l31 {p : Program} {l : Launch} {e : Env} {s : State} {m : MethodId} {args : Array Value} {below : List Frame} {meth : Method} {c : Code} {D : va_G} {cI cR cZ : ClassId} {A : Nat → Prop} {Q : State → Prop} (C : Cx p s m args meth c D (tyG cI cR cZ) b_Maker_makeRest 10 "MaskLayers$Maker") (hA : ∀ q : Nat, s.heap.size ≤ q → A q) {o0 : Nat} {hc : Nat} {hm : Nat} {hb : Nat} {a : (Nat → Nat)} {n : Nat} {fu : Nat} {col : (Nat → Int32)} {msk : (Nat → Int32)} {bare : (Nat → Int32)} {v4 : Int32} {out : Nat × Int32 × LyS} : ∀ (k : Nat) (v2 : Int32) (v3 : Int32) (v5 : Int32) (L : LyS), Maker_makeRest_l31 fu n col msk bare v4 k v2 v3 v5 L = some out → (out.1 = 0 → J p l e rm_Maker_makeRest s m args below meth c D A (va_D A) 10 Q 0 0 (wMk cI cR o0 hc hm hb a n col msk bare out.2.2) [(2, .int out.2.1)] [] 152) → J p l e rm_Maker_makeRest s m args below meth c D A (va_D A) 10 Q 0 0 (wMk cI cR o0 hc hm hb a n col msk bare L) [(0, .ref o0), (2, .int v2), (3, .int v3), (4, .int v4), (5, .int v5)] [] 31 := by
  intro k
  induction k with
  | zero => intro v2 v3 v5 L h; cases (show none = some out from h)
  | succ k ih =>
    intro v2 v3 v5 L h x0
    rw [Maker_makeRest_l31] at h
    refine j_iload C 4 d_Maker_makeRest_31 rfl ?_
    refine j_iload C 3 d_Maker_makeRest_33 rfl ?_
    refine j_icmp_ge C 152 d_Maker_makeRest_35 (by decide) (fun c19 => ?_) (fun c19 => ?_)
    · replace h := (if_pos c19).symm.trans h
      obtain rfl := Option.some.inj h
      refine j_sub [1] rfl ?_
      exact x0 rfl
    · replace h := (if_neg c19).symm.trans h
      refine j_iconst C (v := 0) d_Maker_makeRest_38 (by decide) ?_
      refine j_istore C [(6, .int 0), (0, .ref o0), (2, .int v2), (3, .int v3), (4, .int v4), (5, .int v5)] d_Maker_makeRest_39 (by decide) rfl ?_
      obtain ⟨r17, hr17, h⟩ := bd_ok h
      refine j_sub [1, 2, 3, 4, 5, 0] rfl ?_
      refine t_Maker_makeRest_l41 C hA fu v2 v3 0 L hr17 (fun e18 => ?_)
      · refine j_iinc C [(5, .int (v5 + 1)), (0, .ref o0), (2, .int r17.2.1), (3, .int r17.2.2.1), (4, .int v4)] 4 (v5 + 1) d_Maker_makeRest_146 rfl rfl (by decide) rfl ?_
        refine j_goto C 31 d_Maker_makeRest_149 (by decide) ?_
        refine j_sub [1, 2, 3, 4, 0] rfl ?_
        exact ih r17.2.1 r17.2.2.1 (v5 + 1) r17.2.2.2 h x0
set_option maxRecDepth 100000 in
set_option maxHeartbeats 4000000 in
theorem c_Maker_makeRest (l : Launch) (D : va_G) (cI cR cZ : ClassId) (fu : Nat) (o0 : Nat) (hc : Nat) (hm : Nat) (hb : Nat) (a : (Nat → Nat)) (n : Nat) (col : (Nat → Int32)) (msk : (Nat → Int32)) (bare : (Nat → Int32)) (L : LyS) (p1 : Int32) {res : (Int32 × LyS)} (h : Maker_makeRest fu n col msk bare L p1 = some res) (sz : Nat) : Met l y_Maker_makeRest (Cond.code y_Maker_makeRest b_Maker_makeRest 10 (some .boolean) :: BIG) rm_Maker_makeRest (PcI [.ref o0, .int p1] D (tyG cI cR cZ) (wMk cI cR o0 hc hm hb a n col msk bare L) sz) (QcI D res.1 (fun _ : Nat => wMk cI cR o0 hc hm hb a n col msk bare res.2) (va_A (wMk cI cR o0 hc hm hb a n col msk bare L) sz)) 0 0 (va_A (wMk cI cR o0 hc hm hb a n col msk bare L) sz) := by
  refine met_I (by decide) (Nat.le_of_ble_eq_true rfl) (fun p e s m args below meth c A hA C hr => ?_)
  have C : Cx p s m args meth c D (tyG cI cR cZ) b_Maker_makeRest 10 "MaskLayers$Maker" := C
  have hr : meth.sig.returnType = some .boolean := hr
  show J p l e rm_Maker_makeRest s m args below meth c D A (va_D A) 10 (MQ below (QcI D res.1 (fun _ : Nat => wMk cI cR o0 hc hm hb a n col msk bare res.2) A) args s 0 0 A) 0 0 (wMk cI cR o0 hc hm hb a n col msk bare L) [(0, .ref o0), (1, .int p1)] [] 0
  unfold Maker_makeRest at h
  refine j_iconst C (v := 0) d_Maker_makeRest_0 (by decide) ?_
  refine j_istore_n C [(2, .int 0), (0, .ref o0), (1, .int p1)] d_Maker_makeRest_1 (by decide) rfl ?_
  refine j_aload_n C 1 d_Maker_makeRest_2 rfl ?_
  refine gf_Maker_9 C 0 (v := .ref (a 0)) rfl rfl d_Maker_makeRest_3 ?_
  refine j_iload_n C 2 d_Maker_makeRest_6 rfl ?_
  obtain ⟨r1, hr1, h⟩ := bd_ok h
  refine j_PV C [.int p1] 4 rfl rfl (c_Layers_startOf l D cI cR cZ a n L p1 hr1) (cw_Maker_67 C ⟨Nat.le_of_ble_eq_true rfl, Nat.le_of_ble_eq_true rfl⟩) [4, 5, 6, 7, 8, 9, 10, 11, 12] rfl rfl rfl (Nat.le_of_ble_eq_true rfl) d_Maker_makeRest_7 (by decide) ?_
  refine j_istore_n C [(3, .int r1), (2, .int 0), (0, .ref o0), (1, .int p1)] d_Maker_makeRest_10 (by decide) rfl ?_
  refine j_aload_n C 2 d_Maker_makeRest_11 rfl ?_
  refine gf_Maker_9 C 0 (v := .ref (a 0)) rfl rfl d_Maker_makeRest_12 ?_
  refine j_iload_n C 3 d_Maker_makeRest_15 rfl ?_
  obtain ⟨r2, hr2, h⟩ := bd_ok h
  refine j_PV C [.int p1] 4 rfl rfl (c_Layers_bottomOf l D cI cR cZ a n L p1 hr2) (cw_Maker_105 C ⟨Nat.le_of_ble_eq_true rfl, Nat.le_of_ble_eq_true rfl⟩) [4, 5, 6, 7, 8, 9, 10, 11, 12] rfl rfl rfl (Nat.le_of_ble_eq_true rfl) d_Maker_makeRest_16 (by decide) ?_
  refine j_istore C [(4, .int r2), (3, .int r1), (2, .int 0), (0, .ref o0), (1, .int p1)] d_Maker_makeRest_19 (by decide) rfl ?_
  refine j_aload_n C 3 d_Maker_makeRest_21 rfl ?_
  refine gf_Maker_9 C 0 (v := .ref (a 0)) rfl rfl d_Maker_makeRest_22 ?_
  refine j_iload_n C 4 d_Maker_makeRest_25 rfl ?_
  obtain ⟨r3, hr3, h⟩ := bd_ok h
  refine j_PV C [.int p1] 4 rfl rfl (c_Layers_topOf l D cI cR cZ a n L p1 hr3) (cw_Maker_102 C ⟨Nat.le_of_ble_eq_true rfl, Nat.le_of_ble_eq_true rfl⟩) [4, 5, 6, 7, 8, 9, 10, 11, 12] rfl rfl rfl (Nat.le_of_ble_eq_true rfl) d_Maker_makeRest_26 (by decide) ?_
  refine j_istore C [(5, .int r3), (4, .int r2), (3, .int r1), (2, .int 0), (0, .ref o0), (1, .int p1)] d_Maker_makeRest_29 (by decide) rfl ?_
  obtain ⟨r20, hr20, h⟩ := bd_ok h
  refine j_sub [4, 3, 2, 1, 0] rfl ?_
  refine t_Maker_makeRest_l31 C hA fu 0 r1 r3 L hr20 (fun e22 => ?_)
  · refine j_iload_n C 0 d_Maker_makeRest_152 rfl ?_
    obtain ⟨b21, h⟩ := zb_ok h
    obtain rfl := Option.some.inj h
    exact j_iretZ C hr d_Maker_makeRest_153 b21 0 rfl
def Maker_makeStripe_b83 (fu : Nat) (n : Nat) (col : (Nat → Int32)) (msk : (Nat → Int32)) (bare : (Nat → Int32)) (L : LyS) (v1 : Int32) (v2 : Int32) : Option ((Nat → Int32) × LyS) :=
  (if v2 = 0 then some (bare, L)
  else (Maker_makeRest fu n col msk bare L v1).bind fun r4 =>
  (if r4.1 = 0 then some (bare, r4.2)
  else (Layers_add n r4.2 v1 3).bind fun r5 =>
  some (bare, r5)))
def Maker_makeStripe_b49 (fu : Nat) (n : Nat) (col : (Nat → Int32)) (msk : (Nat → Int32)) (bare : (Nat → Int32)) (L : LyS) (v1 : Int32) (v2 : Int32) (v3 : Int32) : Option ((Nat → Int32) × LyS) :=
  (if v3 ≤ 0 then Maker_makeStripe_b83 fu n col msk bare L v1 v2
  else (Layers_add n L v1 1).bind fun r8 =>
  (Maker_makeBlocks fu n col msk bare r8 v1 2).bind fun r9 =>
  (Maker_fillBlocks fu n col msk bare r9.2 v1 2 r9.1).bind fun r10 =>
  (Layers_add n r10.2 v1 2).bind fun r11 =>
  Maker_makeStripe_b83 fu n col msk r10.1 r11 v1 v2)
def Maker_makeStripe (fu : Nat) (n : Nat) (col : (Nat → Int32)) (msk : (Nat → Int32)) (bare : (Nat → Int32)) (L : LyS) (p1 : Int32) (p2 : Int32) : Option ((Nat → Int32) × LyS) :=
  (Maker_takeMask fu n col msk bare L p1).bind fun r1 =>
  (Layers_endOf n r1.2 p1 1).bind fun r2 =>
  (Layers_startOf n r1.2 p1).bind fun r3 =>
  (if (r2 - r3) ≤ r1.1 then Maker_makeStripe_b49 fu n col msk bare r1.2 p1 p2 r1.1
  else (Maker_makeBlocks fu n col msk bare r1.2 p1 0).bind fun r13 =>
  (Maker_fillBlocks fu n col msk bare r13.2 p1 0 r13.1).bind fun r14 =>
  (Layers_add n r14.2 p1 0).bind fun r15 =>
  Maker_makeStripe_b49 fu n col msk r14.1 r15 p1 p2 r1.1)
set_option maxRecDepth 100000 in
set_option maxHeartbeats 4000000 in
theorem t_Maker_makeStripe_b83 {p : Program} {l : Launch} {e : Env} {s : State} {m : MethodId} {args : Array Value} {below : List Frame} {meth : Method} {c : Code} {D : va_G} {cI cR cZ : ClassId} {A : Nat → Prop} (C : Cx p s m args meth c D (tyG cI cR cZ) b_Maker_makeStripe 4 "MaskLayers$Maker") (hr : meth.sig.returnType = none) (hA : ∀ q : Nat, s.heap.size ≤ q → A q) {o0 : Nat} {hc : Nat} {hm : Nat} {hb : Nat} {a : (Nat → Nat)} {n : Nat} {col : (Nat → Int32)} {msk : (Nat → Int32)} {bare : (Nat → Int32)} {L : LyS} {fu : Nat} {v1 : Int32} {v2 : Int32} {res : ((Nat → Int32) × LyS)} (h : Maker_makeStripe_b83 fu n col msk bare L v1 v2 = some res) : J p l e rm_Maker_makeStripe s m args below meth c D A (va_D A) 4 (MQ below (QcV D (fun _ : Nat => wMk cI cR o0 hc hm hb a n col msk res.1 res.2) A) args s 0 0 A) 0 0 (wMk cI cR o0 hc hm hb a n col msk bare L) [(0, .ref o0), (1, .int v1), (2, .int v2)] [] 83 := by
  unfold Maker_makeStripe_b83 at h
  refine j_iload_n C 2 d_Maker_makeStripe_83 rfl ?_
  refine j_if_eq C 104 d_Maker_makeStripe_84 (by decide) (fun c7 => ?_) (fun c7 => ?_)
  · replace h := (if_pos c7).symm.trans h
    obtain rfl := Option.some.inj h
    exact j_vret C hr d_Maker_makeStripe_104 0 rfl
  · replace h := (if_neg c7).symm.trans h
    refine j_aload_n C 0 d_Maker_makeStripe_87 rfl ?_
    refine j_iload_n C 1 d_Maker_makeStripe_88 rfl ?_
    obtain ⟨r4, hr4, h⟩ := bd_ok h
    refine j_IV C [.int v1] hA 0 rfl rfl (c_Maker_makeRest l D cI cR cZ fu o0 hc hm hb a n col msk bare L v1 hr4) (cw_Maker_81 C ⟨Nat.le_of_ble_eq_true rfl, Nat.le_of_ble_eq_true rfl⟩) [0, 1, 2, 3, 4, 5, 6, 7, 8, 9, 10, 11, 12] [] rfl rfl (by decide) (by decide) (by decide) rfl rfl (Nat.le_of_ble_eq_true rfl) d_Maker_makeStripe_89 (by decide) (fun _ => ?_)
    refine j_ws (ws' := wMk cI cR o0 hc hm hb a n col msk bare r4.2) rfl ?_
    refine j_if_eq C 104 d_Maker_makeStripe_92 (by decide) (fun c6 => ?_) (fun c6 => ?_)
    · replace h := (if_pos c6).symm.trans h
      obtain rfl := Option.some.inj h
      exact j_vret C hr d_Maker_makeStripe_104 0 rfl
    · replace h := (if_neg c6).symm.trans h
      refine j_aload_n C 0 d_Maker_makeStripe_95 rfl ?_
      refine gf_Maker_9 C 0 (v := .ref (a 0)) rfl rfl d_Maker_makeStripe_96 ?_
      refine j_iload_n C 1 d_Maker_makeStripe_99 rfl ?_
      refine j_iconst C (v := 3) d_Maker_makeStripe_100 (by decide) ?_
      obtain ⟨r5, hr5, h⟩ := bd_ok h
      refine j_VV C [.int v1, .int 3] hA 4 rfl rfl (c_Layers_add l D cI cR cZ a n r4.2 v1 3 hr5) (cw_Maker_77 C ⟨Nat.le_of_ble_eq_true rfl, Nat.le_of_ble_eq_true rfl⟩) [4, 5, 6, 7, 8, 9, 10, 11, 12] [0, 1, 2, 3] rfl rfl (by decide) (by decide) (by decide) rfl rfl (Nat.le_of_ble_eq_true rfl) d_Maker_makeStripe_101 (by decide) (fun _ => ?_)
      refine j_ws (ws' := wMk cI cR o0 hc hm hb a n col msk bare r5) rfl ?_
      obtain rfl := Option.some.inj h
      exact j_vret C hr d_Maker_makeStripe_104 0 rfl
set_option maxRecDepth 100000 in
set_option maxHeartbeats 4000000 in
theorem t_Maker_makeStripe_b49 {p : Program} {l : Launch} {e : Env} {s : State} {m : MethodId} {args : Array Value} {below : List Frame} {meth : Method} {c : Code} {D : va_G} {cI cR cZ : ClassId} {A : Nat → Prop} (C : Cx p s m args meth c D (tyG cI cR cZ) b_Maker_makeStripe 4 "MaskLayers$Maker") (hr : meth.sig.returnType = none) (hA : ∀ q : Nat, s.heap.size ≤ q → A q) {o0 : Nat} {hc : Nat} {hm : Nat} {hb : Nat} {a : (Nat → Nat)} {n : Nat} {col : (Nat → Int32)} {msk : (Nat → Int32)} {bare : (Nat → Int32)} {L : LyS} {fu : Nat} {v1 : Int32} {v2 : Int32} {v3 : Int32} {res : ((Nat → Int32) × LyS)} (h : Maker_makeStripe_b49 fu n col msk bare L v1 v2 v3 = some res) : J p l e rm_Maker_makeStripe s m args below meth c D A (va_D A) 4 (MQ below (QcV D (fun _ : Nat => wMk cI cR o0 hc hm hb a n col msk res.1 res.2) A) args s 0 0 A) 0 0 (wMk cI cR o0 hc hm hb a n col msk bare L) [(0, .ref o0), (1, .int v1), (2, .int v2), (3, .int v3)] [] 49 := by
  unfold Maker_makeStripe_b49 at h
  refine j_iload_n C 3 d_Maker_makeStripe_49 rfl ?_
  refine j_if_le C 83 d_Maker_makeStripe_50 (by decide) (fun c12 => ?_) (fun c12 => ?_)
  · replace h := (if_pos c12).symm.trans h
    refine j_sub [0, 1, 2] rfl ?_
    exact t_Maker_makeStripe_b83 C hr hA h
  · replace h := (if_neg c12).symm.trans h
    refine j_aload_n C 0 d_Maker_makeStripe_53 rfl ?_
    refine gf_Maker_9 C 0 (v := .ref (a 0)) rfl rfl d_Maker_makeStripe_54 ?_
    refine j_iload_n C 1 d_Maker_makeStripe_57 rfl ?_
    refine j_iconst C (v := 1) d_Maker_makeStripe_58 (by decide) ?_
    obtain ⟨r8, hr8, h⟩ := bd_ok h
    refine j_VV C [.int v1, .int 1] hA 4 rfl rfl (c_Layers_add l D cI cR cZ a n L v1 1 hr8) (cw_Maker_77 C ⟨Nat.le_of_ble_eq_true rfl, Nat.le_of_ble_eq_true rfl⟩) [4, 5, 6, 7, 8, 9, 10, 11, 12] [0, 1, 2, 3] rfl rfl (by decide) (by decide) (by decide) rfl rfl (Nat.le_of_ble_eq_true rfl) d_Maker_makeStripe_59 (by decide) (fun _ => ?_)
    refine j_ws (ws' := wMk cI cR o0 hc hm hb a n col msk bare r8) rfl ?_
    refine j_aload_n C 0 d_Maker_makeStripe_62 rfl ?_
    refine j_iload_n C 1 d_Maker_makeStripe_63 rfl ?_
    refine j_iconst C (v := 2) d_Maker_makeStripe_64 (by decide) ?_
    refine j_aload_n C 0 d_Maker_makeStripe_65 rfl ?_
    refine j_iload_n C 1 d_Maker_makeStripe_66 rfl ?_
    refine j_iconst C (v := 2) d_Maker_makeStripe_67 (by decide) ?_
    obtain ⟨r9, hr9, h⟩ := bd_ok h
    refine j_IV C [.int v1, .int 2] hA 0 rfl rfl (c_Maker_makeBlocks l D cI cR cZ fu o0 hc hm hb a n col msk bare r8 v1 2 hr9) (cw_Maker_70 C ⟨Nat.le_of_ble_eq_true rfl, Nat.le_of_ble_eq_true rfl⟩) [0, 1, 2, 3, 4, 5, 6, 7, 8, 9, 10, 11, 12] [] rfl rfl (by decide) (by decide) (by decide) rfl rfl (Nat.le_of_ble_eq_true rfl) d_Maker_makeStripe_68 (by decide) (fun _ => ?_)
    refine j_ws (ws' := wMk cI cR o0 hc hm hb a n col msk bare r9.2) rfl ?_
    obtain ⟨r10, hr10, h⟩ := bd_ok h
    refine j_VV C [.int v1, .int 2, .int r9.1] hA 0 rfl rfl (c_Maker_fillBlocks l D cI cR cZ fu o0 hc hm hb a n col msk bare r9.2 v1 2 r9.1 hr10) (cw_Maker_73 C ⟨Nat.le_of_ble_eq_true rfl, Nat.le_of_ble_eq_true rfl⟩) [0, 1, 2, 3, 4, 5, 6, 7, 8, 9, 10, 11, 12] [] rfl rfl (by decide) (by decide) (by decide) rfl rfl (Nat.le_of_ble_eq_true rfl) d_Maker_makeStripe_71 (by decide) (fun _ => ?_)
    refine j_ws (ws' := wMk cI cR o0 hc hm hb a n col msk r10.1 r10.2) rfl ?_
    refine j_aload_n C 0 d_Maker_makeStripe_74 rfl ?_
    refine gf_Maker_9 C 0 (v := .ref (a 0)) rfl rfl d_Maker_makeStripe_75 ?_
    refine j_iload_n C 1 d_Maker_makeStripe_78 rfl ?_
    refine j_iconst C (v := 2) d_Maker_makeStripe_79 (by decide) ?_
    obtain ⟨r11, hr11, h⟩ := bd_ok h
    refine j_VV C [.int v1, .int 2] hA 4 rfl rfl (c_Layers_add l D cI cR cZ a n r10.2 v1 2 hr11) (cw_Maker_77 C ⟨Nat.le_of_ble_eq_true rfl, Nat.le_of_ble_eq_true rfl⟩) [4, 5, 6, 7, 8, 9, 10, 11, 12] [0, 1, 2, 3] rfl rfl (by decide) (by decide) (by decide) rfl rfl (Nat.le_of_ble_eq_true rfl) d_Maker_makeStripe_80 (by decide) (fun _ => ?_)
    refine j_ws (ws' := wMk cI cR o0 hc hm hb a n col msk r10.1 r11) rfl ?_
    refine j_sub [0, 1, 2] rfl ?_
    exact t_Maker_makeStripe_b83 C hr hA h
set_option maxRecDepth 100000 in
set_option maxHeartbeats 4000000 in
theorem c_Maker_makeStripe (l : Launch) (D : va_G) (cI cR cZ : ClassId) (fu : Nat) (o0 : Nat) (hc : Nat) (hm : Nat) (hb : Nat) (a : (Nat → Nat)) (n : Nat) (col : (Nat → Int32)) (msk : (Nat → Int32)) (bare : (Nat → Int32)) (L : LyS) (p1 : Int32) (p2 : Int32) {res : ((Nat → Int32) × LyS)} (h : Maker_makeStripe fu n col msk bare L p1 p2 = some res) (sz : Nat) : Met l y_Maker_makeStripe (Cond.code y_Maker_makeStripe b_Maker_makeStripe 4 none :: BIG) rm_Maker_makeStripe (PcI [.ref o0, .int p1, .int p2] D (tyG cI cR cZ) (wMk cI cR o0 hc hm hb a n col msk bare L) sz) (QcV D (fun _ : Nat => wMk cI cR o0 hc hm hb a n col msk res.1 res.2) (va_A (wMk cI cR o0 hc hm hb a n col msk bare L) sz)) 0 0 (va_A (wMk cI cR o0 hc hm hb a n col msk bare L) sz) := by
  refine met_V (by decide) (Nat.le_of_ble_eq_true rfl) (fun p e s m args below meth c A hA C hr => ?_)
  have C : Cx p s m args meth c D (tyG cI cR cZ) b_Maker_makeStripe 4 "MaskLayers$Maker" := C
  have hr : meth.sig.returnType = none := hr
  show J p l e rm_Maker_makeStripe s m args below meth c D A (va_D A) 4 (MQ below (QcV D (fun _ : Nat => wMk cI cR o0 hc hm hb a n col msk res.1 res.2) A) args s 0 0 A) 0 0 (wMk cI cR o0 hc hm hb a n col msk bare L) [(0, .ref o0), (1, .int p1), (2, .int p2)] [] 0
  unfold Maker_makeStripe at h
  refine j_aload_n C 0 d_Maker_makeStripe_0 rfl ?_
  refine j_iload_n C 1 d_Maker_makeStripe_1 rfl ?_
  obtain ⟨r1, hr1, h⟩ := bd_ok h
  refine j_IV C [.int p1] hA 0 rfl rfl (c_Maker_takeMask l D cI cR cZ fu o0 hc hm hb a n col msk bare L p1 hr1) (cw_Maker_60 C ⟨Nat.le_of_ble_eq_true rfl, Nat.le_of_ble_eq_true rfl⟩) [0, 1, 2, 3, 4, 5, 6, 7, 8, 9, 10, 11, 12] [] rfl rfl (by decide) (by decide) (by decide) rfl rfl (Nat.le_of_ble_eq_true rfl) d_Maker_makeStripe_2 (by decide) (fun _ => ?_)
  refine j_ws (ws' := wMk cI cR o0 hc hm hb a n col msk bare r1.2) rfl ?_
  refine j_istore_n C [(3, .int r1.1), (0, .ref o0), (1, .int p1), (2, .int p2)] d_Maker_makeStripe_5 (by decide) rfl ?_
  refine j_iload_n C 0 d_Maker_makeStripe_6 rfl ?_
  refine j_aload_n C 1 d_Maker_makeStripe_7 rfl ?_
  refine gf_Maker_9 C 0 (v := .ref (a 0)) rfl rfl d_Maker_makeStripe_8 ?_
  refine j_iload_n C 2 d_Maker_makeStripe_11 rfl ?_
  refine j_iconst C (v := 1) d_Maker_makeStripe_12 (by decide) ?_
  obtain ⟨r2, hr2, h⟩ := bd_ok h
  refine j_PV C [.int p1, .int 1] 4 rfl rfl (c_Layers_endOf l D cI cR cZ a n r1.2 p1 1 hr2) (cw_Maker_63 C ⟨Nat.le_of_ble_eq_true rfl, Nat.le_of_ble_eq_true rfl⟩) [4, 5, 6, 7, 8, 9, 10, 11, 12] rfl rfl rfl (Nat.le_of_ble_eq_true rfl) d_Maker_makeStripe_13 (by decide) ?_
  refine j_aload_n C 1 d_Maker_makeStripe_16 rfl ?_
  refine gf_Maker_9 C 0 (v := .ref (a 0)) rfl rfl d_Maker_makeStripe_17 ?_
  refine j_iload_n C 2 d_Maker_makeStripe_20 rfl ?_
  obtain ⟨r3, hr3, h⟩ := bd_ok h
  refine j_PV C [.int p1] 4 rfl rfl (c_Layers_startOf l D cI cR cZ a n r1.2 p1 hr3) (cw_Maker_67 C ⟨Nat.le_of_ble_eq_true rfl, Nat.le_of_ble_eq_true rfl⟩) [4, 5, 6, 7, 8, 9, 10, 11, 12] rfl rfl rfl (Nat.le_of_ble_eq_true rfl) d_Maker_makeStripe_21 (by decide) ?_
  refine j_isub C d_Maker_makeStripe_24 ?_
  refine j_icmp_ge C 49 d_Maker_makeStripe_25 (by decide) (fun c16 => ?_) (fun c16 => ?_)
  · replace h := (if_pos c16).symm.trans h
    refine j_sub [1, 2, 3, 0] rfl ?_
    exact t_Maker_makeStripe_b49 C hr hA h
  · replace h := (if_neg c16).symm.trans h
    refine j_aload_n C 1 d_Maker_makeStripe_28 rfl ?_
    refine j_iload_n C 2 d_Maker_makeStripe_29 rfl ?_
    refine j_iconst C (v := 0) d_Maker_makeStripe_30 (by decide) ?_
    refine j_aload_n C 1 d_Maker_makeStripe_31 rfl ?_
    refine j_iload_n C 2 d_Maker_makeStripe_32 rfl ?_
    refine j_iconst C (v := 0) d_Maker_makeStripe_33 (by decide) ?_
    obtain ⟨r13, hr13, h⟩ := bd_ok h
    refine j_IV C [.int p1, .int 0] hA 0 rfl rfl (c_Maker_makeBlocks l D cI cR cZ fu o0 hc hm hb a n col msk bare r1.2 p1 0 hr13) (cw_Maker_70 C ⟨Nat.le_of_ble_eq_true rfl, Nat.le_of_ble_eq_true rfl⟩) [0, 1, 2, 3, 4, 5, 6, 7, 8, 9, 10, 11, 12] [] rfl rfl (by decide) (by decide) (by decide) rfl rfl (Nat.le_of_ble_eq_true rfl) d_Maker_makeStripe_34 (by decide) (fun _ => ?_)
    refine j_ws (ws' := wMk cI cR o0 hc hm hb a n col msk bare r13.2) rfl ?_
    obtain ⟨r14, hr14, h⟩ := bd_ok h
    refine j_VV C [.int p1, .int 0, .int r13.1] hA 0 rfl rfl (c_Maker_fillBlocks l D cI cR cZ fu o0 hc hm hb a n col msk bare r13.2 p1 0 r13.1 hr14) (cw_Maker_73 C ⟨Nat.le_of_ble_eq_true rfl, Nat.le_of_ble_eq_true rfl⟩) [0, 1, 2, 3, 4, 5, 6, 7, 8, 9, 10, 11, 12] [] rfl rfl (by decide) (by decide) (by decide) rfl rfl (Nat.le_of_ble_eq_true rfl) d_Maker_makeStripe_37 (by decide) (fun _ => ?_)
    refine j_ws (ws' := wMk cI cR o0 hc hm hb a n col msk r14.1 r14.2) rfl ?_
    refine j_aload_n C 1 d_Maker_makeStripe_40 rfl ?_
    refine gf_Maker_9 C 0 (v := .ref (a 0)) rfl rfl d_Maker_makeStripe_41 ?_
    refine j_iload_n C 2 d_Maker_makeStripe_44 rfl ?_
    refine j_iconst C (v := 0) d_Maker_makeStripe_45 (by decide) ?_
    obtain ⟨r15, hr15, h⟩ := bd_ok h
    refine j_VV C [.int p1, .int 0] hA 4 rfl rfl (c_Layers_add l D cI cR cZ a n r14.2 p1 0 hr15) (cw_Maker_77 C ⟨Nat.le_of_ble_eq_true rfl, Nat.le_of_ble_eq_true rfl⟩) [4, 5, 6, 7, 8, 9, 10, 11, 12] [0, 1, 2, 3] rfl rfl (by decide) (by decide) (by decide) rfl rfl (Nat.le_of_ble_eq_true rfl) d_Maker_makeStripe_46 (by decide) (fun _ => ?_)
    refine j_ws (ws' := wMk cI cR o0 hc hm hb a n col msk r14.1 r15) rfl ?_
    refine j_sub [1, 2, 3, 0] rfl ?_
    exact t_Maker_makeStripe_b49 C hr hA h
def Maker_makeAll_l17 (fu : Nat) (n : Nat) (col : (Nat → Int32)) (msk : (Nat → Int32)) (v1 : Int32) : Nat → Int32 → (Nat → Int32) → LyS → Option (Nat × (Nat → Int32) × LyS)
  | 0, _, _, _ => none
  | k + 1, v2, bare, L =>
  (Layers_stripes n L).bind fun r3 =>
  (if r3 ≤ v2 then some (0, bare, L)
  else (Maker_makeStripe fu n col msk bare L v2 v1).bind fun r4 =>
  Maker_makeAll_l17 fu n col msk v1 k (v2 + 1) r4.1 r4.2)
def Maker_makeAll (fu : Nat) (n : Nat) (col : (Nat → Int32)) (msk : (Nat → Int32)) (bare : (Nat → Int32)) (L : LyS) (p1 : Int32) : Option (Int32 × (Nat → Int32) × LyS) :=
  (Layers_forget fu n L).bind fun r1 =>
  (Arrays_fill fu n bare 0).bind fun r2 =>
  (Maker_makeAll_l17 fu n col msk p1 fu 0 r2 r1).bind fun r6 =>
  some (r6.2.2.1 3, r6.2.1, r6.2.2)
set_option maxRecDepth 100000 in
set_option maxHeartbeats 4000000 in
theorem t_Maker_makeAll_l17 {p : Program} {l : Launch} {e : Env} {s : State} {m : MethodId} {args : Array Value} {below : List Frame} {meth : Method} {c : Code} {D : va_G} {cI cR cZ : ClassId} {A : Nat → Prop} {Q : State → Prop} (C : Cx p s m args meth c D (tyG cI cR cZ) b_Maker_makeAll 3 "MaskLayers$Maker") (hA : ∀ q : Nat, s.heap.size ≤ q → A q) {o0 : Nat} {hc : Nat} {hm : Nat} {hb : Nat} {a : (Nat → Nat)} {n : Nat} {fu : Nat} {col : (Nat → Int32)} {msk : (Nat → Int32)} {v1 : Int32} {out : Nat × (Nat → Int32) × LyS} : ∀ (k : Nat) (v2 : Int32) (bare : (Nat → Int32)) (L : LyS), Maker_makeAll_l17 fu n col msk v1 k v2 bare L = some out → (out.1 = 0 → J p l e rm_Maker_makeAll s m args below meth c D A (va_D A) 3 Q 0 0 (wMk cI cR o0 hc hm hb a n col msk out.2.1 out.2.2) [(0, .ref o0)] [] 40) → J p l e rm_Maker_makeAll s m args below meth c D A (va_D A) 3 Q 0 0 (wMk cI cR o0 hc hm hb a n col msk bare L) [(0, .ref o0), (1, .int v1), (2, .int v2)] [] 17 := by
  intro k
  induction k with
  | zero => intro v2 bare L h; cases (show none = some out from h)
  | succ k ih =>
    intro v2 bare L h x0
    rw [Maker_makeAll_l17] at h
    refine j_iload_n C 2 d_Maker_makeAll_17 rfl ?_
    refine j_aload_n C 0 d_Maker_makeAll_18 rfl ?_
    refine gf_Maker_9 C 0 (v := .ref (a 0)) rfl rfl d_Maker_makeAll_19 ?_
    obtain ⟨r3, hr3, h⟩ := bd_ok h
    refine j_PV C [] 4 rfl rfl (c_Layers_stripes l D cI cR cZ a n L hr3) (cw_Maker_36 C ⟨Nat.le_of_ble_eq_true rfl, Nat.le_of_ble_eq_true rfl⟩) [4, 5, 6, 7, 8, 9, 10, 11, 12] rfl rfl rfl (Nat.le_of_ble_eq_true rfl) d_Maker_makeAll_22 (by decide) ?_
    refine j_icmp_ge C 40 d_Maker_makeAll_25 (by decide) (fun c5 => ?_) (fun c5 => ?_)
    · replace h := (if_pos c5).symm.trans h
      obtain rfl := Option.some.inj h
      refine j_sub [0] rfl ?_
      exact x0 rfl
    · replace h := (if_neg c5).symm.trans h
      refine j_aload_n C 0 d_Maker_makeAll_28 rfl ?_
      refine j_iload_n C 2 d_Maker_makeAll_29 rfl ?_
      refine j_iload_n C 1 d_Maker_makeAll_30 rfl ?_
      obtain ⟨r4, hr4, h⟩ := bd_ok h
      refine j_VV C [.int v2, .int v1] hA 0 rfl rfl (c_Maker_makeStripe l D cI cR cZ fu o0 hc hm hb a n col msk bare L v2 v1 hr4) (cw_Maker_40 C ⟨Nat.le_of_ble_eq_true rfl, Nat.le_of_ble_eq_true rfl⟩) [0, 1, 2, 3, 4, 5, 6, 7, 8, 9, 10, 11, 12] [] rfl rfl (by decide) (by decide) (by decide) rfl rfl (Nat.le_of_ble_eq_true rfl) d_Maker_makeAll_31 (by decide) (fun _ => ?_)
      refine j_ws (ws' := wMk cI cR o0 hc hm hb a n col msk r4.1 r4.2) rfl ?_
      refine j_iinc C [(2, .int (v2 + 1)), (0, .ref o0), (1, .int v1)] 2 (v2 + 1) d_Maker_makeAll_34 rfl rfl (by decide) rfl ?_
      refine j_goto C 17 d_Maker_makeAll_37 (by decide) ?_
      refine j_sub [1, 2, 0] rfl ?_
      exact ih (v2 + 1) r4.1 r4.2 h x0
set_option maxRecDepth 100000 in
set_option maxHeartbeats 4000000 in
theorem c_Maker_makeAll (l : Launch) (D : va_G) (cI cR cZ : ClassId) (fu : Nat) (o0 : Nat) (hc : Nat) (hm : Nat) (hb : Nat) (a : (Nat → Nat)) (n : Nat) (col : (Nat → Int32)) (msk : (Nat → Int32)) (bare : (Nat → Int32)) (L : LyS) (p1 : Int32) {res : (Int32 × (Nat → Int32) × LyS)} (h : Maker_makeAll fu n col msk bare L p1 = some res) (sz : Nat) : Met l y_Maker_makeAll (Cond.code y_Maker_makeAll b_Maker_makeAll 3 (some .int) :: BIG) rm_Maker_makeAll (PcI [.ref o0, .int p1] D (tyG cI cR cZ) (wMk cI cR o0 hc hm hb a n col msk bare L) sz) (QcI D res.1 (fun _ : Nat => wMk cI cR o0 hc hm hb a n col msk res.2.1 res.2.2) (va_A (wMk cI cR o0 hc hm hb a n col msk bare L) sz)) 0 0 (va_A (wMk cI cR o0 hc hm hb a n col msk bare L) sz) := by
  refine met_I (by decide) (Nat.le_of_ble_eq_true rfl) (fun p e s m args below meth c A hA C hr => ?_)
  have C : Cx p s m args meth c D (tyG cI cR cZ) b_Maker_makeAll 3 "MaskLayers$Maker" := C
  have hr : meth.sig.returnType = some .int := hr
  show J p l e rm_Maker_makeAll s m args below meth c D A (va_D A) 3 (MQ below (QcI D res.1 (fun _ : Nat => wMk cI cR o0 hc hm hb a n col msk res.2.1 res.2.2) A) args s 0 0 A) 0 0 (wMk cI cR o0 hc hm hb a n col msk bare L) [(0, .ref o0), (1, .int p1)] [] 0
  unfold Maker_makeAll at h
  refine j_aload_n C 0 d_Maker_makeAll_0 rfl ?_
  refine gf_Maker_9 C 0 (v := .ref (a 0)) rfl rfl d_Maker_makeAll_1 ?_
  obtain ⟨r1, hr1, h⟩ := bd_ok h
  refine j_VV C [] hA 4 rfl rfl (c_Layers_forget l D cI cR cZ fu a n L hr1) (cw_Maker_25 C ⟨Nat.le_of_ble_eq_true rfl, Nat.le_of_ble_eq_true rfl⟩) [4, 5, 6, 7, 8, 9, 10, 11, 12] [0, 1, 2, 3] rfl rfl (by decide) (by decide) (by decide) rfl rfl (Nat.le_of_ble_eq_true rfl) d_Maker_makeAll_4 (by decide) (fun _ => ?_)
  refine j_ws (ws' := wMk cI cR o0 hc hm hb a n col msk bare r1) rfl ?_
  refine j_aload_n C 0 d_Maker_makeAll_7 rfl ?_
  refine gf_Maker_22 C 0 (v := .ref hb) rfl rfl d_Maker_makeAll_8 ?_
  refine j_iconst C (v := 0) d_Maker_makeAll_11 (by decide) ?_
  obtain ⟨r2, hr2, h⟩ := bd_ok h
  refine j_VS C [.ref hb, .int 0] hA (c_Arrays_fill l D cI cR cZ fu hb n bare 0 hr2) (cw_Maker_30 C ⟨Nat.le_of_ble_eq_true rfl, Nat.le_of_ble_eq_true rfl⟩) [3] [0, 1, 2, 4, 5, 6, 7, 8, 9, 10, 11, 12] rfl rfl (by decide) (by decide) (by decide) rfl rfl (Nat.le_of_ble_eq_true rfl) d_Maker_makeAll_12 (by decide) (fun _ => ?_)
  refine j_perm [0, 1, 2, 12, 3, 4, 5, 6, 7, 8, 9, 10, 11] (ws' := wMk cI cR o0 hc hm hb a n col msk r2 r1) rfl (by decide) ?_
  refine j_iconst C (v := 0) d_Maker_makeAll_15 (by decide) ?_
  refine j_istore_n C [(2, .int 0), (0, .ref o0), (1, .int p1)] d_Maker_makeAll_16 (by decide) rfl ?_
  obtain ⟨r6, hr6, h⟩ := bd_ok h
  refine j_sub [1, 2, 0] rfl ?_
  refine t_Maker_makeAll_l17 C hA fu 0 r2 r1 hr6 (fun e7 => ?_)
  · refine j_aload_n C 0 d_Maker_makeAll_40 rfl ?_
    refine gf_Maker_9 C 0 (v := .ref (a 0)) rfl rfl d_Maker_makeAll_41 ?_
    refine gf_Maker_44 C 4 (v := .int (r6.2.2.1 3)) rfl rfl d_Maker_makeAll_44 ?_
    obtain rfl := Option.some.inj h
    exact j_iret C hr d_Maker_makeAll_47 0 rfl
