def Maker_fillBlocks_l44 (n : Nat) (col : (Nat → Int32)) (msk : (Nat → Int32)) (v2 : Int32) (v3 : Int32) (v4 : Int32) (v5 : Int32) (v7 : Int32) : Nat → Int32 → Int32 → (Nat → Int32) → LyS → Option (Nat × Int32 × (Nat → Int32) × LyS)
  | 0, _, _, _, _ => none
  | k + 1, v6, v8, bare, L =>
  (if v5 ≤ v8 then some (0, v6, bare, L)
  else (Layers_value n L v2 v6).bind fun r4 =>
  (if r4 = ((-1)) then (Maker_holds n bare v6).bind fun r5 =>
  (if r5 = 0 then Maker_fillBlocks_l44 n col msk v2 v3 v4 v5 v7 k (v6 + 1) (v8 + 1) bare L
  else (if v8 ≤ 0 then some (((-1) : Int32))
  else (Layers_value n L v2 (v6 - 1)).bind fun r7 =>
  some (r7)).bind fun r6 =>
  (if v7 ≤ 0 then some (((-1) : Int32))
  else (Layers_value n L v2 (v6 - v5)).bind fun r9 =>
  some (r9)).bind fun r8 =>
  (Maker_fillBetween r6 r8 v3).bind fun r10 =>
  (Layers_set n L v2 v6 r10).bind fun r11 =>
  gd v6 n (gd v6 n (Maker_fillBlocks_l44 n col msk v2 v3 v4 v5 v7 k (v6 + 1) (v8 + 1) (upd bare v6.toNatClampNeg ((bare v6.toNatClampNeg) ||| ((1 : Int32) <<< (v2 &&& 31)))) r11)))
  else Maker_fillBlocks_l44 n col msk v2 v3 v4 v5 v7 k (v6 + 1) (v8 + 1) bare L))
def Maker_fillBlocks_l34 (fu : Nat) (n : Nat) (col : (Nat → Int32)) (msk : (Nat → Int32)) (v2 : Int32) (v3 : Int32) (v4 : Int32) (v5 : Int32) : Nat → Int32 → Int32 → (Nat → Int32) → LyS → Option (Nat × (Nat → Int32) × LyS)
  | 0, _, _, _, _ => none
  | k + 1, v6, v7, bare, L =>
  (if v4 ≤ v7 then some (0, bare, L)
  else (Maker_fillBlocks_l44 n col msk v2 v3 v4 v5 v7 fu v6 0 bare L).bind fun r19 =>
  Maker_fillBlocks_l34 fu n col msk v2 v3 v4 v5 k r19.2.1 (v7 + 1) r19.2.2.1 r19.2.2.2)
def Maker_fillBlocks (fu : Nat) (n : Nat) (col : (Nat → Int32)) (msk : (Nat → Int32)) (bare : (Nat → Int32)) (L : LyS) (p1 : Int32) (p2 : Int32) (p3 : Int32) : Option ((Nat → Int32) × LyS) :=
  (Layers_rowsOf n L p1 p2).bind fun r1 =>
  (Layers_columnsOf n L p2).bind fun r2 =>
  (Layers_startOf n L p1).bind fun r3 =>
  (Maker_fillBlocks_l34 fu n col msk p2 p3 r1 r2 fu r3 0 bare L).bind fun r22 =>
  some (r22.2.1, r22.2.2)
set_option maxRecDepth 100000 in
set_option maxHeartbeats 4000000 in
theorem t_Maker_fillBlocks_l44 {p : Program} {l : Launch} {e : Env} {s : State} {m : MethodId} {args : Array Value} {below : List Frame} {meth : Method} {c : Code} {D : va_G} {cI cR cZ : ClassId} {A : Nat → Prop} {Q : State → Prop} (C : Cx p s m args meth c D (tyG cI cR cZ) b_Maker_fillBlocks 11 "MaskLayers$Maker") (hA : ∀ q : Nat, s.heap.size ≤ q → A q) {o0 : Nat} {hc : Nat} {hm : Nat} {hb : Nat} {a : (Nat → Nat)} {n : Nat} {col : (Nat → Int32)} {msk : (Nat → Int32)} {v2 : Int32} {v3 : Int32} {v4 : Int32} {v5 : Int32} {v7 : Int32} {out : Nat × Int32 × (Nat → Int32) × LyS} : ∀ (k : Nat) (v6 : Int32) (v8 : Int32) (bare : (Nat → Int32)) (L : LyS), Maker_fillBlocks_l44 n col msk v2 v3 v4 v5 v7 k v6 v8 bare L = some out → (out.1 = 0 → J p l e rm_Maker_fillBlocks s m args below meth c D A (va_D A) 11 Q 0 0 (wMk cI cR o0 hc hm hb a n col msk out.2.2.1 out.2.2.2) [(0, .ref o0), (2, .int v2), (3, .int v3), (4, .int v4), (5, .int v5), (6, .int out.2.1), (7, .int v7)] [] 164) → J p l e rm_Maker_fillBlocks s m args below meth c D A (va_D A) 11 Q 0 0 (wMk cI cR o0 hc hm hb a n col msk bare L) [(0, .ref o0), (2, .int v2), (3, .int v3), (4, .int v4), (5, .int v5), (6, .int v6), (7, .int v7), (8, .int v8)] [] 44 := by
  intro k
  induction k with
  | zero => intro v6 v8 bare L h; cases (show none = some out from h)
  | succ k ih =>
    intro v6 v8 bare L h x0
    rw [Maker_fillBlocks_l44] at h
    refine j_iload C 7 d_Maker_fillBlocks_44 rfl ?_
    refine j_iload C 4 d_Maker_fillBlocks_46 rfl ?_
    refine j_icmp_ge C 164 d_Maker_fillBlocks_48 (by decide) (fun c18 => ?_) (fun c18 => ?_)
    · replace h := (if_pos c18).symm.trans h
      obtain rfl := Option.some.inj h
      refine j_sub [0, 1, 2, 3, 4, 5, 6] rfl ?_
      exact x0 rfl
    · replace h := (if_neg c18).symm.trans h
      refine j_aload_n C 0 d_Maker_fillBlocks_51 rfl ?_
      refine gf_Maker_9 C 0 (v := .ref (a 0)) rfl rfl d_Maker_fillBlocks_52 ?_
      refine j_iload_n C 1 d_Maker_fillBlocks_55 rfl ?_
      refine j_iload C 5 d_Maker_fillBlocks_56 rfl ?_
      obtain ⟨r4, hr4, h⟩ := bd_ok h
      refine j_PV C [.int v2, .int v6] 4 rfl rfl (c_Layers_value l D cI cR cZ a n L v2 v6 hr4) (cw_Maker_140 C ⟨Nat.le_of_ble_eq_true rfl, Nat.le_of_ble_eq_true rfl⟩) [4, 5, 6, 7, 8, 9, 10] rfl rfl rfl (Nat.le_of_ble_eq_true rfl) d_Maker_fillBlocks_58 (by decide) ?_
      refine j_iconst C (v := (-1)) d_Maker_fillBlocks_61 (by decide) ?_
      refine j_icmp_ne C 155 d_Maker_fillBlocks_62 (by decide) (fun c17 => ?_) (fun c17 => ?_)
      · replace h := (if_neg c17).symm.trans h
        refine j_iinc C [(6, .int (v6 + 1)), (0, .ref o0), (2, .int v2), (3, .int v3), (4, .int v4), (5, .int v5), (7, .int v7), (8, .int v8)] 5 (v6 + 1) d_Maker_fillBlocks_155 rfl rfl (by decide) rfl ?_
        refine j_iinc C [(8, .int (v8 + 1)), (6, .int (v6 + 1)), (0, .ref o0), (2, .int v2), (3, .int v3), (4, .int v4), (5, .int v5), (7, .int v7)] 7 (v8 + 1) d_Maker_fillBlocks_158 rfl rfl (by decide) rfl ?_
        refine j_goto C 44 d_Maker_fillBlocks_161 (by decide) ?_
        refine j_sub [2, 3, 4, 5, 6, 1, 7, 0] rfl ?_
        exact ih (v6 + 1) (v8 + 1) bare L h x0
      · replace h := (if_pos c17).symm.trans h
        refine j_aload_n C 0 d_Maker_fillBlocks_65 rfl ?_
        refine gf_Maker_22 C 0 (v := .ref hb) rfl rfl d_Maker_fillBlocks_66 ?_
        refine j_iload C 5 d_Maker_fillBlocks_69 rfl ?_
        obtain ⟨r5, hr5, h⟩ := bd_ok h
        refine j_PS C [.ref hb, .int v6] (c_Maker_holds l D cI cR cZ hb n bare v6 hr5) (cw_Maker_60 C ⟨Nat.le_of_ble_eq_true rfl, Nat.le_of_ble_eq_true rfl⟩) [3] rfl rfl rfl (Nat.le_of_ble_eq_true rfl) d_Maker_fillBlocks_71 (by decide) ?_
        refine j_if_eq C 155 d_Maker_fillBlocks_74 (by decide) (fun c16 => ?_) (fun c16 => ?_)
        · replace h := (if_pos c16).symm.trans h
          refine j_iinc C [(6, .int (v6 + 1)), (0, .ref o0), (2, .int v2), (3, .int v3), (4, .int v4), (5, .int v5), (7, .int v7), (8, .int v8)] 5 (v6 + 1) d_Maker_fillBlocks_155 rfl rfl (by decide) rfl ?_
          refine j_iinc C [(8, .int (v8 + 1)), (6, .int (v6 + 1)), (0, .ref o0), (2, .int v2), (3, .int v3), (4, .int v4), (5, .int v5), (7, .int v7)] 7 (v8 + 1) d_Maker_fillBlocks_158 rfl rfl (by decide) rfl ?_
          refine j_goto C 44 d_Maker_fillBlocks_161 (by decide) ?_
          refine j_sub [2, 3, 4, 5, 6, 1, 7, 0] rfl ?_
          exact ih (v6 + 1) (v8 + 1) bare L h x0
        · replace h := (if_neg c16).symm.trans h
          refine j_iload C 7 d_Maker_fillBlocks_77 rfl ?_
          obtain ⟨r6, hr6, gr6⟩ := bd_ok h
          refine j_let (ws' := wMk cI cR o0 hc hm hb a n col msk bare L) (lv' := [(0, .ref o0), (2, .int v2), (3, .int v3), (4, .int v4), (5, .int v5), (6, .int v6), (7, .int v7), (8, .int v8)]) (st' := [.int r6]) (pc' := 98) ?_ (fun Kr6 => ?_)
          · replace h := gr6
            refine j_istore C [(9, .int r6), (0, .ref o0), (2, .int v2), (3, .int v3), (4, .int v4), (5, .int v5), (6, .int v6), (7, .int v7), (8, .int v8)] d_Maker_fillBlocks_98 (by decide) rfl ?_
            refine j_iload C 7 d_Maker_fillBlocks_100 rfl ?_
            obtain ⟨r8, hr8, gr8⟩ := bd_ok h
            refine j_let (ws' := wMk cI cR o0 hc hm hb a n col msk bare L) (lv' := [(0, .ref o0), (2, .int v2), (3, .int v3), (4, .int v4), (5, .int v5), (6, .int v6), (7, .int v7), (8, .int v8), (9, .int r6)]) (st' := [.int r8]) (pc' := 122) ?_ (fun Kr8 => ?_)
            · replace h := gr8
              refine j_istore C [(10, .int r8), (0, .ref o0), (2, .int v2), (3, .int v3), (4, .int v4), (5, .int v5), (6, .int v6), (7, .int v7), (8, .int v8), (9, .int r6)] d_Maker_fillBlocks_122 (by decide) rfl ?_
              refine j_aload_n C 1 d_Maker_fillBlocks_124 rfl ?_
              refine gf_Maker_9 C 0 (v := .ref (a 0)) rfl rfl d_Maker_fillBlocks_125 ?_
              refine j_iload_n C 2 d_Maker_fillBlocks_128 rfl ?_
              refine j_iload C 6 d_Maker_fillBlocks_129 rfl ?_
              refine j_iload C 9 d_Maker_fillBlocks_131 rfl ?_
              refine j_iload C 0 d_Maker_fillBlocks_133 rfl ?_
              refine j_iload_n C 3 d_Maker_fillBlocks_135 rfl ?_
              obtain ⟨r10, hr10, h⟩ := bd_ok h
              refine j_PS C [.int r6, .int r8, .int v3] (c_Maker_fillBetween l D cI cR cZ r6 r8 v3 hr10) (cw_Maker_143 C ⟨Nat.le_of_ble_eq_true rfl, Nat.le_of_ble_eq_true rfl⟩) [] rfl rfl rfl (Nat.le_of_ble_eq_true rfl) d_Maker_fillBlocks_136 (by decide) ?_
              obtain ⟨r11, hr11, h⟩ := bd_ok h
              refine j_VV C [.int v2, .int v6, .int r10] hA 4 rfl rfl (c_Layers_set l D cI cR cZ a n L v2 v6 r10 hr11) (cw_Maker_92 C ⟨Nat.le_of_ble_eq_true rfl, Nat.le_of_ble_eq_true rfl⟩) [4, 5, 6, 7, 8, 9, 10] [0, 1, 2, 3] rfl rfl (by decide) (by decide) (by decide) rfl rfl (Nat.le_of_ble_eq_true rfl) d_Maker_fillBlocks_139 (by decide) (fun _ => ?_)
              refine j_ws (ws' := wMk cI cR o0 hc hm hb a n col msk bare r11) rfl ?_
              refine j_aload_n C 1 d_Maker_fillBlocks_142 rfl ?_
              refine gf_Maker_22 C 0 (v := .ref hb) rfl rfl d_Maker_fillBlocks_143 ?_
              refine j_iload C 6 d_Maker_fillBlocks_146 rfl ?_
              refine j_dup2 C d_Maker_fillBlocks_148 rfl rfl ?_
              obtain ⟨b12, h⟩ := gd_ok h
              refine j_iald C (3) (t0 := 0) rfl rfl b12 d_Maker_fillBlocks_149 ?_
              refine j_iconst C (v := 1) d_Maker_fillBlocks_150 (by decide) ?_
              refine j_iload_n C 2 d_Maker_fillBlocks_151 rfl ?_
              refine j_ishl C d_Maker_fillBlocks_152 ?_
              refine j_ior C d_Maker_fillBlocks_153 ?_
              obtain ⟨b13, h⟩ := gd_ok h
              refine j_iast C (3) (wMk cI cR o0 hc hm hb a n col msk (upd bare v6.toNatClampNeg ((bare v6.toNatClampNeg) ||| ((1 : Int32) <<< (v2 &&& 31)))) r11) (t0 := 0) rfl rfl rfl b13 d_Maker_fillBlocks_154 ?_
              refine j_iinc C [(6, .int (v6 + 1)), (10, .int r8), (0, .ref o0), (2, .int v2), (3, .int v3), (4, .int v4), (5, .int v5), (7, .int v7), (8, .int v8), (9, .int r6)] 6 (v6 + 1) d_Maker_fillBlocks_155 rfl rfl (by decide) rfl ?_
              refine j_iinc C [(8, .int (v8 + 1)), (6, .int (v6 + 1)), (10, .int r8), (0, .ref o0), (2, .int v2), (3, .int v3), (4, .int v4), (5, .int v5), (7, .int v7), (9, .int r6)] 8 (v8 + 1) d_Maker_fillBlocks_158 rfl rfl (by decide) rfl ?_
              refine j_goto C 44 d_Maker_fillBlocks_161 (by decide) ?_
              refine j_sub [3, 4, 5, 6, 7, 1, 8, 0] rfl ?_
              exact ih (v6 + 1) (v8 + 1) (upd bare v6.toNatClampNeg ((bare v6.toNatClampNeg) ||| ((1 : Int32) <<< (v2 &&& 31)))) r11 h x0
            · replace h := hr8
              refine j_if_le C 121 d_Maker_fillBlocks_102 (by decide) (fun c14 => ?_) (fun c14 => ?_)
              · replace h := (if_pos c14).symm.trans h
                refine j_iconst C (v := (-1)) d_Maker_fillBlocks_121 (by decide) ?_
                obtain rfl := Option.some.inj h
                refine j_sub [1, 2, 3, 4, 5, 6, 7, 8, 0] rfl ?_
                exact Kr8
              · replace h := (if_neg c14).symm.trans h
                refine j_aload_n C 1 d_Maker_fillBlocks_105 rfl ?_
                refine gf_Maker_9 C 0 (v := .ref (a 0)) rfl rfl d_Maker_fillBlocks_106 ?_
                refine j_iload_n C 2 d_Maker_fillBlocks_109 rfl ?_
                refine j_iload C 6 d_Maker_fillBlocks_110 rfl ?_
                refine j_iload C 5 d_Maker_fillBlocks_112 rfl ?_
                refine j_isub C d_Maker_fillBlocks_114 ?_
                obtain ⟨r9, hr9, h⟩ := bd_ok h
                refine j_PV C [.int v2, .int (v6 - v5)] 4 rfl rfl (c_Layers_value l D cI cR cZ a n L v2 (v6 - v5) hr9) (cw_Maker_140 C ⟨Nat.le_of_ble_eq_true rfl, Nat.le_of_ble_eq_true rfl⟩) [4, 5, 6, 7, 8, 9, 10] rfl rfl rfl (Nat.le_of_ble_eq_true rfl) d_Maker_fillBlocks_115 (by decide) ?_
                refine j_goto C 122 d_Maker_fillBlocks_118 (by decide) ?_
                obtain rfl := Option.some.inj h
                refine j_sub [1, 2, 3, 4, 5, 6, 7, 8, 0] rfl ?_
                exact Kr8
          · replace h := hr6
            refine j_if_le C 97 d_Maker_fillBlocks_79 (by decide) (fun c15 => ?_) (fun c15 => ?_)
            · replace h := (if_pos c15).symm.trans h
              refine j_iconst C (v := (-1)) d_Maker_fillBlocks_97 (by decide) ?_
              obtain rfl := Option.some.inj h
              refine j_sub [0, 1, 2, 3, 4, 5, 6, 7] rfl ?_
              exact Kr6
            · replace h := (if_neg c15).symm.trans h
              refine j_aload_n C 0 d_Maker_fillBlocks_82 rfl ?_
              refine gf_Maker_9 C 0 (v := .ref (a 0)) rfl rfl d_Maker_fillBlocks_83 ?_
              refine j_iload_n C 1 d_Maker_fillBlocks_86 rfl ?_
              refine j_iload C 5 d_Maker_fillBlocks_87 rfl ?_
              refine j_iconst C (v := 1) d_Maker_fillBlocks_89 (by decide) ?_
              refine j_isub C d_Maker_fillBlocks_90 ?_
              obtain ⟨r7, hr7, h⟩ := bd_ok h
              refine j_PV C [.int v2, .int (v6 - 1)] 4 rfl rfl (c_Layers_value l D cI cR cZ a n L v2 (v6 - 1) hr7) (cw_Maker_140 C ⟨Nat.le_of_ble_eq_true rfl, Nat.le_of_ble_eq_true rfl⟩) [4, 5, 6, 7, 8, 9, 10] rfl rfl rfl (Nat.le_of_ble_eq_true rfl) d_Maker_fillBlocks_91 (by decide) ?_
              refine j_goto C 98 d_Maker_fillBlocks_94 (by decide) ?_
              obtain rfl := Option.some.inj h
              refine j_sub [0, 1, 2, 3, 4, 5, 6, 7] rfl ?_
              exact Kr6
set_option maxRecDepth 100000 in
set_option maxHeartbeats 4000000 in
theorem t_Maker_fillBlocks_l34 {p : Program} {l : Launch} {e : Env} {s : State} {m : MethodId} {args : Array Value} {below : List Frame} {meth : Method} {c : Code} {D : va_G} {cI cR cZ : ClassId} {A : Nat → Prop} {Q : State → Prop} (C : Cx p s m args meth c D (tyG cI cR cZ) b_Maker_fillBlocks 11 "MaskLayers$Maker") (hA : ∀ q : Nat, s.heap.size ≤ q → A q) {o0 : Nat} {hc : Nat} {hm : Nat} {hb : Nat} {a : (Nat → Nat)} {n : Nat} {fu : Nat} {col : (Nat → Int32)} {msk : (Nat → Int32)} {v2 : Int32} {v3 : Int32} {v4 : Int32} {v5 : Int32} {out : Nat × (Nat → Int32) × LyS} : ∀ (k : Nat) (v6 : Int32) (v7 : Int32) (bare : (Nat → Int32)) (L : LyS), Maker_fillBlocks_l34 fu n col msk v2 v3 v4 v5 k v6 v7 bare L = some out → (out.1 = 0 → J p l e rm_Maker_fillBlocks s m args below meth c D A (va_D A) 11 Q 0 0 (wMk cI cR o0 hc hm hb a n col msk out.2.1 out.2.2) [] [] 170) → J p l e rm_Maker_fillBlocks s m args below meth c D A (va_D A) 11 Q 0 0 (wMk cI cR o0 hc hm hb a n col msk bare L) [(0, .ref o0), (2, .int v2), (3, .int v3), (4, .int v4), (5, .int v5), (6, .int v6), (7, .int v7)] [] 34 := by
  intro k
  induction k with
  | zero => intro v6 v7 bare L h; cases (show none = some out from h)
  | succ k ih =>
    intro v6 v7 bare L h x0
    rw [Maker_fillBlocks_l34] at h
    refine j_iload C 6 d_Maker_fillBlocks_34 rfl ?_
    refine j_iload C 3 d_Maker_fillBlocks_36 rfl ?_
    refine j_icmp_ge C 170 d_Maker_fillBlocks_38 (by decide) (fun c21 => ?_) (fun c21 => ?_)
    · replace h := (if_pos c21).symm.trans h
      obtain rfl := Option.some.inj h
      refine j_sub [] rfl ?_
      exact x0 rfl
    · replace h := (if_neg c21).symm.trans h
      refine j_iconst C (v := 0) d_Maker_fillBlocks_41 (by decide) ?_
      refine j_istore C [(8, .int 0), (0, .ref o0), (2, .int v2), (3, .int v3), (4, .int v4), (5, .int v5), (6, .int v6), (7, .int v7)] d_Maker_fillBlocks_42 (by decide) rfl ?_
      obtain ⟨r19, hr19, h⟩ := bd_ok h
      refine j_sub [1, 2, 3, 4, 5, 6, 7, 0] rfl ?_
      refine t_Maker_fillBlocks_l44 C hA fu v6 0 bare L hr19 (fun e20 => ?_)
      · refine j_iinc C [(7, .int (v7 + 1)), (0, .ref o0), (2, .int v2), (3, .int v3), (4, .int v4), (5, .int v5), (6, .int r19.2.1)] 6 (v7 + 1) d_Maker_fillBlocks_164 rfl rfl (by decide) rfl ?_
        refine j_goto C 34 d_Maker_fillBlocks_167 (by decide) ?_
        refine j_sub [1, 2, 3, 4, 5, 6, 0] rfl ?_
        exact ih r19.2.1 (v7 + 1) r19.2.2.1 r19.2.2.2 h x0
set_option maxRecDepth 100000 in
set_option maxHeartbeats 4000000 in
theorem c_Maker_fillBlocks (l : Launch) (D : va_G) (cI cR cZ : ClassId) (fu : Nat) (o0 : Nat) (hc : Nat) (hm : Nat) (hb : Nat) (a : (Nat → Nat)) (n : Nat) (col : (Nat → Int32)) (msk : (Nat → Int32)) (bare : (Nat → Int32)) (L : LyS) (p1 : Int32) (p2 : Int32) (p3 : Int32) {res : ((Nat → Int32) × LyS)} (h : Maker_fillBlocks fu n col msk bare L p1 p2 p3 = some res) (sz : Nat) : Met l y_Maker_fillBlocks (Cond.code y_Maker_fillBlocks b_Maker_fillBlocks 11 none :: BIG) rm_Maker_fillBlocks (PcI [.ref o0, .int p1, .int p2, .int p3] D (tyG cI cR cZ) (wMk cI cR o0 hc hm hb a n col msk bare L) sz) (QcV D (fun _ : Nat => wMk cI cR o0 hc hm hb a n col msk res.1 res.2) (va_A (wMk cI cR o0 hc hm hb a n col msk bare L) sz)) 0 0 (va_A (wMk cI cR o0 hc hm hb a n col msk bare L) sz) := by
  refine met_V (by decide) (Nat.le_of_ble_eq_true rfl) (fun p e s m args below meth c A hA C hr => ?_)
  have C : Cx p s m args meth c D (tyG cI cR cZ) b_Maker_fillBlocks 11 "MaskLayers$Maker" := C
  have hr : meth.sig.returnType = none := hr
  show J p l e rm_Maker_fillBlocks s m args below meth c D A (va_D A) 11 (MQ below (QcV D (fun _ : Nat => wMk cI cR o0 hc hm hb a n col msk res.1 res.2) A) args s 0 0 A) 0 0 (wMk cI cR o0 hc hm hb a n col msk bare L) [(0, .ref o0), (1, .int p1), (2, .int p2), (3, .int p3)] [] 0
  unfold Maker_fillBlocks at h
  refine j_aload_n C 0 d_Maker_fillBlocks_0 rfl ?_
  refine gf_Maker_9 C 0 (v := .ref (a 0)) rfl rfl d_Maker_fillBlocks_1 ?_
  refine j_iload_n C 1 d_Maker_fillBlocks_4 rfl ?_
  refine j_iload_n C 2 d_Maker_fillBlocks_5 rfl ?_
  obtain ⟨r1, hr1, h⟩ := bd_ok h
  refine j_PV C [.int p1, .int p2] 4 rfl rfl (c_Layers_rowsOf l D cI cR cZ a n L p1 p2 hr1) (cw_Maker_95 C ⟨Nat.le_of_ble_eq_true rfl, Nat.le_of_ble_eq_true rfl⟩) [4, 5, 6, 7, 8, 9, 10] rfl rfl rfl (Nat.le_of_ble_eq_true rfl) d_Maker_fillBlocks_6 (by decide) ?_
  refine j_istore C [(4, .int r1), (0, .ref o0), (1, .int p1), (2, .int p2), (3, .int p3)] d_Maker_fillBlocks_9 (by decide) rfl ?_
  refine j_aload_n C 1 d_Maker_fillBlocks_11 rfl ?_
  refine gf_Maker_9 C 0 (v := .ref (a 0)) rfl rfl d_Maker_fillBlocks_12 ?_
  refine j_iload_n C 3 d_Maker_fillBlocks_15 rfl ?_
  obtain ⟨r2, hr2, h⟩ := bd_ok h
  refine j_PV C [.int p2] 4 rfl rfl (c_Layers_columnsOf l D cI cR cZ a n L p2 hr2) (cw_Maker_98 C ⟨Nat.le_of_ble_eq_true rfl, Nat.le_of_ble_eq_true rfl⟩) [4, 5, 6, 7, 8, 9, 10] rfl rfl rfl (Nat.le_of_ble_eq_true rfl) d_Maker_fillBlocks_16 (by decide) ?_
  refine j_istore C [(5, .int r2), (4, .int r1), (0, .ref o0), (1, .int p1), (2, .int p2), (3, .int p3)] d_Maker_fillBlocks_19 (by decide) rfl ?_
  refine j_aload_n C 2 d_Maker_fillBlocks_21 rfl ?_
  refine gf_Maker_9 C 0 (v := .ref (a 0)) rfl rfl d_Maker_fillBlocks_22 ?_
  refine j_iload_n C 3 d_Maker_fillBlocks_25 rfl ?_
  obtain ⟨r3, hr3, h⟩ := bd_ok h
  refine j_PV C [.int p1] 4 rfl rfl (c_Layers_startOf l D cI cR cZ a n L p1 hr3) (cw_Maker_71 C ⟨Nat.le_of_ble_eq_true rfl, Nat.le_of_ble_eq_true rfl⟩) [4, 5, 6, 7, 8, 9, 10] rfl rfl rfl (Nat.le_of_ble_eq_true rfl) d_Maker_fillBlocks_26 (by decide) ?_
  refine j_istore C [(6, .int r3), (5, .int r2), (4, .int r1), (0, .ref o0), (1, .int p1), (2, .int p2), (3, .int p3)] d_Maker_fillBlocks_29 (by decide) rfl ?_
  refine j_iconst C (v := 0) d_Maker_fillBlocks_31 (by decide) ?_
  refine j_istore C [(7, .int 0), (6, .int r3), (5, .int r2), (4, .int r1), (0, .ref o0), (1, .int p1), (2, .int p2), (3, .int p3)] d_Maker_fillBlocks_32 (by decide) rfl ?_
  obtain ⟨r22, hr22, h⟩ := bd_ok h
  refine j_sub [4, 6, 7, 3, 2, 1, 0] rfl ?_
  refine t_Maker_fillBlocks_l34 C hA fu r3 0 bare L hr22 (fun e23 => ?_)
  · obtain rfl := Option.some.inj h
    exact j_vret C hr d_Maker_fillBlocks_170 0 rfl
def Maker_makeRest_l41 (n : Nat) (col : (Nat → Int32)) (msk : (Nat → Int32)) (bare : (Nat → Int32)) (v4 : Int32) (v5 : Int32) : Nat → Int32 → Int32 → Int32 → LyS → Option (Nat × Int32 × Int32 × LyS)
  | 0, _, _, _, _ => none
  | k + 1, v2, v3, v6, L =>
  (if (L.1 0) ≤ v6 then some (0, v2, v3, L)
  else (Maker_isMasked n col msk bare L v3).bind fun r4 =>
  (if r4 = 0 then some ((0 : Int32))
  else some ((2 : Int32))).bind fun r5 =>
  (Layers_placeOf n L r5 v6 v5).bind fun r6 =>
  (Layers_value n L r5 r6).bind fun r7 =>
  (Maker_colourAt n col msk bare L v3).bind fun r8 =>
  (ML_difference r8 r7).bind fun r9 =>
  (Layers_set n L 3 v3 r9).bind fun r10 =>
  (if v2 = 0 then (if r9 = 0 then Maker_makeRest_l41 n col msk bare v4 v5 k 0 (v3 + 1) (v6 + 1) r10
  else Maker_makeRest_l41 n col msk bare v4 v5 k 1 (v3 + 1) (v6 + 1) r10)
  else Maker_makeRest_l41 n col msk bare v4 v5 k 1 (v3 + 1) (v6 + 1) r10))
def Maker_makeRest_l31 (fu : Nat) (n : Nat) (col : (Nat → Int32)) (msk : (Nat → Int32)) (bare : (Nat → Int32)) (v4 : Int32) : Nat → Int32 → Int32 → Int32 → LyS → Option (Nat × Int32 × LyS)
  | 0, _, _, _, _ => none
  | k + 1, v2, v3, v5, L =>
  (if v4 ≤ v5 then some (0, v2, L)
  else (Maker_makeRest_l41 n col msk bare v4 v5 fu v2 v3 0 L).bind fun r15 =>
  Maker_makeRest_l31 fu n col msk bare v4 k r15.2.1 r15.2.2.1 (v5 + 1) r15.2.2.2)
def Maker_makeRest (fu : Nat) (n : Nat) (col : (Nat → Int32)) (msk : (Nat → Int32)) (bare : (Nat → Int32)) (L : LyS) (p1 : Int32) : Option (Int32 × LyS) :=
  (Layers_startOf n L p1).bind fun r1 =>
  (Layers_bottomOf n L p1).bind fun r2 =>
  (Layers_topOf n L p1).bind fun r3 =>
  (Maker_makeRest_l31 fu n col msk bare r2 fu 0 r1 r3 L).bind fun r18 =>
  zb r18.2.1 (some (r18.2.1, r18.2.2))
set_option maxRecDepth 100000 in
set_option maxHeartbeats 4000000 in
theorem t_Maker_makeRest_l41 {p : Program} {l : Launch} {e : Env} {s : State} {m : MethodId} {args : Array Value} {below : List Frame} {meth : Method} {c : Code} {D : va_G} {cI cR cZ : ClassId} {A : Nat → Prop} {Q : State → Prop} (C : Cx p s m args meth c D (tyG cI cR cZ) b_Maker_makeRest 10 "MaskLayers$Maker") (hA : ∀ q : Nat, s.heap.size ≤ q → A q) {o0 : Nat} {hc : Nat} {hm : Nat} {hb : Nat} {a : (Nat → Nat)} {n : Nat} {col : (Nat → Int32)} {msk : (Nat → Int32)} {bare : (Nat → Int32)} {v4 : Int32} {v5 : Int32} {out : Nat × Int32 × Int32 × LyS} : ∀ (k : Nat) (v2 : Int32) (v3 : Int32) (v6 : Int32) (L : LyS), Maker_makeRest_l41 n col msk bare v4 v5 k v2 v3 v6 L = some out → (out.1 = 0 → J p l e rm_Maker_makeRest s m args below meth c D A (va_D A) 10 Q 0 0 (wMk cI cR o0 hc hm hb a n col msk bare out.2.2.2) [(0, .ref o0), (2, .int out.2.1), (3, .int out.2.2.1), (4, .int v4), (5, .int v5)] [] 139) → J p l e rm_Maker_makeRest s m args below meth c D A (va_D A) 10 Q 0 0 (wMk cI cR o0 hc hm hb a n col msk bare L) [(0, .ref o0), (2, .int v2), (3, .int v3), (4, .int v4), (5, .int v5), (6, .int v6)] [] 41 := by
  intro k
  induction k with
  | zero => intro v2 v3 v6 L h; cases (show none = some out from h)
  | succ k ih =>
    intro v2 v3 v6 L h x0
    rw [Maker_makeRest_l41] at h
    refine j_iload C 5 d_Maker_makeRest_41 rfl ?_
    refine j_aload_n C 0 d_Maker_makeRest_43 rfl ?_
    refine gf_Maker_9 C 0 (v := .ref (a 0)) rfl rfl d_Maker_makeRest_44 ?_
    refine gf_Maker_119 C 4 (v := .int (L.1 0)) rfl rfl d_Maker_makeRest_47 ?_
    refine j_icmp_ge C 139 d_Maker_makeRest_50 (by decide) (fun c14 => ?_) (fun c14 => ?_)
    · replace h := (if_pos c14).symm.trans h
      obtain rfl := Option.some.inj h
      refine j_sub [0, 1, 2, 3, 4] rfl ?_
      exact x0 rfl
    · replace h := (if_neg c14).symm.trans h
      refine j_aload_n C 0 d_Maker_makeRest_53 rfl ?_
      refine j_iload_n C 2 d_Maker_makeRest_54 rfl ?_
      obtain ⟨r4, hr4, h⟩ := bd_ok h
      refine j_PV C [.int v3] 0 rfl rfl (c_Maker_isMasked l D cI cR cZ o0 hc hm hb a n col msk bare L v3 hr4) (cw_Maker_89 C ⟨Nat.le_of_ble_eq_true rfl, Nat.le_of_ble_eq_true rfl⟩) [0, 1, 2, 3, 4, 5, 6, 7, 8, 9, 10] rfl rfl rfl (Nat.le_of_ble_eq_true rfl) d_Maker_makeRest_55 (by decide) ?_
      obtain ⟨r5, hr5, gr5⟩ := bd_ok h
      refine j_let (ws' := wMk cI cR o0 hc hm hb a n col msk bare L) (lv' := [(0, .ref o0), (2, .int v2), (3, .int v3), (4, .int v4), (5, .int v5), (6, .int v6)]) (st' := [.int r5]) (pc' := 66) ?_ (fun Kr5 => ?_)
      · replace h := gr5
        refine j_istore C [(7, .int r5), (0, .ref o0), (2, .int v2), (3, .int v3), (4, .int v4), (5, .int v5), (6, .int v6)] d_Maker_makeRest_66 (by decide) rfl ?_
        refine j_aload_n C 1 d_Maker_makeRest_68 rfl ?_
        refine gf_Maker_9 C 0 (v := .ref (a 0)) rfl rfl d_Maker_makeRest_69 ?_
        refine j_iload C 0 d_Maker_makeRest_72 rfl ?_
        refine j_aload_n C 1 d_Maker_makeRest_74 rfl ?_
        refine gf_Maker_9 C 0 (v := .ref (a 0)) rfl rfl d_Maker_makeRest_75 ?_
        refine j_iload C 0 d_Maker_makeRest_78 rfl ?_
        refine j_iload C 6 d_Maker_makeRest_80 rfl ?_
        refine j_iload C 5 d_Maker_makeRest_82 rfl ?_
        obtain ⟨r6, hr6, h⟩ := bd_ok h
        refine j_PV C [.int r5, .int v6, .int v5] 4 rfl rfl (c_Layers_placeOf l D cI cR cZ a n L r5 v6 v5 hr6) (cw_Maker_48 C ⟨Nat.le_of_ble_eq_true rfl, Nat.le_of_ble_eq_true rfl⟩) [4, 5, 6, 7, 8, 9, 10] rfl rfl rfl (Nat.le_of_ble_eq_true rfl) d_Maker_makeRest_84 (by decide) ?_
        obtain ⟨r7, hr7, h⟩ := bd_ok h
        refine j_PV C [.int r5, .int r6] 4 rfl rfl (c_Layers_value l D cI cR cZ a n L r5 r6 hr7) (cw_Maker_140 C ⟨Nat.le_of_ble_eq_true rfl, Nat.le_of_ble_eq_true rfl⟩) [4, 5, 6, 7, 8, 9, 10] rfl rfl rfl (Nat.le_of_ble_eq_true rfl) d_Maker_makeRest_87 (by decide) ?_
        refine j_istore C [(8, .int r7), (7, .int r5), (0, .ref o0), (2, .int v2), (3, .int v3), (4, .int v4), (5, .int v5), (6, .int v6)] d_Maker_makeRest_90 (by decide) rfl ?_
        refine j_aload_n C 2 d_Maker_makeRest_92 rfl ?_
        refine j_iload_n C 4 d_Maker_makeRest_93 rfl ?_
        obtain ⟨r8, hr8, h⟩ := bd_ok h
        refine j_PV C [.int v3] 0 rfl rfl (c_Maker_colourAt l D cI cR cZ o0 hc hm hb a n col msk bare L v3 hr8) (cw_Maker_122 C ⟨Nat.le_of_ble_eq_true rfl, Nat.le_of_ble_eq_true rfl⟩) [0, 1, 2, 3, 4, 5, 6, 7, 8, 9, 10] rfl rfl rfl (Nat.le_of_ble_eq_true rfl) d_Maker_makeRest_94 (by decide) ?_
        refine j_iload C 0 d_Maker_makeRest_97 rfl ?_
        obtain ⟨r9, hr9, h⟩ := bd_ok h
        refine j_PSN C [.int r8, .int r7] (c_ML_difference l D cI cR cZ r8 r7 hr9) (cw_Maker_149 C ⟨Nat.le_of_ble_eq_true rfl, Nat.le_of_ble_eq_true rfl⟩) [] rfl rfl rfl (Nat.le_of_ble_eq_true rfl) d_Maker_makeRest_99 (by decide) ?_
        refine j_istore C [(9, .int r9), (8, .int r7), (7, .int r5), (0, .ref o0), (2, .int v2), (3, .int v3), (4, .int v4), (5, .int v5), (6, .int v6)] d_Maker_makeRest_102 (by decide) rfl ?_
        refine j_aload_n C 3 d_Maker_makeRest_104 rfl ?_
        refine gf_Maker_9 C 0 (v := .ref (a 0)) rfl rfl d_Maker_makeRest_105 ?_
        refine j_iconst C (v := 3) d_Maker_makeRest_108 (by decide) ?_
        refine j_iload_n C 5 d_Maker_makeRest_109 rfl ?_
        refine j_iload C 0 d_Maker_makeRest_110 rfl ?_
        obtain ⟨r10, hr10, h⟩ := bd_ok h
        refine j_VV C [.int 3, .int v3, .int r9] hA 4 rfl rfl (c_Layers_set l D cI cR cZ a n L 3 v3 r9 hr10) (cw_Maker_92 C ⟨Nat.le_of_ble_eq_true rfl, Nat.le_of_ble_eq_true rfl⟩) [4, 5, 6, 7, 8, 9, 10] [0, 1, 2, 3] rfl rfl (by decide) (by decide) (by decide) rfl rfl (Nat.le_of_ble_eq_true rfl) d_Maker_makeRest_112 (by decide) (fun _ => ?_)
        refine j_ws (ws' := wMk cI cR o0 hc hm hb a n col msk bare r10) rfl ?_
        refine j_iload_n C 4 d_Maker_makeRest_115 rfl ?_
        refine j_if_ne C 124 d_Maker_makeRest_116 (by decide) (fun c12 => ?_) (fun c12 => ?_)
        · replace h := (if_neg c12).symm.trans h
          refine j_iconst C (v := 1) d_Maker_makeRest_124 (by decide) ?_
          refine j_goto C 129 d_Maker_makeRest_125 (by decide) ?_
          refine j_istore_n C [(2, .int 1), (9, .int r9), (8, .int r7), (7, .int r5), (0, .ref o0), (3, .int v3), (4, .int v4), (5, .int v5), (6, .int v6)] d_Maker_makeRest_129 (by decide) rfl ?_
          refine j_iinc C [(3, .int (v3 + 1)), (2, .int 1), (9, .int r9), (8, .int r7), (7, .int r5), (0, .ref o0), (4, .int v4), (5, .int v5), (6, .int v6)] 5 (v3 + 1) d_Maker_makeRest_130 rfl rfl (by decide) rfl ?_
          refine j_iinc C [(6, .int (v6 + 1)), (3, .int (v3 + 1)), (2, .int 1), (9, .int r9), (8, .int r7), (7, .int r5), (0, .ref o0), (4, .int v4), (5, .int v5)] 8 (v6 + 1) d_Maker_makeRest_133 rfl rfl (by decide) rfl ?_
          refine j_goto C 41 d_Maker_makeRest_136 (by decide) ?_
          refine j_sub [6, 2, 1, 7, 8, 0] rfl ?_
          exact ih 1 (v3 + 1) (v6 + 1) r10 h x0
        · replace h := (if_pos c12).symm.trans h
          refine j_iload C 0 d_Maker_makeRest_119 rfl ?_
          refine j_if_eq C 128 d_Maker_makeRest_121 (by decide) (fun c11 => ?_) (fun c11 => ?_)
          · replace h := (if_pos c11).symm.trans h
            refine j_iconst C (v := 0) d_Maker_makeRest_128 (by decide) ?_
            refine j_istore_n C [(2, .int 0), (9, .int r9), (8, .int r7), (7, .int r5), (0, .ref o0), (3, .int v3), (4, .int v4), (5, .int v5), (6, .int v6)] d_Maker_makeRest_129 (by decide) rfl ?_
            refine j_iinc C [(3, .int (v3 + 1)), (2, .int 0), (9, .int r9), (8, .int r7), (7, .int r5), (0, .ref o0), (4, .int v4), (5, .int v5), (6, .int v6)] 5 (v3 + 1) d_Maker_makeRest_130 rfl rfl (by decide) rfl ?_
            refine j_iinc C [(6, .int (v6 + 1)), (3, .int (v3 + 1)), (2, .int 0), (9, .int r9), (8, .int r7), (7, .int r5), (0, .ref o0), (4, .int v4), (5, .int v5)] 8 (v6 + 1) d_Maker_makeRest_133 rfl rfl (by decide) rfl ?_
            refine j_goto C 41 d_Maker_makeRest_136 (by decide) ?_
            refine j_sub [6, 2, 1, 7, 8, 0] rfl ?_
            exact ih 0 (v3 + 1) (v6 + 1) r10 h x0
          · replace h := (if_neg c11).symm.trans h
            refine j_iconst C (v := 1) d_Maker_makeRest_124 (by decide) ?_
            refine j_goto C 129 d_Maker_makeRest_125 (by decide) ?_
            refine j_istore_n C [(2, .int 1), (9, .int r9), (8, .int r7), (7, .int r5), (0, .ref o0), (3, .int v3), (4, .int v4), (5, .int v5), (6, .int v6)] d_Maker_makeRest_129 (by decide) rfl ?_
            refine j_iinc C [(3, .int (v3 + 1)), (2, .int 1), (9, .int r9), (8, .int r7), (7, .int r5), (0, .ref o0), (4, .int v4), (5, .int v5), (6, .int v6)] 5 (v3 + 1) d_Maker_makeRest_130 rfl rfl (by decide) rfl ?_
            refine j_iinc C [(6, .int (v6 + 1)), (3, .int (v3 + 1)), (2, .int 1), (9, .int r9), (8, .int r7), (7, .int r5), (0, .ref o0), (4, .int v4), (5, .int v5)] 8 (v6 + 1) d_Maker_makeRest_133 rfl rfl (by decide) rfl ?_
            refine j_goto C 41 d_Maker_makeRest_136 (by decide) ?_
            refine j_sub [6, 2, 1, 7, 8, 0] rfl ?_
            exact ih 1 (v3 + 1) (v6 + 1) r10 h x0
      · replace h := hr5
        refine j_if_eq C 65 d_Maker_makeRest_58 (by decide) (fun c13 => ?_) (fun c13 => ?_)
        · replace h := (if_pos c13).symm.trans h
          refine j_iconst C (v := 0) d_Maker_makeRest_65 (by decide) ?_
          obtain rfl := Option.some.inj h
          refine j_sub [0, 1, 2, 3, 4, 5] rfl ?_
          exact Kr5
        · replace h := (if_neg c13).symm.trans h
          refine j_iconst C (v := 2) d_Maker_makeRest_61 (by decide) ?_
          refine j_goto C 66 d_Maker_makeRest_62 (by decide) ?_
          obtain rfl := Option.some.inj h
          refine j_sub [0, 1, 2, 3, 4, 5] rfl ?_
          exact Kr5
set_option maxRecDepth 100000 in
set_option maxHeartbeats 4000000 in
theorem t_Maker_makeRest_l31 {p : Program} {l : Launch} {e : Env} {s : State} {m : MethodId} {args : Array Value} {below : List Frame} {meth : Method} {c : Code} {D : va_G} {cI cR cZ : ClassId} {A : Nat → Prop} {Q : State → Prop} (C : Cx p s m args meth c D (tyG cI cR cZ) b_Maker_makeRest 10 "MaskLayers$Maker") (hA : ∀ q : Nat, s.heap.size ≤ q → A q) {o0 : Nat} {hc : Nat} {hm : Nat} {hb : Nat} {a : (Nat → Nat)} {n : Nat} {fu : Nat} {col : (Nat → Int32)} {msk : (Nat → Int32)} {bare : (Nat → Int32)} {v4 : Int32} {out : Nat × Int32 × LyS} : ∀ (k : Nat) (v2 : Int32) (v3 : Int32) (v5 : Int32) (L : LyS), Maker_makeRest_l31 fu n col msk bare v4 k v2 v3 v5 L = some out → (out.1 = 0 → J p l e rm_Maker_makeRest s m args below meth c D A (va_D A) 10 Q 0 0 (wMk cI cR o0 hc hm hb a n col msk bare out.2.2) [(2, .int out.2.1)] [] 145) → J p l e rm_Maker_makeRest s m args below meth c D A (va_D A) 10 Q 0 0 (wMk cI cR o0 hc hm hb a n col msk bare L) [(0, .ref o0), (2, .int v2), (3, .int v3), (4, .int v4), (5, .int v5)] [] 31 := by
  intro k
  induction k with
  | zero => intro v2 v3 v5 L h; cases (show none = some out from h)
  | succ k ih =>
    intro v2 v3 v5 L h x0
    rw [Maker_makeRest_l31] at h
    refine j_iload C 4 d_Maker_makeRest_31 rfl ?_
    refine j_iload C 3 d_Maker_makeRest_33 rfl ?_
    refine j_icmp_ge C 145 d_Maker_makeRest_35 (by decide) (fun c17 => ?_) (fun c17 => ?_)
    · replace h := (if_pos c17).symm.trans h
      obtain rfl := Option.some.inj h
      refine j_sub [1] rfl ?_
      exact x0 rfl
    · replace h := (if_neg c17).symm.trans h
      refine j_iconst C (v := 0) d_Maker_makeRest_38 (by decide) ?_
      refine j_istore C [(6, .int 0), (0, .ref o0), (2, .int v2), (3, .int v3), (4, .int v4), (5, .int v5)] d_Maker_makeRest_39 (by decide) rfl ?_
      obtain ⟨r15, hr15, h⟩ := bd_ok h
      refine j_sub [1, 2, 3, 4, 5, 0] rfl ?_
      refine t_Maker_makeRest_l41 C hA fu v2 v3 0 L hr15 (fun e16 => ?_)
      · refine j_iinc C [(5, .int (v5 + 1)), (0, .ref o0), (2, .int r15.2.1), (3, .int r15.2.2.1), (4, .int v4)] 4 (v5 + 1) d_Maker_makeRest_139 rfl rfl (by decide) rfl ?_
        refine j_goto C 31 d_Maker_makeRest_142 (by decide) ?_
        refine j_sub [1, 2, 3, 4, 0] rfl ?_
        exact ih r15.2.1 r15.2.2.1 (v5 + 1) r15.2.2.2 h x0
set_option maxRecDepth 100000 in
set_option maxHeartbeats 4000000 in
theorem c_Maker_makeRest (l : Launch) (D : va_G) (cI cR cZ : ClassId) (fu : Nat) (o0 : Nat) (hc : Nat) (hm : Nat) (hb : Nat) (a : (Nat → Nat)) (n : Nat) (col : (Nat → Int32)) (msk : (Nat → Int32)) (bare : (Nat → Int32)) (L : LyS) (p1 : Int32) {res : (Int32 × LyS)} (h : Maker_makeRest fu n col msk bare L p1 = some res) (sz : Nat) : Met l y_Maker_makeRest (Cond.code y_Maker_makeRest b_Maker_makeRest 10 (some .boolean) :: BIG) rm_Maker_makeRest (PcI [.ref o0, .int p1] D (tyG cI cR cZ) (wMk cI cR o0 hc hm hb a n col msk bare L) sz) (QcI D res.1 (fun _ : Nat => wMk cI cR o0 hc hm hb a n col msk bare res.2) (va_A (wMk cI cR o0 hc hm hb a n col msk bare L) sz)) 0 0 (va_A (wMk cI cR o0 hc hm hb a n col msk bare L) sz) := by
  refine met_I (by decide) (Nat.le_of_ble_eq_true rfl) (fun p e s m args below meth c A hA C hr => ?_)
  have C : Cx p s m args meth c D (tyG cI cR cZ) b_Maker_makeRest 10 "MaskLayers$Maker" := C
  have hr : meth.sig.returnType = some .boolean := hr
  show J p l e rm_Maker_makeRest s m args below meth c D A (va_D A) 10 (MQ below (QcI D res.1 (fun _ : Nat => wMk cI cR o0 hc hm hb a n col msk bare res.2) A) args s 0 0 A) 0 0 (wMk cI cR o0 hc hm hb a n col msk bare L) [(0, .ref o0), (1, .int p1)] [] 0
  unfold Maker_makeRest at h
  refine j_iconst C (v := 0) d_Maker_makeRest_0 (by decide) ?_
  refine j_istore_n C [(2, .int 0), (0, .ref o0), (1, .int p1)] d_Maker_makeRest_1 (by decide) rfl ?_
  refine j_aload_n C 1 d_Maker_makeRest_2 rfl ?_
  refine gf_Maker_9 C 0 (v := .ref (a 0)) rfl rfl d_Maker_makeRest_3 ?_
  refine j_iload_n C 2 d_Maker_makeRest_6 rfl ?_
  obtain ⟨r1, hr1, h⟩ := bd_ok h
  refine j_PV C [.int p1] 4 rfl rfl (c_Layers_startOf l D cI cR cZ a n L p1 hr1) (cw_Maker_71 C ⟨Nat.le_of_ble_eq_true rfl, Nat.le_of_ble_eq_true rfl⟩) [4, 5, 6, 7, 8, 9, 10] rfl rfl rfl (Nat.le_of_ble_eq_true rfl) d_Maker_makeRest_7 (by decide) ?_
  refine j_istore_n C [(3, .int r1), (2, .int 0), (0, .ref o0), (1, .int p1)] d_Maker_makeRest_10 (by decide) rfl ?_
  refine j_aload_n C 2 d_Maker_makeRest_11 rfl ?_
  refine gf_Maker_9 C 0 (v := .ref (a 0)) rfl rfl d_Maker_makeRest_12 ?_
  refine j_iload_n C 3 d_Maker_makeRest_15 rfl ?_
  obtain ⟨r2, hr2, h⟩ := bd_ok h
  refine j_PV C [.int p1] 4 rfl rfl (c_Layers_bottomOf l D cI cR cZ a n L p1 hr2) (cw_Maker_111 C ⟨Nat.le_of_ble_eq_true rfl, Nat.le_of_ble_eq_true rfl⟩) [4, 5, 6, 7, 8, 9, 10] rfl rfl rfl (Nat.le_of_ble_eq_true rfl) d_Maker_makeRest_16 (by decide) ?_
  refine j_istore C [(4, .int r2), (3, .int r1), (2, .int 0), (0, .ref o0), (1, .int p1)] d_Maker_makeRest_19 (by decide) rfl ?_
  refine j_aload_n C 3 d_Maker_makeRest_21 rfl ?_
  refine gf_Maker_9 C 0 (v := .ref (a 0)) rfl rfl d_Maker_makeRest_22 ?_
  refine j_iload_n C 4 d_Maker_makeRest_25 rfl ?_
  obtain ⟨r3, hr3, h⟩ := bd_ok h
  refine j_PV C [.int p1] 4 rfl rfl (c_Layers_topOf l D cI cR cZ a n L p1 hr3) (cw_Maker_108 C ⟨Nat.le_of_ble_eq_true rfl, Nat.le_of_ble_eq_true rfl⟩) [4, 5, 6, 7, 8, 9, 10] rfl rfl rfl (Nat.le_of_ble_eq_true rfl) d_Maker_makeRest_26 (by decide) ?_
  refine j_istore C [(5, .int r3), (4, .int r2), (3, .int r1), (2, .int 0), (0, .ref o0), (1, .int p1)] d_Maker_makeRest_29 (by decide) rfl ?_
  obtain ⟨r18, hr18, h⟩ := bd_ok h
  refine j_sub [4, 3, 2, 1, 0] rfl ?_
  refine t_Maker_makeRest_l31 C hA fu 0 r1 r3 L hr18 (fun e20 => ?_)
  · refine j_iload_n C 0 d_Maker_makeRest_145 rfl ?_
    obtain ⟨b19, h⟩ := zb_ok h
    obtain rfl := Option.some.inj h
    exact j_iretZ C hr d_Maker_makeRest_146 b19 0 rfl
def Maker_makeStripe_b83 (fu : Nat) (n : Nat) (col : (Nat → Int32)) (msk : (Nat → Int32)) (bare : (Nat → Int32)) (L : LyS) (v1 : Int32) (v2 : Int32) : Option ((Nat → Int32) × LyS) :=
  (if v2 = 0 then some (bare, L)
  else (Maker_makeRest fu n col msk bare L v1).bind fun r4 =>
  (if r4.1 = 0 then some (bare, r4.2)
  else (Layers_add n r4.2 v1 3).bind fun r5 =>
  some (bare, r5)))
def Maker_makeStripe_b49 (fu : Nat) (n : Nat) (col : (Nat → Int32)) (msk : (Nat → Int32)) (bare : (Nat → Int32)) (L : LyS) (v1 : Int32) (v2 : Int32) (v3 : Int32) : Option ((Nat → Int32) × LyS) :=
  (if v3 ≤ 0 then Maker_makeStripe_b83 fu n col msk bare L v1 v2
  else (Layers_add n L v1 1).bind fun r8 =>
  (Maker_makeBlocks fu n col msk bare r8 v1 2).bind fun r9 =>
  (Maker_fillBlocks fu n col msk bare r9.2 v1 2 r9.1).bind fun r10 =>
  (Layers_add n r10.2 v1 2).bind fun r11 =>
  Maker_makeStripe_b83 fu n col msk r10.1 r11 v1 v2)
def Maker_makeStripe (fu : Nat) (n : Nat) (col : (Nat → Int32)) (msk : (Nat → Int32)) (bare : (Nat → Int32)) (L : LyS) (p1 : Int32) (p2 : Int32) : Option ((Nat → Int32) × LyS) :=
  (Maker_takeMask fu n col msk bare L p1).bind fun r1 =>
  (Layers_endOf n r1.2 p1 1).bind fun r2 =>
  (Layers_startOf n r1.2 p1).bind fun r3 =>
  (if (r2 - r3) ≤ r1.1 then Maker_makeStripe_b49 fu n col msk bare r1.2 p1 p2 r1.1
  else (Maker_makeBlocks fu n col msk bare r1.2 p1 0).bind fun r13 =>
  (Maker_fillBlocks fu n col msk bare r13.2 p1 0 r13.1).bind fun r14 =>
  (Layers_add n r14.2 p1 0).bind fun r15 =>
  Maker_makeStripe_b49 fu n col msk r14.1 r15 p1 p2 r1.1)
set_option maxRecDepth 100000 in
set_option maxHeartbeats 4000000 in
theorem t_Maker_makeStripe_b83 {p : Program} {l : Launch} {e : Env} {s : State} {m : MethodId} {args : Array Value} {below : List Frame} {meth : Method} {c : Code} {D : va_G} {cI cR cZ : ClassId} {A : Nat → Prop} (C : Cx p s m args meth c D (tyG cI cR cZ) b_Maker_makeStripe 4 "MaskLayers$Maker") (hr : meth.sig.returnType = none) (hA : ∀ q : Nat, s.heap.size ≤ q → A q) {o0 : Nat} {hc : Nat} {hm : Nat} {hb : Nat} {a : (Nat → Nat)} {n : Nat} {col : (Nat → Int32)} {msk : (Nat → Int32)} {bare : (Nat → Int32)} {L : LyS} {fu : Nat} {v1 : Int32} {v2 : Int32} {res : ((Nat → Int32) × LyS)} (h : Maker_makeStripe_b83 fu n col msk bare L v1 v2 = some res) : J p l e rm_Maker_makeStripe s m args below meth c D A (va_D A) 4 (MQ below (QcV D (fun _ : Nat => wMk cI cR o0 hc hm hb a n col msk res.1 res.2) A) args s 0 0 A) 0 0 (wMk cI cR o0 hc hm hb a n col msk bare L) [(0, .ref o0), (1, .int v1), (2, .int v2)] [] 83 := by
  unfold Maker_makeStripe_b83 at h
  refine j_iload_n C 2 d_Maker_makeStripe_83 rfl ?_
  refine j_if_eq C 104 d_Maker_makeStripe_84 (by decide) (fun c7 => ?_) (fun c7 => ?_)
  · replace h := (if_pos c7).symm.trans h
    obtain rfl := Option.some.inj h
    exact j_vret C hr d_Maker_makeStripe_104 0 rfl
  · replace h := (if_neg c7).symm.trans h
    refine j_aload_n C 0 d_Maker_makeStripe_87 rfl ?_
    refine j_iload_n C 1 d_Maker_makeStripe_88 rfl ?_
    obtain ⟨r4, hr4, h⟩ := bd_ok h
    refine j_IV C [.int v1] hA 0 rfl rfl (c_Maker_makeRest l D cI cR cZ fu o0 hc hm hb a n col msk bare L v1 hr4) (cw_Maker_85 C ⟨Nat.le_of_ble_eq_true rfl, Nat.le_of_ble_eq_true rfl⟩) [0, 1, 2, 3, 4, 5, 6, 7, 8, 9, 10] [] rfl rfl (by decide) (by decide) (by decide) rfl rfl (Nat.le_of_ble_eq_true rfl) d_Maker_makeStripe_89 (by decide) (fun _ => ?_)
    refine j_ws (ws' := wMk cI cR o0 hc hm hb a n col msk bare r4.2) rfl ?_
    refine j_if_eq C 104 d_Maker_makeStripe_92 (by decide) (fun c6 => ?_) (fun c6 => ?_)
    · replace h := (if_pos c6).symm.trans h
      obtain rfl := Option.some.inj h
      exact j_vret C hr d_Maker_makeStripe_104 0 rfl
    · replace h := (if_neg c6).symm.trans h
      refine j_aload_n C 0 d_Maker_makeStripe_95 rfl ?_
      refine gf_Maker_9 C 0 (v := .ref (a 0)) rfl rfl d_Maker_makeStripe_96 ?_
      refine j_iload_n C 1 d_Maker_makeStripe_99 rfl ?_
      refine j_iconst C (v := 3) d_Maker_makeStripe_100 (by decide) ?_
      obtain ⟨r5, hr5, h⟩ := bd_ok h
      refine j_VV C [.int v1, .int 3] hA 4 rfl rfl (c_Layers_add l D cI cR cZ a n r4.2 v1 3 hr5) (cw_Maker_81 C ⟨Nat.le_of_ble_eq_true rfl, Nat.le_of_ble_eq_true rfl⟩) [4, 5, 6, 7, 8, 9, 10] [0, 1, 2, 3] rfl rfl (by decide) (by decide) (by decide) rfl rfl (Nat.le_of_ble_eq_true rfl) d_Maker_makeStripe_101 (by decide) (fun _ => ?_)
      refine j_ws (ws' := wMk cI cR o0 hc hm hb a n col msk bare r5) rfl ?_
      obtain rfl := Option.some.inj h
      exact j_vret C hr d_Maker_makeStripe_104 0 rfl
set_option maxRecDepth 100000 in
set_option maxHeartbeats 4000000 in
theorem t_Maker_makeStripe_b49 {p : Program} {l : Launch} {e : Env} {s : State} {m : MethodId} {args : Array Value} {below : List Frame} {meth : Method} {c : Code} {D : va_G} {cI cR cZ : ClassId} {A : Nat → Prop} (C : Cx p s m args meth c D (tyG cI cR cZ) b_Maker_makeStripe 4 "MaskLayers$Maker") (hr : meth.sig.returnType = none) (hA : ∀ q : Nat, s.heap.size ≤ q → A q) {o0 : Nat} {hc : Nat} {hm : Nat} {hb : Nat} {a : (Nat → Nat)} {n : Nat} {col : (Nat → Int32)} {msk : (Nat → Int32)} {bare : (Nat → Int32)} {L : LyS} {fu : Nat} {v1 : Int32} {v2 : Int32} {v3 : Int32} {res : ((Nat → Int32) × LyS)} (h : Maker_makeStripe_b49 fu n col msk bare L v1 v2 v3 = some res) : J p l e rm_Maker_makeStripe s m args below meth c D A (va_D A) 4 (MQ below (QcV D (fun _ : Nat => wMk cI cR o0 hc hm hb a n col msk res.1 res.2) A) args s 0 0 A) 0 0 (wMk cI cR o0 hc hm hb a n col msk bare L) [(0, .ref o0), (1, .int v1), (2, .int v2), (3, .int v3)] [] 49 := by
  unfold Maker_makeStripe_b49 at h
  refine j_iload_n C 3 d_Maker_makeStripe_49 rfl ?_
  refine j_if_le C 83 d_Maker_makeStripe_50 (by decide) (fun c12 => ?_) (fun c12 => ?_)
  · replace h := (if_pos c12).symm.trans h
    refine j_sub [0, 1, 2] rfl ?_
    exact t_Maker_makeStripe_b83 C hr hA h
  · replace h := (if_neg c12).symm.trans h
    refine j_aload_n C 0 d_Maker_makeStripe_53 rfl ?_
    refine gf_Maker_9 C 0 (v := .ref (a 0)) rfl rfl d_Maker_makeStripe_54 ?_
    refine j_iload_n C 1 d_Maker_makeStripe_57 rfl ?_
    refine j_iconst C (v := 1) d_Maker_makeStripe_58 (by decide) ?_
    obtain ⟨r8, hr8, h⟩ := bd_ok h
    refine j_VV C [.int v1, .int 1] hA 4 rfl rfl (c_Layers_add l D cI cR cZ a n L v1 1 hr8) (cw_Maker_81 C ⟨Nat.le_of_ble_eq_true rfl, Nat.le_of_ble_eq_true rfl⟩) [4, 5, 6, 7, 8, 9, 10] [0, 1, 2, 3] rfl rfl (by decide) (by decide) (by decide) rfl rfl (Nat.le_of_ble_eq_true rfl) d_Maker_makeStripe_59 (by decide) (fun _ => ?_)
    refine j_ws (ws' := wMk cI cR o0 hc hm hb a n col msk bare r8) rfl ?_
    refine j_aload_n C 0 d_Maker_makeStripe_62 rfl ?_
    refine j_iload_n C 1 d_Maker_makeStripe_63 rfl ?_
    refine j_iconst C (v := 2) d_Maker_makeStripe_64 (by decide) ?_
    refine j_aload_n C 0 d_Maker_makeStripe_65 rfl ?_
    refine j_iload_n C 1 d_Maker_makeStripe_66 rfl ?_
    refine j_iconst C (v := 2) d_Maker_makeStripe_67 (by decide) ?_
    obtain ⟨r9, hr9, h⟩ := bd_ok h
    refine j_IV C [.int v1, .int 2] hA 0 rfl rfl (c_Maker_makeBlocks l D cI cR cZ fu o0 hc hm hb a n col msk bare r8 v1 2 hr9) (cw_Maker_74 C ⟨Nat.le_of_ble_eq_true rfl, Nat.le_of_ble_eq_true rfl⟩) [0, 1, 2, 3, 4, 5, 6, 7, 8, 9, 10] [] rfl rfl (by decide) (by decide) (by decide) rfl rfl (Nat.le_of_ble_eq_true rfl) d_Maker_makeStripe_68 (by decide) (fun _ => ?_)
    refine j_ws (ws' := wMk cI cR o0 hc hm hb a n col msk bare r9.2) rfl ?_
    obtain ⟨r10, hr10, h⟩ := bd_ok h
    refine j_VV C [.int v1, .int 2, .int r9.1] hA 0 rfl rfl (c_Maker_fillBlocks l D cI cR cZ fu o0 hc hm hb a n col msk bare r9.2 v1 2 r9.1 hr10) (cw_Maker_77 C ⟨Nat.le_of_ble_eq_true rfl, Nat.le_of_ble_eq_true rfl⟩) [0, 1, 2, 3, 4, 5, 6, 7, 8, 9, 10] [] rfl rfl (by decide) (by decide) (by decide) rfl rfl (Nat.le_of_ble_eq_true rfl) d_Maker_makeStripe_71 (by decide) (fun _ => ?_)
    refine j_ws (ws' := wMk cI cR o0 hc hm hb a n col msk r10.1 r10.2) rfl ?_
    refine j_aload_n C 0 d_Maker_makeStripe_74 rfl ?_
    refine gf_Maker_9 C 0 (v := .ref (a 0)) rfl rfl d_Maker_makeStripe_75 ?_
    refine j_iload_n C 1 d_Maker_makeStripe_78 rfl ?_
    refine j_iconst C (v := 2) d_Maker_makeStripe_79 (by decide) ?_
    obtain ⟨r11, hr11, h⟩ := bd_ok h
    refine j_VV C [.int v1, .int 2] hA 4 rfl rfl (c_Layers_add l D cI cR cZ a n r10.2 v1 2 hr11) (cw_Maker_81 C ⟨Nat.le_of_ble_eq_true rfl, Nat.le_of_ble_eq_true rfl⟩) [4, 5, 6, 7, 8, 9, 10] [0, 1, 2, 3] rfl rfl (by decide) (by decide) (by decide) rfl rfl (Nat.le_of_ble_eq_true rfl) d_Maker_makeStripe_80 (by decide) (fun _ => ?_)
    refine j_ws (ws' := wMk cI cR o0 hc hm hb a n col msk r10.1 r11) rfl ?_
    refine j_sub [0, 1, 2] rfl ?_
    exact t_Maker_makeStripe_b83 C hr hA h
set_option maxRecDepth 100000 in
set_option maxHeartbeats 4000000 in
theorem c_Maker_makeStripe (l : Launch) (D : va_G) (cI cR cZ : ClassId) (fu : Nat) (o0 : Nat) (hc : Nat) (hm : Nat) (hb : Nat) (a : (Nat → Nat)) (n : Nat) (col : (Nat → Int32)) (msk : (Nat → Int32)) (bare : (Nat → Int32)) (L : LyS) (p1 : Int32) (p2 : Int32) {res : ((Nat → Int32) × LyS)} (h : Maker_makeStripe fu n col msk bare L p1 p2 = some res) (sz : Nat) : Met l y_Maker_makeStripe (Cond.code y_Maker_makeStripe b_Maker_makeStripe 4 none :: BIG) rm_Maker_makeStripe (PcI [.ref o0, .int p1, .int p2] D (tyG cI cR cZ) (wMk cI cR o0 hc hm hb a n col msk bare L) sz) (QcV D (fun _ : Nat => wMk cI cR o0 hc hm hb a n col msk res.1 res.2) (va_A (wMk cI cR o0 hc hm hb a n col msk bare L) sz)) 0 0 (va_A (wMk cI cR o0 hc hm hb a n col msk bare L) sz) := by
  refine met_V (by decide) (Nat.le_of_ble_eq_true rfl) (fun p e s m args below meth c A hA C hr => ?_)
  have C : Cx p s m args meth c D (tyG cI cR cZ) b_Maker_makeStripe 4 "MaskLayers$Maker" := C
  have hr : meth.sig.returnType = none := hr
  show J p l e rm_Maker_makeStripe s m args below meth c D A (va_D A) 4 (MQ below (QcV D (fun _ : Nat => wMk cI cR o0 hc hm hb a n col msk res.1 res.2) A) args s 0 0 A) 0 0 (wMk cI cR o0 hc hm hb a n col msk bare L) [(0, .ref o0), (1, .int p1), (2, .int p2)] [] 0
  unfold Maker_makeStripe at h
  refine j_aload_n C 0 d_Maker_makeStripe_0 rfl ?_
  refine j_iload_n C 1 d_Maker_makeStripe_1 rfl ?_
  obtain ⟨r1, hr1, h⟩ := bd_ok h
  refine j_IV C [.int p1] hA 0 rfl rfl (c_Maker_takeMask l D cI cR cZ fu o0 hc hm hb a n col msk bare L p1 hr1) (cw_Maker_64 C ⟨Nat.le_of_ble_eq_true rfl, Nat.le_of_ble_eq_true rfl⟩) [0, 1, 2, 3, 4, 5, 6, 7, 8, 9, 10] [] rfl rfl (by decide) (by decide) (by decide) rfl rfl (Nat.le_of_ble_eq_true rfl) d_Maker_makeStripe_2 (by decide) (fun _ => ?_)
  refine j_ws (ws' := wMk cI cR o0 hc hm hb a n col msk bare r1.2) rfl ?_
  refine j_istore_n C [(3, .int r1.1), (0, .ref o0), (1, .int p1), (2, .int p2)] d_Maker_makeStripe_5 (by decide) rfl ?_
  refine j_iload_n C 0 d_Maker_makeStripe_6 rfl ?_
  refine j_aload_n C 1 d_Maker_makeStripe_7 rfl ?_
  refine gf_Maker_9 C 0 (v := .ref (a 0)) rfl rfl d_Maker_makeStripe_8 ?_
  refine j_iload_n C 2 d_Maker_makeStripe_11 rfl ?_
  refine j_iconst C (v := 1) d_Maker_makeStripe_12 (by decide) ?_
  obtain ⟨r2, hr2, h⟩ := bd_ok h
  refine j_PV C [.int p1, .int 1] 4 rfl rfl (c_Layers_endOf l D cI cR cZ a n r1.2 p1 1 hr2) (cw_Maker_67 C ⟨Nat.le_of_ble_eq_true rfl, Nat.le_of_ble_eq_true rfl⟩) [4, 5, 6, 7, 8, 9, 10] rfl rfl rfl (Nat.le_of_ble_eq_true rfl) d_Maker_makeStripe_13 (by decide) ?_
  refine j_aload_n C 1 d_Maker_makeStripe_16 rfl ?_
  refine gf_Maker_9 C 0 (v := .ref (a 0)) rfl rfl d_Maker_makeStripe_17 ?_
  refine j_iload_n C 2 d_Maker_makeStripe_20 rfl ?_
  obtain ⟨r3, hr3, h⟩ := bd_ok h
  refine j_PV C [.int p1] 4 rfl rfl (c_Layers_startOf l D cI cR cZ a n r1.2 p1 hr3) (cw_Maker_71 C ⟨Nat.le_of_ble_eq_true rfl, Nat.le_of_ble_eq_true rfl⟩) [4, 5, 6, 7, 8, 9, 10] rfl rfl rfl (Nat.le_of_ble_eq_true rfl) d_Maker_makeStripe_21 (by decide) ?_
  refine j_isub C d_Maker_makeStripe_24 ?_
  refine j_icmp_ge C 49 d_Maker_makeStripe_25 (by decide) (fun c16 => ?_) (fun c16 => ?_)
  · replace h := (if_pos c16).symm.trans h
    refine j_sub [1, 2, 3, 0] rfl ?_
    exact t_Maker_makeStripe_b49 C hr hA h
  · replace h := (if_neg c16).symm.trans h
    refine j_aload_n C 1 d_Maker_makeStripe_28 rfl ?_
    refine j_iload_n C 2 d_Maker_makeStripe_29 rfl ?_
    refine j_iconst C (v := 0) d_Maker_makeStripe_30 (by decide) ?_
    refine j_aload_n C 1 d_Maker_makeStripe_31 rfl ?_
    refine j_iload_n C 2 d_Maker_makeStripe_32 rfl ?_
    refine j_iconst C (v := 0) d_Maker_makeStripe_33 (by decide) ?_
    obtain ⟨r13, hr13, h⟩ := bd_ok h
    refine j_IV C [.int p1, .int 0] hA 0 rfl rfl (c_Maker_makeBlocks l D cI cR cZ fu o0 hc hm hb a n col msk bare r1.2 p1 0 hr13) (cw_Maker_74 C ⟨Nat.le_of_ble_eq_true rfl, Nat.le_of_ble_eq_true rfl⟩) [0, 1, 2, 3, 4, 5, 6, 7, 8, 9, 10] [] rfl rfl (by decide) (by decide) (by decide) rfl rfl (Nat.le_of_ble_eq_true rfl) d_Maker_makeStripe_34 (by decide) (fun _ => ?_)
    refine j_ws (ws' := wMk cI cR o0 hc hm hb a n col msk bare r13.2) rfl ?_
    obtain ⟨r14, hr14, h⟩ := bd_ok h
    refine j_VV C [.int p1, .int 0, .int r13.1] hA 0 rfl rfl (c_Maker_fillBlocks l D cI cR cZ fu o0 hc hm hb a n col msk bare r13.2 p1 0 r13.1 hr14) (cw_Maker_77 C ⟨Nat.le_of_ble_eq_true rfl, Nat.le_of_ble_eq_true rfl⟩) [0, 1, 2, 3, 4, 5, 6, 7, 8, 9, 10] [] rfl rfl (by decide) (by decide) (by decide) rfl rfl (Nat.le_of_ble_eq_true rfl) d_Maker_makeStripe_37 (by decide) (fun _ => ?_)
    refine j_ws (ws' := wMk cI cR o0 hc hm hb a n col msk r14.1 r14.2) rfl ?_
    refine j_aload_n C 1 d_Maker_makeStripe_40 rfl ?_
    refine gf_Maker_9 C 0 (v := .ref (a 0)) rfl rfl d_Maker_makeStripe_41 ?_
    refine j_iload_n C 2 d_Maker_makeStripe_44 rfl ?_
    refine j_iconst C (v := 0) d_Maker_makeStripe_45 (by decide) ?_
    obtain ⟨r15, hr15, h⟩ := bd_ok h
    refine j_VV C [.int p1, .int 0] hA 4 rfl rfl (c_Layers_add l D cI cR cZ a n r14.2 p1 0 hr15) (cw_Maker_81 C ⟨Nat.le_of_ble_eq_true rfl, Nat.le_of_ble_eq_true rfl⟩) [4, 5, 6, 7, 8, 9, 10] [0, 1, 2, 3] rfl rfl (by decide) (by decide) (by decide) rfl rfl (Nat.le_of_ble_eq_true rfl) d_Maker_makeStripe_46 (by decide) (fun _ => ?_)
    refine j_ws (ws' := wMk cI cR o0 hc hm hb a n col msk r14.1 r15) rfl ?_
    refine j_sub [1, 2, 3, 0] rfl ?_
    exact t_Maker_makeStripe_b49 C hr hA h
def Maker_makeAll_l17 (fu : Nat) (n : Nat) (col : (Nat → Int32)) (msk : (Nat → Int32)) (v1 : Int32) : Nat → Int32 → (Nat → Int32) → LyS → Option (Nat × (Nat → Int32) × LyS)
  | 0, _, _, _ => none
  | k + 1, v2, bare, L =>
  (Layers_stripes n L).bind fun r3 =>
  (if r3 ≤ v2 then some (0, bare, L)
  else (Maker_makeStripe fu n col msk bare L v2 v1).bind fun r4 =>
  Maker_makeAll_l17 fu n col msk v1 k (v2 + 1) r4.1 r4.2)
def Maker_makeAll (fu : Nat) (n : Nat) (col : (Nat → Int32)) (msk : (Nat → Int32)) (bare : (Nat → Int32)) (L : LyS) (p1 : Int32) : Option (Int32 × (Nat → Int32) × LyS) :=
  (Layers_forget fu n L).bind fun r1 =>
  (Arrays_fill fu n bare 0).bind fun r2 =>
  (Maker_makeAll_l17 fu n col msk p1 fu 0 r2 r1).bind fun r6 =>
  some (r6.2.2.1 3, r6.2.1, r6.2.2)
set_option maxRecDepth 100000 in
set_option maxHeartbeats 4000000 in
theorem t_Maker_makeAll_l17 {p : Program} {l : Launch} {e : Env} {s : State} {m : MethodId} {args : Array Value} {below : List Frame} {meth : Method} {c : Code} {D : va_G} {cI cR cZ : ClassId} {A : Nat → Prop} {Q : State → Prop} (C : Cx p s m args meth c D (tyG cI cR cZ) b_Maker_makeAll 3 "MaskLayers$Maker") (hA : ∀ q : Nat, s.heap.size ≤ q → A q) {o0 : Nat} {hc : Nat} {hm : Nat} {hb : Nat} {a : (Nat → Nat)} {n : Nat} {fu : Nat} {col : (Nat → Int32)} {msk : (Nat → Int32)} {v1 : Int32} {out : Nat × (Nat → Int32) × LyS} : ∀ (k : Nat) (v2 : Int32) (bare : (Nat → Int32)) (L : LyS), Maker_makeAll_l17 fu n col msk v1 k v2 bare L = some out → (out.1 = 0 → J p l e rm_Maker_makeAll s m args below meth c D A (va_D A) 3 Q 0 0 (wMk cI cR o0 hc hm hb a n col msk out.2.1 out.2.2) [(0, .ref o0)] [] 40) → J p l e rm_Maker_makeAll s m args below meth c D A (va_D A) 3 Q 0 0 (wMk cI cR o0 hc hm hb a n col msk bare L) [(0, .ref o0), (1, .int v1), (2, .int v2)] [] 17 := by
  intro k
  induction k with
  | zero => intro v2 bare L h; cases (show none = some out from h)
  | succ k ih =>
    intro v2 bare L h x0
    rw [Maker_makeAll_l17] at h
    refine j_iload_n C 2 d_Maker_makeAll_17 rfl ?_
    refine j_aload_n C 0 d_Maker_makeAll_18 rfl ?_
    refine gf_Maker_9 C 0 (v := .ref (a 0)) rfl rfl d_Maker_makeAll_19 ?_
    obtain ⟨r3, hr3, h⟩ := bd_ok h
    refine j_PV C [] 4 rfl rfl (c_Layers_stripes l D cI cR cZ a n L hr3) (cw_Maker_36 C ⟨Nat.le_of_ble_eq_true rfl, Nat.le_of_ble_eq_true rfl⟩) [4, 5, 6, 7, 8, 9, 10] rfl rfl rfl (Nat.le_of_ble_eq_true rfl) d_Maker_makeAll_22 (by decide) ?_
    refine j_icmp_ge C 40 d_Maker_makeAll_25 (by decide) (fun c5 => ?_) (fun c5 => ?_)
    · replace h := (if_pos c5).symm.trans h
      obtain rfl := Option.some.inj h
      refine j_sub [0] rfl ?_
      exact x0 rfl
    · replace h := (if_neg c5).symm.trans h
      refine j_aload_n C 0 d_Maker_makeAll_28 rfl ?_
      refine j_iload_n C 2 d_Maker_makeAll_29 rfl ?_
      refine j_iload_n C 1 d_Maker_makeAll_30 rfl ?_
      obtain ⟨r4, hr4, h⟩ := bd_ok h
      refine j_VV C [.int v2, .int v1] hA 0 rfl rfl (c_Maker_makeStripe l D cI cR cZ fu o0 hc hm hb a n col msk bare L v2 v1 hr4) (cw_Maker_40 C ⟨Nat.le_of_ble_eq_true rfl, Nat.le_of_ble_eq_true rfl⟩) [0, 1, 2, 3, 4, 5, 6, 7, 8, 9, 10] [] rfl rfl (by decide) (by decide) (by decide) rfl rfl (Nat.le_of_ble_eq_true rfl) d_Maker_makeAll_31 (by decide) (fun _ => ?_)
      refine j_ws (ws' := wMk cI cR o0 hc hm hb a n col msk r4.1 r4.2) rfl ?_
      refine j_iinc C [(2, .int (v2 + 1)), (0, .ref o0), (1, .int v1)] 2 (v2 + 1) d_Maker_makeAll_34 rfl rfl (by decide) rfl ?_
      refine j_goto C 17 d_Maker_makeAll_37 (by decide) ?_
      refine j_sub [1, 2, 0] rfl ?_
      exact ih (v2 + 1) r4.1 r4.2 h x0
set_option maxRecDepth 100000 in
set_option maxHeartbeats 4000000 in
theorem c_Maker_makeAll (l : Launch) (D : va_G) (cI cR cZ : ClassId) (fu : Nat) (o0 : Nat) (hc : Nat) (hm : Nat) (hb : Nat) (a : (Nat → Nat)) (n : Nat) (col : (Nat → Int32)) (msk : (Nat → Int32)) (bare : (Nat → Int32)) (L : LyS) (p1 : Int32) {res : (Int32 × (Nat → Int32) × LyS)} (h : Maker_makeAll fu n col msk bare L p1 = some res) (sz : Nat) : Met l y_Maker_makeAll (Cond.code y_Maker_makeAll b_Maker_makeAll 3 (some .int) :: BIG) rm_Maker_makeAll (PcI [.ref o0, .int p1] D (tyG cI cR cZ) (wMk cI cR o0 hc hm hb a n col msk bare L) sz) (QcI D res.1 (fun _ : Nat => wMk cI cR o0 hc hm hb a n col msk res.2.1 res.2.2) (va_A (wMk cI cR o0 hc hm hb a n col msk bare L) sz)) 0 0 (va_A (wMk cI cR o0 hc hm hb a n col msk bare L) sz) := by
  refine met_I (by decide) (Nat.le_of_ble_eq_true rfl) (fun p e s m args below meth c A hA C hr => ?_)
  have C : Cx p s m args meth c D (tyG cI cR cZ) b_Maker_makeAll 3 "MaskLayers$Maker" := C
  have hr : meth.sig.returnType = some .int := hr
  show J p l e rm_Maker_makeAll s m args below meth c D A (va_D A) 3 (MQ below (QcI D res.1 (fun _ : Nat => wMk cI cR o0 hc hm hb a n col msk res.2.1 res.2.2) A) args s 0 0 A) 0 0 (wMk cI cR o0 hc hm hb a n col msk bare L) [(0, .ref o0), (1, .int p1)] [] 0
  unfold Maker_makeAll at h
  refine j_aload_n C 0 d_Maker_makeAll_0 rfl ?_
  refine gf_Maker_9 C 0 (v := .ref (a 0)) rfl rfl d_Maker_makeAll_1 ?_
  obtain ⟨r1, hr1, h⟩ := bd_ok h
  refine j_VV C [] hA 4 rfl rfl (c_Layers_forget l D cI cR cZ fu a n L hr1) (cw_Maker_25 C ⟨Nat.le_of_ble_eq_true rfl, Nat.le_of_ble_eq_true rfl⟩) [4, 5, 6, 7, 8, 9, 10] [0, 1, 2, 3] rfl rfl (by decide) (by decide) (by decide) rfl rfl (Nat.le_of_ble_eq_true rfl) d_Maker_makeAll_4 (by decide) (fun _ => ?_)
  refine j_ws (ws' := wMk cI cR o0 hc hm hb a n col msk bare r1) rfl ?_
  refine j_aload_n C 0 d_Maker_makeAll_7 rfl ?_
  refine gf_Maker_22 C 0 (v := .ref hb) rfl rfl d_Maker_makeAll_8 ?_
  refine j_iconst C (v := 0) d_Maker_makeAll_11 (by decide) ?_
  obtain ⟨r2, hr2, h⟩ := bd_ok h
  refine j_VS C [.ref hb, .int 0] hA (c_Arrays_fill l D cI cR cZ fu hb n bare 0 hr2) (cw_Maker_30 C ⟨Nat.le_of_ble_eq_true rfl, Nat.le_of_ble_eq_true rfl⟩) [3] [0, 1, 2, 4, 5, 6, 7, 8, 9, 10] rfl rfl (by decide) (by decide) (by decide) rfl rfl (Nat.le_of_ble_eq_true rfl) d_Maker_makeAll_12 (by decide) (fun _ => ?_)
  refine j_perm [0, 1, 2, 10, 3, 4, 5, 6, 7, 8, 9] (ws' := wMk cI cR o0 hc hm hb a n col msk r2 r1) rfl (by decide) ?_
  refine j_iconst C (v := 0) d_Maker_makeAll_15 (by decide) ?_
  refine j_istore_n C [(2, .int 0), (0, .ref o0), (1, .int p1)] d_Maker_makeAll_16 (by decide) rfl ?_
  obtain ⟨r6, hr6, h⟩ := bd_ok h
  refine j_sub [1, 2, 0] rfl ?_
  refine t_Maker_makeAll_l17 C hA fu 0 r2 r1 hr6 (fun e7 => ?_)
  · refine j_aload_n C 0 d_Maker_makeAll_40 rfl ?_
    refine gf_Maker_9 C 0 (v := .ref (a 0)) rfl rfl d_Maker_makeAll_41 ?_
    refine gf_Maker_44 C 4 (v := .int (r6.2.2.1 3)) rfl rfl d_Maker_makeAll_44 ?_
    obtain rfl := Option.some.inj h
    exact j_iret C hr d_Maker_makeAll_47 0 rfl
