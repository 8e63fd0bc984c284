set_option maxRecDepth 100000 in
set_option maxHeartbeats 4000000 in
theorem lc_put {p : Program} {l : Launch} {e : Env} {s : State} {m : MethodId} {below : List Frame} {meth : Method} {c : Code} {D : va_G} {cI cR cZ cJ : ClassId} {t1 t2 b L : Nat} {xs : Nat → Int32} {Q : State → Prop} {cells slots : Nat} (C : Cx p s m #[Value.ref b] meth c D (tyG cI cR cZ) code 7 "MaskLayersLaw") (hl : l.stackTraces = false) (hA : ∀ q, s.heap.size ≤ q → lwA s q) (hX : HX D cJ t1 t2 (lwA s) s s.heap) (hT : va_T .int b L (fun j => .int (xs j)) (lwA s) s s.heap) (hL : L < 2 ^ 31) {Rel : Nat → XS → LyS → Prop} {fu : Nat} (hop : Op_put Rel fu) {o0 : Nat} {hc : Nat} {hm : Nat} {om : Nat} {hb : Nat} {ow : Nat} {or_ : Nat} {hh : Nat} {aM : (Nat → Nat)} {aF : (Nat → Nat)} {bw : Nat} {bf : Nat} {n : Nat} {a : Nat → Nat} {go j : Nat} (hj : j + 4 < L) (hcl : cells + 7 ≤ 601024) (hsl : slots + 14080 ≤ 7293000) {x : XS} {S : LyS} {qw qf : Nat} {Fo : Nat → Int64} (hRel : Rel n x S) (K : ∀ (x : XS) (S : LyS) (qw qf : Nat) (Fo : Nat → Int64), Rel n x S → J p l e room_1 s m #[Value.ref b] below meth c D (lwA s) (va_D (lwA s)) 7 Q (cells + 7) (slots + 14080) (wML cI cR o0 hc hm om hb ow or_ hh aM aF bw qw bf qf n x.1 x.2.1 x.2.2.1 x.2.2.2.1 x.2.2.2.2.1 x.2.2.2.2.2.1 x.2.2.2.2.2.2.1 x.2.2.2.2.2.2.2.1 x.2.2.2.2.2.2.2.2.1 x.2.2.2.2.2.2.2.2.2.1 x.2.2.2.2.2.2.2.2.2.2.1 x.2.2.2.2.2.2.2.2.2.2.2.1 x.2.2.2.2.2.2.2.2.2.2.2.2 ++ (wMo cI cZ a S ++ [(go, .inl (cJ, 1, .inr (.inl Fo)))])) [(4, .int (nI j)), (3, .ref go), (2, .ref (a 0)), (1, .ref o0), (0, .ref b)] [] 1132) : J p l e room_1 s m #[Value.ref b] below meth c D (lwA s) (va_D (lwA s)) 7 Q cells slots (wML cI cR o0 hc hm om hb ow or_ hh aM aF bw qw bf qf n x.1 x.2.1 x.2.2.1 x.2.2.2.1 x.2.2.2.2.1 x.2.2.2.2.2.1 x.2.2.2.2.2.2.1 x.2.2.2.2.2.2.2.1 x.2.2.2.2.2.2.2.2.1 x.2.2.2.2.2.2.2.2.2.1 x.2.2.2.2.2.2.2.2.2.2.1 x.2.2.2.2.2.2.2.2.2.2.2.1 x.2.2.2.2.2.2.2.2.2.2.2.2 ++ (wMo cI cZ a S ++ [(go, .inl (cJ, 1, .inr (.inl Fo)))])) [(4, .int (nI j)), (3, .ref go), (2, .ref (a 0)), (1, .ref o0), (0, .ref b)] [] 136 := by
  obtain ⟨r, hr9, hcase⟩ := hop n x S (xs (j + 1)) (xs (j + 2)) (xs (j + 3)) (xs (j + 4)) hRel
  rcases hcase with ⟨z, hz, ht, hbz, hR⟩ | ⟨hz, ht, hR⟩ | ⟨hz, ht, hR⟩
  · refine j_aload_n C 3 d_Law_law_136 rfl ?_
    refine j_aload_n C 4 d_Law_law_137 rfl ?_
    refine j_scr C hT hL (j := j) (k := 1) 0 rfl (by omega) (by decide) d_Law_law_138 d_Law_law_140 d_Law_law_141 d_Law_law_142 ?_
    refine j_aload_n C 4 d_Law_law_143 rfl ?_
    refine j_scr C hT hL (j := j) (k := 2) 0 rfl (by omega) (by decide) d_Law_law_144 d_Law_law_146 d_Law_law_147 d_Law_law_148 ?_
    refine j_aload_n C 4 d_Law_law_149 rfl ?_
    refine j_scr C hT hL (j := j) (k := 3) 0 rfl (by omega) (by decide) d_Law_law_150 d_Law_law_152 d_Law_law_153 d_Law_law_154 ?_
    refine j_aload_n C 4 d_Law_law_155 rfl ?_
    refine j_scr C hT hL (j := j) (k := 4) 0 rfl (by omega) (by decide) d_Law_law_156 d_Law_law_158 d_Law_law_159 d_Law_law_160 ?_
    refine j_aload_n C 1 d_Law_law_161 rfl ?_
    refine j_HS C [.ref o0, .int (xs (j + 1)), .int (xs (j + 2)), .int (xs (j + 3)), .int (xs (j + 4)), .ref go] hA hX (c_Law_put_n l D cI cR cZ cJ t1 t2 fu o0 hc hm om hb ow or_ hh aM aF bw qw bf qf n go x.1 x.2.1 x.2.2.1 x.2.2.2.1 x.2.2.2.2.1 x.2.2.2.2.2.1 x.2.2.2.2.2.2.1 x.2.2.2.2.2.2.2.1 x.2.2.2.2.2.2.2.2.1 x.2.2.2.2.2.2.2.2.2.1 x.2.2.2.2.2.2.2.2.2.2.1 x.2.2.2.2.2.2.2.2.2.2.2.1 x.2.2.2.2.2.2.2.2.2.2.2.2 Fo (xs (j + 1)) (xs (j + 2)) (xs (j + 3)) (xs (j + 4)) hz) (ch_Law_put ⟨Nat.le_of_ble_eq_true rfl, Nat.le_of_ble_eq_true rfl⟩) [0, 1, 2, 3, 4, 5, 6, 7, 8, 9, 10, 11, 12, 13, 14, 15, 16, 17, 18, 19, 20, 21, 22, 23, 24, 25, 37] [26, 27, 28, 29, 30, 31, 32, 33, 34, 35, 36] rfl rfl (by decide) (by decide) (by decide) rfl rfl (Nat.le_of_ble_eq_true rfl) d_Law_law_162 ⟨by show _ ≤ 601024; omega, by show _ ≤ 7293000; omega⟩ (fun u1 => ?_)
    refine j_perm [11, 12, 13, 14, 15, 16, 17, 18, 19, 20, 21, 22, 23, 24, 25, 26, 27, 28, 29, 30, 31, 32, 33, 34, 35, 36, 0, 1, 2, 3, 4, 5, 6, 7, 8, 9, 10, 37] (ws' := wML cI cR o0 hc hm om hb ow or_ hh aM aF bw qw bf qf n x.1 x.2.1 x.2.2.1 z.2 x.2.2.2.2.1 x.2.2.2.2.2.1 x.2.2.2.2.2.2.1 x.2.2.2.2.2.2.2.1 x.2.2.2.2.2.2.2.2.1 x.2.2.2.2.2.2.2.2.2.1 x.2.2.2.2.2.2.2.2.2.2.1 x.2.2.2.2.2.2.2.2.2.2.2.1 x.2.2.2.2.2.2.2.2.2.2.2.2 ++ (wMo cI cZ a S ++ [(go, .inl (cJ, 1, .inr (.inl (vp_updL Fo (0 : Int32).toNatClampNeg z.1.toInt64))))])) rfl (by decide) ?_
    refine j_istore C [(5, .int 0), (4, .int (nI j)), (3, .ref go), (2, .ref (a 0)), (1, .ref o0), (0, .ref b)] d_Law_law_165 (by decide) rfl ?_
    refine j_aload_n C 3 d_Law_law_167 rfl ?_
    refine j_aload_n C 5 d_Law_law_168 rfl ?_
    refine j_scr C hT hL (j := j) (k := 1) 1 rfl (by omega) (by decide) d_Law_law_169 d_Law_law_171 d_Law_law_172 d_Law_law_173 ?_
    refine j_aload_n C 5 d_Law_law_174 rfl ?_
    refine j_scr C hT hL (j := j) (k := 2) 1 rfl (by omega) (by decide) d_Law_law_175 d_Law_law_177 d_Law_law_178 d_Law_law_179 ?_
    refine j_aload_n C 5 d_Law_law_180 rfl ?_
    refine j_scr C hT hL (j := j) (k := 3) 1 rfl (by omega) (by decide) d_Law_law_181 d_Law_law_183 d_Law_law_184 d_Law_law_185 ?_
    refine j_aload_n C 5 d_Law_law_186 rfl ?_
    refine j_scr C hT hL (j := j) (k := 4) 1 rfl (by omega) (by decide) d_Law_law_187 d_Law_law_189 d_Law_law_190 d_Law_law_191 ?_
    refine j_IV C [.int (xs (j + 1)), .int (xs (j + 2)), .int (xs (j + 3)), .int (xs (j + 4))] hA 26 rfl rfl (c_Mo_put l D cI cR cZ fu a S (xs (j + 1)) (xs (j + 2)) (xs (j + 3)) (xs (j + 4)) hr9) (cw_Law_79 C ⟨Nat.le_of_ble_eq_true rfl, Nat.le_of_ble_eq_true rfl⟩) [26, 27, 28, 29, 30, 31, 32, 33, 34, 35, 36] [0, 1, 2, 3, 4, 5, 6, 7, 8, 9, 10, 11, 12, 13, 14, 15, 16, 17, 18, 19, 20, 21, 22, 23, 24, 25, 37] rfl rfl (by decide) (by decide) (by decide) rfl rfl (Nat.le_of_ble_eq_true rfl) d_Law_law_192 ⟨by show _ ≤ 601024; omega, by show _ ≤ 7293000; omega⟩ (fun _ => ?_)
    refine j_perm [0, 1, 2, 3, 4, 5, 6, 7, 8, 9, 10, 11, 12, 13, 14, 15, 16, 17, 18, 19, 20, 21, 22, 23, 24, 25, 27, 28, 29, 30, 31, 32, 33, 34, 35, 36, 37, 26] (ws' := wML cI cR o0 hc hm om hb ow or_ hh aM aF bw qw bf qf n x.1 x.2.1 x.2.2.1 z.2 x.2.2.2.2.1 x.2.2.2.2.2.1 x.2.2.2.2.2.2.1 x.2.2.2.2.2.2.2.1 x.2.2.2.2.2.2.2.2.1 x.2.2.2.2.2.2.2.2.2.1 x.2.2.2.2.2.2.2.2.2.2.1 x.2.2.2.2.2.2.2.2.2.2.2.1 x.2.2.2.2.2.2.2.2.2.2.2.2 ++ (wMo cI cZ a r.2 ++ [(go, .inl (cJ, 1, .inr (.inl (vp_updL Fo (0 : Int32).toNatClampNeg z.1.toInt64))))])) rfl (by decide) ?_
    refine j_istore C [(6, .int r.1), (5, .int 0), (4, .int (nI j)), (3, .ref go), (2, .ref (a 0)), (1, .ref o0), (0, .ref b)] d_Law_law_195 (by decide) rfl ?_
    refine j_aload_n C 4 d_Law_law_197 rfl ?_
    refine j_PV C [] 26 rfl rfl (c_Mo_thrown l D cI cR cZ a r.2 rfl) (cw_Law_80 C ⟨Nat.le_of_ble_eq_true rfl, Nat.le_of_ble_eq_true rfl⟩) [26, 27, 28, 29, 30, 31, 32, 33, 34, 35, 36] rfl rfl rfl (Nat.le_of_ble_eq_true rfl) d_Law_law_198 ⟨by show _ ≤ 601024; omega, by show _ ≤ 7293000; omega⟩ ?_
    refine j_iload C 1 d_Law_law_201 rfl ?_
    refine j_icmp_eq C 208 d_Law_law_203 (by decide) (fun _ => ?_) (fun c2 => absurd ht c2)
    refine j_iload C 1 d_Law_law_208 rfl ?_
    refine j_if_ne C 225 d_Law_law_210 (by decide) (fun q => absurd rfl q) (fun _ => ?_)
    refine j_aload_n C 3 d_Law_law_213 rfl ?_
    refine j_iconst C (v := 0) d_Law_law_214 (by decide) ?_
    refine j_lald C hX.2.2.2.2.2 37 0 rfl rfl (by show ¬ _; decide) d_Law_law_215 ?_
    refine j_iload C 0 d_Law_law_216 rfl ?_
    refine j_i2l C d_Law_law_218 ?_
    refine j_lcmp C d_Law_law_219 ?_
    refine j_if_eq C 225 d_Law_law_220 (by decide) (fun _ => ?_) (fun c3 => absurd (lgc_eq (show (vp_updL Fo (0 : Int32).toNatClampNeg z.1.toInt64) (0 : Int32).toNatClampNeg = r.1.toInt64 from (upl_at _ _ _).trans (congrArg Int32.toInt64 hbz.symm))) c3)
    refine j_goto C 1132 d_Law_law_225 (by decide) ?_
    refine j_sub [2, 3, 4, 5, 6] rfl ?_
    refine j_widen (c2 := cells + 7) (s2 := slots + 14080) (by omega) (by omega) ?_
    exact K (x.1, x.2.1, x.2.2.1, z.2, x.2.2.2.2.1, x.2.2.2.2.2.1, x.2.2.2.2.2.2.1, x.2.2.2.2.2.2.2.1, x.2.2.2.2.2.2.2.2.1, x.2.2.2.2.2.2.2.2.2.1, x.2.2.2.2.2.2.2.2.2.2.1, x.2.2.2.2.2.2.2.2.2.2.2.1, x.2.2.2.2.2.2.2.2.2.2.2.2) r.2 qw qf (vp_updL Fo (0 : Int32).toNatClampNeg z.1.toInt64) hR
  · refine j_aload_n C 3 d_Law_law_136 rfl ?_
    refine j_aload_n C 4 d_Law_law_137 rfl ?_
    refine j_scr C hT hL (j := j) (k := 1) 0 rfl (by omega) (by decide) d_Law_law_138 d_Law_law_140 d_Law_law_141 d_Law_law_142 ?_
    refine j_aload_n C 4 d_Law_law_143 rfl ?_
    refine j_scr C hT hL (j := j) (k := 2) 0 rfl (by omega) (by decide) d_Law_law_144 d_Law_law_146 d_Law_law_147 d_Law_law_148 ?_
    refine j_aload_n C 4 d_Law_law_149 rfl ?_
    refine j_scr C hT hL (j := j) (k := 3) 0 rfl (by omega) (by decide) d_Law_law_150 d_Law_law_152 d_Law_law_153 d_Law_law_154 ?_
    refine j_aload_n C 4 d_Law_law_155 rfl ?_
    refine j_scr C hT hL (j := j) (k := 4) 0 rfl (by omega) (by decide) d_Law_law_156 d_Law_law_158 d_Law_law_159 d_Law_law_160 ?_
    refine j_aload_n C 1 d_Law_law_161 rfl ?_
    refine j_HS C [.ref o0, .int (xs (j + 1)), .int (xs (j + 2)), .int (xs (j + 3)), .int (xs (j + 4)), .ref go] hA hX (c_Law_put_t1 l hl D cI cR cZ cJ t1 t2 fu o0 hc hm om hb ow or_ hh aM aF bw qw bf qf n go x.1 x.2.1 x.2.2.1 x.2.2.2.1 x.2.2.2.2.1 x.2.2.2.2.2.1 x.2.2.2.2.2.2.1 x.2.2.2.2.2.2.2.1 x.2.2.2.2.2.2.2.2.1 x.2.2.2.2.2.2.2.2.2.1 x.2.2.2.2.2.2.2.2.2.2.1 x.2.2.2.2.2.2.2.2.2.2.2.1 x.2.2.2.2.2.2.2.2.2.2.2.2 Fo (xs (j + 1)) (xs (j + 2)) (xs (j + 3)) (xs (j + 4)) hz) (ch_Law_put ⟨Nat.le_of_ble_eq_true rfl, Nat.le_of_ble_eq_true rfl⟩) [0, 1, 2, 3, 4, 5, 6, 7, 8, 9, 10, 11, 12, 13, 14, 15, 16, 17, 18, 19, 20, 21, 22, 23, 24, 25, 37] [26, 27, 28, 29, 30, 31, 32, 33, 34, 35, 36] rfl rfl (by decide) (by decide) (by decide) rfl rfl (Nat.le_of_ble_eq_true rfl) d_Law_law_162 ⟨by show _ ≤ 601024; omega, by show _ ≤ 7293000; omega⟩ (fun u1 => ?_)
    refine j_perm [11, 12, 13, 14, 15, 16, 17, 18, 19, 20, 21, 22, 23, 24, 25, 26, 27, 28, 29, 30, 31, 32, 33, 34, 35, 36, 0, 1, 2, 3, 4, 5, 6, 7, 8, 9, 10, 37] (ws' := wML cI cR o0 hc hm om hb ow or_ hh aM aF bw qw bf qf n x.1 x.2.1 x.2.2.1 x.2.2.2.1 x.2.2.2.2.1 x.2.2.2.2.2.1 x.2.2.2.2.2.2.1 x.2.2.2.2.2.2.2.1 x.2.2.2.2.2.2.2.2.1 x.2.2.2.2.2.2.2.2.2.1 x.2.2.2.2.2.2.2.2.2.2.1 x.2.2.2.2.2.2.2.2.2.2.2.1 x.2.2.2.2.2.2.2.2.2.2.2.2 ++ (wMo cI cZ a S ++ [(go, .inl (cJ, 1, .inr (.inl Fo)))])) rfl (by decide) ?_
    refine j_istore C [(5, .int 1), (4, .int (nI j)), (3, .ref go), (2, .ref (a 0)), (1, .ref o0), (0, .ref b)] d_Law_law_165 (by decide) rfl ?_
    refine j_aload_n C 3 d_Law_law_167 rfl ?_
    refine j_aload_n C 5 d_Law_law_168 rfl ?_
    refine j_scr C hT hL (j := j) (k := 1) 1 rfl (by omega) (by decide) d_Law_law_169 d_Law_law_171 d_Law_law_172 d_Law_law_173 ?_
    refine j_aload_n C 5 d_Law_law_174 rfl ?_
    refine j_scr C hT hL (j := j) (k := 2) 1 rfl (by omega) (by decide) d_Law_law_175 d_Law_law_177 d_Law_law_178 d_Law_law_179 ?_
    refine j_aload_n C 5 d_Law_law_180 rfl ?_
    refine j_scr C hT hL (j := j) (k := 3) 1 rfl (by omega) (by decide) d_Law_law_181 d_Law_law_183 d_Law_law_184 d_Law_law_185 ?_
    refine j_aload_n C 5 d_Law_law_186 rfl ?_
    refine j_scr C hT hL (j := j) (k := 4) 1 rfl (by omega) (by decide) d_Law_law_187 d_Law_law_189 d_Law_law_190 d_Law_law_191 ?_
    refine j_IV C [.int (xs (j + 1)), .int (xs (j + 2)), .int (xs (j + 3)), .int (xs (j + 4))] hA 26 rfl rfl (c_Mo_put l D cI cR cZ fu a S (xs (j + 1)) (xs (j + 2)) (xs (j + 3)) (xs (j + 4)) hr9) (cw_Law_79 C ⟨Nat.le_of_ble_eq_true rfl, Nat.le_of_ble_eq_true rfl⟩) [26, 27, 28, 29, 30, 31, 32, 33, 34, 35, 36] [0, 1, 2, 3, 4, 5, 6, 7, 8, 9, 10, 11, 12, 13, 14, 15, 16, 17, 18, 19, 20, 21, 22, 23, 24, 25, 37] rfl rfl (by decide) (by decide) (by decide) rfl rfl (Nat.le_of_ble_eq_true rfl) d_Law_law_192 ⟨by show _ ≤ 601024; omega, by show _ ≤ 7293000; omega⟩ (fun _ => ?_)
    refine j_perm [0, 1, 2, 3, 4, 5, 6, 7, 8, 9, 10, 11, 12, 13, 14, 15, 16, 17, 18, 19, 20, 21, 22, 23, 24, 25, 27, 28, 29, 30, 31, 32, 33, 34, 35, 36, 37, 26] (ws' := wML cI cR o0 hc hm om hb ow or_ hh aM aF bw qw bf qf n x.1 x.2.1 x.2.2.1 x.2.2.2.1 x.2.2.2.2.1 x.2.2.2.2.2.1 x.2.2.2.2.2.2.1 x.2.2.2.2.2.2.2.1 x.2.2.2.2.2.2.2.2.1 x.2.2.2.2.2.2.2.2.2.1 x.2.2.2.2.2.2.2.2.2.2.1 x.2.2.2.2.2.2.2.2.2.2.2.1 x.2.2.2.2.2.2.2.2.2.2.2.2 ++ (wMo cI cZ a r.2 ++ [(go, .inl (cJ, 1, .inr (.inl Fo)))])) rfl (by decide) ?_
    refine j_istore C [(6, .int r.1), (5, .int 1), (4, .int (nI j)), (3, .ref go), (2, .ref (a 0)), (1, .ref o0), (0, .ref b)] d_Law_law_195 (by decide) rfl ?_
    refine j_aload_n C 4 d_Law_law_197 rfl ?_
    refine j_PV C [] 26 rfl rfl (c_Mo_thrown l D cI cR cZ a r.2 rfl) (cw_Law_80 C ⟨Nat.le_of_ble_eq_true rfl, Nat.le_of_ble_eq_true rfl⟩) [26, 27, 28, 29, 30, 31, 32, 33, 34, 35, 36] rfl rfl rfl (Nat.le_of_ble_eq_true rfl) d_Law_law_198 ⟨by show _ ≤ 601024; omega, by show _ ≤ 7293000; omega⟩ ?_
    refine j_iload C 1 d_Law_law_201 rfl ?_
    refine j_icmp_eq C 208 d_Law_law_203 (by decide) (fun _ => ?_) (fun c2 => absurd ht c2)
    refine j_iload C 1 d_Law_law_208 rfl ?_
    refine j_if_ne C 225 d_Law_law_210 (by decide) (fun _ => ?_) (fun q => absurd q (by decide))
    refine j_goto C 1132 d_Law_law_225 (by decide) ?_
    refine j_sub [2, 3, 4, 5, 6] rfl ?_
    refine j_widen (c2 := cells + 7) (s2 := slots + 14080) (by omega) (by omega) ?_
    exact K x r.2 qw qf (Fo) hR
  · refine j_aload_n C 3 d_Law_law_136 rfl ?_
    refine j_aload_n C 4 d_Law_law_137 rfl ?_
    refine j_scr C hT hL (j := j) (k := 1) 0 rfl (by omega) (by decide) d_Law_law_138 d_Law_law_140 d_Law_law_141 d_Law_law_142 ?_
    refine j_aload_n C 4 d_Law_law_143 rfl ?_
    refine j_scr C hT hL (j := j) (k := 2) 0 rfl (by omega) (by decide) d_Law_law_144 d_Law_law_146 d_Law_law_147 d_Law_law_148 ?_
    refine j_aload_n C 4 d_Law_law_149 rfl ?_
    refine j_scr C hT hL (j := j) (k := 3) 0 rfl (by omega) (by decide) d_Law_law_150 d_Law_law_152 d_Law_law_153 d_Law_law_154 ?_
    refine j_aload_n C 4 d_Law_law_155 rfl ?_
    refine j_scr C hT hL (j := j) (k := 4) 0 rfl (by omega) (by decide) d_Law_law_156 d_Law_law_158 d_Law_law_159 d_Law_law_160 ?_
    refine j_aload_n C 1 d_Law_law_161 rfl ?_
    refine j_HS C [.ref o0, .int (xs (j + 1)), .int (xs (j + 2)), .int (xs (j + 3)), .int (xs (j + 4)), .ref go] hA hX (c_Law_put_t2 l hl D cI cR cZ cJ t1 t2 fu o0 hc hm om hb ow or_ hh aM aF bw qw bf qf n go x.1 x.2.1 x.2.2.1 x.2.2.2.1 x.2.2.2.2.1 x.2.2.2.2.2.1 x.2.2.2.2.2.2.1 x.2.2.2.2.2.2.2.1 x.2.2.2.2.2.2.2.2.1 x.2.2.2.2.2.2.2.2.2.1 x.2.2.2.2.2.2.2.2.2.2.1 x.2.2.2.2.2.2.2.2.2.2.2.1 x.2.2.2.2.2.2.2.2.2.2.2.2 Fo (xs (j + 1)) (xs (j + 2)) (xs (j + 3)) (xs (j + 4)) hz) (ch_Law_put ⟨Nat.le_of_ble_eq_true rfl, Nat.le_of_ble_eq_true rfl⟩) [0, 1, 2, 3, 4, 5, 6, 7, 8, 9, 10, 11, 12, 13, 14, 15, 16, 17, 18, 19, 20, 21, 22, 23, 24, 25, 37] [26, 27, 28, 29, 30, 31, 32, 33, 34, 35, 36] rfl rfl (by decide) (by decide) (by decide) rfl rfl (Nat.le_of_ble_eq_true rfl) d_Law_law_162 ⟨by show _ ≤ 601024; omega, by show _ ≤ 7293000; omega⟩ (fun u1 => ?_)
    refine j_perm [11, 12, 13, 14, 15, 16, 17, 18, 19, 20, 21, 22, 23, 24, 25, 26, 27, 28, 29, 30, 31, 32, 33, 34, 35, 36, 0, 1, 2, 3, 4, 5, 6, 7, 8, 9, 10, 37] (ws' := wML cI cR o0 hc hm om hb ow or_ hh aM aF bw qw bf qf n x.1 x.2.1 x.2.2.1 x.2.2.2.1 x.2.2.2.2.1 x.2.2.2.2.2.1 x.2.2.2.2.2.2.1 x.2.2.2.2.2.2.2.1 x.2.2.2.2.2.2.2.2.1 x.2.2.2.2.2.2.2.2.2.1 x.2.2.2.2.2.2.2.2.2.2.1 x.2.2.2.2.2.2.2.2.2.2.2.1 x.2.2.2.2.2.2.2.2.2.2.2.2 ++ (wMo cI cZ a S ++ [(go, .inl (cJ, 1, .inr (.inl Fo)))])) rfl (by decide) ?_
    refine j_istore C [(5, .int 2), (4, .int (nI j)), (3, .ref go), (2, .ref (a 0)), (1, .ref o0), (0, .ref b)] d_Law_law_165 (by decide) rfl ?_
    refine j_aload_n C 3 d_Law_law_167 rfl ?_
    refine j_aload_n C 5 d_Law_law_168 rfl ?_
    refine j_scr C hT hL (j := j) (k := 1) 1 rfl (by omega) (by decide) d_Law_law_169 d_Law_law_171 d_Law_law_172 d_Law_law_173 ?_
    refine j_aload_n C 5 d_Law_law_174 rfl ?_
    refine j_scr C hT hL (j := j) (k := 2) 1 rfl (by omega) (by decide) d_Law_law_175 d_Law_law_177 d_Law_law_178 d_Law_law_179 ?_
    refine j_aload_n C 5 d_Law_law_180 rfl ?_
    refine j_scr C hT hL (j := j) (k := 3) 1 rfl (by omega) (by decide) d_Law_law_181 d_Law_law_183 d_Law_law_184 d_Law_law_185 ?_
    refine j_aload_n C 5 d_Law_law_186 rfl ?_
    refine j_scr C hT hL (j := j) (k := 4) 1 rfl (by omega) (by decide) d_Law_law_187 d_Law_law_189 d_Law_law_190 d_Law_law_191 ?_
    refine j_IV C [.int (xs (j + 1)), .int (xs (j + 2)), .int (xs (j + 3)), .int (xs (j + 4))] hA 26 rfl rfl (c_Mo_put l D cI cR cZ fu a S (xs (j + 1)) (xs (j + 2)) (xs (j + 3)) (xs (j + 4)) hr9) (cw_Law_79 C ⟨Nat.le_of_ble_eq_true rfl, Nat.le_of_ble_eq_true rfl⟩) [26, 27, 28, 29, 30, 31, 32, 33, 34, 35, 36] [0, 1, 2, 3, 4, 5, 6, 7, 8, 9, 10, 11, 12, 13, 14, 15, 16, 17, 18, 19, 20, 21, 22, 23, 24, 25, 37] rfl rfl (by decide) (by decide) (by decide) rfl rfl (Nat.le_of_ble_eq_true rfl) d_Law_law_192 ⟨by show _ ≤ 601024; omega, by show _ ≤ 7293000; omega⟩ (fun _ => ?_)
    refine j_perm [0, 1, 2, 3, 4, 5, 6, 7, 8, 9, 10, 11, 12, 13, 14, 15, 16, 17, 18, 19, 20, 21, 22, 23, 24, 25, 27, 28, 29, 30, 31, 32, 33, 34, 35, 36, 37, 26] (ws' := wML cI cR o0 hc hm om hb ow or_ hh aM aF bw qw bf qf n x.1 x.2.1 x.2.2.1 x.2.2.2.1 x.2.2.2.2.1 x.2.2.2.2.2.1 x.2.2.2.2.2.2.1 x.2.2.2.2.2.2.2.1 x.2.2.2.2.2.2.2.2.1 x.2.2.2.2.2.2.2.2.2.1 x.2.2.2.2.2.2.2.2.2.2.1 x.2.2.2.2.2.2.2.2.2.2.2.1 x.2.2.2.2.2.2.2.2.2.2.2.2 ++ (wMo cI cZ a r.2 ++ [(go, .inl (cJ, 1, .inr (.inl Fo)))])) rfl (by decide) ?_
    refine j_istore C [(6, .int r.1), (5, .int 2), (4, .int (nI j)), (3, .ref go), (2, .ref (a 0)), (1, .ref o0), (0, .ref b)] d_Law_law_195 (by decide) rfl ?_
    refine j_aload_n C 4 d_Law_law_197 rfl ?_
    refine j_PV C [] 26 rfl rfl (c_Mo_thrown l D cI cR cZ a r.2 rfl) (cw_Law_80 C ⟨Nat.le_of_ble_eq_true rfl, Nat.le_of_ble_eq_true rfl⟩) [26, 27, 28, 29, 30, 31, 32, 33, 34, 35, 36] rfl rfl rfl (Nat.le_of_ble_eq_true rfl) d_Law_law_198 ⟨by show _ ≤ 601024; omega, by show _ ≤ 7293000; omega⟩ ?_
    refine j_iload C 1 d_Law_law_201 rfl ?_
    refine j_icmp_eq C 208 d_Law_law_203 (by decide) (fun _ => ?_) (fun c2 => absurd ht c2)
    refine j_iload C 1 d_Law_law_208 rfl ?_
    refine j_if_ne C 225 d_Law_law_210 (by decide) (fun _ => ?_) (fun q => absurd q (by decide))
    refine j_goto C 1132 d_Law_law_225 (by decide) ?_
    refine j_sub [2, 3, 4, 5, 6] rfl ?_
    refine j_widen (c2 := cells + 7) (s2 := slots + 14080) (by omega) (by omega) ?_
    exact K x r.2 qw qf (Fo) hR
