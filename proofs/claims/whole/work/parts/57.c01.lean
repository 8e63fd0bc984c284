set_option maxRecDepth 100000 in
set_option maxHeartbeats 4000000 in
theorem lc_mask {p : Program} {l : Launch} {e : Env} {s : State} {m : MethodId} {below : List Frame} {meth : Method} {c : Code} {D : va_G} {cI cR cZ cJ : ClassId} {t1 t2 b L : Nat} {xs : Nat → Int32} {Q : State → Prop} {cells slots : Nat} (C : Cx p s m #[Value.ref b] meth c D (tyG cI cR cZ) code 7 "MaskLayersLaw") (hl : l.stackTraces = false) (hA : ∀ q, s.heap.size ≤ q → lwA s q) (hX : HX D cJ t1 t2 (lwA s) s s.heap) (hT : va_T .int b L (fun j => .int (xs j)) (lwA s) s s.heap) (hL : L < 2 ^ 31) {Rel : Nat → XS → LyS → Prop} {fu : Nat} (hop : Op_mask Rel fu) {o0 : Nat} {hc : Nat} {hm : Nat} {om : Nat} {hb : Nat} {ow : Nat} {or_ : Nat} {hh : Nat} {aM : (Nat → Nat)} {aF : (Nat → Nat)} {bw : Nat} {bf : Nat} {n : Nat} {a : Nat → Nat} {go j : Nat} (hj : j + 4 < L) (hcl : cells + 7 ≤ 601024) (hsl : slots + 14080 ≤ 7293000) {x : XS} {S : LyS} {qw qf : Nat} {Fo : Nat → Int64} (hRel : Rel n x S) (K : ∀ (x : XS) (S : LyS) (qw qf : Nat) (Fo : Nat → Int64), Rel n x S → J p l e room_1 s m #[Value.ref b] below meth c D (lwA s) (va_D (lwA s)) 7 Q (cells + 7) (slots + 14080) (wML cI cR o0 hc hm om hb ow or_ hh aM aF bw qw bf qf n x.1 x.2.1 x.2.2.1 x.2.2.2.1 x.2.2.2.2.1 x.2.2.2.2.2.1 x.2.2.2.2.2.2.1 x.2.2.2.2.2.2.2.1 x.2.2.2.2.2.2.2.2.1 x.2.2.2.2.2.2.2.2.2.1 x.2.2.2.2.2.2.2.2.2.2.1 x.2.2.2.2.2.2.2.2.2.2.2.1 x.2.2.2.2.2.2.2.2.2.2.2.2 ++ (wMo cI cZ a S ++ [(go, .inl (cJ, 1, .inr (.inl Fo)))])) [(4, .int (nI j)), (3, .ref go), (2, .ref (a 0)), (1, .ref o0), (0, .ref b)] [] 1132) : J p l e room_1 s m #[Value.ref b] below meth c D (lwA s) (va_D (lwA s)) 7 Q cells slots (wML cI cR o0 hc hm om hb ow or_ hh aM aF bw qw bf qf n x.1 x.2.1 x.2.2.1 x.2.2.2.1 x.2.2.2.2.1 x.2.2.2.2.2.1 x.2.2.2.2.2.2.1 x.2.2.2.2.2.2.2.1 x.2.2.2.2.2.2.2.2.1 x.2.2.2.2.2.2.2.2.2.1 x.2.2.2.2.2.2.2.2.2.2.1 x.2.2.2.2.2.2.2.2.2.2.2.1 x.2.2.2.2.2.2.2.2.2.2.2.2 ++ (wMo cI cZ a S ++ [(go, .inl (cJ, 1, .inr (.inl Fo)))])) [(4, .int (nI j)), (3, .ref go), (2, .ref (a 0)), (1, .ref o0), (0, .ref b)] [] 228 := by
  obtain ⟨r, hr9, hcase⟩ := hop n x S (xs (j + 1)) (xs (j + 2)) (xs (j + 3)) (bz (xs (j + 4))) hRel (bz_or _)
  rcases hcase with ⟨z, hz, ht, hbz, hR⟩ | ⟨hz, ht, hR⟩ | ⟨hz, ht, hR⟩
  · refine j_aload_n C 3 d_Law_law_228 rfl ?_
    refine j_aload_n C 4 d_Law_law_229 rfl ?_
    refine j_scr C hT hL (j := j) (k := 1) 0 rfl (by omega) (by decide) d_Law_law_230 d_Law_law_232 d_Law_law_233 d_Law_law_234 ?_
    refine j_aload_n C 4 d_Law_law_235 rfl ?_
    refine j_scr C hT hL (j := j) (k := 2) 0 rfl (by omega) (by decide) d_Law_law_236 d_Law_law_238 d_Law_law_239 d_Law_law_240 ?_
    refine j_aload_n C 4 d_Law_law_241 rfl ?_
    refine j_scr C hT hL (j := j) (k := 3) 0 rfl (by omega) (by decide) d_Law_law_242 d_Law_law_244 d_Law_law_245 d_Law_law_246 ?_
    refine j_aload_n C 4 d_Law_law_247 rfl ?_
    refine j_scr C hT hL (j := j) (k := 4) 0 rfl (by omega) (by decide) d_Law_law_248 d_Law_law_250 d_Law_law_251 d_Law_law_252 ?_
    refine j_let (ws' := wML cI cR o0 hc hm om hb ow or_ hh aM aF bw qw bf qf n x.1 x.2.1 x.2.2.1 x.2.2.2.1 x.2.2.2.2.1 x.2.2.2.2.2.1 x.2.2.2.2.2.2.1 x.2.2.2.2.2.2.2.1 x.2.2.2.2.2.2.2.2.1 x.2.2.2.2.2.2.2.2.2.1 x.2.2.2.2.2.2.2.2.2.2.1 x.2.2.2.2.2.2.2.2.2.2.2.1 x.2.2.2.2.2.2.2.2.2.2.2.2 ++ (wMo cI cZ a S ++ [(go, .inl (cJ, 1, .inr (.inl Fo)))])) (lv' := [(4, .int (nI j)), (3, .ref go), (2, .ref (a 0)), (1, .ref o0), (0, .ref b)]) (st' := [.int (bz (xs (j + 4))), .int (xs (j + 3)), .int (xs (j + 2)), .int (xs (j + 1)), .ref o0]) (pc' := 261) ?_ (fun K1 => ?_)
    rotate_left
    · refine j_if_eq C 260 d_Law_law_253 (by decide) (fun c2 => ?_) (fun c2 => ?_)
      · refine j_iconst C (v := 0) d_Law_law_260 (by decide) ?_
        refine j_top (show 0 = bz (xs (j + 4)) from (if_pos c2).symm) ?_
        exact K1
      · refine j_iconst C (v := 1) d_Law_law_256 (by decide) ?_
        refine j_goto C 261 d_Law_law_257 (by decide) ?_
        refine j_top (show 1 = bz (xs (j + 4)) from (if_neg c2).symm) ?_
        exact K1
    refine j_aload_n C 1 d_Law_law_261 rfl ?_
    refine j_HS C [.ref o0, .int (xs (j + 1)), .int (xs (j + 2)), .int (xs (j + 3)), .int (bz (xs (j + 4))), .ref go] hA hX (c_Law_mask_n l D cI cR cZ cJ t1 t2 fu o0 hc hm om hb ow or_ hh aM aF bw qw bf qf n go x.1 x.2.1 x.2.2.1 x.2.2.2.1 x.2.2.2.2.1 x.2.2.2.2.2.1 x.2.2.2.2.2.2.1 x.2.2.2.2.2.2.2.1 x.2.2.2.2.2.2.2.2.1 x.2.2.2.2.2.2.2.2.2.1 x.2.2.2.2.2.2.2.2.2.2.1 x.2.2.2.2.2.2.2.2.2.2.2.1 x.2.2.2.2.2.2.2.2.2.2.2.2 Fo (xs (j + 1)) (xs (j + 2)) (xs (j + 3)) (bz (xs (j + 4))) hz) (ch_Law_mask ⟨Nat.le_of_ble_eq_true rfl, Nat.le_of_ble_eq_true rfl⟩) [0, 1, 2, 3, 4, 5, 6, 7, 8, 9, 10, 11, 12, 13, 14, 15, 16, 17, 18, 19, 20, 21, 22, 23, 24, 25, 37] [26, 27, 28, 29, 30, 31, 32, 33, 34, 35, 36] rfl rfl (by decide) (by decide) (by decide) rfl rfl (Nat.le_of_ble_eq_true rfl) d_Law_law_262 ⟨by show _ ≤ 601024; omega, by show _ ≤ 7293000; omega⟩ (fun u3 => ?_)
    refine j_perm [11, 12, 13, 14, 15, 16, 17, 18, 19, 20, 21, 22, 23, 24, 25, 26, 27, 28, 29, 30, 31, 32, 33, 34, 35, 36, 0, 1, 2, 3, 4, 5, 6, 7, 8, 9, 10, 37] (ws' := wML cI cR o0 hc hm om hb ow or_ hh aM aF bw qw bf qf n x.1 x.2.1 x.2.2.1 x.2.2.2.1 z.2 x.2.2.2.2.2.1 x.2.2.2.2.2.2.1 x.2.2.2.2.2.2.2.1 x.2.2.2.2.2.2.2.2.1 x.2.2.2.2.2.2.2.2.2.1 x.2.2.2.2.2.2.2.2.2.2.1 x.2.2.2.2.2.2.2.2.2.2.2.1 x.2.2.2.2.2.2.2.2.2.2.2.2 ++ (wMo cI cZ a S ++ [(go, .inl (cJ, 1, .inr (.inl (vp_updL Fo (0 : Int32).toNatClampNeg z.1.toInt64))))])) rfl (by decide) ?_
    refine j_istore C [(5, .int 0), (4, .int (nI j)), (3, .ref go), (2, .ref (a 0)), (1, .ref o0), (0, .ref b)] d_Law_law_265 (by decide) rfl ?_
    refine j_aload_n C 3 d_Law_law_267 rfl ?_
    refine j_aload_n C 5 d_Law_law_268 rfl ?_
    refine j_scr C hT hL (j := j) (k := 1) 1 rfl (by omega) (by decide) d_Law_law_269 d_Law_law_271 d_Law_law_272 d_Law_law_273 ?_
    refine j_aload_n C 5 d_Law_law_274 rfl ?_
    refine j_scr C hT hL (j := j) (k := 2) 1 rfl (by omega) (by decide) d_Law_law_275 d_Law_law_277 d_Law_law_278 d_Law_law_279 ?_
    refine j_aload_n C 5 d_Law_law_280 rfl ?_
    refine j_scr C hT hL (j := j) (k := 3) 1 rfl (by omega) (by decide) d_Law_law_281 d_Law_law_283 d_Law_law_284 d_Law_law_285 ?_
    refine j_aload_n C 5 d_Law_law_286 rfl ?_
    refine j_scr C hT hL (j := j) (k := 4) 1 rfl (by omega) (by decide) d_Law_law_287 d_Law_law_289 d_Law_law_290 d_Law_law_291 ?_
    refine j_let (ws' := wML cI cR o0 hc hm om hb ow or_ hh aM aF bw qw bf qf n x.1 x.2.1 x.2.2.1 x.2.2.2.1 z.2 x.2.2.2.2.2.1 x.2.2.2.2.2.2.1 x.2.2.2.2.2.2.2.1 x.2.2.2.2.2.2.2.2.1 x.2.2.2.2.2.2.2.2.2.1 x.2.2.2.2.2.2.2.2.2.2.1 x.2.2.2.2.2.2.2.2.2.2.2.1 x.2.2.2.2.2.2.2.2.2.2.2.2 ++ (wMo cI cZ a S ++ [(go, .inl (cJ, 1, .inr (.inl (vp_updL Fo (0 : Int32).toNatClampNeg z.1.toInt64))))])) (lv' := [(5, .int 0), (4, .int (nI j)), (3, .ref go), (2, .ref (a 0)), (1, .ref o0), (0, .ref b)]) (st' := [.int (bz (xs (j + 4))), .int (xs (j + 3)), .int (xs (j + 2)), .int (xs (j + 1)), .ref (a 0)]) (pc' := 300) ?_ (fun K4 => ?_)
    rotate_left
    · refine j_if_eq C 299 d_Law_law_292 (by decide) (fun c5 => ?_) (fun c5 => ?_)
      · refine j_iconst C (v := 0) d_Law_law_299 (by decide) ?_
        refine j_top (show 0 = bz (xs (j + 4)) from (if_pos c5).symm) ?_
        exact K4
      · refine j_iconst C (v := 1) d_Law_law_295 (by decide) ?_
        refine j_goto C 300 d_Law_law_296 (by decide) ?_
        refine j_top (show 1 = bz (xs (j + 4)) from (if_neg c5).symm) ?_
        exact K4
    refine j_IV C [.int (xs (j + 1)), .int (xs (j + 2)), .int (xs (j + 3)), .int (bz (xs (j + 4)))] hA 26 rfl rfl (c_Mo_mask l D cI cR cZ fu a S (xs (j + 1)) (xs (j + 2)) (xs (j + 3)) (bz (xs (j + 4))) hr9) (cw_Law_86 C ⟨Nat.le_of_ble_eq_true rfl, Nat.le_of_ble_eq_true rfl⟩) [26, 27, 28, 29, 30, 31, 32, 33, 34, 35, 36] [0, 1, 2, 3, 4, 5, 6, 7, 8, 9, 10, 11, 12, 13, 14, 15, 16, 17, 18, 19, 20, 21, 22, 23, 24, 25, 37] rfl rfl (by decide) (by decide) (by decide) rfl rfl (Nat.le_of_ble_eq_true rfl) d_Law_law_300 ⟨by show _ ≤ 601024; omega, by show _ ≤ 7293000; omega⟩ (fun _ => ?_)
    refine j_perm [0, 1, 2, 3, 4, 5, 6, 7, 8, 9, 10, 11, 12, 13, 14, 15, 16, 17, 18, 19, 20, 21, 22, 23, 24, 25, 27, 28, 29, 30, 31, 32, 33, 34, 35, 36, 37, 26] (ws' := wML cI cR o0 hc hm om hb ow or_ hh aM aF bw qw bf qf n x.1 x.2.1 x.2.2.1 x.2.2.2.1 z.2 x.2.2.2.2.2.1 x.2.2.2.2.2.2.1 x.2.2.2.2.2.2.2.1 x.2.2.2.2.2.2.2.2.1 x.2.2.2.2.2.2.2.2.2.1 x.2.2.2.2.2.2.2.2.2.2.1 x.2.2.2.2.2.2.2.2.2.2.2.1 x.2.2.2.2.2.2.2.2.2.2.2.2 ++ (wMo cI cZ a r.2 ++ [(go, .inl (cJ, 1, .inr (.inl (vp_updL Fo (0 : Int32).toNatClampNeg z.1.toInt64))))])) rfl (by decide) ?_
    refine j_istore C [(6, .int r.1), (5, .int 0), (4, .int (nI j)), (3, .ref go), (2, .ref (a 0)), (1, .ref o0), (0, .ref b)] d_Law_law_303 (by decide) rfl ?_
    refine j_aload_n C 4 d_Law_law_305 rfl ?_
    refine j_PV C [] 26 rfl rfl (c_Mo_thrown l D cI cR cZ a r.2 rfl) (cw_Law_80 C ⟨Nat.le_of_ble_eq_true rfl, Nat.le_of_ble_eq_true rfl⟩) [26, 27, 28, 29, 30, 31, 32, 33, 34, 35, 36] rfl rfl rfl (Nat.le_of_ble_eq_true rfl) d_Law_law_306 ⟨by show _ ≤ 601024; omega, by show _ ≤ 7293000; omega⟩ ?_
    refine j_iload C 1 d_Law_law_309 rfl ?_
    refine j_icmp_eq C 316 d_Law_law_311 (by decide) (fun _ => ?_) (fun c6 => absurd ht c6)
    refine j_iload C 1 d_Law_law_316 rfl ?_
    refine j_if_ne C 333 d_Law_law_318 (by decide) (fun q => absurd rfl q) (fun _ => ?_)
    refine j_aload_n C 3 d_Law_law_321 rfl ?_
    refine j_iconst C (v := 0) d_Law_law_322 (by decide) ?_
    refine j_lald C hX.2.2.2.2.2 37 0 rfl rfl (by show ¬ _; decide) d_Law_law_323 ?_
    refine j_iload C 0 d_Law_law_324 rfl ?_
    refine j_i2l C d_Law_law_326 ?_
    refine j_lcmp C d_Law_law_327 ?_
    refine j_if_eq C 333 d_Law_law_328 (by decide) (fun _ => ?_) (fun c7 => absurd (lgc_eq (show (vp_updL Fo (0 : Int32).toNatClampNeg z.1.toInt64) (0 : Int32).toNatClampNeg = r.1.toInt64 from (upl_at _ _ _).trans (congrArg Int32.toInt64 hbz.symm))) c7)
    refine j_goto C 1132 d_Law_law_333 (by decide) ?_
    refine j_sub [2, 3, 4, 5, 6] rfl ?_
    refine j_widen (c2 := cells + 7) (s2 := slots + 14080) (by omega) (by omega) ?_
    exact K (x.1, x.2.1, x.2.2.1, x.2.2.2.1, z.2, x.2.2.2.2.2.1, x.2.2.2.2.2.2.1, x.2.2.2.2.2.2.2.1, x.2.2.2.2.2.2.2.2.1, x.2.2.2.2.2.2.2.2.2.1, x.2.2.2.2.2.2.2.2.2.2.1, x.2.2.2.2.2.2.2.2.2.2.2.1, x.2.2.2.2.2.2.2.2.2.2.2.2) r.2 qw qf (vp_updL Fo (0 : Int32).toNatClampNeg z.1.toInt64) hR
  · refine j_aload_n C 3 d_Law_law_228 rfl ?_
    refine j_aload_n C 4 d_Law_law_229 rfl ?_
    refine j_scr C hT hL (j := j) (k := 1) 0 rfl (by omega) (by decide) d_Law_law_230 d_Law_law_232 d_Law_law_233 d_Law_law_234 ?_
    refine j_aload_n C 4 d_Law_law_235 rfl ?_
    refine j_scr C hT hL (j := j) (k := 2) 0 rfl (by omega) (by decide) d_Law_law_236 d_Law_law_238 d_Law_law_239 d_Law_law_240 ?_
    refine j_aload_n C 4 d_Law_law_241 rfl ?_
    refine j_scr C hT hL (j := j) (k := 3) 0 rfl (by omega) (by decide) d_Law_law_242 d_Law_law_244 d_Law_law_245 d_Law_law_246 ?_
    refine j_aload_n C 4 d_Law_law_247 rfl ?_
    refine j_scr C hT hL (j := j) (k := 4) 0 rfl (by omega) (by decide) d_Law_law_248 d_Law_law_250 d_Law_law_251 d_Law_law_252 ?_
    refine j_let (ws' := wML cI cR o0 hc hm om hb ow or_ hh aM aF bw qw bf qf n x.1 x.2.1 x.2.2.1 x.2.2.2.1 x.2.2.2.2.1 x.2.2.2.2.2.1 x.2.2.2.2.2.2.1 x.2.2.2.2.2.2.2.1 x.2.2.2.2.2.2.2.2.1 x.2.2.2.2.2.2.2.2.2.1 x.2.2.2.2.2.2.2.2.2.2.1 x.2.2.2.2.2.2.2.2.2.2.2.1 x.2.2.2.2.2.2.2.2.2.2.2.2 ++ (wMo cI cZ a S ++ [(go, .inl (cJ, 1, .inr (.inl Fo)))])) (lv' := [(4, .int (nI j)), (3, .ref go), (2, .ref (a 0)), (1, .ref o0), (0, .ref b)]) (st' := [.int (bz (xs (j + 4))), .int (xs (j + 3)), .int (xs (j + 2)), .int (xs (j + 1)), .ref o0]) (pc' := 261) ?_ (fun K1 => ?_)
    rotate_left
    · refine j_if_eq C 260 d_Law_law_253 (by decide) (fun c2 => ?_) (fun c2 => ?_)
      · refine j_iconst C (v := 0) d_Law_law_260 (by decide) ?_
        refine j_top (show 0 = bz (xs (j + 4)) from (if_pos c2).symm) ?_
        exact K1
      · refine j_iconst C (v := 1) d_Law_law_256 (by decide) ?_
        refine j_goto C 261 d_Law_law_257 (by decide) ?_
        refine j_top (show 1 = bz (xs (j + 4)) from (if_neg c2).symm) ?_
        exact K1
    refine j_aload_n C 1 d_Law_law_261 rfl ?_
    refine j_HS C [.ref o0, .int (xs (j + 1)), .int (xs (j + 2)), .int (xs (j + 3)), .int (bz (xs (j + 4))), .ref go] hA hX (c_Law_mask_t1 l hl D cI cR cZ cJ t1 t2 fu o0 hc hm om hb ow or_ hh aM aF bw qw bf qf n go x.1 x.2.1 x.2.2.1 x.2.2.2.1 x.2.2.2.2.1 x.2.2.2.2.2.1 x.2.2.2.2.2.2.1 x.2.2.2.2.2.2.2.1 x.2.2.2.2.2.2.2.2.1 x.2.2.2.2.2.2.2.2.2.1 x.2.2.2.2.2.2.2.2.2.2.1 x.2.2.2.2.2.2.2.2.2.2.2.1 x.2.2.2.2.2.2.2.2.2.2.2.2 Fo (xs (j + 1)) (xs (j + 2)) (xs (j + 3)) (bz (xs (j + 4))) hz) (ch_Law_mask ⟨Nat.le_of_ble_eq_true rfl, Nat.le_of_ble_eq_true rfl⟩) [0, 1, 2, 3, 4, 5, 6, 7, 8, 9, 10, 11, 12, 13, 14, 15, 16, 17, 18, 19, 20, 21, 22, 23, 24, 25, 37] [26, 27, 28, 29, 30, 31, 32, 33, 34, 35, 36] rfl rfl (by decide) (by decide) (by decide) rfl rfl (Nat.le_of_ble_eq_true rfl) d_Law_law_262 ⟨by show _ ≤ 601024; omega, by show _ ≤ 7293000; omega⟩ (fun u3 => ?_)
    refine j_perm [11, 12, 13, 14, 15, 16, 17, 18, 19, 20, 21, 22, 23, 24, 25, 26, 27, 28, 29, 30, 31, 32, 33, 34, 35, 36, 0, 1, 2, 3, 4, 5, 6, 7, 8, 9, 10, 37] (ws' := wML cI cR o0 hc hm om hb ow or_ hh aM aF bw qw bf qf n x.1 x.2.1 x.2.2.1 x.2.2.2.1 x.2.2.2.2.1 x.2.2.2.2.2.1 x.2.2.2.2.2.2.1 x.2.2.2.2.2.2.2.1 x.2.2.2.2.2.2.2.2.1 x.2.2.2.2.2.2.2.2.2.1 x.2.2.2.2.2.2.2.2.2.2.1 x.2.2.2.2.2.2.2.2.2.2.2.1 x.2.2.2.2.2.2.2.2.2.2.2.2 ++ (wMo cI cZ a S ++ [(go, .inl (cJ, 1, .inr (.inl Fo)))])) rfl (by decide) ?_
    refine j_istore C [(5, .int 1), (4, .int (nI j)), (3, .ref go), (2, .ref (a 0)), (1, .ref o0), (0, .ref b)] d_Law_law_265 (by decide) rfl ?_
    refine j_aload_n C 3 d_Law_law_267 rfl ?_
    refine j_aload_n C 5 d_Law_law_268 rfl ?_
    refine j_scr C hT hL (j := j) (k := 1) 1 rfl (by omega) (by decide) d_Law_law_269 d_Law_law_271 d_Law_law_272 d_Law_law_273 ?_
    refine j_aload_n C 5 d_Law_law_274 rfl ?_
    refine j_scr C hT hL (j := j) (k := 2) 1 rfl (by omega) (by decide) d_Law_law_275 d_Law_law_277 d_Law_law_278 d_Law_law_279 ?_
    refine j_aload_n C 5 d_Law_law_280 rfl ?_
    refine j_scr C hT hL (j := j) (k := 3) 1 rfl (by omega) (by decide) d_Law_law_281 d_Law_law_283 d_Law_law_284 d_Law_law_285 ?_
    refine j_aload_n C 5 d_Law_law_286 rfl ?_
    refine j_scr C hT hL (j := j) (k := 4) 1 rfl (by omega) (by decide) d_Law_law_287 d_Law_law_289 d_Law_law_290 d_Law_law_291 ?_
    refine j_let (ws' := wML cI cR o0 hc hm om hb ow or_ hh aM aF bw qw bf qf n x.1 x.2.1 x.2.2.1 x.2.2.2.1 x.2.2.2.2.1 x.2.2.2.2.2.1 x.2.2.2.2.2.2.1 x.2.2.2.2.2.2.2.1 x.2.2.2.2.2.2.2.2.1 x.2.2.2.2.2.2.2.2.2.1 x.2.2.2.2.2.2.2.2.2.2.1 x.2.2.2.2.2.2.2.2.2.2.2.1 x.2.2.2.2.2.2.2.2.2.2.2.2 ++ (wMo cI cZ a S ++ [(go, .inl (cJ, 1, .inr (.inl Fo)))])) (lv' := [(5, .int 1), (4, .int (nI j)), (3, .ref go), (2, .ref (a 0)), (1, .ref o0), (0, .ref b)]) (st' := [.int (bz (xs (j + 4))), .int (xs (j + 3)), .int (xs (j + 2)), .int (xs (j + 1)), .ref (a 0)]) (pc' := 300) ?_ (fun K4 => ?_)
    rotate_left
    · refine j_if_eq C 299 d_Law_law_292 (by decide) (fun c5 => ?_) (fun c5 => ?_)
      · refine j_iconst C (v := 0) d_Law_law_299 (by decide) ?_
        refine j_top (show 0 = bz (xs (j + 4)) from (if_pos c5).symm) ?_
        exact K4
      · refine j_iconst C (v := 1) d_Law_law_295 (by decide) ?_
        refine j_goto C 300 d_Law_law_296 (by decide) ?_
        refine j_top (show 1 = bz (xs (j + 4)) from (if_neg c5).symm) ?_
        exact K4
    refine j_IV C [.int (xs (j + 1)), .int (xs (j + 2)), .int (xs (j + 3)), .int (bz (xs (j + 4)))] hA 26 rfl rfl (c_Mo_mask l D cI cR cZ fu a S (xs (j + 1)) (xs (j + 2)) (xs (j + 3)) (bz (xs (j + 4))) hr9) (cw_Law_86 C ⟨Nat.le_of_ble_eq_true rfl, Nat.le_of_ble_eq_true rfl⟩) [26, 27, 28, 29, 30, 31, 32, 33, 34, 35, 36] [0, 1, 2, 3, 4, 5, 6, 7, 8, 9, 10, 11, 12, 13, 14, 15, 16, 17, 18, 19, 20, 21, 22, 23, 24, 25, 37] rfl rfl (by decide) (by decide) (by decide) rfl rfl (Nat.le_of_ble_eq_true rfl) d_Law_law_300 ⟨by show _ ≤ 601024; omega, by show _ ≤ 7293000; omega⟩ (fun _ => ?_)
    refine j_perm [0, 1, 2, 3, 4, 5, 6, 7, 8, 9, 10, 11, 12, 13, 14, 15, 16, 17, 18, 19, 20, 21, 22, 23, 24, 25, 27, 28, 29, 30, 31, 32, 33, 34, 35, 36, 37, 26] (ws' := wML cI cR o0 hc hm om hb ow or_ hh aM aF bw qw bf qf n x.1 x.2.1 x.2.2.1 x.2.2.2.1 x.2.2.2.2.1 x.2.2.2.2.2.1 x.2.2.2.2.2.2.1 x.2.2.2.2.2.2.2.1 x.2.2.2.2.2.2.2.2.1 x.2.2.2.2.2.2.2.2.2.1 x.2.2.2.2.2.2.2.2.2.2.1 x.2.2.2.2.2.2.2.2.2.2.2.1 x.2.2.2.2.2.2.2.2.2.2.2.2 ++ (wMo cI cZ a r.2 ++ [(go, .inl (cJ, 1, .inr (.inl Fo)))])) rfl (by decide) ?_
    refine j_istore C [(6, .int r.1), (5, .int 1), (4, .int (nI j)), (3, .ref go), (2, .ref (a 0)), (1, .ref o0), (0, .ref b)] d_Law_law_303 (by decide) rfl ?_
    refine j_aload_n C 4 d_Law_law_305 rfl ?_
    refine j_PV C [] 26 rfl rfl (c_Mo_thrown l D cI cR cZ a r.2 rfl) (cw_Law_80 C ⟨Nat.le_of_ble_eq_true rfl, Nat.le_of_ble_eq_true rfl⟩) [26, 27, 28, 29, 30, 31, 32, 33, 34, 35, 36] rfl rfl rfl (Nat.le_of_ble_eq_true rfl) d_Law_law_306 ⟨by show _ ≤ 601024; omega, by show _ ≤ 7293000; omega⟩ ?_
    refine j_iload C 1 d_Law_law_309 rfl ?_
    refine j_icmp_eq C 316 d_Law_law_311 (by decide) (fun _ => ?_) (fun c6 => absurd ht c6)
    refine j_iload C 1 d_Law_law_316 rfl ?_
    refine j_if_ne C 333 d_Law_law_318 (by decide) (fun _ => ?_) (fun q => absurd q (by decide))
    refine j_goto C 1132 d_Law_law_333 (by decide) ?_
    refine j_sub [2, 3, 4, 5, 6] rfl ?_
    refine j_widen (c2 := cells + 7) (s2 := slots + 14080) (by omega) (by omega) ?_
    exact K x r.2 qw qf (Fo) hR
  · refine j_aload_n C 3 d_Law_law_228 rfl ?_
    refine j_aload_n C 4 d_Law_law_229 rfl ?_
    refine j_scr C hT hL (j := j) (k := 1) 0 rfl (by omega) (by decide) d_Law_law_230 d_Law_law_232 d_Law_law_233 d_Law_law_234 ?_
    refine j_aload_n C 4 d_Law_law_235 rfl ?_
    refine j_scr C hT hL (j := j) (k := 2) 0 rfl (by omega) (by decide) d_Law_law_236 d_Law_law_238 d_Law_law_239 d_Law_law_240 ?_
    refine j_aload_n C 4 d_Law_law_241 rfl ?_
    refine j_scr C hT hL (j := j) (k := 3) 0 rfl (by omega) (by decide) d_Law_law_242 d_Law_law_244 d_Law_law_245 d_Law_law_246 ?_
    refine j_aload_n C 4 d_Law_law_247 rfl ?_
    refine j_scr C hT hL (j := j) (k := 4) 0 rfl (by omega) (by decide) d_Law_law_248 d_Law_law_250 d_Law_law_251 d_Law_law_252 ?_
    refine j_let (ws' := wML cI cR o0 hc hm om hb ow or_ hh aM aF bw qw bf qf n x.1 x.2.1 x.2.2.1 x.2.2.2.1 x.2.2.2.2.1 x.2.2.2.2.2.1 x.2.2.2.2.2.2.1 x.2.2.2.2.2.2.2.1 x.2.2.2.2.2.2.2.2.1 x.2.2.2.2.2.2.2.2.2.1 x.2.2.2.2.2.2.2.2.2.2.1 x.2.2.2.2.2.2.2.2.2.2.2.1 x.2.2.2.2.2.2.2.2.2.2.2.2 ++ (wMo cI cZ a S ++ [(go, .inl (cJ, 1, .inr (.inl Fo)))])) (lv' := [(4, .int (nI j)), (3, .ref go), (2, .ref (a 0)), (1, .ref o0), (0, .ref b)]) (st' := [.int (bz (xs (j + 4))), .int (xs (j + 3)), .int (xs (j + 2)), .int (xs (j + 1)), .ref o0]) (pc' := 261) ?_ (fun K1 => ?_)
    rotate_left
    · refine j_if_eq C 260 d_Law_law_253 (by decide) (fun c2 => ?_) (fun c2 => ?_)
      · refine j_iconst C (v := 0) d_Law_law_260 (by decide) ?_
        refine j_top (show 0 = bz (xs (j + 4)) from (if_pos c2).symm) ?_
        exact K1
      · refine j_iconst C (v := 1) d_Law_law_256 (by decide) ?_
        refine j_goto C 261 d_Law_law_257 (by decide) ?_
        refine j_top (show 1 = bz (xs (j + 4)) from (if_neg c2).symm) ?_
        exact K1
    refine j_aload_n C 1 d_Law_law_261 rfl ?_
    refine j_HS C [.ref o0, .int (xs (j + 1)), .int (xs (j + 2)), .int (xs (j + 3)), .int (bz (xs (j + 4))), .ref go] hA hX (c_Law_mask_t2 l hl D cI cR cZ cJ t1 t2 fu o0 hc hm om hb ow or_ hh aM aF bw qw bf qf n go x.1 x.2.1 x.2.2.1 x.2.2.2.1 x.2.2.2.2.1 x.2.2.2.2.2.1 x.2.2.2.2.2.2.1 x.2.2.2.2.2.2.2.1 x.2.2.2.2.2.2.2.2.1 x.2.2.2.2.2.2.2.2.2.1 x.2.2.2.2.2.2.2.2.2.2.1 x.2.2.2.2.2.2.2.2.2.2.2.1 x.2.2.2.2.2.2.2.2.2.2.2.2 Fo (xs (j + 1)) (xs (j + 2)) (xs (j + 3)) (bz (xs (j + 4))) hz) (ch_Law_mask ⟨Nat.le_of_ble_eq_true rfl, Nat.le_of_ble_eq_true rfl⟩) [0, 1, 2, 3, 4, 5, 6, 7, 8, 9, 10, 11, 12, 13, 14, 15, 16, 17, 18, 19, 20, 21, 22, 23, 24, 25, 37] [26, 27, 28, 29, 30, 31, 32, 33, 34, 35, 36] rfl rfl (by decide) (by decide) (by decide) rfl rfl (Nat.le_of_ble_eq_true rfl) d_Law_law_262 ⟨by show _ ≤ 601024; omega, by show _ ≤ 7293000; omega⟩ (fun u3 => ?_)
    refine j_perm [11, 12, 13, 14, 15, 16, 17, 18, 19, 20, 21, 22, 23, 24, 25, 26, 27, 28, 29, 30, 31, 32, 33, 34, 35, 36, 0, 1, 2, 3, 4, 5, 6, 7, 8, 9, 10, 37] (ws' := wML cI cR o0 hc hm om hb ow or_ hh aM aF bw qw bf qf n x.1 x.2.1 x.2.2.1 x.2.2.2.1 x.2.2.2.2.1 x.2.2.2.2.2.1 x.2.2.2.2.2.2.1 x.2.2.2.2.2.2.2.1 x.2.2.2.2.2.2.2.2.1 x.2.2.2.2.2.2.2.2.2.1 x.2.2.2.2.2.2.2.2.2.2.1 x.2.2.2.2.2.2.2.2.2.2.2.1 x.2.2.2.2.2.2.2.2.2.2.2.2 ++ (wMo cI cZ a S ++ [(go, .inl (cJ, 1, .inr (.inl Fo)))])) rfl (by decide) ?_
    refine j_istore C [(5, .int 2), (4, .int (nI j)), (3, .ref go), (2, .ref (a 0)), (1, .ref o0), (0, .ref b)] d_Law_law_265 (by decide) rfl ?_
    refine j_aload_n C 3 d_Law_law_267 rfl ?_
    refine j_aload_n C 5 d_Law_law_268 rfl ?_
    refine j_scr C hT hL (j := j) (k := 1) 1 rfl (by omega) (by decide) d_Law_law_269 d_Law_law_271 d_Law_law_272 d_Law_law_273 ?_
    refine j_aload_n C 5 d_Law_law_274 rfl ?_
    refine j_scr C hT hL (j := j) (k := 2) 1 rfl (by omega) (by decide) d_Law_law_275 d_Law_law_277 d_Law_law_278 d_Law_law_279 ?_
    refine j_aload_n C 5 d_Law_law_280 rfl ?_
    refine j_scr C hT hL (j := j) (k := 3) 1 rfl (by omega) (by decide) d_Law_law_281 d_Law_law_283 d_Law_law_284 d_Law_law_285 ?_
    refine j_aload_n C 5 d_Law_law_286 rfl ?_
    refine j_scr C hT hL (j := j) (k := 4) 1 rfl (by omega) (by decide) d_Law_law_287 d_Law_law_289 d_Law_law_290 d_Law_law_291 ?_
    refine j_let (ws' := wML cI cR o0 hc hm om hb ow or_ hh aM aF bw qw bf qf n x.1 x.2.1 x.2.2.1 x.2.2.2.1 x.2.2.2.2.1 x.2.2.2.2.2.1 x.2.2.2.2.2.2.1 x.2.2.2.2.2.2.2.1 x.2.2.2.2.2.2.2.2.1 x.2.2.2.2.2.2.2.2.2.1 x.2.2.2.2.2.2.2.2.2.2.1 x.2.2.2.2.2.2.2.2.2.2.2.1 x.2.2.2.2.2.2.2.2.2.2.2.2 ++ (wMo cI cZ a S ++ [(go, .inl (cJ, 1, .inr (.inl Fo)))])) (lv' := [(5, .int 2), (4, .int (nI j)), (3, .ref go), (2, .ref (a 0)), (1, .ref o0), (0, .ref b)]) (st' := [.int (bz (xs (j + 4))), .int (xs (j + 3)), .int (xs (j + 2)), .int (xs (j + 1)), .ref (a 0)]) (pc' := 300) ?_ (fun K4 => ?_)
    rotate_left
    · refine j_if_eq C 299 d_Law_law_292 (by decide) (fun c5 => ?_) (fun c5 => ?_)
      · refine j_iconst C (v := 0) d_Law_law_299 (by decide) ?_
        refine j_top (show 0 = bz (xs (j + 4)) from (if_pos c5).symm) ?_
        exact K4
      · refine j_iconst C (v := 1) d_Law_law_295 (by decide) ?_
        refine j_goto C 300 d_Law_law_296 (by decide) ?_
        refine j_top (show 1 = bz (xs (j + 4)) from (if_neg c5).symm) ?_
        exact K4
    refine j_IV C [.int (xs (j + 1)), .int (xs (j + 2)), .int (xs (j + 3)), .int (bz (xs (j + 4)))] hA 26 rfl rfl (c_Mo_mask l D cI cR cZ fu a S (xs (j + 1)) (xs (j + 2)) (xs (j + 3)) (bz (xs (j + 4))) hr9) (cw_Law_86 C ⟨Nat.le_of_ble_eq_true rfl, Nat.le_of_ble_eq_true rfl⟩) [26, 27, 28, 29, 30, 31, 32, 33, 34, 35, 36] [0, 1, 2, 3, 4, 5, 6, 7, 8, 9, 10, 11, 12, 13, 14, 15, 16, 17, 18, 19, 20, 21, 22, 23, 24, 25, 37] rfl rfl (by decide) (by decide) (by decide) rfl rfl (Nat.le_of_ble_eq_true rfl) d_Law_law_300 ⟨by show _ ≤ 601024; omega, by show _ ≤ 7293000; omega⟩ (fun _ => ?_)
    refine j_perm [0, 1, 2, 3, 4, 5, 6, 7, 8, 9, 10, 11, 12, 13, 14, 15, 16, 17, 18, 19, 20, 21, 22, 23, 24, 25, 27, 28, 29, 30, 31, 32, 33, 34, 35, 36, 37, 26] (ws' := wML cI cR o0 hc hm om hb ow or_ hh aM aF bw qw bf qf n x.1 x.2.1 x.2.2.1 x.2.2.2.1 x.2.2.2.2.1 x.2.2.2.2.2.1 x.2.2.2.2.2.2.1 x.2.2.2.2.2.2.2.1 x.2.2.2.2.2.2.2.2.1 x.2.2.2.2.2.2.2.2.2.1 x.2.2.2.2.2.2.2.2.2.2.1 x.2.2.2.2.2.2.2.2.2.2.2.1 x.2.2.2.2.2.2.2.2.2.2.2.2 ++ (wMo cI cZ a r.2 ++ [(go, .inl (cJ, 1, .inr (.inl Fo)))])) rfl (by decide) ?_
    refine j_istore C [(6, .int r.1), (5, .int 2), (4, .int (nI j)), (3, .ref go), (2, .ref (a 0)), (1, .ref o0), (0, .ref b)] d_Law_law_303 (by decide) rfl ?_
    refine j_aload_n C 4 d_Law_law_305 rfl ?_
    refine j_PV C [] 26 rfl rfl (c_Mo_thrown l D cI cR cZ a r.2 rfl) (cw_Law_80 C ⟨Nat.le_of_ble_eq_true rfl, Nat.le_of_ble_eq_true rfl⟩) [26, 27, 28, 29, 30, 31, 32, 33, 34, 35, 36] rfl rfl rfl (Nat.le_of_ble_eq_true rfl) d_Law_law_306 ⟨by show _ ≤ 601024; omega, by show _ ≤ 7293000; omega⟩ ?_
    refine j_iload C 1 d_Law_law_309 rfl ?_
    refine j_icmp_eq C 316 d_Law_law_311 (by decide) (fun _ => ?_) (fun c6 => absurd ht c6)
    refine j_iload C 1 d_Law_law_316 rfl ?_
    refine j_if_ne C 333 d_Law_law_318 (by decide) (fun _ => ?_) (fun q => absurd q (by decide))
    refine j_goto C 1132 d_Law_law_333 (by decide) ?_
    refine j_sub [2, 3, 4, 5, 6] rfl ?_
    refine j_widen (c2 := cells + 7) (s2 := slots + 14080) (by omega) (by omega) ?_
    exact K x r.2 qw qf (Fo) hR
