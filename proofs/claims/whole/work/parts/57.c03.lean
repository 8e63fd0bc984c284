set_option maxRecDepth 100000 in
set_option maxHeartbeats 4000000 in
theorem lc_run {p : Program} {l : Launch} {e : Env} {s : State} {m : MethodId} {below : List Frame} {meth : Method} {c : Code} {D : va_G} {cI cR cZ cJ : ClassId} {t1 t2 b L : Nat} {xs : Nat → Int32} {Q : State → Prop} {cells slots : Nat} (C : Cx p s m #[Value.ref b] meth c D (tyG cI cR cZ) code 7 "MaskLayersLaw") (hl : l.stackTraces = false) (hA : ∀ q, s.heap.size ≤ q → lwA s q) (hX : HX D cJ t1 t2 (lwA s) s s.heap) (hT : va_T .int b L (fun j => .int (xs j)) (lwA s) s s.heap) (hL : L < 2 ^ 31) {Rel : Nat → XS → LyS → Prop} {fu : Nat} (hop : Op_run Rel fu) {o0 : Nat} {hc : Nat} {hm : Nat} {om : Nat} {hb : Nat} {ow : Nat} {or_ : Nat} {hh : Nat} {aM : (Nat → Nat)} {aF : (Nat → Nat)} {bw : Nat} {bf : Nat} {n : Nat} {a : Nat → Nat} {go j : Nat} (hj : j + 4 < L) (hcl : cells + 7 ≤ 601024) (hsl : slots + 14080 ≤ 7293000) {x : XS} {S : LyS} {qw qf : Nat} {Fo : Nat → Int64} (hRel : Rel n x S) (K : ∀ (x : XS) (S : LyS) (qw qf : Nat) (Fo : Nat → Int64), Rel n x S → J p l e room_1 s m #[Value.ref b] below meth c D (lwA s) (va_D (lwA s)) 7 Q (cells + 7) (slots + 14080) (wML cI cR o0 hc hm om hb ow or_ hh aM aF bw qw bf qf n x.1 x.2.1 x.2.2.1 x.2.2.2.1 x.2.2.2.2.1 x.2.2.2.2.2.1 x.2.2.2.2.2.2.1 x.2.2.2.2.2.2.2.1 x.2.2.2.2.2.2.2.2.1 x.2.2.2.2.2.2.2.2.2.1 x.2.2.2.2.2.2.2.2.2.2.1 x.2.2.2.2.2.2.2.2.2.2.2.1 x.2.2.2.2.2.2.2.2.2.2.2.2 ++ (wMo cI cZ a S ++ [(go, .inl (cJ, 1, .inr (.inl Fo)))])) [(4, .int (nI j)), (3, .ref go), (2, .ref (a 0)), (1, .ref o0), (0, .ref b)] [] 1132) : J p l e room_1 s m #[Value.ref b] below meth c D (lwA s) (va_D (lwA s)) 7 Q cells slots (wML cI cR o0 hc hm om hb ow or_ hh aM aF bw qw bf qf n x.1 x.2.1 x.2.2.1 x.2.2.2.1 x.2.2.2.2.1 x.2.2.2.2.2.1 x.2.2.2.2.2.2.1 x.2.2.2.2.2.2.2.1 x.2.2.2.2.2.2.2.2.1 x.2.2.2.2.2.2.2.2.2.1 x.2.2.2.2.2.2.2.2.2.2.1 x.2.2.2.2.2.2.2.2.2.2.2.1 x.2.2.2.2.2.2.2.2.2.2.2.2 ++ (wMo cI cZ a S ++ [(go, .inl (cJ, 1, .inr (.inl Fo)))])) [(4, .int (nI j)), (3, .ref go), (2, .ref (a 0)), (1, .ref o0), (0, .ref b)] [] 392 := by
  obtain ⟨r, hr9, hcase⟩ := hop n x S (xs (j + 1)) (xs (j + 2)) (bz (xs (j + 3))) hRel (bz_or _)
  rcases hcase with ⟨z, hz, ht, hbz, hR⟩ | ⟨hz, ht, hR⟩
  · refine j_aload_n C 3 d_Law_law_392 rfl ?_
    refine j_aload_n C 4 d_Law_law_393 rfl ?_
    refine j_scr C hT hL (j := j) (k := 1) 0 rfl (by omega) (by decide) d_Law_law_394 d_Law_law_396 d_Law_law_397 d_Law_law_398 ?_
    refine j_aload_n C 4 d_Law_law_399 rfl ?_
    refine j_scr C hT hL (j := j) (k := 2) 0 rfl (by omega) (by decide) d_Law_law_400 d_Law_law_402 d_Law_law_403 d_Law_law_404 ?_
    refine j_aload_n C 4 d_Law_law_405 rfl ?_
    refine j_scr C hT hL (j := j) (k := 3) 0 rfl (by omega) (by decide) d_Law_law_406 d_Law_law_408 d_Law_law_409 d_Law_law_410 ?_
    refine j_let (ws' := wML cI cR o0 hc hm om hb ow or_ hh aM aF bw qw bf qf n x.1 x.2.1 x.2.2.1 x.2.2.2.1 x.2.2.2.2.1 x.2.2.2.2.2.1 x.2.2.2.2.2.2.1 x.2.2.2.2.2.2.2.1 x.2.2.2.2.2.2.2.2.1 x.2.2.2.2.2.2.2.2.2.1 x.2.2.2.2.2.2.2.2.2.2.1 x.2.2.2.2.2.2.2.2.2.2.2.1 x.2.2.2.2.2.2.2.2.2.2.2.2 ++ (wMo cI cZ a S ++ [(go, .inl (cJ, 1, .inr (.inl Fo)))])) (lv' := [(4, .int (nI j)), (3, .ref go), (2, .ref (a 0)), (1, .ref o0), (0, .ref b)]) (st' := [.int (bz (xs (j + 3))), .int (xs (j + 2)), .int (xs (j + 1)), .ref o0]) (pc' := 419) ?_ (fun K1 => ?_)
    rotate_left
    · refine j_if_eq C 418 d_Law_law_411 (by decide) (fun c2 => ?_) (fun c2 => ?_)
      · refine j_iconst C (v := 0) d_Law_law_418 (by decide) ?_
        refine j_top (show 0 = bz (xs (j + 3)) from (if_pos c2).symm) ?_
        exact K1
      · refine j_iconst C (v := 1) d_Law_law_414 (by decide) ?_
        refine j_goto C 419 d_Law_law_415 (by decide) ?_
        refine j_top (show 1 = bz (xs (j + 3)) from (if_neg c2).symm) ?_
        exact K1
    refine j_aload_n C 1 d_Law_law_419 rfl ?_
    refine j_HS C [.ref o0, .int (xs (j + 1)), .int (xs (j + 2)), .int (bz (xs (j + 3))), .ref go] hA hX (c_Law_run_n l D cI cR cZ cJ t1 t2 fu o0 hc hm om hb ow or_ hh aM aF bw qw bf qf n go x.1 x.2.1 x.2.2.1 x.2.2.2.1 x.2.2.2.2.1 x.2.2.2.2.2.1 x.2.2.2.2.2.2.1 x.2.2.2.2.2.2.2.1 x.2.2.2.2.2.2.2.2.1 x.2.2.2.2.2.2.2.2.2.1 x.2.2.2.2.2.2.2.2.2.2.1 x.2.2.2.2.2.2.2.2.2.2.2.1 x.2.2.2.2.2.2.2.2.2.2.2.2 Fo (xs (j + 1)) (xs (j + 2)) (bz (xs (j + 3))) hz) (ch_Law_run ⟨Nat.le_of_ble_eq_true rfl, Nat.le_of_ble_eq_true rfl⟩) [0, 1, 2, 3, 4, 5, 6, 7, 8, 9, 10, 11, 12, 13, 14, 15, 16, 17, 18, 19, 20, 21, 22, 23, 24, 25, 37] [26, 27, 28, 29, 30, 31, 32, 33, 34, 35, 36] rfl rfl (by decide) (by decide) (by decide) rfl rfl (Nat.le_of_ble_eq_true rfl) d_Law_law_420 ⟨by show _ ≤ 601024; omega, by show _ ≤ 7293000; omega⟩ (fun u3 => ?_)
    refine j_perm [11, 12, 13, 14, 15, 16, 17, 18, 19, 20, 21, 22, 23, 24, 25, 26, 27, 28, 29, 30, 31, 32, 33, 34, 35, 36, 0, 1, 2, 3, 4, 5, 6, 7, 8, 9, 10, 37] (ws' := wML cI cR o0 hc hm om hb ow or_ hh aM aF bw qw bf qf n x.1 x.2.1 x.2.2.1 x.2.2.2.1 x.2.2.2.2.1 z.2.1 z.2.2 x.2.2.2.2.2.2.2.1 x.2.2.2.2.2.2.2.2.1 x.2.2.2.2.2.2.2.2.2.1 x.2.2.2.2.2.2.2.2.2.2.1 x.2.2.2.2.2.2.2.2.2.2.2.1 x.2.2.2.2.2.2.2.2.2.2.2.2 ++ (wMo cI cZ a S ++ [(go, .inl (cJ, 1, .inr (.inl (vp_updL Fo (0 : Int32).toNatClampNeg z.1.toInt64))))])) rfl (by decide) ?_
    refine j_istore C [(5, .int 0), (4, .int (nI j)), (3, .ref go), (2, .ref (a 0)), (1, .ref o0), (0, .ref b)] d_Law_law_423 (by decide) rfl ?_
    refine j_aload_n C 3 d_Law_law_425 rfl ?_
    refine j_aload_n C 5 d_Law_law_426 rfl ?_
    refine j_scr C hT hL (j := j) (k := 1) 1 rfl (by omega) (by decide) d_Law_law_427 d_Law_law_429 d_Law_law_430 d_Law_law_431 ?_
    refine j_aload_n C 5 d_Law_law_432 rfl ?_
    refine j_scr C hT hL (j := j) (k := 2) 1 rfl (by omega) (by decide) d_Law_law_433 d_Law_law_435 d_Law_law_436 d_Law_law_437 ?_
    refine j_aload_n C 5 d_Law_law_438 rfl ?_
    refine j_scr C hT hL (j := j) (k := 3) 1 rfl (by omega) (by decide) d_Law_law_439 d_Law_law_441 d_Law_law_442 d_Law_law_443 ?_
    refine j_let (ws' := wML cI cR o0 hc hm om hb ow or_ hh aM aF bw qw bf qf n x.1 x.2.1 x.2.2.1 x.2.2.2.1 x.2.2.2.2.1 z.2.1 z.2.2 x.2.2.2.2.2.2.2.1 x.2.2.2.2.2.2.2.2.1 x.2.2.2.2.2.2.2.2.2.1 x.2.2.2.2.2.2.2.2.2.2.1 x.2.2.2.2.2.2.2.2.2.2.2.1 x.2.2.2.2.2.2.2.2.2.2.2.2 ++ (wMo cI cZ a S ++ [(go, .inl (cJ, 1, .inr (.inl (vp_updL Fo (0 : Int32).toNatClampNeg z.1.toInt64))))])) (lv' := [(5, .int 0), (4, .int (nI j)), (3, .ref go), (2, .ref (a 0)), (1, .ref o0), (0, .ref b)]) (st' := [.int (bz (xs (j + 3))), .int (xs (j + 2)), .int (xs (j + 1)), .ref (a 0)]) (pc' := 452) ?_ (fun K4 => ?_)
    rotate_left
    · refine j_if_eq C 451 d_Law_law_444 (by decide) (fun c5 => ?_) (fun c5 => ?_)
      · refine j_iconst C (v := 0) d_Law_law_451 (by decide) ?_
        refine j_top (show 0 = bz (xs (j + 3)) from (if_pos c5).symm) ?_
        exact K4
      · refine j_iconst C (v := 1) d_Law_law_447 (by decide) ?_
        refine j_goto C 452 d_Law_law_448 (by decide) ?_
        refine j_top (show 1 = bz (xs (j + 3)) from (if_neg c5).symm) ?_
        exact K4
    refine j_IV C [.int (xs (j + 1)), .int (xs (j + 2)), .int (bz (xs (j + 3)))] hA 26 rfl rfl (c_Mo_run l D cI cR cZ fu a S (xs (j + 1)) (xs (j + 2)) (bz (xs (j + 3))) hr9) (cw_Law_94 C ⟨Nat.le_of_ble_eq_true rfl, Nat.le_of_ble_eq_true rfl⟩) [26, 27, 28, 29, 30, 31, 32, 33, 34, 35, 36] [0, 1, 2, 3, 4, 5, 6, 7, 8, 9, 10, 11, 12, 13, 14, 15, 16, 17, 18, 19, 20, 21, 22, 23, 24, 25, 37] rfl rfl (by decide) (by decide) (by decide) rfl rfl (Nat.le_of_ble_eq_true rfl) d_Law_law_452 ⟨by show _ ≤ 601024; omega, by show _ ≤ 7293000; omega⟩ (fun _ => ?_)
    refine j_perm [0, 1, 2, 3, 4, 5, 6, 7, 8, 9, 10, 11, 12, 13, 14, 15, 16, 17, 18, 19, 20, 21, 22, 23, 24, 25, 27, 28, 29, 30, 31, 32, 33, 34, 35, 36, 37, 26] (ws' := wML cI cR o0 hc hm om hb ow or_ hh aM aF bw qw bf qf n x.1 x.2.1 x.2.2.1 x.2.2.2.1 x.2.2.2.2.1 z.2.1 z.2.2 x.2.2.2.2.2.2.2.1 x.2.2.2.2.2.2.2.2.1 x.2.2.2.2.2.2.2.2.2.1 x.2.2.2.2.2.2.2.2.2.2.1 x.2.2.2.2.2.2.2.2.2.2.2.1 x.2.2.2.2.2.2.2.2.2.2.2.2 ++ (wMo cI cZ a r.2 ++ [(go, .inl (cJ, 1, .inr (.inl (vp_updL Fo (0 : Int32).toNatClampNeg z.1.toInt64))))])) rfl (by decide) ?_
    refine j_istore C [(6, .int r.1), (5, .int 0), (4, .int (nI j)), (3, .ref go), (2, .ref (a 0)), (1, .ref o0), (0, .ref b)] d_Law_law_455 (by decide) rfl ?_
    refine j_aload_n C 4 d_Law_law_457 rfl ?_
    refine j_PV C [] 26 rfl rfl (c_Mo_thrown l D cI cR cZ a r.2 rfl) (cw_Law_80 C ⟨Nat.le_of_ble_eq_true rfl, Nat.le_of_ble_eq_true rfl⟩) [26, 27, 28, 29, 30, 31, 32, 33, 34, 35, 36] rfl rfl rfl (Nat.le_of_ble_eq_true rfl) d_Law_law_458 ⟨by show _ ≤ 601024; omega, by show _ ≤ 7293000; omega⟩ ?_
    refine j_iload C 1 d_Law_law_461 rfl ?_
    refine j_icmp_eq C 468 d_Law_law_463 (by decide) (fun _ => ?_) (fun c6 => absurd ht c6)
    refine j_iload C 1 d_Law_law_468 rfl ?_
    refine j_if_ne C 485 d_Law_law_470 (by decide) (fun q => absurd rfl q) (fun _ => ?_)
    refine j_aload_n C 3 d_Law_law_473 rfl ?_
    refine j_iconst C (v := 0) d_Law_law_474 (by decide) ?_
    refine j_lald C hX.2.2.2.2.2 37 0 rfl rfl (by show ¬ _; decide) d_Law_law_475 ?_
    refine j_iload C 0 d_Law_law_476 rfl ?_
    refine j_i2l C d_Law_law_478 ?_
    refine j_lcmp C d_Law_law_479 ?_
    refine j_if_eq C 485 d_Law_law_480 (by decide) (fun _ => ?_) (fun c7 => absurd (lgc_eq (show (vp_updL Fo (0 : Int32).toNatClampNeg z.1.toInt64) (0 : Int32).toNatClampNeg = r.1.toInt64 from (upl_at _ _ _).trans (congrArg Int32.toInt64 hbz.symm))) c7)
    refine j_goto C 1132 d_Law_law_485 (by decide) ?_
    refine j_sub [2, 3, 4, 5, 6] rfl ?_
    refine j_widen (c2 := cells + 7) (s2 := slots + 14080) (by omega) (by omega) ?_
    exact K (x.1, x.2.1, x.2.2.1, x.2.2.2.1, x.2.2.2.2.1, z.2.1, z.2.2, x.2.2.2.2.2.2.2.1, x.2.2.2.2.2.2.2.2.1, x.2.2.2.2.2.2.2.2.2.1, x.2.2.2.2.2.2.2.2.2.2.1, x.2.2.2.2.2.2.2.2.2.2.2.1, x.2.2.2.2.2.2.2.2.2.2.2.2) r.2 qw qf (vp_updL Fo (0 : Int32).toNatClampNeg z.1.toInt64) hR
  · refine j_aload_n C 3 d_Law_law_392 rfl ?_
    refine j_aload_n C 4 d_Law_law_393 rfl ?_
    refine j_scr C hT hL (j := j) (k := 1) 0 rfl (by omega) (by decide) d_Law_law_394 d_Law_law_396 d_Law_law_397 d_Law_law_398 ?_
    refine j_aload_n C 4 d_Law_law_399 rfl ?_
    refine j_scr C hT hL (j := j) (k := 2) 0 rfl (by omega) (by decide) d_Law_law_400 d_Law_law_402 d_Law_law_403 d_Law_law_404 ?_
    refine j_aload_n C 4 d_Law_law_405 rfl ?_
    refine j_scr C hT hL (j := j) (k := 3) 0 rfl (by omega) (by decide) d_Law_law_406 d_Law_law_408 d_Law_law_409 d_Law_law_410 ?_
    refine j_let (ws' := wML cI cR o0 hc hm om hb ow or_ hh aM aF bw qw bf qf n x.1 x.2.1 x.2.2.1 x.2.2.2.1 x.2.2.2.2.1 x.2.2.2.2.2.1 x.2.2.2.2.2.2.1 x.2.2.2.2.2.2.2.1 x.2.2.2.2.2.2.2.2.1 x.2.2.2.2.2.2.2.2.2.1 x.2.2.2.2.2.2.2.2.2.2.1 x.2.2.2.2.2.2.2.2.2.2.2.1 x.2.2.2.2.2.2.2.2.2.2.2.2 ++ (wMo cI cZ a S ++ [(go, .inl (cJ, 1, .inr (.inl Fo)))])) (lv' := [(4, .int (nI j)), (3, .ref go), (2, .ref (a 0)), (1, .ref o0), (0, .ref b)]) (st' := [.int (bz (xs (j + 3))), .int (xs (j + 2)), .int (xs (j + 1)), .ref o0]) (pc' := 419) ?_ (fun K1 => ?_)
    rotate_left
    · refine j_if_eq C 418 d_Law_law_411 (by decide) (fun c2 => ?_) (fun c2 => ?_)
      · refine j_iconst C (v := 0) d_Law_law_418 (by decide) ?_
        refine j_top (show 0 = bz (xs (j + 3)) from (if_pos c2).symm) ?_
        exact K1
      · refine j_iconst C (v := 1) d_Law_law_414 (by decide) ?_
        refine j_goto C 419 d_Law_law_415 (by decide) ?_
        refine j_top (show 1 = bz (xs (j + 3)) from (if_neg c2).symm) ?_
        exact K1
    refine j_aload_n C 1 d_Law_law_419 rfl ?_
    refine j_HS C [.ref o0, .int (xs (j + 1)), .int (xs (j + 2)), .int (bz (xs (j + 3))), .ref go] hA hX (c_Law_run_t1 l hl D cI cR cZ cJ t1 t2 fu o0 hc hm om hb ow or_ hh aM aF bw qw bf qf n go x.1 x.2.1 x.2.2.1 x.2.2.2.1 x.2.2.2.2.1 x.2.2.2.2.2.1 x.2.2.2.2.2.2.1 x.2.2.2.2.2.2.2.1 x.2.2.2.2.2.2.2.2.1 x.2.2.2.2.2.2.2.2.2.1 x.2.2.2.2.2.2.2.2.2.2.1 x.2.2.2.2.2.2.2.2.2.2.2.1 x.2.2.2.2.2.2.2.2.2.2.2.2 Fo (xs (j + 1)) (xs (j + 2)) (bz (xs (j + 3))) hz) (ch_Law_run ⟨Nat.le_of_ble_eq_true rfl, Nat.le_of_ble_eq_true rfl⟩) [0, 1, 2, 3, 4, 5, 6, 7, 8, 9, 10, 11, 12, 13, 14, 15, 16, 17, 18, 19, 20, 21, 22, 23, 24, 25, 37] [26, 27, 28, 29, 30, 31, 32, 33, 34, 35, 36] rfl rfl (by decide) (by decide) (by decide) rfl rfl (Nat.le_of_ble_eq_true rfl) d_Law_law_420 ⟨by show _ ≤ 601024; omega, by show _ ≤ 7293000; omega⟩ (fun u3 => ?_)
    refine j_perm [11, 12, 13, 14, 15, 16, 17, 18, 19, 20, 21, 22, 23, 24, 25, 26, 27, 28, 29, 30, 31, 32, 33, 34, 35, 36, 0, 1, 2, 3, 4, 5, 6, 7, 8, 9, 10, 37] (ws' := wML cI cR o0 hc hm om hb ow or_ hh aM aF bw qw bf qf n x.1 x.2.1 x.2.2.1 x.2.2.2.1 x.2.2.2.2.1 x.2.2.2.2.2.1 x.2.2.2.2.2.2.1 x.2.2.2.2.2.2.2.1 x.2.2.2.2.2.2.2.2.1 x.2.2.2.2.2.2.2.2.2.1 x.2.2.2.2.2.2.2.2.2.2.1 x.2.2.2.2.2.2.2.2.2.2.2.1 x.2.2.2.2.2.2.2.2.2.2.2.2 ++ (wMo cI cZ a S ++ [(go, .inl (cJ, 1, .inr (.inl Fo)))])) rfl (by decide) ?_
    refine j_istore C [(5, .int 1), (4, .int (nI j)), (3, .ref go), (2, .ref (a 0)), (1, .ref o0), (0, .ref b)] d_Law_law_423 (by decide) rfl ?_
    refine j_aload_n C 3 d_Law_law_425 rfl ?_
    refine j_aload_n C 5 d_Law_law_426 rfl ?_
    refine j_scr C hT hL (j := j) (k := 1) 1 rfl (by omega) (by decide) d_Law_law_427 d_Law_law_429 d_Law_law_430 d_Law_law_431 ?_
    refine j_aload_n C 5 d_Law_law_432 rfl ?_
    refine j_scr C hT hL (j := j) (k := 2) 1 rfl (by omega) (by decide) d_Law_law_433 d_Law_law_435 d_Law_law_436 d_Law_law_437 ?_
    refine j_aload_n C 5 d_Law_law_438 rfl ?_
    refine j_scr C hT hL (j := j) (k := 3) 1 rfl (by omega) (by decide) d_Law_law_439 d_Law_law_441 d_Law_law_442 d_Law_law_443 ?_
    refine j_let (ws' := wML cI cR o0 hc hm om hb ow or_ hh aM aF bw qw bf qf n x.1 x.2.1 x.2.2.1 x.2.2.2.1 x.2.2.2.2.1 x.2.2.2.2.2.1 x.2.2.2.2.2.2.1 x.2.2.2.2.2.2.2.1 x.2.2.2.2.2.2.2.2.1 x.2.2.2.2.2.2.2.2.2.1 x.2.2.2.2.2.2.2.2.2.2.1 x.2.2.2.2.2.2.2.2.2.2.2.1 x.2.2.2.2.2.2.2.2.2.2.2.2 ++ (wMo cI cZ a S ++ [(go, .inl (cJ, 1, .inr (.inl Fo)))])) (lv' := [(5, .int 1), (4, .int (nI j)), (3, .ref go), (2, .ref (a 0)), (1, .ref o0), (0, .ref b)]) (st' := [.int (bz (xs (j + 3))), .int (xs (j + 2)), .int (xs (j + 1)), .ref (a 0)]) (pc' := 452) ?_ (fun K4 => ?_)
    rotate_left
    · refine j_if_eq C 451 d_Law_law_444 (by decide) (fun c5 => ?_) (fun c5 => ?_)
      · refine j_iconst C (v := 0) d_Law_law_451 (by decide) ?_
        refine j_top (show 0 = bz (xs (j + 3)) from (if_pos c5).symm) ?_
        exact K4
      · refine j_iconst C (v := 1) d_Law_law_447 (by decide) ?_
        refine j_goto C 452 d_Law_law_448 (by decide) ?_
        refine j_top (show 1 = bz (xs (j + 3)) from (if_neg c5).symm) ?_
        exact K4
    refine j_IV C [.int (xs (j + 1)), .int (xs (j + 2)), .int (bz (xs (j + 3)))] hA 26 rfl rfl (c_Mo_run l D cI cR cZ fu a S (xs (j + 1)) (xs (j + 2)) (bz (xs (j + 3))) hr9) (cw_Law_94 C ⟨Nat.le_of_ble_eq_true rfl, Nat.le_of_ble_eq_true rfl⟩) [26, 27, 28, 29, 30, 31, 32, 33, 34, 35, 36] [0, 1, 2, 3, 4, 5, 6, 7, 8, 9, 10, 11, 12, 13, 14, 15, 16, 17, 18, 19, 20, 21, 22, 23, 24, 25, 37] rfl rfl (by decide) (by decide) (by decide) rfl rfl (Nat.le_of_ble_eq_true rfl) d_Law_law_452 ⟨by show _ ≤ 601024; omega, by show _ ≤ 7293000; omega⟩ (fun _ => ?_)
    refine j_perm [0, 1, 2, 3, 4, 5, 6, 7, 8, 9, 10, 11, 12, 13, 14, 15, 16, 17, 18, 19, 20, 21, 22, 23, 24, 25, 27, 28, 29, 30, 31, 32, 33, 34, 35, 36, 37, 26] (ws' := wML cI cR o0 hc hm om hb ow or_ hh aM aF bw qw bf qf n x.1 x.2.1 x.2.2.1 x.2.2.2.1 x.2.2.2.2.1 x.2.2.2.2.2.1 x.2.2.2.2.2.2.1 x.2.2.2.2.2.2.2.1 x.2.2.2.2.2.2.2.2.1 x.2.2.2.2.2.2.2.2.2.1 x.2.2.2.2.2.2.2.2.2.2.1 x.2.2.2.2.2.2.2.2.2.2.2.1 x.2.2.2.2.2.2.2.2.2.2.2.2 ++ (wMo cI cZ a r.2 ++ [(go, .inl (cJ, 1, .inr (.inl Fo)))])) rfl (by decide) ?_
    refine j_istore C [(6, .int r.1), (5, .int 1), (4, .int (nI j)), (3, .ref go), (2, .ref (a 0)), (1, .ref o0), (0, .ref b)] d_Law_law_455 (by decide) rfl ?_
    refine j_aload_n C 4 d_Law_law_457 rfl ?_
    refine j_PV C [] 26 rfl rfl (c_Mo_thrown l D cI cR cZ a r.2 rfl) (cw_Law_80 C ⟨Nat.le_of_ble_eq_true rfl, Nat.le_of_ble_eq_true rfl⟩) [26, 27, 28, 29, 30, 31, 32, 33, 34, 35, 36] rfl rfl rfl (Nat.le_of_ble_eq_true rfl) d_Law_law_458 ⟨by show _ ≤ 601024; omega, by show _ ≤ 7293000; omega⟩ ?_
    refine j_iload C 1 d_Law_law_461 rfl ?_
    refine j_icmp_eq C 468 d_Law_law_463 (by decide) (fun _ => ?_) (fun c6 => absurd ht c6)
    refine j_iload C 1 d_Law_law_468 rfl ?_
    refine j_if_ne C 485 d_Law_law_470 (by decide) (fun _ => ?_) (fun q => absurd q (by decide))
    refine j_goto C 1132 d_Law_law_485 (by decide) ?_
    refine j_sub [2, 3, 4, 5, 6] rfl ?_
    refine j_widen (c2 := cells + 7) (s2 := slots + 14080) (by omega) (by omega) ?_
    exact K x r.2 qw qf (Fo) hR
