set_option maxRecDepth 100000 in
set_option maxHeartbeats 4000000 in
theorem lc_alter {p : Program} {l : Launch} {e : Env} {s : State} {m : MethodId} {below : List Frame} {meth : Method} {c : Code} {D : va_G} {cI cR cZ cJ : ClassId} {t1 t2 b L : Nat} {xs : Nat → Int32} {Q : State → Prop} {cells slots : Nat} (C : Cx p s m #[Value.ref b] meth c D (tyG cI cR cZ) code 7 "MaskLayersLaw") (hl : l.stackTraces = false) (hA : ∀ q, s.heap.size ≤ q → lwA s q) (hX : HX D cJ t1 t2 (lwA s) s s.heap) (hT : va_T .int b L (fun j => .int (xs j)) (lwA s) s s.heap) (hL : L < 2 ^ 31) {Rel : Nat → XS → LyS → Prop} {fu : Nat} (hop : Op_alter Rel fu) {o0 : Nat} {hc : Nat} {hm : Nat} {om : Nat} {hb : Nat} {ow : Nat} {or_ : Nat} {hh : Nat} {aM : (Nat → Nat)} {aF : (Nat → Nat)} {bw : Nat} {bf : Nat} {n : Nat} {a : Nat → Nat} {go j : Nat} (hj : j + 4 < L) (hcl : cells + 7 ≤ 601024) (hsl : slots + 14080 ≤ 7293000) {x : XS} {S : LyS} {qw qf : Nat} {Fo : Nat → Int64} (hRel : Rel n x S) (K : ∀ (x : XS) (S : LyS) (qw qf : Nat) (Fo : Nat → Int64), Rel n x S → J p l e room_1 s m #[Value.ref b] below meth c D (lwA s) (va_D (lwA s)) 7 Q (cells + 7) (slots + 14080) (wML cI cR o0 hc hm om hb ow or_ hh aM aF bw qw bf qf n x.1 x.2.1 x.2.2.1 x.2.2.2.1 x.2.2.2.2.1 x.2.2.2.2.2.1 x.2.2.2.2.2.2.1 x.2.2.2.2.2.2.2.1 x.2.2.2.2.2.2.2.2.1 x.2.2.2.2.2.2.2.2.2.1 x.2.2.2.2.2.2.2.2.2.2.1 x.2.2.2.2.2.2.2.2.2.2.2.1 x.2.2.2.2.2.2.2.2.2.2.2.2 ++ (wMo cI cZ a S ++ [(go, .inl (cJ, 1, .inr (.inl Fo)))])) [(4, .int (nI j)), (3, .ref go), (2, .ref (a 0)), (1, .ref o0), (0, .ref b)] [] 1132) : J p l e room_1 s m #[Value.ref b] below meth c D (lwA s) (va_D (lwA s)) 7 Q cells slots (wML cI cR o0 hc hm om hb ow or_ hh aM aF bw qw bf qf n x.1 x.2.1 x.2.2.1 x.2.2.2.1 x.2.2.2.2.1 x.2.2.2.2.2.1 x.2.2.2.2.2.2.1 x.2.2.2.2.2.2.2.1 x.2.2.2.2.2.2.2.2.1 x.2.2.2.2.2.2.2.2.2.1 x.2.2.2.2.2.2.2.2.2.2.1 x.2.2.2.2.2.2.2.2.2.2.2.1 x.2.2.2.2.2.2.2.2.2.2.2.2 ++ (wMo cI cZ a S ++ [(go, .inl (cJ, 1, .inr (.inl Fo)))])) [(4, .int (nI j)), (3, .ref go), (2, .ref (a 0)), (1, .ref o0), (0, .ref b)] [] 947 := by
  obtain ⟨r, hr9, hcase⟩ := hop n x S (xs (j + 1)) (xs (j + 2)) hRel
  rcases hcase with ⟨z, hz, ht, hbz, hR⟩ | ⟨hz, ht, hR⟩ | ⟨hz, ht, hR⟩
  · refine j_aload_n C 3 d_Law_law_947 rfl ?_
    refine j_aload_n C 4 d_Law_law_948 rfl ?_
    refine j_scr C hT hL (j := j) (k := 1) 0 rfl (by omega) (by decide) d_Law_law_949 d_Law_law_951 d_Law_law_952 d_Law_law_953 ?_
    refine j_aload_n C 4 d_Law_law_954 rfl ?_
    refine j_scr C hT hL (j := j) (k := 2) 0 rfl (by omega) (by decide) d_Law_law_955 d_Law_law_957 d_Law_law_958 d_Law_law_959 ?_
    refine j_aload_n C 1 d_Law_law_960 rfl ?_
    refine j_HS C [.ref o0, .int (xs (j + 1)), .int (xs (j + 2)), .ref go] hA hX (c_Law_alter_n l D cI cR cZ cJ t1 t2 o0 hc hm om hb ow or_ hh aM aF bw qw bf qf n go x.1 x.2.1 x.2.2.1 x.2.2.2.1 x.2.2.2.2.1 x.2.2.2.2.2.1 x.2.2.2.2.2.2.1 x.2.2.2.2.2.2.2.1 x.2.2.2.2.2.2.2.2.1 x.2.2.2.2.2.2.2.2.2.1 x.2.2.2.2.2.2.2.2.2.2.1 x.2.2.2.2.2.2.2.2.2.2.2.1 x.2.2.2.2.2.2.2.2.2.2.2.2 Fo (xs (j + 1)) (xs (j + 2)) hz) (ch_Law_alter ⟨Nat.le_of_ble_eq_true rfl, Nat.le_of_ble_eq_true rfl⟩) [0, 1, 2, 3, 4, 5, 6, 7, 8, 9, 10, 11, 12, 13, 14, 15, 16, 17, 18, 19, 20, 21, 22, 23, 24, 25, 37] [26, 27, 28, 29, 30, 31, 32, 33, 34, 35, 36] rfl rfl (by decide) (by decide) (by decide) rfl rfl (Nat.le_of_ble_eq_true rfl) d_Law_law_961 ⟨by show _ ≤ 601024; omega, by show _ ≤ 7293000; omega⟩ (fun u1 => ?_)
    refine j_perm [11, 12, 13, 14, 15, 16, 17, 18, 19, 20, 21, 22, 23, 24, 25, 26, 27, 28, 29, 30, 31, 32, 33, 34, 35, 36, 0, 1, 2, 3, 4, 5, 6, 7, 8, 9, 10, 37] (ws' := wML cI cR o0 hc hm om hb ow or_ hh aM aF bw qw bf qf n x.1 x.2.1 x.2.2.1 x.2.2.2.1 x.2.2.2.2.1 x.2.2.2.2.2.1 x.2.2.2.2.2.2.1 x.2.2.2.2.2.2.2.1 x.2.2.2.2.2.2.2.2.1 z.2 x.2.2.2.2.2.2.2.2.2.2.1 x.2.2.2.2.2.2.2.2.2.2.2.1 x.2.2.2.2.2.2.2.2.2.2.2.2 ++ (wMo cI cZ a S ++ [(go, .inl (cJ, 1, .inr (.inl (vp_updL Fo (0 : Int32).toNatClampNeg z.1.toInt64))))])) rfl (by decide) ?_
    refine j_istore C [(5, .int 0), (4, .int (nI j)), (3, .ref go), (2, .ref (a 0)), (1, .ref o0), (0, .ref b)] d_Law_law_964 (by decide) rfl ?_
    refine j_aload_n C 3 d_Law_law_966 rfl ?_
    refine j_aload_n C 5 d_Law_law_967 rfl ?_
    refine j_scr C hT hL (j := j) (k := 1) 1 rfl (by omega) (by decide) d_Law_law_968 d_Law_law_970 d_Law_law_971 d_Law_law_972 ?_
    refine j_aload_n C 5 d_Law_law_973 rfl ?_
    refine j_scr C hT hL (j := j) (k := 2) 1 rfl (by omega) (by decide) d_Law_law_974 d_Law_law_976 d_Law_law_977 d_Law_law_978 ?_
    refine j_IV C [.int (xs (j + 1)), .int (xs (j + 2))] hA 26 rfl rfl (c_Mo_alter l D cI cR cZ a S (xs (j + 1)) (xs (j + 2)) hr9) (cw_Law_121 C ⟨Nat.le_of_ble_eq_true rfl, Nat.le_of_ble_eq_true rfl⟩) [26, 27, 28, 29, 30, 31, 32, 33, 34, 35, 36] [0, 1, 2, 3, 4, 5, 6, 7, 8, 9, 10, 11, 12, 13, 14, 15, 16, 17, 18, 19, 20, 21, 22, 23, 24, 25, 37] rfl rfl (by decide) (by decide) (by decide) rfl rfl (Nat.le_of_ble_eq_true rfl) d_Law_law_979 ⟨by show _ ≤ 601024; omega, by show _ ≤ 7293000; omega⟩ (fun _ => ?_)
    refine j_perm [0, 1, 2, 3, 4, 5, 6, 7, 8, 9, 10, 11, 12, 13, 14, 15, 16, 17, 18, 19, 20, 21, 22, 23, 24, 25, 27, 28, 29, 30, 31, 32, 33, 34, 35, 36, 37, 26] (ws' := wML cI cR o0 hc hm om hb ow or_ hh aM aF bw qw bf qf n x.1 x.2.1 x.2.2.1 x.2.2.2.1 x.2.2.2.2.1 x.2.2.2.2.2.1 x.2.2.2.2.2.2.1 x.2.2.2.2.2.2.2.1 x.2.2.2.2.2.2.2.2.1 z.2 x.2.2.2.2.2.2.2.2.2.2.1 x.2.2.2.2.2.2.2.2.2.2.2.1 x.2.2.2.2.2.2.2.2.2.2.2.2 ++ (wMo cI cZ a r.2 ++ [(go, .inl (cJ, 1, .inr (.inl (vp_updL Fo (0 : Int32).toNatClampNeg z.1.toInt64))))])) rfl (by decide) ?_
    refine j_istore C [(6, .int r.1), (5, .int 0), (4, .int (nI j)), (3, .ref go), (2, .ref (a 0)), (1, .ref o0), (0, .ref b)] d_Law_law_982 (by decide) rfl ?_
    refine j_aload_n C 4 d_Law_law_984 rfl ?_
    refine j_PV C [] 26 rfl rfl (c_Mo_thrown l D cI cR cZ a r.2 rfl) (cw_Law_80 C ⟨Nat.le_of_ble_eq_true rfl, Nat.le_of_ble_eq_true rfl⟩) [26, 27, 28, 29, 30, 31, 32, 33, 34, 35, 36] rfl rfl rfl (Nat.le_of_ble_eq_true rfl) d_Law_law_985 ⟨by show _ ≤ 601024; omega, by show _ ≤ 7293000; omega⟩ ?_
    refine j_iload C 1 d_Law_law_988 rfl ?_
    refine j_icmp_eq C 995 d_Law_law_990 (by decide) (fun _ => ?_) (fun c2 => absurd ht c2)
    refine j_iload C 1 d_Law_law_995 rfl ?_
    refine j_if_ne C 1012 d_Law_law_997 (by decide) (fun q => absurd rfl q) (fun _ => ?_)
    refine j_aload_n C 3 d_Law_law_1000 rfl ?_
    refine j_iconst C (v := 0) d_Law_law_1001 (by decide) ?_
    refine j_lald C hX.2.2.2.2.2 37 0 rfl rfl (by show ¬ _; decide) d_Law_law_1002 ?_
    refine j_iload C 0 d_Law_law_1003 rfl ?_
    refine j_i2l C d_Law_law_1005 ?_
    refine j_lcmp C d_Law_law_1006 ?_
    refine j_if_eq C 1012 d_Law_law_1007 (by decide) (fun _ => ?_) (fun c3 => absurd (lgc_eq (show (vp_updL Fo (0 : Int32).toNatClampNeg z.1.toInt64) (0 : Int32).toNatClampNeg = r.1.toInt64 from (upl_at _ _ _).trans (congrArg Int32.toInt64 hbz.symm))) c3)
    refine j_goto C 1132 d_Law_law_1012 (by decide) ?_
    refine j_sub [2, 3, 4, 5, 6] rfl ?_
    refine j_widen (c2 := cells + 7) (s2 := slots + 14080) (by omega) (by omega) ?_
    exact K (x.1, x.2.1, x.2.2.1, x.2.2.2.1, x.2.2.2.2.1, x.2.2.2.2.2.1, x.2.2.2.2.2.2.1, x.2.2.2.2.2.2.2.1, x.2.2.2.2.2.2.2.2.1, z.2, x.2.2.2.2.2.2.2.2.2.2.1, x.2.2.2.2.2.2.2.2.2.2.2.1, x.2.2.2.2.2.2.2.2.2.2.2.2) r.2 qw qf (vp_updL Fo (0 : Int32).toNatClampNeg z.1.toInt64) hR
  · refine j_aload_n C 3 d_Law_law_947 rfl ?_
    refine j_aload_n C 4 d_Law_law_948 rfl ?_
    refine j_scr C hT hL (j := j) (k := 1) 0 rfl (by omega) (by decide) d_Law_law_949 d_Law_law_951 d_Law_law_952 d_Law_law_953 ?_
    refine j_aload_n C 4 d_Law_law_954 rfl ?_
    refine j_scr C hT hL (j := j) (k := 2) 0 rfl (by omega) (by decide) d_Law_law_955 d_Law_law_957 d_Law_law_958 d_Law_law_959 ?_
    refine j_aload_n C 1 d_Law_law_960 rfl ?_
    refine j_HS C [.ref o0, .int (xs (j + 1)), .int (xs (j + 2)), .ref go] hA hX (c_Law_alter_t1 l hl D cI cR cZ cJ t1 t2 o0 hc hm om hb ow or_ hh aM aF bw qw bf qf n go x.1 x.2.1 x.2.2.1 x.2.2.2.1 x.2.2.2.2.1 x.2.2.2.2.2.1 x.2.2.2.2.2.2.1 x.2.2.2.2.2.2.2.1 x.2.2.2.2.2.2.2.2.1 x.2.2.2.2.2.2.2.2.2.1 x.2.2.2.2.2.2.2.2.2.2.1 x.2.2.2.2.2.2.2.2.2.2.2.1 x.2.2.2.2.2.2.2.2.2.2.2.2 Fo (xs (j + 1)) (xs (j + 2)) hz) (ch_Law_alter ⟨Nat.le_of_ble_eq_true rfl, Nat.le_of_ble_eq_true rfl⟩) [0, 1, 2, 3, 4, 5, 6, 7, 8, 9, 10, 11, 12, 13, 14, 15, 16, 17, 18, 19, 20, 21, 22, 23, 24, 25, 37] [26, 27, 28, 29, 30, 31, 32, 33, 34, 35, 36] rfl rfl (by decide) (by decide) (by decide) rfl rfl (Nat.le_of_ble_eq_true rfl) d_Law_law_961 ⟨by show _ ≤ 601024; omega, by show _ ≤ 7293000; omega⟩ (fun u1 => ?_)
    refine j_perm [11, 12, 13, 14, 15, 16, 17, 18, 19, 20, 21, 22, 23, 24, 25, 26, 27, 28, 29, 30, 31, 32, 33, 34, 35, 36, 0, 1, 2, 3, 4, 5, 6, 7, 8, 9, 10, 37] (ws' := wML cI cR o0 hc hm om hb ow or_ hh aM aF bw qw bf qf n x.1 x.2.1 x.2.2.1 x.2.2.2.1 x.2.2.2.2.1 x.2.2.2.2.2.1 x.2.2.2.2.2.2.1 x.2.2.2.2.2.2.2.1 x.2.2.2.2.2.2.2.2.1 x.2.2.2.2.2.2.2.2.2.1 x.2.2.2.2.2.2.2.2.2.2.1 x.2.2.2.2.2.2.2.2.2.2.2.1 x.2.2.2.2.2.2.2.2.2.2.2.2 ++ (wMo cI cZ a S ++ [(go, .inl (cJ, 1, .inr (.inl Fo)))])) rfl (by decide) ?_
    refine j_istore C [(5, .int 1), (4, .int (nI j)), (3, .ref go), (2, .ref (a 0)), (1, .ref o0), (0, .ref b)] d_Law_law_964 (by decide) rfl ?_
    refine j_aload_n C 3 d_Law_law_966 rfl ?_
    refine j_aload_n C 5 d_Law_law_967 rfl ?_
    refine j_scr C hT hL (j := j) (k := 1) 1 rfl (by omega) (by decide) d_Law_law_968 d_Law_law_970 d_Law_law_971 d_Law_law_972 ?_
    refine j_aload_n C 5 d_Law_law_973 rfl ?_
    refine j_scr C hT hL (j := j) (k := 2) 1 rfl (by omega) (by decide) d_Law_law_974 d_Law_law_976 d_Law_law_977 d_Law_law_978 ?_
    refine j_IV C [.int (xs (j + 1)), .int (xs (j + 2))] hA 26 rfl rfl (c_Mo_alter l D cI cR cZ a S (xs (j + 1)) (xs (j + 2)) hr9) (cw_Law_121 C ⟨Nat.le_of_ble_eq_true rfl, Nat.le_of_ble_eq_true rfl⟩) [26, 27, 28, 29, 30, 31, 32, 33, 34, 35, 36] [0, 1, 2, 3, 4, 5, 6, 7, 8, 9, 10, 11, 12, 13, 14, 15, 16, 17, 18, 19, 20, 21, 22, 23, 24, 25, 37] rfl rfl (by decide) (by decide) (by decide) rfl rfl (Nat.le_of_ble_eq_true rfl) d_Law_law_979 ⟨by show _ ≤ 601024; omega, by show _ ≤ 7293000; omega⟩ (fun _ => ?_)
    refine j_perm [0, 1, 2, 3, 4, 5, 6, 7, 8, 9, 10, 11, 12, 13, 14, 15, 16, 17, 18, 19, 20, 21, 22, 23, 24, 25, 27, 28, 29, 30, 31, 32, 33, 34, 35, 36, 37, 26] (ws' := wML cI cR o0 hc hm om hb ow or_ hh aM aF bw qw bf qf n x.1 x.2.1 x.2.2.1 x.2.2.2.1 x.2.2.2.2.1 x.2.2.2.2.2.1 x.2.2.2.2.2.2.1 x.2.2.2.2.2.2.2.1 x.2.2.2.2.2.2.2.2.1 x.2.2.2.2.2.2.2.2.2.1 x.2.2.2.2.2.2.2.2.2.2.1 x.2.2.2.2.2.2.2.2.2.2.2.1 x.2.2.2.2.2.2.2.2.2.2.2.2 ++ (wMo cI cZ a r.2 ++ [(go, .inl (cJ, 1, .inr (.inl Fo)))])) rfl (by decide) ?_
    refine j_istore C [(6, .int r.1), (5, .int 1), (4, .int (nI j)), (3, .ref go), (2, .ref (a 0)), (1, .ref o0), (0, .ref b)] d_Law_law_982 (by decide) rfl ?_
    refine j_aload_n C 4 d_Law_law_984 rfl ?_
    refine j_PV C [] 26 rfl rfl (c_Mo_thrown l D cI cR cZ a r.2 rfl) (cw_Law_80 C ⟨Nat.le_of_ble_eq_true rfl, Nat.le_of_ble_eq_true rfl⟩) [26, 27, 28, 29, 30, 31, 32, 33, 34, 35, 36] rfl rfl rfl (Nat.le_of_ble_eq_true rfl) d_Law_law_985 ⟨by show _ ≤ 601024; omega, by show _ ≤ 7293000; omega⟩ ?_
    refine j_iload C 1 d_Law_law_988 rfl ?_
    refine j_icmp_eq C 995 d_Law_law_990 (by decide) (fun _ => ?_) (fun c2 => absurd ht c2)
    refine j_iload C 1 d_Law_law_995 rfl ?_
    refine j_if_ne C 1012 d_Law_law_997 (by decide) (fun _ => ?_) (fun q => absurd q (by decide))
    refine j_goto C 1132 d_Law_law_1012 (by decide) ?_
    refine j_sub [2, 3, 4, 5, 6] rfl ?_
    refine j_widen (c2 := cells + 7) (s2 := slots + 14080) (by omega) (by omega) ?_
    exact K x r.2 qw qf (Fo) hR
  · refine j_aload_n C 3 d_Law_law_947 rfl ?_
    refine j_aload_n C 4 d_Law_law_948 rfl ?_
    refine j_scr C hT hL (j := j) (k := 1) 0 rfl (by omega) (by decide) d_Law_law_949 d_Law_law_951 d_Law_law_952 d_Law_law_953 ?_
    refine j_aload_n C 4 d_Law_law_954 rfl ?_
    refine j_scr C hT hL (j := j) (k := 2) 0 rfl (by omega) (by decide) d_Law_law_955 d_Law_law_957 d_Law_law_958 d_Law_law_959 ?_
    refine j_aload_n C 1 d_Law_law_960 rfl ?_
    refine j_HS C [.ref o0, .int (xs (j + 1)), .int (xs (j + 2)), .ref go] hA hX (c_Law_alter_t2 l hl D cI cR cZ cJ t1 t2 o0 hc hm om hb ow or_ hh aM aF bw qw bf qf n go x.1 x.2.1 x.2.2.1 x.2.2.2.1 x.2.2.2.2.1 x.2.2.2.2.2.1 x.2.2.2.2.2.2.1 x.2.2.2.2.2.2.2.1 x.2.2.2.2.2.2.2.2.1 x.2.2.2.2.2.2.2.2.2.1 x.2.2.2.2.2.2.2.2.2.2.1 x.2.2.2.2.2.2.2.2.2.2.2.1 x.2.2.2.2.2.2.2.2.2.2.2.2 Fo (xs (j + 1)) (xs (j + 2)) hz) (ch_Law_alter ⟨Nat.le_of_ble_eq_true rfl, Nat.le_of_ble_eq_true rfl⟩) [0, 1, 2, 3, 4, 5, 6, 7, 8, 9, 10, 11, 12, 13, 14, 15, 16, 17, 18, 19, 20, 21, 22, 23, 24, 25, 37] [26, 27, 28, 29, 30, 31, 32, 33, 34, 35, 36] rfl rfl (by decide) (by decide) (by decide) rfl rfl (Nat.le_of_ble_eq_true rfl) d_Law_law_961 ⟨by show _ ≤ 601024; omega, by show _ ≤ 7293000; omega⟩ (fun u1 => ?_)
    refine j_perm [11, 12, 13, 14, 15, 16, 17, 18, 19, 20, 21, 22, 23, 24, 25, 26, 27, 28, 29, 30, 31, 32, 33, 34, 35, 36, 0, 1, 2, 3, 4, 5, 6, 7, 8, 9, 10, 37] (ws' := wML cI cR o0 hc hm om hb ow or_ hh aM aF bw qw bf qf n x.1 x.2.1 x.2.2.1 x.2.2.2.1 x.2.2.2.2.1 x.2.2.2.2.2.1 x.2.2.2.2.2.2.1 x.2.2.2.2.2.2.2.1 x.2.2.2.2.2.2.2.2.1 x.2.2.2.2.2.2.2.2.2.1 x.2.2.2.2.2.2.2.2.2.2.1 x.2.2.2.2.2.2.2.2.2.2.2.1 x.2.2.2.2.2.2.2.2.2.2.2.2 ++ (wMo cI cZ a S ++ [(go, .inl (cJ, 1, .inr (.inl Fo)))])) rfl (by decide) ?_
    refine j_istore C [(5, .int 2), (4, .int (nI j)), (3, .ref go), (2, .ref (a 0)), (1, .ref o0), (0, .ref b)] d_Law_law_964 (by decide) rfl ?_
    refine j_aload_n C 3 d_Law_law_966 rfl ?_
    refine j_aload_n C 5 d_Law_law_967 rfl ?_
    refine j_scr C hT hL (j := j) (k := 1) 1 rfl (by omega) (by decide) d_Law_law_968 d_Law_law_970 d_Law_law_971 d_Law_law_972 ?_
    refine j_aload_n C 5 d_Law_law_973 rfl ?_
    refine j_scr C hT hL (j := j) (k := 2) 1 rfl (by omega) (by decide) d_Law_law_974 d_Law_law_976 d_Law_law_977 d_Law_law_978 ?_
    refine j_IV C [.int (xs (j + 1)), .int (xs (j + 2))] hA 26 rfl rfl (c_Mo_alter l D cI cR cZ a S (xs (j + 1)) (xs (j + 2)) hr9) (cw_Law_121 C ⟨Nat.le_of_ble_eq_true rfl, Nat.le_of_ble_eq_true rfl⟩) [26, 27, 28, 29, 30, 31, 32, 33, 34, 35, 36] [0, 1, 2, 3, 4, 5, 6, 7, 8, 9, 10, 11, 12, 13, 14, 15, 16, 17, 18, 19, 20, 21, 22, 23, 24, 25, 37] rfl rfl (by decide) (by decide) (by decide) rfl rfl (Nat.le_of_ble_eq_true rfl) d_Law_law_979 ⟨by show _ ≤ 601024; omega, by show _ ≤ 7293000; omega⟩ (fun _ => ?_)
    refine j_perm [0, 1, 2, 3, 4, 5, 6, 7, 8, 9, 10, 11, 12, 13, 14, 15, 16, 17, 18, 19, 20, 21, 22, 23, 24, 25, 27, 28, 29, 30, 31, 32, 33, 34, 35, 36, 37, 26] (ws' := wML cI cR o0 hc hm om hb ow or_ hh aM aF bw qw bf qf n x.1 x.2.1 x.2.2.1 x.2.2.2.1 x.2.2.2.2.1 x.2.2.2.2.2.1 x.2.2.2.2.2.2.1 x.2.2.2.2.2.2.2.1 x.2.2.2.2.2.2.2.2.1 x.2.2.2.2.2.2.2.2.2.1 x.2.2.2.2.2.2.2.2.2.2.1 x.2.2.2.2.2.2.2.2.2.2.2.1 x.2.2.2.2.2.2.2.2.2.2.2.2 ++ (wMo cI cZ a r.2 ++ [(go, .inl (cJ, 1, .inr (.inl Fo)))])) rfl (by decide) ?_
    refine j_istore C [(6, .int r.1), (5, .int 2), (4, .int (nI j)), (3, .ref go), (2, .ref (a 0)), (1, .ref o0), (0, .ref b)] d_Law_law_982 (by decide) rfl ?_
    refine j_aload_n C 4 d_Law_law_984 rfl ?_
    refine j_PV C [] 26 rfl rfl (c_Mo_thrown l D cI cR cZ a r.2 rfl) (cw_Law_80 C ⟨Nat.le_of_ble_eq_true rfl, Nat.le_of_ble_eq_true rfl⟩) [26, 27, 28, 29, 30, 31, 32, 33, 34, 35, 36] rfl rfl rfl (Nat.le_of_ble_eq_true rfl) d_Law_law_985 ⟨by show _ ≤ 601024; omega, by show _ ≤ 7293000; omega⟩ ?_
    refine j_iload C 1 d_Law_law_988 rfl ?_
    refine j_icmp_eq C 995 d_Law_law_990 (by decide) (fun _ => ?_) (fun c2 => absurd ht c2)
    refine j_iload C 1 d_Law_law_995 rfl ?_
    refine j_if_ne C 1012 d_Law_law_997 (by decide) (fun _ => ?_) (fun q => absurd q (by decide))
    refine j_goto C 1132 d_Law_law_1012 (by decide) ?_
    refine j_sub [2, 3, 4, 5, 6] rfl ?_
    refine j_widen (c2 := cells + 7) (s2 := slots + 14080) (by omega) (by omega) ?_
    exact K x r.2 qw qf (Fo) hR
