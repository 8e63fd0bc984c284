theorem lp_gt {j L : Nat} (hj : j < 2 ^ 30) (hL : L < 2 ^ 30) (h : L < j + 5) : nI L - nI 5 < nI j := by
  rw [Int32.lt_iff_toInt_lt, Int32.toInt_sub, nI_toInt (by omega), nI_toInt (by omega), nI_toInt (by omega), show ((L : Int) - ((5 : Nat) : Int)).bmod (2 ^ 32) = (L : Int) - 5 from by rw [Int.bmod_def]; omega]
  omega
theorem lp_in {j L : Nat} (hjL : j < 2 ^ 30 ∧ L < 2 ^ 30) (h : ¬ nI L - nI 5 < nI j) : j + 4 < L := by
  rw [Int32.lt_iff_toInt_lt, Int32.toInt_sub, nI_toInt (by omega), nI_toInt (by omega), nI_toInt (by omega), show ((L : Int) - ((5 : Nat) : Int)).bmod (2 ^ 32) = (L : Int) - 5 from by rw [Int.bmod_def]; omega] at h
  omega
theorem and15 (x : Int32) : x &&& 15 = 0 ∨ x &&& 15 = 1 ∨ x &&& 15 = 2 ∨ x &&& 15 = 3 ∨ x &&& 15 = 4 ∨ x &&& 15 = 5 ∨ x &&& 15 = 6 ∨ x &&& 15 = 7 ∨ x &&& 15 = 8 ∨ x &&& 15 = 9 ∨ x &&& 15 = 10 ∨ x &&& 15 = 11 ∨ x &&& 15 = 12 ∨ x &&& 15 = 13 ∨ x &&& 15 = 14 ∨ x &&& 15 = 15 := by
  have h1 : (x &&& 15).toBitVec.toNat < 16 := by
    rw [Int32.toBitVec_and, BitVec.toNat_and]
    exact Nat.lt_of_le_of_lt Nat.and_le_right (by decide)
  have hx : ∀ k : Nat, k < 16 → (x &&& 15).toBitVec.toNat = k → x &&& 15 = nI k := fun k hk h => Int32.toBitVec_inj.mp (BitVec.eq_of_toNat_eq (by rw [h]; rcases (by omega : k = 0 ∨ k = 1 ∨ k = 2 ∨ k = 3 ∨ k = 4 ∨ k = 5 ∨ k = 6 ∨ k = 7 ∨ k = 8 ∨ k = 9 ∨ k = 10 ∨ k = 11 ∨ k = 12 ∨ k = 13 ∨ k = 14 ∨ k = 15) with rfl | rfl | rfl | rfl | rfl | rfl | rfl | rfl | rfl | rfl | rfl | rfl | rfl | rfl | rfl | rfl <;> rfl))
  rcases (by omega : (x &&& 15).toBitVec.toNat = 0 ∨ (x &&& 15).toBitVec.toNat = 1 ∨ (x &&& 15).toBitVec.toNat = 2 ∨ (x &&& 15).toBitVec.toNat = 3 ∨ (x &&& 15).toBitVec.toNat = 4 ∨ (x &&& 15).toBitVec.toNat = 5 ∨ (x &&& 15).toBitVec.toNat = 6 ∨ (x &&& 15).toBitVec.toNat = 7 ∨ (x &&& 15).toBitVec.toNat = 8 ∨ (x &&& 15).toBitVec.toNat = 9 ∨ (x &&& 15).toBitVec.toNat = 10 ∨ (x &&& 15).toBitVec.toNat = 11 ∨ (x &&& 15).toBitVec.toNat = 12 ∨ (x &&& 15).toBitVec.toNat = 13 ∨ (x &&& 15).toBitVec.toNat = 14 ∨ (x &&& 15).toBitVec.toNat = 15) with h0 | h1 | h2 | h3 | h4 | h5 | h6 | h7 | h8 | h9 | h10 | h11 | h12 | h13 | h14 | h15
  · exact Or.inl (hx 0 (by decide) h0)
  · exact Or.inr (Or.inl (hx 1 (by decide) h1))
  · exact Or.inr (Or.inr (Or.inl (hx 2 (by decide) h2)))
  · exact Or.inr (Or.inr (Or.inr (Or.inl (hx 3 (by decide) h3))))
  · exact Or.inr (Or.inr (Or.inr (Or.inr (Or.inl (hx 4 (by decide) h4)))))
  · exact Or.inr (Or.inr (Or.inr (Or.inr (Or.inr (Or.inl (hx 5 (by decide) h5))))))
  · exact Or.inr (Or.inr (Or.inr (Or.inr (Or.inr (Or.inr (Or.inl (hx 6 (by decide) h6)))))))
  · exact Or.inr (Or.inr (Or.inr (Or.inr (Or.inr (Or.inr (Or.inr (Or.inl (hx 7 (by decide) h7))))))))
  · exact Or.inr (Or.inr (Or.inr (Or.inr (Or.inr (Or.inr (Or.inr (Or.inr (Or.inl (hx 8 (by decide) h8)))))))))
  · exact Or.inr (Or.inr (Or.inr (Or.inr (Or.inr (Or.inr (Or.inr (Or.inr (Or.inr (Or.inl (hx 9 (by decide) h9))))))))))
  · exact Or.inr (Or.inr (Or.inr (Or.inr (Or.inr (Or.inr (Or.inr (Or.inr (Or.inr (Or.inr (Or.inl (hx 10 (by decide) h10)))))))))))
  · exact Or.inr (Or.inr (Or.inr (Or.inr (Or.inr (Or.inr (Or.inr (Or.inr (Or.inr (Or.inr (Or.inr (Or.inl (hx 11 (by decide) h11))))))))))))
  · exact Or.inr (Or.inr (Or.inr (Or.inr (Or.inr (Or.inr (Or.inr (Or.inr (Or.inr (Or.inr (Or.inr (Or.inr (Or.inl (hx 12 (by decide) h12)))))))))))))
  · exact Or.inr (Or.inr (Or.inr (Or.inr (Or.inr (Or.inr (Or.inr (Or.inr (Or.inr (Or.inr (Or.inr (Or.inr (Or.inr (Or.inl (hx 13 (by decide) h13))))))))))))))
  · exact Or.inr (Or.inr (Or.inr (Or.inr (Or.inr (Or.inr (Or.inr (Or.inr (Or.inr (Or.inr (Or.inr (Or.inr (Or.inr (Or.inr (Or.inl (hx 14 (by decide) h14)))))))))))))))
  · exact Or.inr (Or.inr (Or.inr (Or.inr (Or.inr (Or.inr (Or.inr (Or.inr (Or.inr (Or.inr (Or.inr (Or.inr (Or.inr (Or.inr (Or.inr (hx 15 (by decide) h15)))))))))))))))
set_option maxRecDepth 100000 in
set_option maxHeartbeats 4000000 in
theorem lp_law {p : Program} {l : Launch} {e : Env} {s : State} {m : MethodId} {below : List Frame} {meth : Method} {c : Code} {D : va_G} {cI cR cZ cJ : ClassId} {t1 t2 b L : Nat} {xs : Nat → Int32} {Q : State → Prop} (C : Cx p s m #[Value.ref b] meth c D (tyG cI cR cZ) code 7 "MaskLayersLaw") (hl : l.stackTraces = false) (hA : ∀ q, s.heap.size ≤ q → lwA s q) (hX : HX D cJ t1 t2 (lwA s) s s.heap) (hT : va_T .int b L (fun j => .int (xs j)) (lwA s) s s.heap) (hL : L < 2 ^ 31) (hL2 : L ≤ 2562) {Rel : Nat → XS → LyS → Prop} {fu : Nat} (hput : Op_put Rel fu) (hmask : Op_mask Rel fu) (hstripe : Op_stripe Rel fu) (hrun : Op_run Rel fu) (hlayer : Op_layer Rel fu) (hfilled : Op_filled Rel fu) (hjoined : Op_joined Rel fu) (hwrite : Op_write Rel fu) (hbyteAt : Op_byteAt Rel fu) (hfeed : Op_feed Rel fu) (hpass : Op_pass Rel fu) (halter : Op_alter Rel fu) (hread : Op_read Rel fu) (hat : Op_at Rel fu) (htold : Op_told Rel fu) (hclear : Op_clear Rel fu) {o0 : Nat} {hc : Nat} {hm : Nat} {om : Nat} {hb : Nat} {ow : Nat} {or_ : Nat} {hh : Nat} {aM : (Nat → Nat)} {aF : (Nat → Nat)} {bw : Nat} {bf : Nat} {n : Nat} {a : Nat → Nat} {go : Nat} (hend : ∀ (x : XS) (S : LyS) (qw qf : Nat) (Fo : Nat → Int64) (j : Nat), J p l e room_1 s m #[Value.ref b] below meth c D (lwA s) (va_D (lwA s)) 7 Q 601024 7293000 (wML cI cR o0 hc hm om hb ow or_ hh aM aF bw qw bf qf n x.1 x.2.1 x.2.2.1 x.2.2.2.1 x.2.2.2.2.1 x.2.2.2.2.2.1 x.2.2.2.2.2.2.1 x.2.2.2.2.2.2.2.1 x.2.2.2.2.2.2.2.2.1 x.2.2.2.2.2.2.2.2.2.1 x.2.2.2.2.2.2.2.2.2.2.1 x.2.2.2.2.2.2.2.2.2.2.2.1 x.2.2.2.2.2.2.2.2.2.2.2.2 ++ (wMo cI cZ a S ++ [(go, .inl (cJ, 1, .inr (.inl Fo)))])) [(4, .int (nI j)), (3, .ref go), (2, .ref (a 0)), (1, .ref o0), (0, .ref b)] [] 1138) : ∀ (t j : Nat) (x : XS) (S : LyS) (qw qf : Nat) (Fo : Nat → Int64) (cells slots : Nat), L < j + 5 * t + 5 ∧ j < 4000 → cells + 7 * t ≤ 601024 → slots + 14080 * t ≤ 7293000 → Rel n x S → J p l e room_1 s m #[Value.ref b] below meth c D (lwA s) (va_D (lwA s)) 7 Q cells slots (wML cI cR o0 hc hm om hb ow or_ hh aM aF bw qw bf qf n x.1 x.2.1 x.2.2.1 x.2.2.2.1 x.2.2.2.2.1 x.2.2.2.2.2.1 x.2.2.2.2.2.2.1 x.2.2.2.2.2.2.2.1 x.2.2.2.2.2.2.2.2.1 x.2.2.2.2.2.2.2.2.2.1 x.2.2.2.2.2.2.2.2.2.2.1 x.2.2.2.2.2.2.2.2.2.2.2.1 x.2.2.2.2.2.2.2.2.2.2.2.2 ++ (wMo cI cZ a S ++ [(go, .inl (cJ, 1, .inr (.inl Fo)))])) [(4, .int (nI j)), (3, .ref go), (2, .ref (a 0)), (1, .ref o0), (0, .ref b)] [] 43 := by
  intro t
  induction t with
  | zero =>
    intro j x S qw qf Fo cells slots hj hcc hss hRel
    refine j_iload C 0 d_Law_law_43 rfl ?_
    refine j_aload_n C 4 d_Law_law_45 rfl ?_
    refine j_tlen C (v := nI L) hT rfl d_Law_law_46 ?_
    refine j_iconst C (v := nI 5) d_Law_law_47 (by decide) ?_
    refine j_isub C d_Law_law_48 ?_
    refine j_icmp_gt C 1138 d_Law_law_49 (by decide) (fun _ => ?_) (fun c0 => absurd (lp_gt (by omega) (by omega) (by omega)) c0)
    exact j_widen (by omega) (by omega) (hend x S qw qf Fo j)
  | succ t ih =>
    intro j x S qw qf Fo cells slots hj hcc hss hRel
    refine j_iload C 0 d_Law_law_43 rfl ?_
    refine j_aload_n C 4 d_Law_law_45 rfl ?_
    refine j_tlen C (v := nI L) hT rfl d_Law_law_46 ?_
    refine j_iconst C (v := nI 5) d_Law_law_47 (by decide) ?_
    refine j_isub C d_Law_law_48 ?_
    refine j_icmp_gt C 1138 d_Law_law_49 (by decide) (fun _ => j_widen (by omega) (by omega) (hend x S qw qf Fo j)) (fun c0 => ?_)
    have hj4 : j + 4 < L := lp_in (by omega) c0
    have K : ∀ (x : XS) (S : LyS) (qw qf : Nat) (Fo : Nat → Int64), Rel n x S → J p l e room_1 s m #[Value.ref b] below meth c D (lwA s) (va_D (lwA s)) 7 Q (cells + 7) (slots + 14080) (wML cI cR o0 hc hm om hb ow or_ hh aM aF bw qw bf qf n x.1 x.2.1 x.2.2.1 x.2.2.2.1 x.2.2.2.2.1 x.2.2.2.2.2.1 x.2.2.2.2.2.2.1 x.2.2.2.2.2.2.2.1 x.2.2.2.2.2.2.2.2.1 x.2.2.2.2.2.2.2.2.2.1 x.2.2.2.2.2.2.2.2.2.2.1 x.2.2.2.2.2.2.2.2.2.2.2.1 x.2.2.2.2.2.2.2.2.2.2.2.2 ++ (wMo cI cZ a S ++ [(go, .inl (cJ, 1, .inr (.inl Fo)))])) [(4, .int (nI j)), (3, .ref go), (2, .ref (a 0)), (1, .ref o0), (0, .ref b)] [] 1132 := fun x S qw qf Fo hR => by
      refine j_iinc C [(4, .int (nI (j + 5))), (3, .ref go), (2, .ref (a 0)), (1, .ref o0), (0, .ref b)] 0 (nI (j + 5)) d_Law_law_1132 rfl (by rw [show Int32.ofInt 5 = nI 5 from by decide]; exact nI_add j 5) (by decide) rfl ?_
      refine j_goto C 43 d_Law_law_1135 (by decide) ?_
      exact ih (j + 5) x S qw qf Fo (cells + 7) (slots + 14080) (by omega) (by omega) (by omega) hR
    refine j_aload_n C 4 d_Law_law_52 rfl ?_
    refine j_sc0 C hT hL 0 rfl (by omega) d_Law_law_53 d_Law_law_55 ?_
    refine j_bipush C (v := 15) d_Law_law_56 (by decide) ?_
    refine j_iand C d_Law_law_58 ?_
    by_cases e0 : xs j &&& 15 = 0
    · refine j_tabIn C 136 d_Law_law_59 (by rw [e0]; decide) (by rw [e0]; decide) (off := 77) (by rw [e0]; rfl) (by decide) ?_
      exact lc_put C hl hA hX hT hL hput hj4 (by omega) (by omega) hRel K
    by_cases e1 : xs j &&& 15 = 1
    · refine j_tabIn C 228 d_Law_law_59 (by rw [e1]; decide) (by rw [e1]; decide) (off := 169) (by rw [e1]; rfl) (by decide) ?_
      exact lc_mask C hl hA hX hT hL hmask hj4 (by omega) (by omega) hRel K
    by_cases e2 : xs j &&& 15 = 2
    · refine j_tabIn C 336 d_Law_law_59 (by rw [e2]; decide) (by rw [e2]; decide) (off := 277) (by rw [e2]; rfl) (by decide) ?_
      exact lc_stripe C hl hA hX hT hL hstripe hj4 (by omega) (by omega) hRel K
    by_cases e3 : xs j &&& 15 = 3
    · refine j_tabIn C 392 d_Law_law_59 (by rw [e3]; decide) (by rw [e3]; decide) (off := 333) (by rw [e3]; rfl) (by decide) ?_
      exact lc_run C hl hA hX hT hL hrun hj4 (by omega) (by omega) hRel K
    by_cases e4 : xs j &&& 15 = 4
    · refine j_tabIn C 488 d_Law_law_59 (by rw [e4]; decide) (by rw [e4]; decide) (off := 429) (by rw [e4]; rfl) (by decide) ?_
      exact lc_layer C hl hA hX hT hL hlayer hj4 (by omega) (by omega) hRel K
    by_cases e5 : xs j &&& 15 = 5
    · refine j_tabIn C 568 d_Law_law_59 (by rw [e5]; decide) (by rw [e5]; decide) (off := 509) (by rw [e5]; rfl) (by decide) ?_
      exact lc_filled C hl hA hX hT hL hfilled hj4 (by omega) (by omega) hRel K
    by_cases e6 : xs j &&& 15 = 6
    · refine j_tabIn C 655 d_Law_law_59 (by rw [e6]; decide) (by rw [e6]; decide) (off := 596) (by rw [e6]; rfl) (by decide) ?_
      exact lc_joined C hl hA hX hT hL hjoined hj4 (by omega) (by omega) hRel K
    by_cases e7 : xs j &&& 15 = 7
    · refine j_tabIn C 723 d_Law_law_59 (by rw [e7]; decide) (by rw [e7]; decide) (off := 664) (by rw [e7]; rfl) (by decide) ?_
      exact lc_write C hl hA hX hT hL hwrite hj4 (by omega) (by omega) hRel K
    by_cases e8 : xs j &&& 15 = 8
    · refine j_tabIn C 767 d_Law_law_59 (by rw [e8]; decide) (by rw [e8]; decide) (off := 708) (by rw [e8]; rfl) (by decide) ?_
      exact lc_byteAt C hl hA hX hT hL hbyteAt hj4 (by omega) (by omega) hRel K
    by_cases e9 : xs j &&& 15 = 9
    · refine j_tabIn C 823 d_Law_law_59 (by rw [e9]; decide) (by rw [e9]; decide) (off := 764) (by rw [e9]; rfl) (by decide) ?_
      exact lc_feed C hl hA hX hT hL hfeed hj4 (by omega) (by omega) hRel K
    by_cases e10 : xs j &&& 15 = 10
    · refine j_tabIn C 879 d_Law_law_59 (by rw [e10]; decide) (by rw [e10]; decide) (off := 820) (by rw [e10]; rfl) (by decide) ?_
      exact lc_pass C hl hA hX hT hL hpass hj4 (by omega) (by omega) hRel K
    by_cases e11 : xs j &&& 15 = 11
    · refine j_tabIn C 947 d_Law_law_59 (by rw [e11]; decide) (by rw [e11]; decide) (off := 888) (by rw [e11]; rfl) (by decide) ?_
      exact lc_alter C hl hA hX hT hL halter hj4 (by omega) (by omega) hRel K
    by_cases e12 : xs j &&& 15 = 12
    · refine j_tabIn C 1015 d_Law_law_59 (by rw [e12]; decide) (by rw [e12]; decide) (off := 956) (by rw [e12]; rfl) (by decide) ?_
      exact lc_read C hA hX hT hL hread hj4 (by omega) (by omega) hRel K
    by_cases e13 : xs j &&& 15 = 13
    · refine j_tabIn C 1028 d_Law_law_59 (by rw [e13]; decide) (by rw [e13]; decide) (off := 969) (by rw [e13]; rfl) (by decide) ?_
      exact lc_at C hl hA hX hT hL hat hj4 (by omega) (by omega) hRel K
    by_cases e14 : xs j &&& 15 = 14
    · refine j_tabIn C 1096 d_Law_law_59 (by rw [e14]; decide) (by rw [e14]; decide) (off := 1037) (by rw [e14]; rfl) (by decide) ?_
      exact lc_told C hA hX hT hL htold hj4 (by omega) (by omega) hRel K
    by_cases e15 : xs j &&& 15 = 15
    · refine j_tabIn C 1121 d_Law_law_59 (by rw [e15]; decide) (by rw [e15]; decide) (off := 1062) (by rw [e15]; rfl) (by decide) ?_
      exact lc_clear C hA hX hT hL hclear hj4 (by omega) (by omega) hRel K
    rcases and15 (xs j) with h0z | h1z | h2z | h3z | h4z | h5z | h6z | h7z | h8z | h9z | h10z | h11z | h12z | h13z | h14z | h15z
    · exact absurd h0z e0
    · exact absurd h1z e1
    · exact absurd h2z e2
    · exact absurd h3z e3
    · exact absurd h4z e4
    · exact absurd h5z e5
    · exact absurd h6z e6
    · exact absurd h7z e7
    · exact absurd h8z e8
    · exact absurd h9z e9
    · exact absurd h10z e10
    · exact absurd h11z e11
    · exact absurd h12z e12
    · exact absurd h13z e13
    · exact absurd h14z e14
    · exact absurd h15z e15
