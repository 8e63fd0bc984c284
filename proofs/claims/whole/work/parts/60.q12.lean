theorem nI_p1 (a : Nat) : nI a + 1 = nI (a + 1) := nI_add a 1
/-! ===== the first pass over a layer's blocks: means ===== -/
/-- what both have after k blocks of the first pass -/
def MP (l w s tp r st0 : Nat) (side : Int32) (L T : LyS) (k : Nat) (f : Int32) (L' : LyS) (f' : Int32) (T' : LyS) : Prop :=
  L'.1 = L.1 ∧ (∀ q, q ≠ l → L'.2 q = L.2 q) ∧ (∀ j, j < st0 ∨ st0 + k ≤ j → L'.2 l j = L.2 l j) ∧
  (∀ k', k' < k → if bc (T.2 1) side w s tp r k' = 0 then L'.2 l (st0 + k') = -1 ∧ T'.2 3 (ps w s l tp k') = nI 1 else L'.2 l (st0 + k') = bv (T.2 1) (T.2 0) side w s tp r k' ∧ T'.2 2 (ps w s l tp k') = bv (T.2 1) (T.2 0) side w s tp r k' ∧ T'.2 3 (ps w s l tp k') = nI 0) ∧
  T'.1 = T.1 ∧ (∀ q, q ≠ 2 → q ≠ 3 → T'.2 q = T.2 q) ∧ (∀ P, (∀ k', k' < mny w s r → P ≠ ps w s l tp k') → T'.2 2 P = T.2 2 P ∧ T'.2 3 P = T.2 3 P) ∧
  f = f' ∧ ((f = -1 ∧ ∀ k', k' < k → bc (T.2 1) side w s tp r k' = 0) ∨ Cl f)
theorem VL_fr {n w h st bs fs : Nat} {L L' : LyS} (V : VL n w h st bs fs L) (h1 : ∀ k, k ≠ 3 → L'.1 k = L.1 k) (h5 : L'.2 5 = L.2 5) (h6 : L'.2 6 = L.2 6) : VL n w h st bs fs L' := by
  unfold VL
  rw [h1 0 (by decide), h1 1 (by decide), h1 2 (by decide), h1 4 (by decide), h1 5 (by decide)]
  exact V
theorem LayR_fr {w tp r bs fs : Nat} {T T' : LyS} (H : LayR w tp r bs fs T) (h1 : T'.1 = T.1) : LayR w tp r bs fs T' := by
  unfold LayR
  rw [h1]
  exact H
section MPS
variable {n w h st i tp r bs fs : Nat} {col msk bare : Nat → Int32} {L T : LyS}
theorem mp_step (D : LD w tp r bs fs) (H : LayR w tp r bs fs T) (V : VL n w h st bs fs L) (etp : tp = i * st) (er : r = hs h st i) (hi : i < cd h st) {l : Nat} (hl : l = 0 ∨ l = 2) (side : Int32) (hside : side = if l = 2 then 1 else 0) (hC : RC w h col (T.2 0)) (hM : PB w h msk (T.2 1)) (hn : n = w * h) (fu : Nat) (hfu : 7000 ≤ fu) (st0 : Nat) (est0 : st0 = i * st * w) {ro c : Nat} (hc : c < cd w (sc bs fs l)) (hro : ro < cd r (sc bs fs l)) (v4 : Int32)
    {f : Int32} {L' : LyS} {f' : Int32} {T' : LyS} (hMP : MP l w (sc bs fs l) tp r st0 side L T (ro * cd w (sc bs fs l) + c) f L' f' T') (q q' : Nat) :
    ∃ f1 L1 f1' T1, Maker_makeBlocks_l45 fu n col msk bare (nI i) (nI l) v4 (nI (cd w (sc bs fs l))) (nI ro) (q + 1) (nI (st0 + (ro * cd w (sc bs fs l) + c))) f (nI c) L' = Maker_makeBlocks_l45 fu n col msk bare (nI i) (nI l) v4 (nI (cd w (sc bs fs l))) (nI ro) q (nI (st0 + (ro * cd w (sc bs fs l) + (c + 1)))) f1 (nI (c + 1)) L1 ∧
      Mo_makeBlocks_l11 fu (nI l) (nI (mny w (sc bs fs l) r)) (q' + 1) f' (nI (ro * cd w (sc bs fs l) + c)) T' = Mo_makeBlocks_l11 fu (nI l) (nI (mny w (sc bs fs l) r)) q' f1' (nI (ro * cd w (sc bs fs l) + (c + 1))) T1 ∧ MP l w (sc bs fs l) tp r st0 side L T (ro * cd w (sc bs fs l) + (c + 1)) f1 L1 f1' T1 := by
  obtain ⟨m1, m2, m3, m4, m5, m6, m7, m8, m9⟩ := hMP
  have hw := D.1
  have hr := D.2.1
  have hsc := sc_in (k := l) D.2.2.1 D.2.2.2
  have hk : ro * cd w (sc bs fs l) + c < mny w (sc bs fs l) r := by unfold mny; exact ix_lt hc hro
  obtain ⟨dk, mk⟩ := dm_c (q := ro) hc
  have hV' : VL n w h st bs fs L' := VL_fr V (fun k _ => by rw [m1]) (m2 5 (by omega)) (m2 6 (by omega))
  have hT' : LayR w tp r bs fs T' := LayR_fr H m5
  have hT0 : T'.2 0 = T.2 0 := m6 0 (by decide) (by decide)
  have hT1 : T'.2 1 = T.2 1 := m6 1 (by decide) (by decide)
  have hih := hs_h hi V.2.2.1.1
  have hcl : ∀ y x, y < tp + r → x < w → Cl (T.2 0 (24 * y + x)) := fun y x hy hx => by
    have hyh : y < h := by omega
    rw [← hC.1 y x hyh hx]; exact hC.2 _ (ix_lt hx hyh)
  have hm := mny_le (w := w) (s := sc bs fs l) (r := r) hsc.1
  have hwr : w * r ≤ 24 * 24 := Nat.mul_le_mul (by omega) (by omega)
  have hcw := cd_le (a := w) hsc.1
  have hpl := ps_lt (l := l) hsc.1 hw.2 hr.2 hk
  have hplc : st0 + (ro * cd w (sc bs fs l) + c) < n := by
    rw [est0]; exact plc_lt V.2.2.2.2.2.1.1 hih.1 (by rw [er] at hk hm; omega)
  have hn576 := V.2.2.2.2.2.1.2
  generalize hkk : ro * cd w (sc bs fs l) + c = k at *
  have e2 : ro * cd w (sc bs fs l) + (c + 1) = k + 1 := by omega
  rw [e2]
  have hcm := cmean_eq (bare := bare) (L := L') (T := T) D hV' etp er hi hl side hside hC hM hn hk fu hfu
  rw [dk, mk] at hcm
  let val : Int32 := if bc (T.2 1) side w (sc bs fs l) tp r k = 0 then -1 else bv (T.2 1) (T.2 0) side w (sc bs fs l) tp r k
  have hval : val = if bc (T.2 1) side w (sc bs fs l) tp r k = 0 then -1 else bv (T.2 1) (T.2 0) side w (sc bs fs l) tp r k := rfl
  rw [← hval] at hcm
  let fl : Int32 := if bc (T.2 1) side w (sc bs fs l) tp r k = 0 then 1 else 0
  let mvl : Int32 := if bc (T.2 1) side w (sc bs fs l) tp r k = 0 then 0 else bv (T.2 1) (T.2 0) side w (sc bs fs l) tp r k
  let fn : Int32 := if f = -1 then val else f
  have hcl' : ∀ y x, y < tp + r → x < w → Cl (T'.2 0 (24 * y + x)) := by rw [hT0]; exact hcl
  -- the reference's step
  have hG : Mo_makeBlocks_l11 fu (nI l) (nI (mny w (sc bs fs l) r)) (q' + 1) f' (nI k) T' = Mo_makeBlocks_l11 fu (nI l) (nI (mny w (sc bs fs l) r)) q' fn (nI (k + 1)) (Ls (Ls T' 3 (ps w (sc bs fs l) l tp k) fl) 2 (ps w (sc bs fs l) l tp k) mvl) := by
    have hmT : ∀ p, p < 3 → Mo_mean fu (Ls T' 3 (ps w (sc bs fs l) l tp k) fl) (nI l) (nI k) (nI p) = some (if bc (T.2 1) side w (sc bs fs l) tp r k = 0 then -1 else nI (mv p (T.2 1) (T.2 0) side w (sc bs fs l) tp r k)) := by
      intro p hp
      have z := rmean_eq (T := Ls T' 3 (ps w (sc bs fs l) l tp k) fl) D (LayR_fr hT' rfl) hl hp side hside (by
        intro y x hy hx
        rw [ls_n (by decide)]; exact hcl' y x hy hx) hk fu hfu
      rw [ls_n (show (1 : Nat) ≠ 3 by decide), ls_n (show (0 : Nat) ≠ 3 by decide), hT0, hT1] at z
      exact z
    have hm0 := rmean_eq (T := T') (p := 0) D hT' hl (by decide) side hside hcl' hk fu hfu
    rw [hT0, hT1] at hm0
    rw [Mo_makeBlocks_l11, if_neg (nI_ge hk (by omega)), place_eq D hT' (by omega) (by omega)]
    simp only [Option.bind_some]
    rw [show (0 : Int32) = nI 0 from rfl, hm0]
    simp only [Option.bind_some]
    have efl : (if nI 0 ≤ (if bc (T.2 1) side w (sc bs fs l) tp r k = 0 then (-1 : Int32) else nI (mv 0 (T.2 1) (T.2 0) side w (sc bs fs l) tp r k)) then some (nI 0) else some (1 : Int32)) = some fl := by
      by_cases qb : bc (T.2 1) side w (sc bs fs l) tp r k = 0
      · simp only [fl, if_pos qb]; rw [if_neg (by decide)]
      · have := mv_lt (p := 0) (cl := T.2 0) qb
        simp only [fl, if_neg qb]; rw [if_pos (nI_le (by omega) (by omega))]; rfl
    rw [efl]
    simp only [Option.bind_some]
    have hz : zb fl = (fun x : Option (Nat × Int32 × LyS) => x) := by
      funext x
      apply zb_in
      dsimp only [fl]
      split
      · exact Or.inr rfl
      · exact Or.inl rfl
    rw [gd_nI (by omega) (by omega), hz]
    dsimp only
    rw [gd_nI (by omega) (by omega), nI_clamp (by omega), ls_s, pk_us]
    have emv : (if fl = nI 0 then (Mo_mean fu (Ls T' 3 (ps w (sc bs fs l) l tp k) fl) (nI l) (nI k) (nI 0)).bind fun r9 => (Mo_mean fu (Ls T' 3 (ps w (sc bs fs l) l tp k) fl) (nI l) (nI k) 1).bind fun r10 => (Mo_mean fu (Ls T' 3 (ps w (sc bs fs l) l tp k) fl) (nI l) (nI k) 2).bind fun r11 => some (((r9 <<< ((16 : Int32) &&& 31)) ||| (r10 <<< ((8 : Int32) &&& 31))) ||| r11) else some (nI 0)) = some mvl := by
      rw [show (1 : Int32) = nI 1 from rfl, show (2 : Int32) = nI 2 from rfl, hmT 0 (by decide), hmT 1 (by decide), hmT 2 (by decide)]
      by_cases qb : bc (T.2 1) side w (sc bs fs l) tp r k = 0
      · simp only [fl, mvl, if_pos qb]; rw [if_neg (by decide)]; rfl
      · simp only [fl, mvl, if_neg qb]; rw [if_pos (by rfl)]
        simp only [Option.bind_some]
        rw [or3 (mv_lt qb) (mv_lt qb) (mv_lt qb)]; rfl
    rw [emv]
    simp only [Option.bind_some]
    rw [gd_nI (by omega) (by omega), ql1, nI_add]
    have hf3 : (Ls (Ls T' 3 (ps w (sc bs fs l) l tp k) fl) 2 (ps w (sc bs fs l) l tp k) mvl).2 3 (ps w (sc bs fs l) l tp k) = fl := by
      rw [ls_n (by decide), ls_s, pk_us]
    have hf2 : (Ls (Ls T' 3 (ps w (sc bs fs l) l tp k) fl) 2 (ps w (sc bs fs l) l tp k) mvl).2 2 (ps w (sc bs fs l) l tp k) = mvl := by
      rw [ls_s, pk_us]
    rw [hf3, hf2, gd_nI (by omega) (by omega), gd_nI (by omega) (by omega)]
    subst m8
    rcases m9 with ⟨m9, -⟩ | m9
    · subst m9
      rw [if_neg (show ¬ nI 0 ≤ (-1 : Int32) by decide)]
      by_cases qb : bc (T.2 1) side w (sc bs fs l) tp r k = 0
      · simp only [fl, mvl, fn, val, if_pos qb]; rw [if_neg (by decide)]; rfl
      · simp only [fl, mvl, fn, val, if_neg qb]; rw [if_pos (by rfl)]; rfl
    · have hne := Cl_ne m9
      obtain ⟨cc, hcc, rfl⟩ := m9
      rw [if_pos (nI_le (by omega) (by omega))]
      simp only [fn, if_neg hne]
  -- the class's step
  have hF : Maker_makeBlocks_l45 fu n col msk bare (nI i) (nI l) v4 (nI (cd w (sc bs fs l))) (nI ro) (q + 1) (nI (st0 + k)) f (nI c) L' = Maker_makeBlocks_l45 fu n col msk bare (nI i) (nI l) v4 (nI (cd w (sc bs fs l))) (nI ro) q (nI (st0 + (k + 1))) fn (nI (c + 1)) (Ls L' l (st0 + k) val) := by
    rw [Maker_makeBlocks_l45, if_neg (nI_ge hc (by omega)), hcm]
    simp only [Option.bind_some]
    rw [lys_eq (show l < 4 by omega) hplc (by omega), Option.bind_some, nI_p1, nI_p1, Nat.add_assoc]
    by_cases qf : f = -1
    · simp only [fn, if_pos qf]
    · simp only [fn, if_neg qf]
  refine ⟨fn, Ls L' l (st0 + k) val, fn, _, hF, hG, m1, ?_, ?_, ?_, m5, ?_, ?_, rfl, ?_⟩
  · intro q hq
    rw [ls_n hq]; exact m2 q hq
  · intro j hj
    rw [ls_s, pk_un (by omega)]; exact m3 j (by omega)
  · intro k' hk'
    rw [ls_s, ls_s, ls_n (show (3 : Nat) ≠ 2 by decide), ls_s, ls_n (show (2 : Nat) ≠ 3 by decide)]
    by_cases qk : k' = k
    · subst qk
      rw [pk_us, pk_us, pk_us]
      by_cases qb : bc (T.2 1) side w (sc bs fs l) tp r k' = 0
      · simp only [if_pos qb, val, fl]; exact ⟨trivial, rfl⟩
      · simp only [if_neg qb, val, fl, mvl]; exact ⟨trivial, trivial, rfl⟩
    · have hne : ps w (sc bs fs l) l tp k' ≠ ps w (sc bs fs l) l tp k := fun e => qk (ps_inj hsc.1 hw.2 hr.2 (by omega) hk e)
      rw [pk_un (show st0 + k' ≠ st0 + k by omega), pk_un hne, pk_un hne]
      exact m4 k' (by omega)
  · intro q h2 h3
    rw [ls_n h2, ls_n h3]; exact m6 q h2 h3
  · intro P hP
    have hne : P ≠ ps w (sc bs fs l) l tp k := hP k hk
    rw [ls_s, ls_n (show (3 : Nat) ≠ 2 by decide), ls_s, ls_n (show (2 : Nat) ≠ 3 by decide), pk_un hne, pk_un hne]
    exact m7 P hP
  · by_cases qf : f = -1
    · by_cases qb : bc (T.2 1) side w (sc bs fs l) tp r k = 0
      · left
        refine ⟨by simp only [fn, val, if_pos qf, if_pos qb], ?_⟩
        intro k' hk'
        by_cases qk : k' = k
        · rw [qk]; exact qb
        · rcases m9 with ⟨-, m9⟩ | m9
          · exact m9 k' (by omega)
          · exact absurd qf (Cl_ne m9)
      · right
        simp only [fn, val, if_pos qf, if_neg qb]
        exact bv_cl qb
    · right
      rcases m9 with ⟨m9, -⟩ | m9
      · exact absurd m9 qf
      · simp only [fn, if_neg qf]; exact m9
end MPS
