section MPA
variable {n w h st i tp r bs fs : Nat} {col msk bare : Nat → Int32} {L T : LyS}
theorem mp_all (D : LD w tp r bs fs) (H : LayR w tp r bs fs T) (V : VL n w h st bs fs L) (etp : tp = i * st) (er : r = hs h st i) (hi : i < cd h st) {l : Nat} (hl : l = 0 ∨ l = 2) (side : Int32) (hside : side = if l = 2 then 1 else 0) (hC : RC w h col (T.2 0)) (hM : PB w h msk (T.2 1)) (hn : n = w * h) (fu : Nat) (hfu : 7000 ≤ fu) (st0 : Nat) (est0 : st0 = i * st * w) :
    ∃ f L' T', Maker_makeBlocks fu n col msk bare L (nI i) (nI l) = some (f, L') ∧ Mo_makeBlocks_l11 fu (nI l) (nI (mny w (sc bs fs l) r)) fu (-1) 0 T = some (0, f, T') ∧ MP l w (sc bs fs l) tp r st0 side L T (mny w (sc bs fs l) r) f L' f T' := by
  have hw := D.1
  have hr := D.2.1
  have hsc := sc_in (k := l) D.2.2.1 D.2.2.2
  have hm := mny_le (w := w) (s := sc bs fs l) (r := r) hsc.1
  have hwr : w * r ≤ 24 * 24 := Nat.mul_le_mul (by omega) (by omega)
  have hcw := cd_le (a := w) hsc.1
  have hcr := cd_le (a := r) hsc.1
  have hih := hs_h hi V.2.2.1.1
  have emn : cd r (sc bs fs l) * cd w (sc bs fs l) = mny w (sc bs fs l) r := Nat.mul_comm _ _
  obtain ⟨s', t', g1, g2, g3⟩ := loop2N (σ := Int32 × LyS) (τ := Int32 × LyS)
    (fun k ro s => Maker_makeBlocks_l36 fu n col msk bare (nI i) (nI l) (nI (cd r (sc bs fs l))) (nI (cd w (sc bs fs l))) k (nI (st0 + ro * cd w (sc bs fs l))) s.1 (nI ro) s.2)
    (fun k j t => Mo_makeBlocks_l11 fu (nI l) (nI (mny w (sc bs fs l) r)) k t.1 (nI j) t.2)
    (fun k s t => MP l w (sc bs fs l) tp r st0 side L T k s.1 s.2 t.1 t.2) (cd w (sc bs fs l)) (cd r (sc bs fs l))
    (by
      intro k k' ro s t hro hI
      obtain ⟨s2, t2, f1, f2, f3⟩ := loop2 (σ := Int32 × LyS) (τ := Int32 × LyS)
        (fun k c s => Maker_makeBlocks_l45 fu n col msk bare (nI i) (nI l) (nI (cd r (sc bs fs l))) (nI (cd w (sc bs fs l))) (nI ro) k (nI (st0 + (ro * cd w (sc bs fs l) + c))) s.1 (nI c) s.2)
        (fun k c t => Mo_makeBlocks_l11 fu (nI l) (nI (mny w (sc bs fs l) r)) k t.1 (nI (ro * cd w (sc bs fs l) + c)) t.2)
        (fun c s t => MP l w (sc bs fs l) tp r st0 side L T (ro * cd w (sc bs fs l) + c) s.1 s.2 t.1 t.2) (cd w (sc bs fs l))
        (by
          intro q q' c s t hc hI
          obtain ⟨a1, a2, a3, a4, z1, z2, z3⟩ := mp_step (col := col) (msk := msk) (bare := bare) D H V etp er hi hl side hside hC hM hn fu hfu st0 est0 hc hro (nI (cd r (sc bs fs l))) hI q q'
          exact ⟨(a1, a2), (a3, a4), z1, z2, z3⟩)
        (cd w (sc bs fs l)) (fu - cd w (sc bs fs l)) k' 0 s t (by omega) hI
      rw [show fu - cd w (sc bs fs l) + cd w (sc bs fs l) = fu by omega] at f1
      rw [show fu - cd w (sc bs fs l) = fu - cd w (sc bs fs l) - 1 + 1 by omega] at f1
      rw [Maker_makeBlocks_l45, if_pos (nI_le (Nat.le_refl _) (by omega))] at f1
      refine ⟨s2, t2, ?_, f2, f3⟩
      rw [Maker_makeBlocks_l36, if_neg (nI_ge hro (by omega))]
      rw [show (0 : Int32) = nI 0 from rfl]
      rw [Nat.add_zero] at f1
      rw [f1]
      simp only [Option.bind_some]
      rw [nI_p1, show st0 + (ro * cd w (sc bs fs l) + cd w (sc bs fs l)) = st0 + (ro + 1) * cd w (sc bs fs l) by rw [Nat.add_mul, Nat.one_mul]])
    (cd r (sc bs fs l)) (fu - cd r (sc bs fs l)) (fu - mny w (sc bs fs l) r) 0 (-1, L) (-1, T) (by omega)
    ⟨rfl, fun _ _ => rfl, fun _ _ => rfl, fun k' hk' => by omega, rfl, fun _ _ _ => rfl, fun _ _ => ⟨rfl, rfl⟩, rfl, Or.inl ⟨rfl, fun k' hk' => by omega⟩⟩
  dsimp only at g1 g2 g3
  rw [show fu - cd r (sc bs fs l) + cd r (sc bs fs l) = fu by omega, show fu - cd r (sc bs fs l) = fu - cd r (sc bs fs l) - 1 + 1 by omega, Maker_makeBlocks_l36, if_pos (nI_le (Nat.le_refl _) (by omega))] at g1
  rw [emn] at g2 g3
  rw [show fu - mny w (sc bs fs l) r + mny w (sc bs fs l) r = fu by omega, show fu - mny w (sc bs fs l) r = fu - mny w (sc bs fs l) r - 1 + 1 by omega] at g2
  have g2' : Mo_makeBlocks_l11 fu (nI l) (nI (mny w (sc bs fs l) r)) fu (-1) (nI (0 * cd w (sc bs fs l))) T = some (0, t'.1, t'.2) := by
    rw [g2, Mo_makeBlocks_l11, if_pos (nI_le (Nat.le_refl _) (by omega))]
  rw [Nat.zero_mul] at g1 g2'
  obtain ⟨f, L'⟩ := s'
  obtain ⟨f', T'⟩ := t'
  dsimp only at g1 g2' g3
  have ef : f = f' := g3.2.2.2.2.2.2.2.1
  subst ef
  refine ⟨f, L', T', ?_, g2', g3⟩
  unfold Maker_makeBlocks
  rw [rowsOf_eq V (by omega) (by omega), Option.bind_some, columnsOf_eq V (by omega), Option.bind_some, startOf_eq V, Option.bind_some, ← er, ← est0]
  rw [show (0 : Int32) = nI 0 from rfl]
  rw [Nat.add_zero] at g1
  rw [g1]; rfl
end MPA
/-! ===== the second pass: fills ===== -/
theorem bits_or : ∀ t : Fin 16, ∀ l : Fin 4, nI t.1 ||| ((1 : Int32) <<< (nI l.1 &&& 31)) = nI (t.1 ||| 2 ^ l.1) ∧ (t.1 ||| 2 ^ l.1) < 16 ∧ bit (t.1 ||| 2 ^ l.1) l.1 = 1 ∧ ∀ m : Fin 4, m ≠ l → bit (t.1 ||| 2 ^ l.1) m.1 = bit t.1 m.1 := by decide +kernel
theorem or_bits {t l : Nat} (ht : t < 16) (hl : l < 4) : nI t ||| ((1 : Int32) <<< (nI l &&& 31)) = nI (t ||| 2 ^ l) ∧ (t ||| 2 ^ l) < 16 ∧ bit (t ||| 2 ^ l) l = 1 ∧ ∀ m, m < 4 → m ≠ l → bit (t ||| 2 ^ l) m = bit t m := by
  obtain ⟨h1, h2, h3, h4⟩ := bits_or ⟨t, ht⟩ ⟨l, hl⟩
  exact ⟨h1, h2, h3, fun m hm hne => h4 ⟨m, hm⟩ (fun e => hne (congrArg Fin.val e))⟩
/-- what both have after k blocks of the second pass -/
def FP (l w s tp r st0 : Nat) (side : Int32) (mk : Nat → Int32) (L1 T1 : LyS) (bare bare' : Nat → Int32) (bf : Nat → Nat) (k : Nat) (L' T' : LyS) : Prop :=
  L'.1 = L1.1 ∧ (∀ q, q ≠ l → L'.2 q = L1.2 q) ∧ (∀ j, j < st0 ∨ st0 + k ≤ j → L'.2 l j = L1.2 l j) ∧
  (∀ k', k' < k → L'.2 l (st0 + k') = T'.2 2 (ps w s l tp k') ∧ Cl (L'.2 l (st0 + k'))) ∧
  (∀ j, j < st0 ∨ st0 + k ≤ j → bare' j = bare j) ∧
  (∀ k', k' < k → ∃ b, b < 16 ∧ bare' (st0 + k') = nI b ∧ bit b l = (if bc mk side w s tp r k' = 0 then 1 else 0) ∧ ∀ m, m < 4 → m ≠ l → bit b m = bit (bf (st0 + k')) m) ∧
  T'.1 = T1.1 ∧ (∀ q, q ≠ 2 → T'.2 q = T1.2 q) ∧ (∀ P, (∀ k', k' < k → P ≠ ps w s l tp k') → T'.2 2 P = T1.2 2 P)
section FPS
variable {n w h st i tp r bs fs : Nat} {col msk bare : Nat → Int32} {L1 T1 : LyS} {bf : Nat → Nat}
theorem fp_step (D : LD w tp r bs fs) (H : LayR w tp r bs fs T1) (hn576 : n ≤ 576) {l : Nat} (hl : l = 0 ∨ l = 2) (side : Int32) (mk : Nat → Int32) (fu : Nat) (hfu : 7000 ≤ fu) (st0 : Nat) (hst0 : st0 + mny w (sc bs fs l) r ≤ n) {f : Int32} (hf : Cl f)
    (hb : ∀ k', k' < mny w (sc bs fs l) r → bf (st0 + k') < 16 ∧ bare (st0 + k') = nI (bf (st0 + k')) ∧ bit (bf (st0 + k')) l = 0)
    (hmp : ∀ k', k' < mny w (sc bs fs l) r → if bc mk side w (sc bs fs l) tp r k' = 0 then L1.2 l (st0 + k') = -1 ∧ T1.2 3 (ps w (sc bs fs l) l tp k') = nI 1 else (L1.2 l (st0 + k') = T1.2 2 (ps w (sc bs fs l) l tp k') ∧ Cl (L1.2 l (st0 + k'))) ∧ T1.2 3 (ps w (sc bs fs l) l tp k') = nI 0)
    {ro c : Nat} (hc : c < cd w (sc bs fs l)) (hro : ro < cd r (sc bs fs l)) (v5 : Int32)
    {bare' : Nat → Int32} {L' T' : LyS} (hFP : FP l w (sc bs fs l) tp r st0 side mk L1 T1 bare bare' bf (ro * cd w (sc bs fs l) + c) L' T') (q q' : Nat) :
    ∃ bare2 L2 T2, Maker_fillBlocks_l44 n col msk (nI l) f v5 (nI (cd w (sc bs fs l))) (nI ro) (q + 1) (nI (st0 + (ro * cd w (sc bs fs l) + c))) (nI c) bare' L' = Maker_fillBlocks_l44 n col msk (nI l) f v5 (nI (cd w (sc bs fs l))) (nI ro) q (nI (st0 + (ro * cd w (sc bs fs l) + (c + 1)))) (nI (c + 1)) bare2 L2 ∧
      Mo_makeBlocks_l137 fu (nI l) (nI (mny w (sc bs fs l) r)) f (q' + 1) (nI (ro * cd w (sc bs fs l) + c)) T' = Mo_makeBlocks_l137 fu (nI l) (nI (mny w (sc bs fs l) r)) f q' (nI (ro * cd w (sc bs fs l) + (c + 1))) T2 ∧ FP l w (sc bs fs l) tp r st0 side mk L1 T1 bare bare2 bf (ro * cd w (sc bs fs l) + (c + 1)) L2 T2 := by
  obtain ⟨m1, m2, m3, m4, m5, m6, m7, m8, m9⟩ := hFP
  have hw := D.1
  have hr := D.2.1
  have hsc := sc_in (k := l) D.2.2.1 D.2.2.2
  have hk : ro * cd w (sc bs fs l) + c < mny w (sc bs fs l) r := by unfold mny; exact ix_lt hc hro
  obtain ⟨dk, mk'⟩ := dm_c (q := ro) hc
  have hT' : LayR w tp r bs fs T' := LayR_fr H m7
  have hcw := cd_le (a := w) hsc.1
  have hpl := ps_lt (l := l) hsc.1 hw.2 hr.2 hk
  have hrow : ro = 0 ∨ cd w (sc bs fs l) ≤ ro * cd w (sc bs fs l) + c := by
    rcases Nat.eq_zero_or_pos ro with z | z
    · exact Or.inl z
    · right
      have : 1 * cd w (sc bs fs l) ≤ ro * cd w (sc bs fs l) := Nat.mul_le_mul_right _ z
      omega
  have hrow0 : ro = 0 → ro * cd w (sc bs fs l) + c < cd w (sc bs fs l) := by rintro rfl; omega
  generalize hkk : ro * cd w (sc bs fs l) + c = k at *
  have e2 : ro * cd w (sc bs fs l) + (c + 1) = k + 1 := by omega
  rw [e2]
  have hLk : L'.2 l (st0 + k) = L1.2 l (st0 + k) := m3 _ (by omega)
  have hT3 : T'.2 3 = T1.2 3 := m8 3 (by decide)
  have hne : ∀ k', k' < mny w (sc bs fs l) r → k' ≠ k → ps w (sc bs fs l) l tp k' ≠ ps w (sc bs fs l) l tp k := fun k' h1 h2 e => h2 (ps_inj hsc.1 hw.2 hr.2 h1 hk e)
  have hmpk := hmp k hk
  obtain ⟨hb1, hb2, hb3⟩ := hb k hk
  have hbk : bare' (st0 + k) = nI (bf (st0 + k)) := by rw [m5 _ (by omega)]; exact hb2
  have ep1 : nI (st0 + k) + 1 = nI (st0 + (k + 1)) := nI_add _ 1
  by_cases qb : bc mk side w (sc bs fs l) tp r k = 0
  · rw [if_pos qb] at hmpk
    -- the values beside
    have hleft : 0 < c → Cl (L'.2 l (st0 + k - 1)) ∧ L'.2 l (st0 + k - 1) = T'.2 2 (ps w (sc bs fs l) l tp (k - 1)) := by
      intro z
      have := m4 (k - 1) (by omega)
      rw [show st0 + (k - 1) = st0 + k - 1 by omega] at this
      exact ⟨this.2, this.1⟩
    have habove : 0 < ro → Cl (L'.2 l (st0 + k - cd w (sc bs fs l))) ∧ L'.2 l (st0 + k - cd w (sc bs fs l)) = T'.2 2 (ps w (sc bs fs l) l tp (k - cd w (sc bs fs l))) := by
      intro z
      have := m4 (k - cd w (sc bs fs l)) (by omega)
      rw [show st0 + (k - cd w (sc bs fs l)) = st0 + k - cd w (sc bs fs l) by omega] at this
      exact ⟨this.2, this.1⟩
    have fin : ∀ v : Int32, Cl v →
        Maker_fillBetween (if c = 0 then -1 else L'.2 l (st0 + k - 1)) (if ro = 0 then -1 else L'.2 l (st0 + k - cd w (sc bs fs l))) f = some v →
        Mo_makeBlocks_l137 fu (nI l) (nI (mny w (sc bs fs l) r)) f (q' + 1) (nI k) T' = Mo_makeBlocks_l137 fu (nI l) (nI (mny w (sc bs fs l) r)) f q' (nI (k + 1)) (Ls T' 2 (ps w (sc bs fs l) l tp k) v) →
        ∃ bare2 L2 T2, Maker_fillBlocks_l44 n col msk (nI l) f v5 (nI (cd w (sc bs fs l))) (nI ro) (q + 1) (nI (st0 + k)) (nI c) bare' L' = Maker_fillBlocks_l44 n col msk (nI l) f v5 (nI (cd w (sc bs fs l))) (nI ro) q (nI (st0 + (k + 1))) (nI (c + 1)) bare2 L2 ∧
          Mo_makeBlocks_l137 fu (nI l) (nI (mny w (sc bs fs l) r)) f (q' + 1) (nI k) T' = Mo_makeBlocks_l137 fu (nI l) (nI (mny w (sc bs fs l) r)) f q' (nI (k + 1)) T2 ∧ FP l w (sc bs fs l) tp r st0 side mk L1 T1 bare bare2 bf (k + 1) L2 T2 := by
      intro v hv hfb hG
      obtain ⟨o1, o2, o3, o4⟩ := or_bits hb1 (show l < 4 by omega)
      refine ⟨upd bare' (st0 + k) (nI (bf (st0 + k) ||| 2 ^ l)), Ls L' l (st0 + k) v, _, ?_, hG, m1, ?_, ?_, ?_, ?_, ?_, m7, ?_, ?_⟩
      · rw [Maker_fillBlocks_l44, if_neg (nI_ge hc (by omega)), lyv_eq (show l < 4 by omega) (show st0 + k < n by omega) (by omega), Option.bind_some, hLk, hmpk.1, if_pos rfl, mkh_eq (show st0 + k < n by omega) (by omega), Option.bind_some, if_neg (show ¬ (1 : Int32) = 0 by decide)]
        have a1 : (if nI c ≤ 0 then some (-1 : Int32) else (Layers_value n L' (nI l) (nI (st0 + k) - 1)).bind fun r7 => some r7) = some (if c = 0 then -1 else L'.2 l (st0 + k - 1)) := by
          by_cases z : c = 0
          · rw [if_pos z, z, if_pos (by decide)]
          · have e : nI (st0 + k) - 1 = nI (st0 + k - 1) := pk_sub (b := 1) (by omega)
            rw [if_neg z, if_neg (show ¬ nI c ≤ 0 from nI_ge (a := 0) (by omega) (by omega)), e, lyv_eq (show l < 4 by omega) (show st0 + k - 1 < n by omega) (by omega), Option.bind_some]
        have a2 : (if nI ro ≤ 0 then some (-1 : Int32) else (Layers_value n L' (nI l) (nI (st0 + k) - nI (cd w (sc bs fs l)))).bind fun r9 => some r9) = some (if ro = 0 then -1 else L'.2 l (st0 + k - cd w (sc bs fs l))) := by
          by_cases z : ro = 0
          · rw [if_pos z, z, if_pos (by decide)]
          · have hro24 := cd_le (a := r) hsc.1
            rw [if_neg z, if_neg (show ¬ nI ro ≤ 0 from nI_ge (a := 0) (by omega) (by omega)), pk_sub (by omega), lyv_eq (show l < 4 by omega) (show st0 + k - cd w (sc bs fs l) < n by omega) (by omega), Option.bind_some]
        rw [a1, a2]
        simp only [Option.bind_some]
        rw [hfb]
        simp only [Option.bind_some]
        rw [lys_eq (show l < 4 by omega) (show st0 + k < n by omega) (by omega), Option.bind_some, gd_nI (by omega) (by omega), gd_nI (by omega) (by omega), nI_clamp (show st0 + k < 2 ^ 31 by omega), hbk, o1, ep1, nI_p1]
      · intro q hq
        rw [ls_n hq]; exact m2 q hq
      · intro j hj
        rw [ls_s, pk_un (by omega)]; exact m3 j (by omega)
      · intro k' hk'
        rw [ls_s, ls_s]
        by_cases qk : k' = k
        · rw [qk, pk_us, pk_us]; exact ⟨rfl, hv⟩
        · rw [pk_un (by omega), pk_un (hne k' (by omega) qk)]; exact m4 k' (by omega)
      · intro j hj
        rw [pk_un (by omega)]; exact m5 j (by omega)
      · intro k' hk'
        by_cases qk : k' = k
        · subst qk
          rw [pk_us, if_pos qb]
          exact ⟨_, o2, rfl, o3, o4⟩
        · rw [pk_un (by omega)]; exact m6 k' (by omega)
      · intro q hq
        rw [ls_n hq]; exact m8 q hq
      · intro P hP
        rw [ls_s, pk_un (hP k (by omega))]; exact m9 P (fun k' hk' => hP k' (by omega))
    -- the reference's step, as far as it is one
    have hG0 : Mo_makeBlocks_l137 fu (nI l) (nI (mny w (sc bs fs l) r)) f (q' + 1) (nI k) T' =
        (if c = 0 then (if ro = 0 then Mo_makeBlocks_l137 fu (nI l) (nI (mny w (sc bs fs l) r)) f q' (nI (k + 1)) (Ls T' 2 (ps w (sc bs fs l) l tp k) f) else Mo_makeBlocks_l137 fu (nI l) (nI (mny w (sc bs fs l) r)) f q' (nI (k + 1)) (Ls T' 2 (ps w (sc bs fs l) l tp k) (T'.2 2 (ps w (sc bs fs l) l tp (k - cd w (sc bs fs l))))))
        else (if ro = 0 then Mo_makeBlocks_l137 fu (nI l) (nI (mny w (sc bs fs l) r)) f q' (nI (k + 1)) (Ls T' 2 (ps w (sc bs fs l) l tp k) (T'.2 2 (ps w (sc bs fs l) l tp (k - 1)))) else
          (Mo_makeBlocks_l270 T' (nI l) (nI (mny w (sc bs fs l) r)) f (nI k) (nI (ps w (sc bs fs l) l tp k)) (T'.2 2 (ps w (sc bs fs l) l tp (k - 1))) (T'.2 2 (ps w (sc bs fs l) l tp (k - cd w (sc bs fs l)))) fu 0 0).bind fun r49 => Mo_makeBlocks_l137 fu (nI l) (nI (mny w (sc bs fs l) r)) f q' (nI (k + 1)) (Ls T' 2 (ps w (sc bs fs l) l tp k) r49.2))) := by
      have hgd : ∀ x : Option (Nat × LyS), gd (nI (ps w (sc bs fs l) l tp k)) 2304 x = x := fun x => gd_nI (by omega) (by omega)
      have hf3 : T'.2 3 (ps w (sc bs fs l) l tp k) = nI 1 := by rw [hT3]; exact hmpk.2
      rw [Mo_makeBlocks_l137, if_neg (nI_ge hk (by omega)), place_eq D hT' (by omega) (by omega)]
      simp only [Option.bind_some, hgd]
      rw [nI_clamp (by omega), hf3, if_neg n10, across_eq D hT' (by omega)]
      simp only [Option.bind_some]
      rw [dz_nI (by omega) (by omega), pk_rem (by omega) (by omega) (by omega), mk', nI_p1]
      have z0 : (if nI c ≤ 0 then some (0 : Int32) else some 1) = some (if c = 0 then 0 else 1) := by
        by_cases z : c = 0
        · rw [if_pos z, z, if_pos (by decide)]
        · rw [if_neg z, if_neg (show ¬ nI c ≤ 0 from nI_ge (a := 0) (by omega) (by omega))]
      have z1 : (if nI k < nI (cd w (sc bs fs l)) then some (0 : Int32) else some 1) = some (if ro = 0 then 0 else 1) := by
        by_cases z : ro = 0
        · rw [if_pos z, if_pos (nI_lt (hrow0 z) (by omega))]
        · rw [if_neg z, if_neg (nI_nlt (by omega) (by omega))]
      rw [z0, z1]
      simp only [Option.bind_some]
      have z2 : (if (if c = 0 then (0 : Int32) else 1) = 0 then some (0 : Int32) else (Mo_place T' (nI l) (nI k - 1)).bind fun r29 => gd r29 2304 (some (T'.2 2 r29.toNatClampNeg))) = some (if c = 0 then 0 else T'.2 2 (ps w (sc bs fs l) l tp (k - 1))) := by
        by_cases z : c = 0
        · rw [if_pos z, if_pos rfl, if_pos z]
        · have e : nI k - 1 = nI (k - 1) := pk_sub (b := 1) (by omega)
          have hp2 := ps_lt (l := l) hsc.1 hw.2 hr.2 (k := k - 1) (by omega)
          rw [if_neg z, if_neg ne10, if_neg z, e, place_eq D hT' (by omega) (by omega), Option.bind_some, gd_nI (by omega) (by omega), nI_clamp (by omega)]
      have z3 : (if (if ro = 0 then (0 : Int32) else 1) = 0 then some (0 : Int32) else (Mo_place T' (nI l) (nI k - nI (cd w (sc bs fs l)))).bind fun r33 => gd r33 2304 (some (T'.2 2 r33.toNatClampNeg))) = some (if ro = 0 then 0 else T'.2 2 (ps w (sc bs fs l) l tp (k - cd w (sc bs fs l)))) := by
        by_cases z : ro = 0
        · rw [if_pos z, if_pos rfl, if_pos z]
        · have hp2 := ps_lt (l := l) hsc.1 hw.2 hr.2 (k := k - cd w (sc bs fs l)) (by omega)
          rw [if_neg z, if_neg ne10, if_neg z, pk_sub (by omega), place_eq D hT' (by omega) (by omega), Option.bind_some, gd_nI (by omega) (by omega), nI_clamp (by omega)]
      rw [z2, z3]
      simp only [Option.bind_some]
      by_cases zc : c = 0
      · by_cases zr : ro = 0
        · simp only [if_pos zc, if_pos zr, if_pos]
        · simp only [if_pos zc, if_neg zr, if_pos, if_neg ne10]
      · by_cases zr : ro = 0
        · simp only [if_neg zc, if_pos zr, if_pos, if_neg ne10]
        · simp only [if_neg zc, if_neg zr, if_neg ne10]
    unfold Maker_fillBetween Maker_fillBetween_b12 at fin
    by_cases zc : c = 0
    · by_cases zr : ro = 0
      · rw [if_pos zc, if_pos zr] at hG0
        rw [if_pos zc, if_pos zr] at fin
        exact fin f hf (by rw [if_pos rfl, if_pos rfl]) hG0
      · obtain ⟨y1, y2⟩ := habove (by omega)
        rw [if_pos zc, if_neg zr, ← y2] at hG0
        rw [if_pos zc, if_neg zr] at fin
        exact fin _ y1 (by rw [if_pos rfl, if_neg (Cl_ne y1), if_pos rfl]) hG0
    · obtain ⟨x1, x2⟩ := hleft (by omega)
      by_cases zr : ro = 0
      · rw [if_neg zc, if_pos zr, ← x2] at hG0
        rw [if_neg zc, if_pos zr] at fin
        exact fin _ x1 (by rw [if_neg (Cl_ne x1), if_neg (Cl_ne x1), if_pos rfl]) hG0
      · obtain ⟨y1, y2⟩ := habove (by omega)
        rw [if_neg zc, if_neg zr, ← x2, ← y2] at hG0
        rw [if_neg zc, if_neg zr] at fin
        obtain ⟨v, hv, u1, u2⟩ := middle_eq x1 y1 T' (nI l) (nI (mny w (sc bs fs l) r)) f (nI k) (nI (ps w (sc bs fs l) l tp k)) fu hfu
        rw [u2, Option.bind_some] at hG0
        exact fin v hv (by rw [if_neg (Cl_ne x1), if_neg (Cl_ne x1), if_neg (Cl_ne y1), u1]; rfl) hG0
  · rw [if_neg qb] at hmpk
    have hf3 : T'.2 3 (ps w (sc bs fs l) l tp k) = nI 0 := by rw [hT3]; exact hmpk.2
    refine ⟨bare', L', T', ?_, ?_, m1, m2, fun j hj => m3 j (by omega), ?_, fun j hj => m5 j (by omega), ?_, m7, m8, fun P hP => m9 P (fun k' hk' => hP k' (by omega))⟩
    · rw [Maker_fillBlocks_l44, if_neg (nI_ge hc (by omega)), lyv_eq (show l < 4 by omega) (show st0 + k < n by omega) (by omega), Option.bind_some, hLk, if_neg (Cl_ne hmpk.1.2), ep1, nI_p1]
    · rw [Mo_makeBlocks_l137, if_neg (nI_ge hk (by omega)), place_eq D hT' (by omega) (by omega), Option.bind_some, gd_nI (by omega) (by omega), nI_clamp (by omega), hf3, if_pos e00, nI_p1]
    · intro k' hk'
      by_cases qk : k' = k
      · subst qk
        rw [hLk, m9 _ (fun k2 hk2 => (hne k2 (by omega) (by omega)).symm)]
        exact hmpk.1
      · exact m4 k' (by omega)
    · intro k' hk'
      by_cases qk : k' = k
      · subst qk
        rw [if_neg qb]
        exact ⟨_, hb1, hbk, hb3, fun m _ _ => rfl⟩
      · exact m6 k' (by omega)
end FPS
