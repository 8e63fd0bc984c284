/-! ===== read: runs, a layer ===== -/
section RR
variable {n m w tp r bs fs st0 l : Nat} {B : ByS} {fd hd : Nat → Int32}
/-- the class fills up a run -/
theorem fill_c (H : RLy n m w tp r bs fs st0 l B fd) (v : Int32) (pl rf : Int32) : ∀ (a k : Nat) (L : LyS) (f : Nat), k + a ≤ mny w (sc bs fs l) r → ∃ L', Reader_readRuns_l9 n B hd (nI l) (nI (st0 + mny w (sc bs fs l) r)) (f + a) (nI a) v (nI (st0 + k)) pl rf L = Reader_readRuns_l9 n B hd (nI l) (nI (st0 + mny w (sc bs fs l) r)) f 0 v (nI (st0 + (k + a))) pl rf L' ∧ L'.1 = L.1 ∧ (∀ q, q ≠ l → L'.2 q = L.2 q) ∧ ∀ j, L'.2 l j = if st0 + k ≤ j ∧ j < st0 + (k + a) then v else L.2 l j := by
  obtain ⟨h1, h2, h3, h4, h5⟩ := id H
  intro a
  induction a with
  | zero =>
    intro k L f hk
    exact ⟨L, rfl, rfl, fun _ _ => rfl, fun j => by rw [if_neg (by omega)]⟩
  | succ a ih =>
    intro k L f hk
    obtain ⟨L', a1, a2, a3, a4⟩ := ih (k + 1) (Ls L l (st0 + k) v) f (by omega)
    refine ⟨L', ?_, a2, fun q hq => by rw [a3 q hq, ls_n hq], ?_⟩
    · show Reader_readRuns_l9 n B hd (nI l) (nI (st0 + mny w (sc bs fs l) r)) (f + a + 1) (nI (a + 1)) v (nI (st0 + k)) pl rf L = _
      rw [Reader_readRuns_l9, if_neg (nI_ge (by omega) (by omega)), if_neg (nI_ne0 (by omega) (by omega)), lys_eq h2 (show st0 + k < n by omega) (by omega), Option.bind_some, nI_p1, Nat.add_assoc, pk_m1, a1, show k + 1 + a = k + (a + 1) by omega]
    · intro j
      rw [a4 j, ls_s]
      by_cases z : j = st0 + k
      · rw [z, pk_us, if_neg (by omega), if_pos (by omega)]
      · rw [pk_un z]
        by_cases z2 : st0 + (k + 1) ≤ j ∧ j < st0 + (k + 1 + a)
        · rw [if_pos z2, if_pos (by omega)]
        · rw [if_neg z2, if_neg (by omega)]
/-- the reference fills up a run -/
theorem fill_r (H : RLy n m w tp r bs fs st0 l B fd) (v : Int32) {k x p : Nat} (hx : k + x ≤ mny w (sc bs fs l) r) : ∀ (a j : Nat) (T : LyS) (f : Nat), j + a = x → TS m fd p T → LayR w tp r bs fs T → a < f → ∃ T', Mo_takeRuns_l40 (nI l) (nI (mny w (sc bs fs l) r)) (nI k) (nI x) v f (nI j) T = some (0, T') ∧ TS m fd p T' ∧ TF l tp r T T' ∧ (∀ k', k' < mny w (sc bs fs l) r → T'.2 7 (ps w (sc bs fs l) l tp k') = if k + j ≤ k' ∧ k' < k + x then v else T.2 7 (ps w (sc bs fs l) l tp k')) := by
  obtain ⟨h1, h2, h3, h4, h5⟩ := id H
  have hsc := sc_in (k := l) h1.2.2.1 h1.2.2.2
  intro a
  induction a with
  | zero =>
    intro j T f hj hT hL hf
    obtain ⟨g, rfl⟩ : ∃ g, f = g + 1 := ⟨f - 1, by omega⟩
    rw [Mo_takeRuns_l40, if_pos (nI_le (by omega) (by omega))]
    exact ⟨T, rfl, hT, TF_r, fun k' _ => by rw [if_neg (by omega)]⟩
  | succ a ih =>
    intro j T f hj hT hL hf
    obtain ⟨g, rfl⟩ : ∃ g, f = g + 1 := ⟨f - 1, by omega⟩
    have hkj : k + j < mny w (sc bs fs l) r := by omega
    have hps := ps_lt (l := l) hsc.1 h1.1.2 h1.2.1.2 hkj
    have fr := TF_set (l := l) (T := T) (v := v) hsc.1 h1.1.2 h1.2.1.2 hkj
    obtain ⟨T', a1, a2, a3, a4⟩ := ih (j + 1) (Ls T 7 (ps w (sc bs fs l) l tp (k + j)) v) g (by omega) (TS_set hT) (TF_lay fr hL) (by omega)
    refine ⟨T', ?_, a2, TF_t fr a3, ?_⟩
    · rw [Mo_takeRuns_l40, if_neg (nI_ge (by omega) (by omega)), hT.2.2.2.1, if_neg m1_ge0, nI_add, place_eq h1 hL h2 (by omega), Option.bind_some, gd_nI (by omega) (by omega), nI_clamp (by omega), nI_p1]
      exact a1
    · intro k' hk'
      rw [a4 k' hk', ls_s]
      by_cases z : k' = k + j
      · rw [z, pk_us, if_neg (by omega), if_pos (by omega)]
      · rw [pk_un (fun e => z (ps_inj hsc.1 h1.1.2 h1.2.1.2 hk' hkj e))]
        by_cases z2 : k + (j + 1) ≤ k' ∧ k' < k + x
        · rw [if_pos z2, if_pos (by omega)]
        · rw [if_neg z2, if_neg (by omega)]
theorem rd_runs (H : RLy n m w tp r bs fs st0 l B fd) (fu : Nat) (hfu : 7000 ≤ fu) (rf : Int32) : ∀ (N k p : Nat) (L T : LyS) (v0 : Int32) (f f' : Nat), mny w (sc bs fs l) r - k ≤ N → k ≤ mny w (sc bs fs l) r → TS m fd p T → LayR w tp r bs fs T → RV w (sc bs fs l) l tp st0 k L T → mny w (sc bs fs l) r - k < f → mny w (sc bs fs l) r - k < f' →
    (∃ p' L' T', Reader_readRuns_l9 n B hd (nI l) (nI (st0 + mny w (sc bs fs l) r)) f 0 v0 (nI (st0 + k)) (nI p) rf L = some (0, nI p', rf, L') ∧ Mo_takeRuns_l8 fu (nI l) (nI (mny w (sc bs fs l) r)) f' (nI k) T = some (0, T') ∧ p ≤ p' ∧ TS m fd p' T' ∧ LF l st0 (mny w (sc bs fs l) r) L L' ∧ TF l tp r T T' ∧ RV w (sc bs fs l) l tp st0 (mny w (sc bs fs l) r) L' T') ∨
    (∃ q L' T', Reader_readRuns_l9 n B hd (nI l) (nI (st0 + mny w (sc bs fs l) r)) f 0 v0 (nI (st0 + k)) (nI p) rf L = some (1, nI q, nI q, L') ∧ Mo_takeRuns_l8 fu (nI l) (nI (mny w (sc bs fs l) r)) f' (nI k) T = some (0, T') ∧ T'.1 12 = nI q ∧ q ≤ 6400 ∧ LF l st0 (mny w (sc bs fs l) r) L L' ∧ TF l tp r T T') := by
  obtain ⟨h1, h2, h3, h4, h5⟩ := id H
  have hsc := sc_in (k := l) h1.2.2.1 h1.2.2.2
  have hend : ∀ (k : Nat) (T1 : LyS) (g' : Nat) (u : Nat), 1 ≤ g' → u ≤ 6400 → T1.1 12 = nI u → ∀ x : Int32, Mo_takeRuns_l8 fu (nI l) (nI (mny w (sc bs fs l) r)) g' x T1 = some (0, T1) := by
    intro k T1 g' u hg hu hT1 x
    obtain ⟨g2, rfl⟩ : ∃ g2, g' = g2 + 1 := ⟨g' - 1, by omega⟩
    rw [Mo_takeRuns_l8, hT1, if_pos (nI_pos' (show u < 2 ^ 31 by omega))]
    split <;> rfl
  intro N
  induction N with
  | zero =>
    intro k p L T v0 f f' hN hk hT hL hR hf hf'
    obtain ⟨g, rfl⟩ : ∃ g, f = g + 1 := ⟨f - 1, by omega⟩
    obtain ⟨g', rfl⟩ : ∃ g, f' = g + 1 := ⟨f' - 1, by omega⟩
    left
    rw [Reader_readRuns_l9, if_pos (nI_le (by omega) (by omega)), Mo_takeRuns_l8, if_pos (nI_le (by omega) (by omega))]
    refine ⟨p, L, T, rfl, rfl, Nat.le_refl _, hT, LF_r, TF_r, ?_⟩
    rw [show mny w (sc bs fs l) r = k by omega]; exact hR
  | succ N ih =>
    intro k p L T v0 f f' hN hk hT hL hR hf hf'
    obtain ⟨g, rfl⟩ : ∃ g, f = g + 1 := ⟨f - 1, by omega⟩
    obtain ⟨g', rfl⟩ : ∃ g, f' = g + 1 := ⟨f' - 1, by omega⟩
    by_cases hkm : k < mny w (sc bs fs l) r
    · have hp64 := hT.2.2.2.2
      have hsub : nI (mny w (sc bs fs l) r) - nI k = nI (mny w (sc bs fs l) r - k) := pk_sub (by omega)
      have hsub2 : nI (st0 + mny w (sc bs fs l) r) - nI (st0 + k) = nI (mny w (sc bs fs l) r - k) := by
        rw [pk_sub (by omega)]; exact congrArg nI (by omega)
      have hF : Mo_takeRuns_l8 fu (nI l) (nI (mny w (sc bs fs l) r)) (g' + 1) (nI k) T = (Mo_takeIn T (nI 1) (nI (mny w (sc bs fs l) r - k))).bind fun r2 => (Mo_takeValue r2.2 (nI l)).bind fun r3 => (Mo_takeRuns_l40 (nI l) (nI (mny w (sc bs fs l) r)) (nI k) r2.1 r3.1 fu 0 r3.2).bind fun r8 => Mo_takeRuns_l8 fu (nI l) (nI (mny w (sc bs fs l) r)) g' (nI k + r2.1) r8.2 := by
        rw [Mo_takeRuns_l8, if_neg (nI_ge hkm (by omega)), hT.2.2.2.1, if_neg m1_ge0, hsub]; rfl
      have hC : Reader_readRuns_l9 n B hd (nI l) (nI (st0 + mny w (sc bs fs l) r)) (g + 1) 0 v0 (nI (st0 + k)) (nI p) rf L = (Reader_take n B (nI p) rf hd L (nI 1) (nI (min 255 (mny w (sc bs fs l) r - k)))).bind fun r3 => (if r3.1 = -1 then some ((-1 : Int32), r3.2.1, r3.2.2) else (Reader_takeValue n B r3.2.1 r3.2.2 hd L (nI l)).bind fun r5 => some (r5.1, r5.2.1, r5.2.2)).bind fun r4 => if r4.1 = -1 then some (1, r4.2.1, r4.2.2, L) else Reader_readRuns_l9 n B hd (nI l) (nI (st0 + mny w (sc bs fs l) r)) g (r3.1 + -1) r4.1 (nI (st0 + k + 1)) r4.2.1 r4.2.2 (Ls L l (st0 + k) r4.1) := by
        have hg : ∀ x : Int32, Layers_set n L (nI l) (nI (st0 + k)) x = some (Ls L l (st0 + k) x) := fun x => lys_eq h2 (show st0 + k < n by omega) (by omega)
        rw [Reader_readRuns_l9, if_neg (nI_ge (by omega) (by omega)), if_pos rfl, hsub2, show (255 : Int32) = nI 255 from rfl, mn_eq (by omega) (by omega), nI_p1]
        simp only [hg, Option.bind_some]
        rfl
      rw [hF, hC]
      -- the class's bounds are narrower only above all bytes
      have hT2 : (∃ b, b < 256 ∧ 1 ≤ b ∧ b ≤ mny w (sc bs fs l) r - k ∧ p < m ∧ Reader_take n B (nI p) rf hd L (nI 1) (nI (min 255 (mny w (sc bs fs l) r - k))) = some (nI b, nI (p + 1), rf) ∧ Mo_takeIn T (nI 1) (nI (mny w (sc bs fs l) r - k)) = some (nI b, Lf T 11 (nI (p + 1)))) ∨ (Reader_take n B (nI p) rf hd L (nI 1) (nI (min 255 (mny w (sc bs fs l) r - k))) = some (-1, nI p, nI p) ∧ ∃ u T', u < 256 ∧ Mo_takeIn T (nI 1) (nI (mny w (sc bs fs l) r - k)) = some (nI u, T') ∧ TB T T' p) := by
        rcases take2 (n := n) (rf := rf) (hd := hd) (L := L) h5 hT 1 (mny w (sc bs fs l) r - k) (by omega) (by omega) with ⟨b, hb, c1, c2, c3, c4, c5⟩ | ⟨c4, u, T', hu, c5, c6⟩
        · left
          obtain ⟨b', hb', eb'⟩ := (h5.2.2 p c3).2
          have := mtake_in hT c3
          have hbb : fd p = nI b := by
            unfold Mo_takeIn at c5
            rw [this, eb', Option.bind_some] at c5
            dsimp only at c5
            by_cases y1 : nI b' < nI 1
            · rw [if_pos y1] at c5
              have : ∃ r2, Mo_refuse (Lf T 11 (nI (p + 1))) ((Lf T 11 (nI (p + 1))).1 11 - 1) = some r2 := by
                unfold Mo_refuse; split <;> exact ⟨_, rfl⟩
              obtain ⟨r2, e2⟩ := this
              rw [e2, Option.bind_some] at c5
              rw [eb']; exact congrArg Prod.fst (Option.some.inj c5)
            · rw [if_neg y1] at c5
              by_cases y2 : nI b' ≤ nI (mny w (sc bs fs l) r - k)
              · rw [if_pos y2] at c5
                rw [eb']; exact congrArg Prod.fst (Option.some.inj c5)
              · rw [if_neg y2] at c5
                have : ∃ r2, Mo_refuse (Lf T 11 (nI (p + 1))) ((Lf T 11 (nI (p + 1))).1 11 - 1) = some r2 := by
                  unfold Mo_refuse; split <;> exact ⟨_, rfl⟩
                obtain ⟨r2, e2⟩ := this
                rw [e2, Option.bind_some] at c5
                rw [eb']; exact congrArg Prod.fst (Option.some.inj c5)
          exact ⟨b, hb, c1, c2, c3, take_in h5 c3 hbb hb c1 (by omega) (by omega), c5⟩
        · right
          refine ⟨?_, u, T', hu, c5, c6⟩
          by_cases hp : p < m
          · obtain ⟨b, hb, eb⟩ := (h5.2.2 p hp).2
            by_cases y : 1 ≤ b ∧ b ≤ mny w (sc bs fs l) r - k
            · rw [take_in h5 hp eb hb y.1 y.2 (by omega)] at c4
              have := congrArg (fun z => z.map Prod.fst) c4
              exact absurd (Option.some.inj this) (nI_ne_m1 (by omega))
            · exact take_out h5 hp eb hb (by omega) (by omega)
          · exact take_lack h5 (by omega) (by omega)
      rcases hT2 with ⟨b, hb, c1, c2, c3, c4, c5⟩ | ⟨c4, u, T1, hu, c5, c6⟩
      · rw [c4, c5, Option.bind_some, Option.bind_some]
        dsimp only
        rw [if_neg (nI_ne_m1 (by omega))]
        have hT1 := TS_p hT (p' := p + 1) (by omega)
        have fr0 : TF l tp r T (Lf T 11 (nI (p + 1))) := ⟨fun k h11 _ => lf_n h11, fun _ _ => rfl, fun _ _ => rfl⟩
        rcases value2 (n := n) (rf := rf) (hd := hd) (L := L) h5 hT1 h2 with ⟨v, T2, hv, d1, d2, d3, d4⟩ | ⟨q, u, T2, d1, d2, d3⟩
        · have hcl : ¬ v = -1 := by
            unfold Vl at hv
            by_cases z : l = 1
            · rw [if_pos z] at hv; exact Cl_ne (Bi_cl hv)
            · rw [if_neg z] at hv; exact Cl_ne hv
          rw [d1, d2, Option.bind_some, Option.bind_some]
          dsimp only
          rw [Option.bind_some]
          dsimp only
          rw [if_neg hcl]
          have hT2 := TA_s hT1 d3 d4
          have fr1 : TF l tp r T T2 := TF_t fr0 (TA_f d3)
          have hvbp : 1 ≤ vb l := by unfold vb; split <;> omega
          obtain ⟨T3, e1, e2, e3, e4⟩ := fill_r H v (k := k) (x := b) (by omega) b 0 T2 fu (by omega) hT2 (TF_lay fr1 hL) (by omega)
          obtain ⟨a, rfl⟩ : ∃ a, b = a + 1 := ⟨b - 1, by omega⟩
          obtain ⟨L3, o1, o2, o3, o4⟩ := fill_c (hd := hd) H v (nI (p + 1 + vb l)) rf a (k + 1) (Ls L l (st0 + k) v) (g - a) (by omega)
          rw [show g - a + a = g by omega, show st0 + (k + 1) = st0 + k + 1 by omega] at o1
          rw [pk_m1, o1, show (0 : Int32) = nI 0 from rfl, e1, Option.bind_some, nI_add]
          dsimp only
          rw [show k + 1 + a = k + (a + 1) by omega]
          have frL : LF l st0 (mny w (sc bs fs l) r) L L3 := by
            refine ⟨by rw [o2]; rfl, fun q hq => by rw [o3 q hq, ls_n hq], ?_⟩
            intro j hj
            rw [o4 j, if_neg (by omega), ls_s, pk_un (by omega)]
          have hR3 : RV w (sc bs fs l) l tp st0 (k + (a + 1)) L3 T3 := by
            intro k' hk'
            rw [e4 k' (by omega), o4, ls_s]
            by_cases z : k' < k
            · rw [if_neg (by omega), if_neg (by omega), pk_un (by omega), d3.2.2]
              exact hR k' z
            · by_cases z2 : k' = k
              · rw [z2, if_neg (by omega), pk_us, if_pos (by omega)]; exact ⟨rfl, hv⟩
              · rw [if_pos (by omega), if_pos (by omega)]; exact ⟨rfl, hv⟩
          rcases ih (k + (a + 1)) (p + 1 + vb l) L3 T3 v (g - a) g' (by omega) (by omega) e2 (TF_lay (TF_t fr1 e3) hL) hR3 (by omega) (by omega) with ⟨p', L', T', b1, b2, b3, b4, b5, b6, b7⟩ | ⟨q, L', T', b1, b2, b3, b4, b5, b6⟩
          · left
            exact ⟨p', L', T', b1, b2, by omega, b4, LF_t frL b5, TF_t fr1 (TF_t e3 b6), b7⟩
          · right
            exact ⟨q, L', T', b1, b2, b3, b4, LF_t frL b5, TF_t fr1 (TF_t e3 b6)⟩
        · right
          rw [d1, d2, Option.bind_some, Option.bind_some]
          dsimp only
          rw [Option.bind_some]
          dsimp only
          rw [if_pos rfl]
          obtain ⟨t1, t2, t3, t4⟩ := id d3
          have hl40 : Mo_takeRuns_l40 (nI l) (nI (mny w (sc bs fs l) r)) (nI k) (nI b) u fu 0 T2 = some (0, T2) := by
            obtain ⟨f2, rfl⟩ : ∃ f2, fu = f2 + 1 := ⟨fu - 1, by omega⟩
            rw [Mo_takeRuns_l40, t1, if_pos (nI_pos' (show q < 2 ^ 31 by omega))]
            split <;> rfl
          rw [hl40, Option.bind_some, hend k T2 g' q (by omega) t2 t1]
          exact ⟨q, L, T2, rfl, rfl, t1, t2, LF_r, TF_t fr0 (TB_f d3)⟩
      · right
        obtain ⟨t1, t2, t3, t4⟩ := id c6
        obtain ⟨uu, huu⟩ := value_ref (T := T1) (q := p) (by omega) t1 (nI l)
        rw [c4, c5, Option.bind_some, Option.bind_some]
        dsimp only
        rw [if_pos rfl, Option.bind_some, huu, Option.bind_some]
        dsimp only
        rw [if_pos rfl]
        have hl40 : Mo_takeRuns_l40 (nI l) (nI (mny w (sc bs fs l) r)) (nI k) (nI u) uu fu 0 T1 = some (0, T1) := by
          obtain ⟨f2, rfl⟩ : ∃ f2, fu = f2 + 1 := ⟨fu - 1, by omega⟩
          rw [Mo_takeRuns_l40, t1, if_pos (nI_pos' (show p < 2 ^ 31 by omega))]
          split <;> rfl
        rw [hl40, Option.bind_some, hend k T1 g' p (by omega) t2 t1]
        exact ⟨p, L, T1, rfl, rfl, t1, t2, LF_r, TB_f c6⟩
    · left
      rw [Reader_readRuns_l9, if_pos (nI_le (by omega) (by omega)), Mo_takeRuns_l8, if_pos (nI_le (by omega) (by omega))]
      refine ⟨p, L, T, rfl, rfl, Nat.le_refl _, hT, LF_r, TF_r, ?_⟩
      rw [show mny w (sc bs fs l) r = k by omega]; exact hR
end RR
