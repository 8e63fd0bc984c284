/-! ===== a stripe: the rest ===== -/
def RP (w st0 tp r : Nat) (L T : LyS) (k d : Nat) (L' : LyS) (T' : LyS) : Prop :=
  (d = 0 ∨ d = 1) ∧ L'.1 = L.1 ∧ (∀ q, q ≠ 3 → L'.2 q = L.2 q) ∧ (∀ j, j < st0 ∨ st0 + k ≤ j → L'.2 3 j = L.2 3 j) ∧
  (∀ k', k' < k → L'.2 3 (st0 + k') = T'.2 2 (ps w 1 3 tp k') ∧ Cl (L'.2 3 (st0 + k'))) ∧
  T'.1 = T.1 ∧ (∀ q, q ≠ 2 → T'.2 q = T.2 q) ∧ ∀ P, ¬ InR 3 tp r P → T'.2 2 P = T.2 2 P
section RPS
variable {n w h st i tp r bs fs st0 b0 b1 : Nat} {col msk bare : Nat → Int32} {L T : LyS}
/-- the reference's value to take away, at sample k of the stripe -/
theorem rp_ref (D : LD w tp r bs fs) (H : LayR w tp r bs fs T) (etp : tp = i * st) (hi : i < 24) (hst : 1 ≤ st ∧ st ≤ 24) (e5 : T.1 5 = nI st) (eth : T.2 4 (4 * i + 1) = nI b1) (hb1 : b1 = 0 ∨ b1 = 1) {k : Nat} (hk : k < w * r) :
    ∃ l, (l = 0 ∨ l = 2) ∧ l = jl b1 (T.2 2 (ps w 1 1 tp k)) ∧ Mo_joinedAt T (nI (k % w)) (nI (tp + k / w)) = some (T.2 2 (ps w (sc bs fs l) l tp (kx w (sc bs fs l) tp (k % w) (tp + k / w)))) := by
  obtain ⟨k1, k2⟩ := k_in D.1.1 hk
  refine ⟨jl b1 (T.2 2 (ps w 1 1 tp k)), jl_or _ _, rfl, ?_⟩
  apply mjoined_eq D H e5 hst etp hi k2 (Nat.le_add_right tp (k / w)) (by rw [Nat.add_sub_cancel_left]; exact k1) eth hb1
  rw [ps_1k, show 576 * 1 + 24 * (tp + k / w) + k % w = 576 + 24 * (tp + k / w) + k % w by omega]
theorem rp_step (D : LD w tp r bs fs) (H : LayR w tp r bs fs T) (V : VL n w h st bs fs L) (etp : tp = i * st) (er : r = hs h st i) (hi : i < cd h st) (hC : RC w h col (T.2 0)) (hn : n = w * h) (e1 : T.1 1 = nI w) (e5 : T.1 5 = nI st) (eth : T.2 4 (4 * i + 1) = nI b1) (hb1 : b1 = 0 ∨ b1 = 1) (fu : Nat) (hfu : 7000 ≤ fu) (est0 : st0 = i * st * w)
    (hmk : ∀ k, k < w * r → Bi (msk (st0 + k)) ∧ T.2 2 (ps w 1 1 tp k) = msk (st0 + k) ∧ (msk (st0 + k) = nI 1 → b1 = 1) ∧ (msk (st0 + k) = nI 0 → b0 = 1))
    (hbl : ∀ l k, l = 0 ∨ l = 2 → pr b0 b1 l = 1 → k < mny w (sc bs fs l) r → L.2 l (st0 + k) = T.2 2 (ps w (sc bs fs l) l tp k))
    (p1 p2 v4 : Int32) {ro c : Nat} (hc : c < w) (hro : ro < r) {d : Nat} {L' T' : LyS} (hRP : RP w st0 tp r L T (ro * w + c) d L' T') (q q' : Nat) :
    ∃ d2 L2 T2, Maker_makeRest_l41 n col msk bare v4 (nI (tp + ro)) (q + 1) (nI d) (nI (st0 + (ro * w + c))) (nI c) L' = Maker_makeRest_l41 n col msk bare v4 (nI (tp + ro)) q (nI d2) (nI (st0 + (ro * w + (c + 1)))) (nI (c + 1)) L2 ∧
      Mo_makeStripe_l195 fu p1 p2 (q' + 1) (nI d) (nI (ro * w + c)) T' = Mo_makeStripe_l195 fu p1 p2 q' (nI d2) (nI (ro * w + (c + 1))) T2 ∧ RP w st0 tp r L T (ro * w + (c + 1)) d2 L2 T2 := by
  obtain ⟨m0, m1, m2, m3, m4, m5, m6, m7⟩ := hRP
  have hw := D.1
  have hr := D.2.1
  have hih := hs_h hi V.2.2.1.1
  have h24 := cd_24 V.2.2.1.1 V.2.1.2
  have hn576 := V.2.2.2.2.2.1.2
  have hkr : ro * w + c < w * r := ix_lt hc hro
  have hwr : w * r ≤ 24 * 24 := Nat.mul_le_mul (by omega) (by omega)
  have hplc : ∀ k, k < w * r → st0 + k < n := fun k hk => by
    rw [est0]; exact plc_lt V.2.2.2.2.2.1.1 hih.1 (by rw [er] at hk; exact hk)
  obtain ⟨dk, mk'⟩ := dm_c (q := ro) hc
  have hV' : VL n w h st bs fs L' := VL_fr V (fun k _ => by rw [m1]) (m2 5 (by decide)) (m2 6 (by decide))
  have hT' : LayR w tp r bs fs T' := LayR_fr H m5
  have hyy : (tp + ro) / st = i ∧ tp + ro < h := by
    refine ⟨?_, by omega⟩
    rw [etp, Nat.mul_comm, Nat.mul_add_div (by have := V.2.2.1; omega), Nat.div_eq_of_lt (by have := hs_le (h := h) (st := st) (i := i); omega)]; omega
  generalize hkk : ro * w + c = k at *
  have e2 : ro * w + (c + 1) = k + 1 := by omega
  rw [e2]
  obtain ⟨n1, n2, n3, n4⟩ := hmk k hkr
  have hin1 : InR 1 tp r (ps w 1 1 tp k) := ps_in (by omega) hw.2 hr.2 (by rw [mny_1]; exact hkr)
  have hin3 : InR 3 tp r (ps w 1 3 tp k) := ps_in (by omega) hw.2 hr.2 (by rw [mny_1]; exact hkr)
  have hT1k : T'.2 2 (ps w 1 1 tp k) = msk (st0 + k) := by
    rw [m7 _ (by unfold InR at hin1 ⊢; omega)]; exact n2
  obtain ⟨l, hl, el, hj⟩ := rp_ref (T := T') D hT' etp (by omega) V.2.2.1 (by rw [m5]; exact e5) (by rw [m6 4 (by decide)]; exact eth) hb1 hkr
  rw [hT1k] at el
  rw [dk, mk'] at hj
  have hsc := sc_in (k := l) D.2.2.1 D.2.2.2
  have hkl : kx w (sc bs fs l) tp c (tp + ro) < mny w (sc bs fs l) r := kx_lt hsc.1 hc (by omega)
  have hkl2 := mny_le (w := w) (s := sc bs fs l) (r := r) hsc.1
  have hsel : (if (if msk (st0 + k) = 1 then (1 : Int32) else 0) = 0 then some (0 : Int32) else some 2) = some (nI l) := by
    unfold jl at el
    rcases n1 with z | z
    · rw [z, if_neg n01, if_pos (show (0 : Int32) = 0 from rfl), el, z, if_neg (fun y => by have := y.2; exact absurd this (by decide))]; rfl
    · rw [z, if_pos n11, if_neg ne10, el, z, if_pos ⟨n3 z, rfl⟩]; rfl
  have hpr : pr b0 b1 l = 1 := by
    unfold jl at el
    unfold pr
    rcases n1 with z | z
    · have : l = 0 := by rw [el, z, if_neg (fun y => by have := y.2; exact absurd this (by decide))]
      rw [if_pos this]; exact n4 z
    · have : l = 2 := by rw [el, z, if_pos ⟨n3 z, rfl⟩]
      rw [if_neg (by omega)]; exact n3 z
  have hjv : T'.2 2 (ps w (sc bs fs l) l tp (kx w (sc bs fs l) tp c (tp + ro))) = L'.2 l (st0 + kx w (sc bs fs l) tp c (tp + ro)) := by
    have hinl := ps_in (l := l) hsc.1 hw.2 hr.2 hkl
    rw [m7 _ (by unfold InR at hinl ⊢; omega), m2 l (by omega)]
    exact (hbl l _ hl hpr hkl).symm
  rw [hjv] at hj
  have hcol : T'.2 0 (24 * (tp + ro) + c) = col (st0 + k) := by
    rw [m6 0 (by decide), ← hC.1 (tp + ro) c hyy.2 hc, ← hkk, est0, etp, Nat.add_mul, Nat.add_assoc]
  obtain ⟨v, hv, hv1, hv2⟩ := more_eq (col (st0 + k)) (L'.2 l (st0 + kx w (sc bs fs l) tp c (tp + ro))) fu hfu
  have hcell : 24 * (tp + k / w) + k % w = 24 * (tp + ro) + c := by rw [dk, mk']
  have eps3 : 1728 + 24 * (tp + ro) + c = ps w 1 3 tp k := by rw [ps_1k, dk, mk']
  let d2 : Nat := if d = 0 then (if v = 0 then 0 else 1) else 1
  have hd2 : (d2 = 0 ∨ d2 = 1) := by dsimp only [d2]; split
                                     · split <;> omega
                                     · omega
  have hps3 : ps w 1 3 tp k < 2304 := by have := hin3.2; omega
  refine ⟨d2, Ls L' 3 (st0 + k) v, Ls T' 2 (ps w 1 3 tp k) v, ?_, ?_, hd2, m1, ?_, ?_, ?_, m5, ?_, ?_⟩
  · have hst0k := hplc k hkr
    have hpo : Layers_placeOf n L' (nI l) (nI c) (nI (tp + ro)) = some (nI (st0 + kx w (sc bs fs l) tp c (tp + ro))) := by
      rw [placeOf_eq hV' (by omega) hc hyy.2, hyy.1, ← etp]
      unfold kx
      rw [est0, ← etp, Nat.add_assoc]
    have hpl2 := hplc (kx w (sc bs fs l) tp c (tp + ro)) (by omega)
    rw [Maker_makeRest_l41, m1, V.2.2.2.2.2.2.1, if_neg (nI_ge hc (by omega)), mkm_eq hst0k (by omega), Option.bind_some, hsel]
    simp only [Option.bind_some]
    rw [hpo]
    simp only [Option.bind_some]
    rw [lyv_eq (show l < 4 by omega) hpl2 (by omega), Option.bind_some, mkc_eq hst0k (by omega), Option.bind_some, hv1]
    simp only [Option.bind_some]
    rw [show (3 : Int32) = nI 3 from rfl, lys_eq (show 3 < 4 by decide) hst0k (by omega), Option.bind_some, nI_p1, nI_p1, Nat.add_assoc]
    rcases m0 with rfl | rfl
    · rw [if_pos e00]
      by_cases z : v = 0
      · simp only [d2, if_pos z]; rfl
      · simp only [d2, if_neg z]; rfl
    · rw [if_neg n10]; rfl
  · have hT1 : T'.1 1 = nI w := by rw [m5]; exact e1
    have hT16 : T'.1 16 = nI tp := by rw [m5]; exact H.2.1
    have hT17 : T'.1 17 = nI r := by rw [m5]; exact H.2.2.1
    have x1 : nI k - nI k / T'.1 1 * T'.1 1 = nI c := by rw [hT1, pk_rem (by omega) (by omega) (by omega), mk']
    have x2 : T'.1 16 + nI k / T'.1 1 = nI (tp + ro) := by rw [hT1, hT16, pk_div (by omega) (by omega) (by omega), nI_add, dk]
    rw [Mo_makeStripe_l195, x1, x2, hT1, hT17, pk_mul, if_neg (nI_ge hkr (by omega)), dz_nI (by omega) (by omega), dz_nI (by omega) (by omega), show (24 : Int32) * nI (tp + ro) = nI (24 * (tp + ro)) from pk_mul 24 _, nI_add, gd_nI (by omega) (by omega), hj]
    simp only [Option.bind_some]
    rw [nI_clamp (by omega), hcol, hv2]
    simp only [Option.bind_some]
    rw [show (1728 : Int32) + nI (24 * (tp + ro)) = nI (1728 + 24 * (tp + ro)) from nI_add 1728 _, nI_add, eps3, gd_nI hps3 (by omega), nI_clamp (by omega), nI_p1]
    rcases m0 with rfl | rfl
    · rw [if_pos e00]
      by_cases z : v = 0
      · simp only [d2, if_pos z]; rfl
      · simp only [d2, if_neg z]; rfl
    · rw [if_neg n10]; rfl
  · intro q hq
    rw [ls_n hq]; exact m2 q hq
  · intro j hj
    rw [ls_s, pk_un (by omega)]; exact m3 j (by omega)
  · intro k' hk'
    rw [ls_s, ls_s]
    by_cases z : k' = k
    · rw [z, pk_us, pk_us]; exact ⟨rfl, hv⟩
    · have : ps w 1 3 tp k' ≠ ps w 1 3 tp k := fun e => z (ps_inj (l := 3) (s := 1) (r := r) (by omega) hw.2 hr.2 (by rw [mny_1]; omega) (by rw [mny_1]; omega) e)
      rw [pk_un (by omega), pk_un this]; exact m4 k' (by omega)
  · intro q hq
    rw [ls_n hq]; exact m6 q hq
  · intro P hP
    rw [ls_s, pk_un (by intro e; rw [e] at hP; exact hP hin3)]; exact m7 P hP
theorem rp_all (D : LD w tp r bs fs) (H : LayR w tp r bs fs T) (V : VL n w h st bs fs L) (etp : tp = i * st) (er : r = hs h st i) (hi : i < cd h st) (hC : RC w h col (T.2 0)) (hn : n = w * h) (e1 : T.1 1 = nI w) (e5 : T.1 5 = nI st) (eth : T.2 4 (4 * i + 1) = nI b1) (hb1 : b1 = 0 ∨ b1 = 1) (fu : Nat) (hfu : 7000 ≤ fu) (est0 : st0 = i * st * w)
    (hmk : ∀ k, k < w * r → Bi (msk (st0 + k)) ∧ T.2 2 (ps w 1 1 tp k) = msk (st0 + k) ∧ (msk (st0 + k) = nI 1 → b1 = 1) ∧ (msk (st0 + k) = nI 0 → b0 = 1))
    (hbl : ∀ l k, l = 0 ∨ l = 2 → pr b0 b1 l = 1 → k < mny w (sc bs fs l) r → L.2 l (st0 + k) = T.2 2 (ps w (sc bs fs l) l tp k))
    (p1 p2 : Int32) : ∃ d L' T', Maker_makeRest fu n col msk bare L (nI i) = some (nI d, L') ∧ Mo_makeStripe_l195 fu p1 p2 fu 0 0 T = some (0, nI d, T') ∧ RP w st0 tp r L T (w * r) d L' T' := by
  have hw := D.1
  have hr := D.2.1
  have hih := hs_h hi V.2.2.1.1
  have hwr : w * r ≤ 24 * 24 := Nat.mul_le_mul (by omega) (by omega)
  have ebot : min (i * st + st) h = tp + r := by
    have := cd_mul V.2.2.1.1 hi
    rw [etp, er]; unfold hs; omega
  obtain ⟨s', t', g1, g2, g3⟩ := loop2N (σ := Nat × LyS) (τ := Nat × LyS)
    (fun k ro s => Maker_makeRest_l31 fu n col msk bare (nI (tp + r)) k (nI s.1) (nI (st0 + ro * w)) (nI (tp + ro)) s.2)
    (fun k j t => Mo_makeStripe_l195 fu p1 p2 k (nI t.1) (nI j) t.2)
    (fun k s t => s.1 = t.1 ∧ RP w st0 tp r L T k s.1 s.2 t.2) w r
    (by
      rintro k k' ro ⟨d, s⟩ ⟨d', t⟩ hro ⟨hd, hI⟩
      dsimp only at hd hI
      subst hd
      obtain ⟨s2, t2, f1, f2, f3, f4⟩ := loop2 (σ := Nat × LyS) (τ := Nat × LyS)
        (fun k c s => Maker_makeRest_l41 n col msk bare (nI (tp + r)) (nI (tp + ro)) k (nI s.1) (nI (st0 + (ro * w + c))) (nI c) s.2)
        (fun k c t => Mo_makeStripe_l195 fu p1 p2 k (nI t.1) (nI (ro * w + c)) t.2)
        (fun c s t => s.1 = t.1 ∧ RP w st0 tp r L T (ro * w + c) s.1 s.2 t.2) w
        (by
          rintro q q' c ⟨d, s⟩ ⟨d', t⟩ hc ⟨hd, hI⟩
          dsimp only at hd hI
          subst hd
          obtain ⟨a1, a2, a3, z1, z2, z3⟩ := rp_step (col := col) (msk := msk) (bare := bare) D H V etp er hi hC hn e1 e5 eth hb1 fu hfu est0 hmk hbl p1 p2 (nI (tp + r)) hc hro hI q q'
          exact ⟨(a1, a2), (a1, a3), z1, z2, rfl, z3⟩)
        w (fu - w) k' 0 (d, s) (d, t) (by omega) ⟨rfl, hI⟩
      rw [show fu - w + w = fu by omega] at f1
      rw [show fu - w = fu - w - 1 + 1 by omega] at f1
      have hs2 : s2.2.1 0 = nI w := by rw [f4.2.1]; exact V.2.2.2.2.2.2.1
      rw [Maker_makeRest_l41, hs2, if_pos (nI_le (Nat.le_refl _) (by omega))] at f1
      refine ⟨s2, t2, ?_, f2, f3, f4⟩
      rw [Maker_makeRest_l31, if_neg (nI_ge (by omega) (by omega))]
      rw [show (0 : Int32) = nI 0 from rfl]
      rw [Nat.add_zero] at f1
      rw [f1]
      simp only [Option.bind_some]
      rw [nI_p1, show st0 + (ro * w + w) = st0 + (ro + 1) * w by rw [Nat.add_mul, Nat.one_mul], Nat.add_assoc])
    r (fu - r) (fu - w * r) 0 (0, L) (0, T) (by omega)
    ⟨rfl, Or.inl rfl, rfl, fun _ _ => rfl, fun _ _ => rfl, fun k' hk' => by omega, rfl, fun _ _ => rfl, fun _ _ => rfl⟩
  obtain ⟨d, L'⟩ := s'
  obtain ⟨d', T'⟩ := t'
  dsimp only at g1 g2 g3
  obtain ⟨g3, g4⟩ := g3
  subst g3
  rw [show fu - r + r = fu by omega, show fu - r = fu - r - 1 + 1 by omega, Maker_makeRest_l31, if_pos (nI_le (Nat.le_refl _) (by omega))] at g1
  rw [Nat.mul_comm r w] at g2 g4
  rw [show fu - w * r + w * r = fu by omega, show fu - w * r = fu - w * r - 1 + 1 by omega] at g2
  rw [Mo_makeStripe_l195, show T'.1 1 = nI w by rw [g4.2.2.2.2.2.1]; exact e1, show T'.1 17 = nI r by rw [g4.2.2.2.2.2.1]; exact H.2.2.1, pk_mul, if_pos (nI_le (Nat.le_refl _) (by omega))] at g2
  rw [Nat.zero_mul] at g1 g2
  refine ⟨d, L', T', ?_, g2, g4⟩
  unfold Maker_makeRest
  rw [startOf_eq V, Option.bind_some, bottomOf_eq V (by omega), Option.bind_some, topOf_eq V, Option.bind_some, ebot, ← etp, etp, ← est0, ← etp]
  rw [Nat.add_zero, Nat.add_zero] at g1
  rw [show (0 : Int32) = nI 0 from rfl, g1, Option.bind_some]
  rcases g4.1 with rfl | rfl
  · exact zb_in (Or.inl rfl)
  · exact zb_in (Or.inr rfl)
end RPS
