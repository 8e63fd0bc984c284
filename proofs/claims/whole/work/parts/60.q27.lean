def TG (T T' : LyS) : Prop := (∀ k, k ≠ 11 → k ≠ 12 → T'.1 k = T.1 k) ∧ ∀ q, q ≠ 7 → q ≠ 8 → T'.2 q = T.2 q
theorem TG_t {T T' T'' : LyS} (h : TG T T') (h' : TG T' T'') : TG T T'' := ⟨fun k h1 h2 => by rw [h'.1 k h1 h2, h.1 k h1 h2], fun q h1 h2 => by rw [h'.2 q h1 h2, h.2 q h1 h2]⟩
theorem TF_g {l tp r : Nat} {T T' : LyS} (h : TF l tp r T T') : TG T T' := ⟨h.1, fun q h7 _ => h.2.1 q h7⟩
section RDL
variable {n m w h st i tp r bs fs st0 l t cnt : Nat} {B : ByS} {fd hd : Nat → Int32} {L T : LyS}
/-- a layer that was read -/
def LG (i l tp r st0 w bs fs t cnt : Nat) (L T L' T' : LyS) : Prop :=
  L'.1 3 = nI (cnt + 1) ∧ (∀ k, k ≠ 3 → L'.1 k = L.1 k) ∧ L'.2 4 = upd (L.2 4) i (nI (t ||| 2 ^ l)) ∧ (∀ q, q ≠ 4 → q ≠ l → L'.2 q = L.2 q) ∧ (∀ j, j < st0 ∨ st0 + w * r ≤ j → L'.2 l j = L.2 l j) ∧
  RV w (sc bs fs l) l tp st0 (mny w (sc bs fs l) r) L' T' ∧ TG T T' ∧ T'.2 8 = upd (T.2 8) l (nI 1) ∧ ∀ P, ¬ InR l tp r P → T'.2 7 P = T.2 7 P
theorem rd_fin {p p' v9 N : Nat} {rf : Int32} {T3 T4 L4 : LyS} (fu : Nat) (V : VL n w h st bs fs L) (hi : i < 24) (hl : l < 4) (ht : t < 16) (e4 : L.2 4 i = nI t) (e3 : L.1 3 = nI cnt) (hp : p + 3 ≤ p') (hp64 : p' ≤ 6400) (hN : N < 2 ^ 20) (heq : p' = p + 3 + N) (hLF : LF l st0 (mny w (sc bs fs l) r) L L4) :
    ∃ L', Reader_readLayer_b157 fu n B (nI p') rf hd L4 (nI i) (nI l) (nI (p + 1)) (nI N) 1 = some (1, nI p', rf, L') ∧ L'.1 3 = nI (cnt + 1) ∧ (∀ k, k ≠ 3 → L'.1 k = L.1 k) ∧ L'.2 4 = upd (L.2 4) i (nI (t ||| 2 ^ l)) ∧ (∀ q, q ≠ 4 → L'.2 q = L4.2 q) := by
  obtain ⟨L', d1, d2, d3, d4, d5⟩ := add_eq (n := n) (L := L4) (i := i) (t := t) (l := l) (cnt := cnt) hi (by rw [hLF.2.1 4 (by omega)]; exact e4) ht hl (by rw [hLF.1]; exact e3)
  refine ⟨L', ?_, d2, fun k hk => by rw [d3 k hk, hLF.1], by rw [d5, hLF.2.1 4 (by omega)], d4⟩
  unfold Reader_readLayer_b157
  have e : nI p' - nI (p + 1) - 2 = nI N := by
    rw [pk_sub (by omega), show (2 : Int32) = nI 2 from rfl, pk_sub (by omega)]
    exact congrArg nI (by omega)
  rw [if_neg ne10, e, if_pos rfl, d1]; rfl
theorem rd_layer (V : VL n w h st bs fs L) (hi : i < cd h st) (etp : tp = i * st) (er : r = hs h st i) (est0 : st0 = i * st * w) (hB : RB B m fd) (hl : l < 4) (ht : t < 16) (e4 : L.2 4 i = nI t) (e3 : L.1 3 = nI cnt) {p : Nat} (rf : Int32) (hT : TS m fd p T) (hL : LayR w tp r bs fs T) (fu : Nat) (hfu : 7000 ≤ fu) :
    (∃ p' L' T', Reader_readLayer fu n B (nI p) rf hd L (nI i) (nI l) = some (1, nI p', rf, L') ∧ Mo_takeLayer fu T (nI l) = some T' ∧ TS m fd p' T' ∧ LG i l tp r st0 w bs fs t cnt L T L' T') ∨
    (∃ pl' q L' T', Reader_readLayer fu n B (nI p) rf hd L (nI i) (nI l) = some (0, pl', nI q, L') ∧ Mo_takeLayer fu T (nI l) = some T' ∧ T'.1 12 = nI q ∧ q ≤ 6400 ∧ L'.2 5 = L.2 5 ∧ TG T T') := by
  have hm64 := RB_m hB
  have hpm := hT.2.2.2.2.1
  have hih := hs_h hi V.2.2.1.1
  have h24 := cd_24 V.2.2.1.1 V.2.1.2
  have hD : LD w tp r bs fs := ⟨V.1, ⟨by omega, by have := V.2.1; omega⟩, V.2.2.2.1, V.2.2.2.2.1⟩
  have hsc := sc_in (k := l) hD.2.2.1 hD.2.2.2
  have hmle := mny_le (w := w) (s := sc bs fs l) (r := r) hsc.1
  have hn576 := V.2.2.2.2.2.1.2
  have hst0 : st0 + w * r ≤ n := by
    rw [est0]
    have h1 : (i * st + hs h st i) * w ≤ h * w := Nat.mul_le_mul_right w hih.1
    rw [Nat.add_mul, Nat.mul_comm h w, Nat.mul_comm (hs h st i) w, ← er] at h1
    have := V.2.2.2.2.2.1.1
    omega
  have H : RLy n m w tp r bs fs st0 l B fd := ⟨hD, hl, hn576, by omega, hB⟩
  have hend : Layers_endOf n L (nI i) (nI l) = some (nI (st0 + mny w (sc bs fs l) r)) := by
    rw [endOf_eq V (by omega) hl, ← er, est0]; rfl
  have hstart : Layers_startOf n L (nI i) = some (nI st0) := by rw [startOf_eq V, est0]
  have hplain : ML_plainBytes (nI l) (nI (mny w (sc bs fs l) r)) = some (nI (pb l (mny w (sc bs fs l) r))) := by
    unfold ML_plainBytes pb
    by_cases z : l = 1
    · rw [if_pos z, if_pos (show nI l = 1 by rw [z]; rfl), show (8 : Int32) = nI 8 from rfl, parts_eq (by omega) (by omega) (by omega)]; rfl
    · rw [if_neg z, if_neg (show ¬ nI l = 1 from fun y => z ((nI_eq (b := 1) (by omega) (by omega)).mp y)), show (3 : Int32) * nI (mny w (sc bs fs l) r) = nI (3 * mny w (sc bs fs l) r) from pk_mul 3 _]
  generalize hT0 : Ls T 8 l 1 = T0
  have z8 : T0.2 8 = upd (T.2 8) l (nI 1) := by rw [← hT0, ls_s]; rfl
  have g0 : TG T T0 := by rw [← hT0]; exact ⟨fun _ _ _ => rfl, fun q _ h8 => ls_n h8⟩
  have z7 : T0.2 7 = T.2 7 := by rw [← hT0, ls_n (by decide)]
  have hTS0 : TS m fd p T0 := by
    rw [← hT0]; exact ⟨hT.1, by rw [ls_n (by decide)]; exact hT.2.1, hT.2.2.1, hT.2.2.2.1, hT.2.2.2.2⟩
  have hL0 : LayR w tp r bs fs T0 := by rw [← hT0]; exact ⟨hL.1, hL.2.1, hL.2.2.1, hL.2.2.2.1, hL.2.2.2.2⟩
  unfold Reader_readLayer Mo_takeLayer
  rw [hstart, Option.bind_some, hend, Option.bind_some, gd_nI hl (by omega), zb_in (Or.inr rfl), nI_clamp (by omega), hT0]
  rcases take2 (n := n) (rf := rf) (hd := hd) (L := L) hB hTS0 0 1 (by omega) (by omega) with ⟨kd, hkd, k1, k2, k3, k4, k5⟩ | ⟨k4, u, T1, hu, k5, k6⟩
  · rw [show Reader_take n B (nI p) rf hd L 0 1 = some (nI kd, nI (p + 1), rf) from k4, show Mo_takeIn T0 0 1 = some (nI kd, Lf T0 11 (nI (p + 1))) from k5, Option.bind_some, Option.bind_some]
    dsimp only
    rw [if_neg (nI_ne_m1 (by omega))]
    have hTS1 := TS_p hTS0 (p' := p + 1) (by omega)
    rcases take1 (n := n) (rf := rf) (hd := hd) (L := L) hB hTS1 with ⟨lo, hlo, l3, l4, l5⟩ | ⟨l4, l5⟩
    · rw [l4, l5, Option.bind_some, Option.bind_some]
      dsimp only
      unfold Reader_readLayer_b52
      rw [if_neg (nI_ne_m1 (by omega))]
      have hTS2 := TS_p hTS1 (p' := p + 1 + 1) (by omega)
      rcases take1 (n := n) (rf := rf) (hd := hd) (L := L) hB hTS2 with ⟨hi', hhi', g3, g4, g5⟩ | ⟨g4, g5⟩
      · rw [g4, g5, Option.bind_some, Option.bind_some]
        dsimp only
        have hTS3 := TS_p hTS2 (p' := p + 1 + 1 + 1) (by omega)
        generalize hT3 : Lf (Lf (Lf T0 11 (nI (p + 1))) 11 (nI (p + 1 + 1))) 11 (nI (p + 1 + 1 + 1)) = T3 at *
        have t311 : T3.1 11 = nI (p + 1 + 1 + 1) := hTS3.2.2.1
        have g03 : TG T0 T3 := by
          rw [← hT3]; exact ⟨fun k h11 _ => by rw [lf_n h11, lf_n h11, lf_n h11], fun _ _ _ => rfl⟩
        have z38 : T3.2 = T0.2 := by rw [← hT3]; rfl
        have hL3 : LayR w tp r bs fs T3 := by
          unfold LayR
          rw [g03.1 15 (by decide) (by decide), g03.1 16 (by decide) (by decide), g03.1 17 (by decide) (by decide), g03.1 18 (by decide) (by decide), g03.1 19 (by decide) (by decide)]
          exact hL0
        have t112 : (Lf T0 11 (nI (p + 1))).1 11 = nI (p + 1) := lf_s
        unfold Reader_readLayer_b72
        rw [if_neg (nI_ne_m1 (by omega)), hTS3.2.2.2.1, if_pos m1_lt0, t112]
        have eN1 : (nI hi' <<< ((8 : Int32) &&& 31)) ||| nI lo = nI (hi' * 256 + lo) := by
          rw [pk_shlN _ 8 s8 (by omega)]
          have := or_eq (a := hi') (b := lo) 8 (by omega) (by omega)
          rw [Nat.mul_comm (2 ^ 8) hi'] at this
          exact this
        have eN2 : nI lo + (nI hi' <<< ((8 : Int32) &&& 31)) = nI (hi' * 256 + lo) := by
          rw [pk_shlN _ 8 s8 (by omega), nI_add]; exact congrArg nI (by omega)
        rw [eN1, eN2, pk_sub (by omega), Nat.add_sub_cancel_left]
        generalize hNN : hi' * 256 + lo = N at *
        have hNb : N < 2 ^ 20 := by omega
        have hp3 : p + 1 + 1 + 1 = p + 3 := by omega
        rw [hp3] at hTS3 t311 ⊢
        have hplS : Mo_plainSize T3 (nI l) = some (nI (pb l (mny w (sc bs fs l) r))) := plain_eq hD hL3 hl
        have hRV0 : RV w (sc bs fs l) l tp st0 0 L T3 := fun k' hk' => by omega
        -- what a good reading of the values gives
        have good : ∀ (p' : Nat) (L4 T4 : LyS), p + 3 ≤ p' → p' = p + 3 + N → TS m fd p' T4 → LF l st0 (mny w (sc bs fs l) r) L L4 → TF l tp r T3 T4 → RV w (sc bs fs l) l tp st0 (mny w (sc bs fs l) r) L4 T4 → ∃ L', Reader_readLayer_b157 fu n B (nI p') rf hd L4 (nI i) (nI l) (nI (p + 1)) (nI N) 1 = some (1, nI p', rf, L') ∧ LG i l tp r st0 w bs fs t cnt L T L' T4 := by
          intro p' L4 T4 q1 q2 q3 q4 q5 q6
          have := q3.2.2.2.2
          obtain ⟨L', y1, y2, y3, y4, y5⟩ := rd_fin (p := p) (p' := p') (v9 := 0) (N := N) (rf := rf) (hd := hd) (B := B) (T3 := T3) (T4 := T4) fu V (by omega) hl ht e4 e3 q1 (by omega) hNb q2 q4
          refine ⟨L', y1, y2, y3, y4, fun q h4 hq => by rw [y5 q h4, q4.2.1 q hq], ?_, ?_, TG_t g0 (TG_t g03 (TF_g q5)), ?_, ?_⟩
          · intro j hj
            rw [y5 l (by omega)]; exact q4.2.2 j (by omega)
          · intro k' hk'
            rw [y5 l (by omega)]; exact q6 k' hk'
          · rw [q5.2.1 8 (by decide), z38, z8]
          · intro P hP
            rw [q5.2.2 P hP, z38, z7]
        have gTF : ∀ T4, TF l tp r T3 T4 → TG T T4 := fun T4 hF => TG_t g0 (TG_t g03 (TF_g hF))
        have hrefT3 : Mo_refuse T3 (nI (p + 1)) = some (Lf T3 12 (nI (p + 1))) := by
          unfold Mo_refuse
          rw [hTS3.2.2.2.1, if_neg m1_ge0]
        have hkd2 : kd = 0 ∨ kd = 1 := by omega
        rcases hkd2 with rfl | rfl
        · rw [if_pos e00, if_pos e00, hplain, hplS, Option.bind_some, Option.bind_some]
          by_cases zN : N = pb l (mny w (sc bs fs l) r)
          · rw [← zN, if_pos rfl, if_pos rfl]
            unfold Reader_readLayer_b117 Mo_takeLayer_b65
            rw [if_neg n01, if_pos e00]
            unfold Mo_takePlain
            rw [count_eq hD hL3 hl, Option.bind_some]
            by_cases z1 : l = 1
            · subst z1
              rw [if_pos n11]
              have hpbm : pb 1 (mny w (sc bs fs 1) r) = (mny w (sc bs fs 1) r + 7) / 8 := by unfold pb; rw [if_pos rfl]
              rcases rd_bits (hd := hd) H fu hfu rf N 0 (p + 3) L T3 fu fu (by omega) (by omega) (by omega) hTS3 hL3 (by rw [Nat.zero_min]; exact hRV0) (by omega) (by omega) with ⟨L4, T4, a1, a2, a3, a4, a5, a6⟩ | ⟨q, L4, T4, a1, a2, a3, a3b, a4, a5⟩
              · left
                obtain ⟨L', y1, y2⟩ := good (p + 3 + N) L4 T4 (by omega) rfl a3 a4 a5 a6
                refine ⟨p + 3 + N, L', T4, ?_, ?_, a3, y2⟩
                · unfold Reader_readBits
                  rw [Nat.add_zero] at a1
                  rw [a1, Option.bind_some, if_pos rfl, zb_in (Or.inr rfl), Option.bind_some]
                  exact y1
                · show ((Mo_takePlain_l8 fu 1 (nI (mny w (sc bs fs 1) r)) fu (nI 0) T3).bind fun r19 => some r19.2).bind _ = _
                  rw [a2]; rfl
              · right
                have hY : (((Mo_takePlain_l8 fu (nI 1) (nI (mny w (sc bs fs 1) r)) fu 0 T3).bind fun r19 => some r19.2).bind fun r10 => some r10) = some T4 := by
                  show (((Mo_takePlain_l8 fu 1 (nI (mny w (sc bs fs 1) r)) fu (nI 0) T3).bind fun r19 => some r19.2).bind fun r10 => some r10) = _
                  rw [a2]; rfl
                rw [Nat.add_zero] at a1
                rcases a1 with a1 | a1
                · refine ⟨nI q, q, L4, T4, ?_, hY, a3, a3b, a4.2.1 5 (by decide), gTF T4 a5⟩
                  unfold Reader_readBits Reader_readLayer_b157
                  rw [a1, Option.bind_some, if_neg (show ¬ (1 : Nat) = 0 by decide), if_pos rfl, zb_in (Or.inl rfl), Option.bind_some, if_pos rfl, zb_in (Or.inl rfl)]
                · have eq1 : nI (q + 1) - 1 = nI q := pk_sub (b := 1) (by omega)
                  refine ⟨nI (q + 1), q, L4, T4, ?_, hY, a3, a3b, a4.2.1 5 (by decide), gTF T4 a5⟩
                  unfold Reader_readBits Reader_readLayer_b157 Reader_refuse
                  rw [a1, Option.bind_some, if_neg (show ¬ (2 : Nat) = 0 by decide), if_neg (show ¬ (2 : Nat) = 1 by decide)]
                  dsimp only
                  rw [eq1, zb_in (Or.inl rfl), Option.bind_some, zb_in (Or.inl rfl), Option.bind_some, if_pos rfl, zb_in (Or.inl rfl)]
            · have q1 : ¬ nI l = 1 := fun y => z1 ((nI_eq (b := 1) (by omega) (by omega)).mp y)
              rw [if_neg q1]
              have hpbm : pb l (mny w (sc bs fs l) r) = 3 * mny w (sc bs fs l) r := by unfold pb; rw [if_neg z1]
              rcases rd_col (hd := hd) H z1 fu rf (mny w (sc bs fs l) r) 0 (p + 3) L T3 fu fu (by omega) hTS3 hL3 hRV0 (by omega) (by omega) with ⟨L4, T4, a1, a2, a3, a4, a5, a6⟩ | ⟨q, L4, T4, a1, a2, a3, a3b, a4, a5⟩
              · left
                rw [show 3 * mny w (sc bs fs l) r = N by omega] at a1 a3
                obtain ⟨L', y1, y2⟩ := good (p + 3 + N) L4 T4 (by omega) rfl a3 a4 a5 a6
                refine ⟨p + 3 + N, L', T4, ?_, ?_, a3, y2⟩
                · unfold Reader_readColours
                  rw [Nat.add_zero] at a1
                  rw [a1, Option.bind_some, if_pos rfl, zb_in (Or.inr rfl), Option.bind_some]
                  exact y1
                · show ((Mo_takePlain_l8 fu (nI l) (nI (mny w (sc bs fs l) r)) fu (nI 0) T3).bind fun r19 => some r19.2).bind _ = _
                  rw [a2]; rfl
              · right
                rw [Nat.add_zero] at a1
                refine ⟨nI q, q, L4, T4, ?_, ?_, a3, a3b, a4.2.1 5 (by omega), gTF T4 a5⟩
                · unfold Reader_readColours Reader_readLayer_b157
                  rw [a1, Option.bind_some, if_neg (show ¬ (1 : Nat) = 0 by decide), zb_in (Or.inl rfl), Option.bind_some, if_pos rfl, zb_in (Or.inl rfl)]
                · show ((Mo_takePlain_l8 fu (nI l) (nI (mny w (sc bs fs l) r)) fu (nI 0) T3).bind fun r19 => some r19.2).bind _ = _
                  rw [a2]; rfl
          · right
            have hpb : pb l (mny w (sc bs fs l) r) ≤ 1728 := by unfold pb; split <;> omega
            have zN' : ¬ nI N = nI (pb l (mny w (sc bs fs l) r)) := fun y => zN ((nI_eq (by omega) (by omega)).mp y)
            rw [if_neg zN', if_neg zN', hrefT3]
            refine ⟨nI (p + 3), p + 1, L, Lf T3 12 (nI (p + 1)), ?_, rfl, lf_s, by omega, rfl, TG_t g0 (TG_t g03 ⟨fun k _ h12 => lf_n h12, fun _ _ _ => rfl⟩)⟩
            unfold Reader_refuse
            rw [zb_in (Or.inl rfl), Option.bind_some, zb_in (Or.inl rfl)]
        · rw [if_neg n10, if_neg n10]
          unfold Reader_readLayer_b117 Mo_takeLayer_b65
          rw [if_pos n11, if_neg n10]
          unfold Mo_takeRuns
          rw [count_eq hD hL3 hl, Option.bind_some, t311]
          rcases rd_runs (hd := hd) H fu hfu rf (mny w (sc bs fs l) r) 0 (p + 3) L T3 (-1) fu fu (by omega) (by omega) hTS3 hL3 hRV0 (by omega) (by omega) with ⟨p', L4, T4, a1, a2, a2b, a3, a4, a5, a6⟩ | ⟨q, L4, T4, a1, a2, a3, a3b, a4, a5⟩
          · rw [Nat.add_zero] at a1
            have ha2 : Mo_takeRuns_l8 fu (nI l) (nI (mny w (sc bs fs l) r)) fu 0 T3 = some (0, T4) := a2
            rw [ha2, Option.bind_some, Option.bind_some]
            dsimp only
            have hp6 := a3.2.2.2.2
            rw [a3.2.2.2.1, if_neg m1_ge0, a3.2.2.1, pk_sub a2b]
            have hCL : Reader_readRuns fu n B (nI (p + 3)) rf hd L (nI l) (nI st0) (nI (st0 + mny w (sc bs fs l) r)) = some (1, nI p', rf, L4) := by
              unfold Reader_readRuns
              rw [a1, Option.bind_some, if_pos rfl, zb_in (Or.inr rfl)]
            rw [hCL, Option.bind_some]
            dsimp only
            by_cases zN : p' - (p + 3) = N
            · left
              rw [zN, if_pos rfl]
              obtain ⟨L', y1, y2⟩ := good p' L4 T4 a2b (by omega) a3 a4 a5 a6
              exact ⟨p', L', T4, y1, rfl, a3, y2⟩
            · right
              rw [if_neg (fun y => zN ((nI_eq (by omega) (by omega)).mp y))]
              have hrefT4 : Mo_refuse T4 (nI (p + 1)) = some (Lf T4 12 (nI (p + 1))) := by
                unfold Mo_refuse
                rw [a3.2.2.2.1, if_neg m1_ge0]
              rw [hrefT4]
              refine ⟨nI p', p + 1, L4, Lf T4 12 (nI (p + 1)), ?_, rfl, lf_s, by omega, a4.2.1 5 (by omega), TG_t (gTF T4 a5) ⟨fun k _ h12 => lf_n h12, fun _ _ _ => rfl⟩⟩
              unfold Reader_readLayer_b157 Reader_refuse
              have e : nI p' - nI (p + 1) - 2 = nI (p' - (p + 3)) := by
                rw [pk_sub (by omega), show (2 : Int32) = nI 2 from rfl, pk_sub (by omega)]
                exact congrArg nI (by omega)
              rw [if_neg ne10, e, if_neg (fun y => zN ((nI_eq (by omega) (by omega)).mp y)), zb_in (Or.inl rfl), Option.bind_some, zb_in (Or.inl rfl)]
          · right
            rw [Nat.add_zero] at a1
            have ha2 : Mo_takeRuns_l8 fu (nI l) (nI (mny w (sc bs fs l) r)) fu 0 T3 = some (0, T4) := a2
            rw [ha2, Option.bind_some, Option.bind_some]
            dsimp only
            rw [a3, if_pos (nI_pos' (show q < 2 ^ 31 by omega))]
            refine ⟨nI q, q, L4, T4, ?_, rfl, a3, a3b, a4.2.1 5 (by omega), gTF T4 a5⟩
            unfold Reader_readRuns Reader_readLayer_b157
            rw [a1, Option.bind_some, if_neg (show ¬ (1 : Nat) = 0 by decide), zb_in (Or.inl rfl), Option.bind_some, if_pos rfl, zb_in (Or.inl rfl)]
      · right
        rw [g4, g5, Option.bind_some, Option.bind_some]
        dsimp only
        unfold Reader_readLayer_b72
        rw [if_pos rfl, lf_s, if_neg (nI_pos (by omega)), zb_in (Or.inl rfl)]
        exact ⟨_, p + 1 + 1, L, _, rfl, rfl, lf_s, by omega, rfl, TG_t g0 ⟨fun k h11 h12 => by rw [lf_n h12, lf_n h11, lf_n h11], fun _ _ _ => rfl⟩⟩
    · right
      rw [l4, l5, Option.bind_some, Option.bind_some]
      dsimp only
      unfold Reader_readLayer_b52 Reader_readLayer_b72
      rw [if_pos rfl, if_pos rfl, zb_in (Or.inl rfl), mtake_ref (q := p + 1) (by omega) lf_s, Option.bind_some]
      dsimp only
      rw [lf_s, if_neg (nI_pos (by omega))]
      exact ⟨_, p + 1, L, _, rfl, rfl, lf_s, by omega, rfl, TG_t g0 ⟨fun k h11 h12 => by rw [lf_n h12, lf_n h11], fun _ _ _ => rfl⟩⟩
  · right
    obtain ⟨t1, t2, t3, t4⟩ := k6
    rw [show Reader_take n B (nI p) rf hd L 0 1 = some (-1, nI p, nI p) from k4, show Mo_takeIn T0 0 1 = some (nI u, T1) from k5, Option.bind_some, Option.bind_some]
    dsimp only
    rw [if_pos rfl]
    unfold Reader_readLayer_b52 Reader_readLayer_b72
    rw [if_pos rfl, if_pos rfl, zb_in (Or.inl rfl), mtake_ref (q := p) (by omega) t1, Option.bind_some]
    dsimp only
    rw [mtake_ref (q := p) (by omega) t1, Option.bind_some]
    dsimp only
    rw [t1, if_neg (nI_pos (by omega))]
    exact ⟨_, p, L, T1, rfl, rfl, t1, by omega, rfl, TG_t g0 ⟨t3, fun q _ _ => by rw [t4]⟩⟩
end RDL
