/-! ===== read: all stripes ===== -/
def FRR (S T : LyS) : Prop := (∀ k, k < 15 → k ≠ 11 → k ≠ 12 → T.1 k = S.1 k) ∧ ∀ q, q ≠ 7 → q ≠ 8 → q ≠ 9 → T.2 q = S.2 q
def AI (m w h st bs fs i cnt p : Nat) (fd : Nat → Int32) (S L T : LyS) : Prop :=
  VL 576 w h st bs fs L ∧ L.1 3 = nI cnt ∧ (i ≤ cnt ∧ cnt ≤ 4 * i) ∧ TS m fd p T ∧ (∀ i', i' < i → ∃ t, t < 16 ∧ L.2 4 i' = nI t) ∧ (∀ i', i ≤ i' → i' < 24 → L.2 4 i' = nI 0) ∧ (∀ y x, y < i * st → y < h → x < w → Layers_exactAt 576 L (nI x) (nI y) = some (T.2 9 (24 * y + x))) ∧ FRR S T ∧ T.1 18 = nI fs ∧ T.1 19 = nI bs
theorem l6_eq (v1 v2 : Int32) (T : LyS) (fu : Nat) (hfu : 7000 ≤ fu) : ∃ T', Mo_takeStripe_l6 v1 v2 fu 0 T = some (0, T') ∧ T'.1 = T.1 ∧ (∀ q, q ≠ 8 → T'.2 q = T.2 q) ∧ ∀ l, l < 4 → T'.2 8 l = nI 0 := by
  obtain ⟨s, g1, g2, g3, g4⟩ := loop1 (σ := LyS) (fun k i s => Mo_takeStripe_l6 v1 v2 k (nI i) s) (fun i s => s.1 = T.1 ∧ (∀ q, q ≠ 8 → s.2 q = T.2 q) ∧ ∀ l, l < i → s.2 8 l = nI 0) 4
    (by
      rintro k i s hi ⟨h1, h2, h3⟩
      refine ⟨Ls s 8 i 0, ?_, h1, fun q hq => by rw [ls_n hq]; exact h2 q hq, ?_⟩
      · show Mo_takeStripe_l6 v1 v2 (k + 1) (nI i) s = _
        rw [Mo_takeStripe_l6, if_neg (show ¬ (4 : Int32) ≤ nI i from nI_ge (b := 4) hi (by omega)), gd_nI hi (by omega), zb_in (Or.inl rfl), nI_clamp (by omega), nI_p1]
      · intro l hl
        rw [ls_s]
        by_cases z : l = i
        · rw [z, pk_us]; rfl
        · rw [pk_un z]; exact h3 l (by omega))
    4 (fu - 4) 0 T (by omega) ⟨rfl, fun _ _ => rfl, fun l hl => by omega⟩
  rw [show fu - 4 + 4 = fu by omega, show fu - 4 = fu - 4 - 1 + 1 by omega] at g1
  rw [Mo_takeStripe_l6, if_pos (show (4 : Int32) ≤ nI 4 by decide)] at g1
  exact ⟨s, g1, g2, g3, g4⟩
theorem bit_0 {l : Nat} (hl : l < 4) : bit 0 l = 0 := by unfold bit; rw [Nat.zero_div]
section RA
variable {m w h st bs fs : Nat} {B : ByS} {fd hd : Nat → Int32} {S : LyS}
theorem rd_all (hB : RB B m fd) (rf : Int32) (fu : Nat) (hfu : 7000 ≤ fu) : ∀ (d i cnt p : Nat) (L T : LyS) (f f' : Nat), i + d = cd h st → AI m w h st bs fs i cnt p fd S L T → d + 1 < f → d + 1 < f' →
    (∃ cnt' p' L' T', Reader_readAll_l19 fu 576 B hd f 1 (nI i) (nI p) rf L = some (0, 1, nI p', rf, L') ∧ Mo_read_l95 fu (nI w) (nI h) (nI st) f' (nI cnt) (nI i) T = some (0, nI cnt', T') ∧ AI m w h st bs fs (cd h st) cnt' p' fd S L' T') ∨
    (∃ pl' q L' x T', Reader_readAll_l19 fu 576 B hd f 1 (nI i) (nI p) rf L = some (0, 0, pl', nI q, L') ∧ Mo_read_l95 fu (nI w) (nI h) (nI st) f' (nI cnt) (nI i) T = some (0, x, T') ∧ T'.1 12 = nI q ∧ q ≤ 6400 ∧ L'.2 5 = L.2 5 ∧ FRR S T') := by
  have hm64 := RB_m hB
  intro d
  induction d with
  | zero =>
    intro i cnt p L T f f' hid hA hf hf'
    obtain ⟨g, rfl⟩ : ∃ g, f = g + 1 := ⟨f - 1, by omega⟩
    obtain ⟨g', rfl⟩ : ∃ g, f' = g + 1 := ⟨f' - 1, by omega⟩
    obtain ⟨V, a2, a3, a4, -⟩ := id hA
    have h24 := cd_24 V.2.2.1.1 V.2.1.2
    have hv := V.2.1
    have hv2 := V.2.2.1
    left
    rw [Reader_readAll_l19, if_neg ne10, stripes_eq V, Option.bind_some, if_pos (nI_le (by omega) (by omega)), Mo_read_l95, a4.2.2.2.1, if_neg m1_ge0, stripesOf_eq (by omega) (by omega) (by omega), Option.bind_some, if_pos (nI_le (by omega) (by omega))]
    have hid' : cd h st = i := by omega
    exact ⟨cnt, p, L, T, rfl, rfl, by rw [hid']; exact hA⟩
  | succ d ih =>
    intro i cnt p L T f f' hid hA hf hf'
    obtain ⟨g, rfl⟩ : ∃ g, f = g + 1 := ⟨f - 1, by omega⟩
    obtain ⟨g', rfl⟩ : ∃ g, f' = g + 1 := ⟨f' - 1, by omega⟩
    obtain ⟨V, a2, a3, a4, a5, a6, a7, a8, a9, a10⟩ := id hA
    have h24 := cd_24 V.2.2.1.1 V.2.1.2
    have hv := V.2.1
    have hv1 := V.1
    have hv2 := V.2.2.1
    have hi : i < cd h st := by omega
    have hih := hs_h hi hv2.1
    have hcm := cd_mul hv2.1 hi
    obtain ⟨T1, l1, l2, l3, l4, l5, l6⟩ := lay_eq (S := T) (w := w) (h := h) (st := st) (i := i) (by omega) hv2.2 hv.2
    obtain ⟨T2, m1, m2, m3, m4⟩ := l6_eq (-1) 0 T1 fu hfu
    have hLay : LayR w (i * st) (hs h st i) bs fs T2 := by
      unfold LayR
      rw [m2]
      exact ⟨l2, l3, l4, by rw [l6 18 (by decide) (by decide) (by decide)]; exact a9, by rw [l6 19 (by decide) (by decide) (by decide)]; exact a10⟩
    have hTS2 : TS m fd p T2 := by
      obtain ⟨t1, t2, t3, t4, t5⟩ := a4
      refine ⟨?_, ?_, ?_, ?_, t5⟩
      · rw [m2, l6 10 (by decide) (by decide) (by decide)]; exact t1
      · rw [m3 6 (by decide), l5]; exact t2
      · rw [m2, l6 11 (by decide) (by decide) (by decide)]; exact t3
      · rw [m2, l6 12 (by decide) (by decide) (by decide)]; exact t4
    have fr2 : FRR S T2 := ⟨fun k hk h11 h12 => by rw [m2, l6 k (by omega) (by omega) (by omega)]; exact a8.1 k hk h11 h12, fun q h7 h8 h9 => by rw [m3 q h8, l5]; exact a8.2 q h7 h8 h9⟩
    have hSI : SI m w (i * st) (hs h st i) bs fs (i * st * w) i 0 0 cnt p fd L T2 L T2 := by
      refine ⟨by decide, a6 i (Nat.le_refl _) (by omega), a2, fun _ => rfl, fun l hl => by rw [m4 l hl, bit_0 hl], fun l hl hb => by rw [bit_0 hl] at hb; omega, hTS2, fun _ _ => rfl, fun _ _ => rfl, rfl, rfl, fun _ _ _ _ => rfl, fun _ _ _ => rfl, fun _ _ _ => rfl⟩
    have hbef : bef 0 = -1 := rfl
    have key := rd_str (hd := hd) (n := 576) V hi rfl rfl rfl hB hLay rf fu hfu 4 0 0 0 p L T2 fu fu (by omega) (by omega) (Nat.le_refl _) hSI (by omega) (by omega)
    rw [hbef] at key
    have hCl : Reader_readStripe fu 576 B (nI p) rf hd L (nI i) = (Reader_readStripe_l4 fu 576 B hd (nI i) fu (-1) (nI 0) (nI p) rf L).bind (wrS 576 B hd (nI i)) := rfl
    have hRf : ∀ co x T3, Mo_takeStripe_l26 fu fu (-1) (nI 0) 1 T2 = some (co, x, T3) → Mo_takeStripe fu T1 = some (x, T3) := by
      intro co x T3 hz
      unfold Mo_takeStripe
      rw [m1, Option.bind_some]
      show (Mo_takeStripe_l26 fu fu (-1) (nI 0) 1 T2).bind _ = _
      rw [hz, Option.bind_some]
      dsimp only
      split <;> rfl
    rw [Reader_readAll_l19, if_neg ne10, stripes_eq V, Option.bind_some, if_neg (nI_ge hi (by omega)), Mo_read_l95, a4.2.2.2.1, if_neg m1_ge0, stripesOf_eq (by omega) (by omega) (by omega), Option.bind_some, if_neg (nI_ge hi (by omega)), l1, Option.bind_some]
    rcases key with ⟨p', c', t', L', T3, k1, k2, k3, k4, k5⟩ | ⟨pl', q, L', co, x, T3, k1, k2, k3, k4, k5, k6⟩
    · rw [hCl, k1, Option.bind_some, hRf _ _ _ k2, Option.bind_some]
      dsimp only
      obtain ⟨s1, s2, s3, s4, s5, s6, s7, s8, s9, s10, s11, s12, s13⟩ := k5
      have hc1 : 1 ≤ c' := by
        rcases Nat.eq_zero_or_pos c' with z | z
        · rw [s4 z] at k4
          exact absurd k4 (by decide)
        · exact z
      rw [s7.2.2.2.1, if_neg m1_ge0]
      have V' : VL 576 w h st bs fs L' := VL_fr V (fun k hk => s8 k (by omega)) s10 s11
      have hD : LD w (i * st) (hs h st i) bs fs := ⟨V.1, ⟨hih.2, by omega⟩, V.2.2.2.1, V.2.2.2.2.1⟩
      have hLay3 : LayR w (i * st) (hs h st i) bs fs T3 := by
        unfold LayR
        rw [s13.1 15 (by decide) (by decide), s13.1 16 (by decide) (by decide), s13.1 17 (by decide) (by decide), s13.1 18 (by decide) (by decide), s13.1 19 (by decide) (by decide)]
        exact hLay
      obtain ⟨T4, j1, j2, j3, j4, j5⟩ := join_all hD hLay3 V' hi rfl rfl rfl s1 s2 s5 s6 fu hfu
      rw [j1, Option.bind_some, nI_add, nI_p1]
      have hAI : AI m w h st bs fs (i + 1) (cnt + c') p' fd S L' T4 := by
        refine ⟨V', s3, ⟨by omega, by omega⟩, ?_, ?_, ?_, ?_, ?_, ?_, ?_⟩
        · obtain ⟨t1, t2, t3, t4, t5⟩ := s7
          exact ⟨by rw [j2]; exact t1, by rw [j3 6 (by decide)]; exact t2, by rw [j2]; exact t3, by rw [j2]; exact t4, t5⟩
        · intro i' hi'
          by_cases z : i' = i
          · rw [z]; exact ⟨t', s1, s2⟩
          · rw [s9 i' z]; exact a5 i' (by omega)
        · intro i' h1 h2
          rw [s9 i' (by omega)]; exact a6 i' (by omega) h2
        · intro y x h1 h2 h3
          by_cases z : y < i * st
          · have hyi : y / st < i := (Nat.div_lt_iff_lt_mul (by omega)).mpr z
            obtain ⟨t, ht, e4⟩ := a5 (y / st) hyi
            have hyh : y / st < cd h st := by omega
            have hih' := hs_h hyh hv2.1
            have hle : y / st * st + hs h st (y / st) ≤ i * st := by
              have q1 : (y / st + 1) * st ≤ i * st := Nat.mul_le_mul_right st hyi
              have q2 := hs_le (h := h) (st := st) (i := y / st)
              rw [Nat.add_mul, Nat.one_mul] at q1
              omega
            have hst0 : y / st * st * w + w * hs h st (y / st) ≤ i * st * w := by
              have q1 : (y / st * st + hs h st (y / st)) * w ≤ i * st * w := Nat.mul_le_mul_right w hle
              rw [Nat.add_mul, Nat.mul_comm (hs h st (y / st)) w] at q1
              exact q1
            rw [exact_fr V V' h3 h2 e4 ht (by rw [s9 _ (by omega)]; exact e4) (fun l j hl hj => s12 l j hl (by omega)), j5 _ (by omega), s13.2 9 (by decide) (by decide), m3 9 (by decide), l5]
            exact a7 y x z h2 h3
          · exact j4 y x (by omega) (by
              rw [Nat.add_mul, Nat.one_mul] at h1
              unfold hs; omega) h3
        · refine ⟨fun k hk h11 h12 => ?_, fun q h7 h8 h9 => ?_⟩
          · rw [j2, s13.1 k h11 h12]; exact fr2.1 k hk h11 h12
          · rw [j3 q h9, s13.2 q h7 h8]; exact fr2.2 q h7 h8 h9
        · rw [j2]; exact hLay3.2.2.2.1
        · rw [j2]; exact hLay3.2.2.2.2
      rcases ih (i + 1) (cnt + c') p' L' T4 g g' (by omega) hAI (by omega) (by omega) with ⟨cnt'', p'', L'', T'', b1, b2, b3⟩ | ⟨pl'', q, L'', x, T'', b1, b2, b3, b4, b5, b6⟩
      · left
        exact ⟨cnt'', p'', L'', T'', b1, b2, b3⟩
      · right
        exact ⟨pl'', q, L'', x, T'', b1, b2, b3, b4, by rw [b5]; exact s10, b6⟩
    · right
      rw [hCl, k1, Option.bind_some, hRf _ _ _ k2, Option.bind_some]
      dsimp only
      obtain ⟨g2, rfl⟩ : ∃ g2, g = g2 + 1 := ⟨g - 1, by omega⟩
      obtain ⟨g3, rfl⟩ : ∃ g2, g' = g2 + 1 := ⟨g' - 1, by omega⟩
      rw [k3, if_pos (nI_pos' (show q < 2 ^ 31 by omega)), Reader_readAll_l19, if_pos rfl, Mo_read_l95, k3, if_pos (nI_pos' (show q < 2 ^ 31 by omega))]
      exact ⟨_, q, L', _, T3, rfl, rfl, k3, k4, k5, ⟨fun k hk h11 h12 => by rw [k6.1 k h11 h12]; exact fr2.1 k hk h11 h12, fun q h7 h8 h9 => by rw [k6.2 q h7 h8]; exact fr2.2 q h7 h8 h9⟩⟩
end RA
