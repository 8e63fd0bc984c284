def SI (m w tp r bs fs st0 i t c cnt p : Nat) (fd : Nat → Int32) (L0 T0 L T : LyS) : Prop :=
  t < 16 ∧ L.2 4 i = nI t ∧ L.1 3 = nI (cnt + c) ∧ (c = 0 → t = 0) ∧ (∀ l, l < 4 → T.2 8 l = nI (bit t l)) ∧ (∀ l, l < 4 → bit t l = 1 → RV w (sc bs fs l) l tp st0 (mny w (sc bs fs l) r) L T) ∧ TS m fd p T ∧
  (∀ k, k ≠ 3 → L.1 k = L0.1 k) ∧ (∀ j, j ≠ i → L.2 4 j = L0.2 4 j) ∧ L.2 5 = L0.2 5 ∧ L.2 6 = L0.2 6 ∧ (∀ l j, l < 4 → j < st0 ∨ st0 + w * r ≤ j → L.2 l j = L0.2 l j) ∧ TG T0 T
def wrS (n : Nat) (B : ByS) (hd : Nat → Int32) (p1 : Int32) (r10 : Nat × Int32 × Int32 × Int32 × LyS) : Option (Int32 × Int32 × Int32 × LyS) :=
  (if r10.1 = 0 then (Reader_refuse n B r10.2.2.1 r10.2.2.2.1 hd r10.2.2.2.2 r10.2.2.1).bind fun r11 =>
  zb r11.1 (some (r11.1, r10.2.2.1, r11.2, r10.2.2.2.2))
  else (if r10.1 = 1 then zb 0 (some (0, r10.2.2.1, r10.2.2.2.1, r10.2.2.2.2))
  else (if r10.1 = 2 then (Reader_mayEnd n B r10.2.2.1 r10.2.2.2.1 hd r10.2.2.2.2 p1).bind fun r14 =>
  (if r14 = 0 then (Reader_refuse n B r10.2.2.1 r10.2.2.2.1 hd r10.2.2.2.2 r10.2.1).bind fun r16 =>
  (if r16.1 = 0 then zb 0 (some (0, r10.2.2.1, r16.2, r10.2.2.2.2))
  else zb 1 (some (1, r10.2.2.1, r16.2, r10.2.2.2.2)))
  else zb 1 (some (1, r10.2.2.1, r10.2.2.2.1, r10.2.2.2.2)))
  else (if r10.1 = 3 then (Reader_refuse n B r10.2.2.1 r10.2.2.2.1 hd r10.2.2.2.2 r10.2.1).bind fun r21 =>
  zb r21.1 (some (r21.1, r10.2.2.1, r21.2, r10.2.2.2.2))
  else zb 0 (some (0, r10.2.2.1, r10.2.2.2.1, r10.2.2.2.2))))))
section RS2
variable {n m w h st i tp r bs fs st0 cnt : Nat} {B : ByS} {fd hd : Nat → Int32} {L0 T0 : LyS}
theorem wr_1 (a b c : Int32) (L : LyS) (x : Int32) : wrS n B hd x (1, a, b, c, L) = some (0, b, c, L) := by
  unfold wrS
  rw [if_neg (show ¬ (1 : Nat) = 0 by decide), if_pos rfl]; rfl
theorem wr_3 (a b c : Int32) (L : LyS) (x : Int32) : wrS n B hd x (3, a, b, c, L) = some (0, b, a, L) := by
  unfold wrS
  rw [if_neg (show ¬ (3 : Nat) = 0 by decide), if_neg (show ¬ (3 : Nat) = 1 by decide), if_neg (show ¬ (3 : Nat) = 2 by decide), if_pos rfl]; rfl
theorem wr_4 (a b c : Int32) (L : LyS) (x : Int32) : wrS n B hd x (4, a, b, c, L) = some (0, b, c, L) := by
  unfold wrS
  rw [if_neg (show ¬ (4 : Nat) = 0 by decide), if_neg (show ¬ (4 : Nat) = 1 by decide), if_neg (show ¬ (4 : Nat) = 2 by decide), if_neg (show ¬ (4 : Nat) = 3 by decide)]; rfl
theorem wr_2 {a b c : Int32} {L : LyS} {t : Nat} (hi : i < 24) (e4 : L.2 4 i = nI t) (ht : t < 16) : wrS n B hd (nI i) (2, a, b, c, L) = if oke t then some (1, b, c, L) else some (0, b, a, L) := by
  unfold wrS
  rw [if_neg (show ¬ (2 : Nat) = 0 by decide), if_neg (show ¬ (2 : Nat) = 1 by decide), if_pos rfl]
  obtain ⟨x, hx, h1, h2⟩ := end_eq2 (n := n) (B := B) (hd := hd) b c hi e4 ht
  dsimp only
  rw [h1, Option.bind_some]
  rcases hx with rfl | rfl
  · rw [if_pos e00, if_neg (fun y => by have := h2.mpr y; omega)]; rfl
  · rw [if_neg n10, if_pos (h2.mp rfl)]; rfl
theorem rd_str (V0 : VL n w h st bs fs L0) (hi : i < cd h st) (etp : tp = i * st) (er : r = hs h st i) (est0 : st0 = i * st * w) (hB : RB B m fd) (hL0 : LayR w tp r bs fs T0) (rf : Int32) (fu : Nat) (hfu : 7000 ≤ fu) :
    ∀ (d e c t p : Nat) (L T : LyS) (f f' : Nat), 4 - e ≤ d → e ≤ 4 → c ≤ e → SI m w tp r bs fs st0 i t c cnt p fd L0 T0 L T → 4 - e + 1 < f → 4 - e + 2 < f' →
    (∃ p' c' t' L' T', (Reader_readStripe_l4 fu n B hd (nI i) f (bef e) (nI c) (nI p) rf L).bind (wrS n B hd (nI i)) = some (1, nI p', rf, L') ∧ Mo_takeStripe_l26 fu f' (bef e) (nI c) 1 T = some (0, nI c', T') ∧ c' ≤ 4 ∧ oke t' ∧ SI m w tp r bs fs st0 i t' c' cnt p' fd L0 T0 L' T') ∨
    (∃ pl' q L' co x T', (Reader_readStripe_l4 fu n B hd (nI i) f (bef e) (nI c) (nI p) rf L).bind (wrS n B hd (nI i)) = some (0, pl', nI q, L') ∧ Mo_takeStripe_l26 fu f' (bef e) (nI c) 1 T = some (co, x, T') ∧ T'.1 12 = nI q ∧ q ≤ 6400 ∧ L'.2 5 = L0.2 5 ∧ TG T0 T') := by
  have hm64 := RB_m hB
  have h24 := cd_24 V0.2.2.1.1 V0.2.1.2
  have hih := hs_h hi V0.2.2.1.1
  have hi24 : i < 24 := by omega
  have htr : tp + r ≤ 24 := by have := V0.2.1; omega
  -- a refusal of the reference ends it
  have hend : ∀ (f' : Nat) (v1 x : Int32) (b : Int32) (T1 : LyS) (q : Nat), 1 ≤ f' → q ≤ 6400 → T1.1 12 = nI q → Mo_takeStripe_l26 fu f' v1 x b T1 = some (0, x, T1) := by
    intro f' v1 x b T1 q h1 h2 h3
    obtain ⟨g, rfl⟩ : ∃ g, f' = g + 1 := ⟨f' - 1, by omega⟩
    rw [Mo_takeStripe_l26, h3, if_pos (nI_pos' (show q < 2 ^ 31 by omega))]
    split <;> rfl
  have hend0 : ∀ (f' : Nat) (v1 x : Int32) (T1 : LyS), 1 ≤ f' → Mo_takeStripe_l26 fu f' v1 x 0 T1 = some (0, x, T1) := by
    intro f' v1 x T1 h1
    obtain ⟨g, rfl⟩ : ∃ g, f' = g + 1 := ⟨f' - 1, by omega⟩
    rw [Mo_takeStripe_l26, if_pos rfl]
  intro d
  induction d with
  | zero =>
    intro e c t p L T f f' he he4 hc hS hf hf'
    obtain ⟨g, rfl⟩ : ∃ g, f = g + 1 := ⟨f - 1, by omega⟩
    obtain ⟨g', rfl⟩ : ∃ g, f' = g + 1 := ⟨f' - 1, by omega⟩
    obtain ⟨s1, s2, s3, s4, s5, s6, s7, s8, s9, s10, s11, s12, s13⟩ := id hS
    have hpm := s7.2.2.2.2.1
    have hC : Reader_readStripe_l4 fu n B hd (nI i) (g + 1) (bef e) (nI c) (nI p) rf L = (Reader_take n B (nI p) rf hd L (nI 160) (nI 175)).bind fun r1 => if r1.1 = -1 then some (1, nI p, r1.2.1, r1.2.2, L) else if r1.1 = 175 then some (2, nI p, r1.2.1, r1.2.2, L) else if r1.1 - 160 ≤ bef e then some (3, nI p, r1.2.1, r1.2.2, L) else (Reader_mayFollow n B r1.2.1 r1.2.2 hd L (nI i) (r1.1 - 160)).bind fun r2 => if r2 = 0 then some (3, nI p, r1.2.1, r1.2.2, L) else (Reader_readLayer fu n B r1.2.1 r1.2.2 hd L (nI i) (r1.1 - 160)).bind fun r3 => if r3.1 = 0 then some (4, nI p, r3.2.1, r3.2.2.1, r3.2.2.2) else Reader_readStripe_l4 fu n B hd (nI i) g (r1.1 - 160) (nI c + 1) r3.2.1 r3.2.2.1 r3.2.2.2 := by
      rw [Reader_readStripe_l4, if_neg (show ¬ (4 : Int32) < nI c from nI_nlt (a := 4) (by omega) (by omega))]; rfl
    rw [hC]
    by_cases hp : p < m
    · obtain ⟨b, hb, eb⟩ := (hB.2.2 p hp).2
      rw [l26_step (t := t) (e := e) fu g' (nI c) s7 hp eb hb s5 (by omega)]
      have hT1 := TS_p s7 (p' := p + 1) (by omega)
      have hrefG : TG T0 (Lf (Lf T 11 (nI (p + 1))) 12 (nI p)) := TG_t s13 ⟨fun k h11 h12 => by rw [lf_n h12, lf_n h11], fun _ _ _ => rfl⟩
      by_cases z175 : b = 175
      · rw [if_pos z175, take_in hB hp eb hb (by omega) (by omega) (by omega), Option.bind_some]
        dsimp only
        rw [if_neg (nI_ne_m1 (by omega)), if_pos (show nI b = 175 by rw [z175]; rfl), Option.bind_some, wr_2 hi24 s2 s1]
        by_cases zo : oke t
        · left
          rw [if_pos zo, if_pos zo, hend0 g' _ _ _ (by omega)]
          exact ⟨p + 1, c, t, L, _, rfl, rfl, by omega, zo, s1, s2, s3, s4, s5, s6, hT1, s8, s9, s10, s11, s12, TG_t s13 ⟨fun k h11 _ => lf_n h11, fun _ _ _ => rfl⟩⟩
        · right
          rw [if_neg zo, if_neg zo, hend0 g' _ _ _ (by omega)]
          exact ⟨_, p, L, _, _, _, rfl, rfl, lf_s, by omega, s10, hrefG⟩
      · rw [if_neg z175]
        have hno : ¬ (160 ≤ b ∧ okl (b - 160) t e) := fun y => by have := y.2.1; have := y.2.2.1; omega
        rw [if_neg hno, hend g' _ _ _ _ p (by omega) (by omega) lf_s]
        right
        by_cases hr : 160 ≤ b ∧ b ≤ 175
        · have hsub : nI b - 160 = nI (b - 160) := pk_sub (b := 160) hr.1
          rw [take_in hB hp eb hb hr.1 hr.2 (by omega), Option.bind_some]
          dsimp only
          rw [if_neg (nI_ne_m1 (by omega)), if_neg (show ¬ nI b = 175 from fun y => z175 ((nI_eq (b := 175) (by omega) (by omega)).mp y)), hsub]
          by_cases zl : b - 160 < e
          · rw [if_pos ((bef_le (by omega) (by omega)).mpr zl), Option.bind_some, wr_3]
            exact ⟨_, p, L, _, _, _, rfl, rfl, lf_s, by omega, s10, hrefG⟩
          · obtain ⟨x, hx, f1, f2⟩ := follow_eq (n := n) (B := B) (hd := hd) (L := L) (i := i) (l := b - 160) (nI (p + 1)) rf hi24 s2 s1 (by omega)
            have hx0 : x = 0 := by
              rcases hx with y | y
              · exact y
              · have := f2.mp y; omega
            rw [if_neg (fun y => zl ((bef_le (by omega) (by omega)).mp y)), f1, hx0, Option.bind_some, if_pos e00, Option.bind_some, wr_3]
            exact ⟨_, p, L, _, _, _, rfl, rfl, lf_s, by omega, s10, hrefG⟩
        · rw [take_out hB hp eb hb (by omega) (by omega), Option.bind_some]
          dsimp only
          rw [if_pos rfl, Option.bind_some, wr_1]
          exact ⟨_, p, L, _, _, _, rfl, rfl, lf_s, by omega, s10, hrefG⟩
    · right
      have hpe : p = m := by omega
      rw [take_lack hB hpe (by omega), Option.bind_some]
      dsimp only
      rw [if_pos rfl, Option.bind_some, wr_1, Mo_takeStripe_l26, if_neg ne10, s7.2.2.2.1, if_neg m1_ge0, mtake_lack s7 hpe, Option.bind_some]
      dsimp only
      rw [lf_s, if_neg (nI_pos (by omega))]
      exact ⟨_, p, L, _, _, _, rfl, rfl, lf_s, by omega, s10, TG_t s13 ⟨fun k _ h12 => lf_n h12, fun _ _ _ => rfl⟩⟩
  | succ d ih =>
    intro e c t p L T f f' he he4 hc hS hf hf'
    obtain ⟨g, rfl⟩ : ∃ g, f = g + 1 := ⟨f - 1, by omega⟩
    obtain ⟨g', rfl⟩ : ∃ g, f' = g + 1 := ⟨f' - 1, by omega⟩
    obtain ⟨s1, s2, s3, s4, s5, s6, s7, s8, s9, s10, s11, s12, s13⟩ := id hS
    have hpm := s7.2.2.2.2.1
    have hC : Reader_readStripe_l4 fu n B hd (nI i) (g + 1) (bef e) (nI c) (nI p) rf L = (Reader_take n B (nI p) rf hd L (nI 160) (nI 175)).bind fun r1 => if r1.1 = -1 then some (1, nI p, r1.2.1, r1.2.2, L) else if r1.1 = 175 then some (2, nI p, r1.2.1, r1.2.2, L) else if r1.1 - 160 ≤ bef e then some (3, nI p, r1.2.1, r1.2.2, L) else (Reader_mayFollow n B r1.2.1 r1.2.2 hd L (nI i) (r1.1 - 160)).bind fun r2 => if r2 = 0 then some (3, nI p, r1.2.1, r1.2.2, L) else (Reader_readLayer fu n B r1.2.1 r1.2.2 hd L (nI i) (r1.1 - 160)).bind fun r3 => if r3.1 = 0 then some (4, nI p, r3.2.1, r3.2.2.1, r3.2.2.2) else Reader_readStripe_l4 fu n B hd (nI i) g (r1.1 - 160) (nI c + 1) r3.2.1 r3.2.2.1 r3.2.2.2 := by
      rw [Reader_readStripe_l4, if_neg (show ¬ (4 : Int32) < nI c from nI_nlt (a := 4) (by omega) (by omega))]; rfl
    rw [hC]
    by_cases hp : p < m
    · obtain ⟨b, hb, eb⟩ := (hB.2.2 p hp).2
      rw [l26_step (t := t) (e := e) fu g' (nI c) s7 hp eb hb s5 (by omega)]
      have hT1 := TS_p s7 (p' := p + 1) (by omega)
      have hrefG : TG T0 (Lf (Lf T 11 (nI (p + 1))) 12 (nI p)) := TG_t s13 ⟨fun k h11 h12 => by rw [lf_n h12, lf_n h11], fun _ _ _ => rfl⟩
      by_cases z175 : b = 175
      · rw [if_pos z175, take_in hB hp eb hb (by omega) (by omega) (by omega), Option.bind_some]
        dsimp only
        rw [if_neg (nI_ne_m1 (by omega)), if_pos (show nI b = 175 by rw [z175]; rfl), Option.bind_some, wr_2 hi24 s2 s1]
        by_cases zo : oke t
        · left
          rw [if_pos zo, if_pos zo, hend0 g' _ _ _ (by omega)]
          exact ⟨p + 1, c, t, L, _, rfl, rfl, by omega, zo, s1, s2, s3, s4, s5, s6, hT1, s8, s9, s10, s11, s12, TG_t s13 ⟨fun k h11 _ => lf_n h11, fun _ _ _ => rfl⟩⟩
        · right
          rw [if_neg zo, if_neg zo, hend0 g' _ _ _ (by omega)]
          exact ⟨_, p, L, _, _, _, rfl, rfl, lf_s, by omega, s10, hrefG⟩
      · rw [if_neg z175]
        by_cases hr : 160 ≤ b ∧ b ≤ 175
        · have hsub : nI b - 160 = nI (b - 160) := pk_sub (b := 160) hr.1
          rw [take_in hB hp eb hb hr.1 hr.2 (by omega), Option.bind_some]
          dsimp only
          rw [if_neg (nI_ne_m1 (by omega)), if_neg (show ¬ nI b = 175 from fun y => z175 ((nI_eq (b := 175) (by omega) (by omega)).mp y)), hsub]
          by_cases zl : b - 160 < e
          · right
            rw [if_pos ((bef_le (by omega) (by omega)).mpr zl), Option.bind_some, wr_3, if_neg (fun y => by have := y.2.1; omega), hend g' _ _ _ _ p (by omega) (by omega) lf_s]
            exact ⟨_, p, L, _, _, _, rfl, rfl, lf_s, by omega, s10, hrefG⟩
          · obtain ⟨x, hx, f1, f2⟩ := follow_eq (n := n) (B := B) (hd := hd) (L := L) (i := i) (l := b - 160) (nI (p + 1)) rf hi24 s2 s1 (by omega)
            rw [if_neg (fun y => zl ((bef_le (by omega) (by omega)).mp y)), f1, Option.bind_some]
            rcases hx with hx0 | hx1
            · right
              have hno : ¬ (160 ≤ b ∧ okl (b - 160) t e) := fun y => by
                have := f2.mpr ⟨y.2.2.1, y.2.2.2.1, y.2.2.2.2⟩
                omega
              rw [hx0, if_pos e00, Option.bind_some, wr_3, if_neg hno, hend g' _ _ _ _ p (by omega) (by omega) lf_s]
              exact ⟨_, p, L, _, _, _, rfl, rfl, lf_s, by omega, s10, hrefG⟩
            · obtain ⟨o1, o2, o3⟩ := f2.mp hx1
              rw [hx1, if_neg n10, if_pos (show 160 ≤ b ∧ okl (b - 160) t e from ⟨hr.1, by omega, o1, o2, o3⟩)]
              generalize hl : b - 160 = l at *
              have hVL : VL n w h st bs fs L := VL_fr V0 (fun k hk => s8 k (by omega)) s10 s11
              have hLay : LayR w tp r bs fs (Lf T 11 (nI (p + 1))) := by
                unfold LayR
                rw [lf_n (by decide), lf_n (by decide), lf_n (by decide), lf_n (by decide), lf_n (by decide), s13.1 15 (by decide) (by decide), s13.1 16 (by decide) (by decide), s13.1 17 (by decide) (by decide), s13.1 18 (by decide) (by decide), s13.1 19 (by decide) (by decide)]
                exact hL0
              rcases rd_layer (hd := hd) hVL hi etp er est0 hB (show l < 4 by omega) s1 s2 s3 rf hT1 hLay fu hfu with ⟨p', L', T', a1, a2, a3, a4⟩ | ⟨pl', q, L', T', a1, a2, a3, a4, a5, a6⟩
              · rw [a1, a2, Option.bind_some, Option.bind_some]
                dsimp only
                rw [if_neg ne10, nI_p1]
                obtain ⟨b1, b2, b3, b4, b5, b6, b7, b8, b9⟩ := a4
                obtain ⟨r1, r2, r3, r4⟩ := or_bits s1 (show l < 4 by omega)
                have hSI : SI m w tp r bs fs st0 i (t ||| 2 ^ l) (c + 1) cnt p' fd L0 T0 L' T' := by
                  refine ⟨r2, by rw [b3, pk_us], by rw [b1, Nat.add_assoc], fun z => by omega, ?_, ?_, a3, fun k hk => by rw [b2 k hk]; exact s8 k hk, ?_, ?_, ?_, ?_, TG_t (TG_t s13 ⟨fun k h11 _ => lf_n h11, fun _ _ _ => rfl⟩) b7⟩
                  · intro l' hl'
                    rw [b8]
                    by_cases z : l' = l
                    · rw [z, pk_us, r3]
                    · rw [pk_un z, r4 l' hl' z]; exact s5 l' hl'
                  · intro l' hl' hbit
                    by_cases z : l' = l
                    · rw [z]; exact b6
                    · rw [r4 l' hl' z] at hbit
                      have hR := s6 l' hl' hbit
                      have hsc := sc_in (k := l') V0.2.2.2.1 V0.2.2.2.2.1
                      intro k' hk'
                      have hin := ps_in (l := l') hsc.1 V0.1.2 htr hk'
                      rw [b4 l' (by omega) z, b9 _ (by unfold InR at hin ⊢; omega)]
                      exact hR k' hk'
                  · intro j hj
                    rw [b3, pk_un hj]; exact s9 j hj
                  · rw [b4 5 (by decide) (by omega)]; exact s10
                  · rw [b4 6 (by decide) (by omega)]; exact s11
                  · intro l' j hl' hj
                    by_cases z : l' = l
                    · rw [z, b5 j hj]; exact s12 l j (by omega) hj
                    · rw [b4 l' (by omega) z]; exact s12 l' j hl' hj
                have hbf : nI l = bef (l + 1) := by unfold bef; rw [if_neg (by omega)]; rfl
                rw [hbf]
                exact ih (l + 1) (c + 1) (t ||| 2 ^ l) p' L' T' g g' (by omega) (by omega) (by omega) hSI (by omega) (by omega)
              · right
                rw [a1, a2, Option.bind_some, Option.bind_some]
                dsimp only
                rw [if_pos rfl, Option.bind_some, wr_4, hend g' _ _ _ _ q (by omega) a4 a3]
                exact ⟨_, q, L', _, _, _, rfl, rfl, a3, a4, by rw [a5]; exact s10, TG_t (TG_t s13 ⟨fun k h11 _ => lf_n h11, fun _ _ _ => rfl⟩) a6⟩
        · right
          rw [take_out hB hp eb hb (by omega) (by omega), Option.bind_some]
          dsimp only
          rw [if_pos rfl, Option.bind_some, wr_1, if_neg (fun y => by have := y.1; have := y.2.2.1; omega), hend g' _ _ _ _ p (by omega) (by omega) lf_s]
          exact ⟨_, p, L, _, _, _, rfl, rfl, lf_s, by omega, s10, hrefG⟩
    · right
      have hpe : p = m := by omega
      rw [take_lack hB hpe (by omega), Option.bind_some]
      dsimp only
      rw [if_pos rfl, Option.bind_some, wr_1, Mo_takeStripe_l26, if_neg ne10, s7.2.2.2.1, if_neg m1_ge0, mtake_lack s7 hpe, Option.bind_some]
      dsimp only
      rw [lf_s, if_neg (nI_pos (by omega))]
      exact ⟨_, p, L, _, _, _, rfl, rfl, lf_s, by omega, s10, TG_t s13 ⟨fun k _ h12 => lf_n h12, fun _ _ _ => rfl⟩⟩
end RS2
