/-! ===== read: the values of a layer ===== -/
def LF (l st0 N : Nat) (L L' : LyS) : Prop := L'.1 = L.1 ∧ (∀ q, q ≠ l → L'.2 q = L.2 q) ∧ ∀ j, j < st0 ∨ st0 + N ≤ j → L'.2 l j = L.2 l j
def TF (l tp r : Nat) (T T' : LyS) : Prop := (∀ k, k ≠ 11 → k ≠ 12 → T'.1 k = T.1 k) ∧ (∀ q, q ≠ 7 → T'.2 q = T.2 q) ∧ ∀ P, ¬ InR l tp r P → T'.2 7 P = T.2 7 P
def RV (w s l tp st0 k : Nat) (L T : LyS) : Prop := ∀ k', k' < k → L.2 l (st0 + k') = T.2 7 (ps w s l tp k') ∧ Vl l (L.2 l (st0 + k'))
theorem LF_r {l st0 N : Nat} {L : LyS} : LF l st0 N L L := ⟨rfl, fun _ _ => rfl, fun _ _ => rfl⟩
theorem LF_t {l st0 N : Nat} {L L' L'' : LyS} (h : LF l st0 N L L') (h' : LF l st0 N L' L'') : LF l st0 N L L'' := ⟨by rw [h'.1, h.1], fun q hq => by rw [h'.2.1 q hq, h.2.1 q hq], fun j hj => by rw [h'.2.2 j hj, h.2.2 j hj]⟩
theorem TF_r {l tp r : Nat} {T : LyS} : TF l tp r T T := ⟨fun _ _ _ => rfl, fun _ _ => rfl, fun _ _ => rfl⟩
theorem TF_t {l tp r : Nat} {T T' T'' : LyS} (h : TF l tp r T T') (h' : TF l tp r T' T'') : TF l tp r T T'' := ⟨fun k h1 h2 => by rw [h'.1 k h1 h2, h.1 k h1 h2], fun q hq => by rw [h'.2.1 q hq, h.2.1 q hq], fun P hP => by rw [h'.2.2 P hP, h.2.2 P hP]⟩
theorem TA_f {l tp r p' : Nat} {T T' : LyS} (h : TA T T' p') : TF l tp r T T' := ⟨fun k h1 _ => h.2.1 k h1, fun q _ => by rw [h.2.2], fun P _ => by rw [h.2.2]⟩
theorem TB_f {l tp r q : Nat} {T T' : LyS} (h : TB T T' q) : TF l tp r T T' := ⟨fun k h1 h2 => h.2.2.1 k h1 h2, fun q _ => by rw [h.2.2.2], fun P _ => by rw [h.2.2.2]⟩
theorem TF_lay {w tp r bs fs l : Nat} {T T' : LyS} (h : TF l tp r T T') (H : LayR w tp r bs fs T) : LayR w tp r bs fs T' := by
  unfold LayR
  rw [h.1 15 (by decide) (by decide), h.1 16 (by decide) (by decide), h.1 17 (by decide) (by decide), h.1 18 (by decide) (by decide), h.1 19 (by decide) (by decide)]
  exact H
theorem LF_set {l st0 N k : Nat} {L : LyS} {v : Int32} (hk : k < N) : LF l st0 N L (Ls L l (st0 + k) v) := ⟨rfl, fun q hq => ls_n hq, fun j hj => by rw [ls_s, pk_un (by omega)]⟩
theorem TF_set {w s l tp r k : Nat} {T : LyS} {v : Int32} (hs : 1 ≤ s) (hw : w ≤ 24) (hr : tp + r ≤ 24) (hk : k < mny w s r) : TF l tp r T (Ls T 7 (ps w s l tp k) v) := ⟨fun _ _ _ => rfl, fun q hq => ls_n hq, fun P hP => by rw [ls_s, pk_un (fun e => hP (by rw [e]; exact ps_in hs hw hr hk))]⟩
theorem TS_set {m p P : Nat} {fd : Nat → Int32} {T : LyS} {v : Int32} (h : TS m fd p T) : TS m fd p (Ls T 7 P v) := ⟨h.1, by rw [ls_n (by decide)]; exact h.2.1, h.2.2.1, h.2.2.2.1, h.2.2.2.2⟩
section RD
variable {n m w tp r bs fs st0 l : Nat} {B : ByS} {fd hd : Nat → Int32}
/-- what reading a layer's values knows -/
def RLy (n m w tp r bs fs st0 l : Nat) (B : ByS) (fd : Nat → Int32) : Prop := LD w tp r bs fs ∧ l < 4 ∧ n ≤ 576 ∧ st0 + mny w (sc bs fs l) r ≤ n ∧ RB B m fd
theorem RV_set {k : Nat} {L T : LyS} {v : Int32} (H : RLy n m w tp r bs fs st0 l B fd) (hk : k < mny w (sc bs fs l) r) (hv : Vl l v) (h : RV w (sc bs fs l) l tp st0 k L T) : RV w (sc bs fs l) l tp st0 (k + 1) (Ls L l (st0 + k) v) (Ls T 7 (ps w (sc bs fs l) l tp k) v) := by
  have hsc := sc_in (k := l) H.1.2.2.1 H.1.2.2.2
  intro k' hk'
  rw [ls_s, ls_s]
  by_cases q : k' = k
  · rw [q, pk_us, pk_us]; exact ⟨rfl, hv⟩
  · rw [pk_un (by omega), pk_un (fun e => q (ps_inj hsc.1 H.1.1.2 H.1.2.1.2 (by omega) hk e))]; exact h k' (by omega)
theorem RV_ta {k p' : Nat} {L T T' : LyS} (h : RV w (sc bs fs l) l tp st0 k L T) (ha : TA T T' p') : RV w (sc bs fs l) l tp st0 k L T' := by
  unfold RV; rw [ha.2.2]; exact h
theorem rd_col (H : RLy n m w tp r bs fs st0 l B fd) (hl1 : l ≠ 1) (fu : Nat) (rf : Int32) : ∀ (d k p : Nat) (L T : LyS) (f f' : Nat), k + d = mny w (sc bs fs l) r → TS m fd p T → LayR w tp r bs fs T → RV w (sc bs fs l) l tp st0 k L T → d < f → d < f' →
    (∃ L' T', Reader_readColours_l3 n B hd (nI l) (nI (st0 + mny w (sc bs fs l) r)) f (nI (st0 + k)) (nI p) rf L = some (0, nI (p + 3 * d), rf, L') ∧ Mo_takePlain_l8 fu (nI l) (nI (mny w (sc bs fs l) r)) f' (nI k) T = some (0, T') ∧ TS m fd (p + 3 * d) T' ∧ LF l st0 (mny w (sc bs fs l) r) L L' ∧ TF l tp r T T' ∧ RV w (sc bs fs l) l tp st0 (mny w (sc bs fs l) r) L' T') ∨
    (∃ q L' T', Reader_readColours_l3 n B hd (nI l) (nI (st0 + mny w (sc bs fs l) r)) f (nI (st0 + k)) (nI p) rf L = some (1, nI q, nI q, L') ∧ Mo_takePlain_l8 fu (nI l) (nI (mny w (sc bs fs l) r)) f' (nI k) T = some (0, T') ∧ T'.1 12 = nI q ∧ q ≤ 6400 ∧ LF l st0 (mny w (sc bs fs l) r) L L' ∧ TF l tp r T T') := by
  obtain ⟨h1, h2, h3, h4, h5⟩ := id H
  have hsc := sc_in (k := l) h1.2.2.1 h1.2.2.2
  have hvb : vb l = 3 := by unfold vb; rw [if_neg hl1]
  have q1 : ¬ nI l = 1 := fun y => hl1 ((nI_eq (b := 1) (by omega) (by omega)).mp y)
  intro d
  induction d with
  | zero =>
    intro k p L T f f' hk hT hL hR hf hf'
    obtain ⟨g, rfl⟩ : ∃ g, f = g + 1 := ⟨f - 1, by omega⟩
    obtain ⟨g', rfl⟩ : ∃ g, f' = g + 1 := ⟨f' - 1, by omega⟩
    left
    rw [Reader_readColours_l3, if_pos (nI_le (by omega) (by omega)), Mo_takePlain_l8, if_pos (nI_le (by omega) (by omega))]
    refine ⟨L, T, rfl, rfl, hT, LF_r, TF_r, ?_⟩
    rw [show mny w (sc bs fs l) r = k by omega]; exact hR
  | succ d ih =>
    intro k p L T f f' hk hT hL hR hf hf'
    obtain ⟨g, rfl⟩ : ∃ g, f = g + 1 := ⟨f - 1, by omega⟩
    obtain ⟨g', rfl⟩ : ∃ g, f' = g + 1 := ⟨f' - 1, by omega⟩
    have hkm : k < mny w (sc bs fs l) r := by omega
    have hps := ps_lt (l := l) hsc.1 h1.1.2 h1.2.1.2 hkm
    have hF : Mo_takePlain_l8 fu (nI l) (nI (mny w (sc bs fs l) r)) (g' + 1) (nI k) T = (Mo_takeValue T (nI l)).bind fun r4 => Mo_takePlain_l8 fu (nI l) (nI (mny w (sc bs fs l) r)) g' (nI (k + 1)) (Ls r4.2 7 (ps w (sc bs fs l) l tp k) r4.1) := by
      rw [Mo_takePlain_l8, if_neg (nI_ge hkm (by omega)), hT.2.2.2.1, if_neg m1_ge0, if_neg q1, place_eq h1 hL h2 (by omega), Option.bind_some, nI_clamp (by omega)]
      simp only [if_neg q1]
      cases Mo_takeValue T (nI l) with
      | none => rfl
      | some x =>
        simp only [Option.bind_some]
        rw [gd_nI (by omega) (by omega), Option.bind_some, nI_p1]
    rw [hF, Reader_readColours_l3, if_neg (nI_ge (by omega) (by omega))]
    rcases value2 (n := n) (rf := rf) (hd := hd) (L := L) h5 hT h2 with ⟨v, T1, hv, c1, c2, c3, c4⟩ | ⟨q, u, T1, c1, c2, c3⟩
    · have hcl : ¬ v = -1 := by
        unfold Vl at hv; rw [if_neg hl1] at hv; exact Cl_ne hv
      rw [c1, c2, Option.bind_some, Option.bind_some]
      dsimp only
      rw [if_neg hcl, lys_eq h2 (show st0 + k < n by omega) (by omega), Option.bind_some, nI_p1, Nat.add_assoc, hvb]
      rw [hvb] at c3 c4
      have hT1 := TS_set (P := ps w (sc bs fs l) l tp k) (v := v) (TA_s hT c3 c4)
      have hL1 : LayR w tp r bs fs (Ls T1 7 (ps w (sc bs fs l) l tp k) v) := TF_lay (TF_t (TA_f (l := l) c3) (TF_set hsc.1 h1.1.2 h1.2.1.2 hkm)) hL
      have hR1 := RV_set H hkm hv (RV_ta hR c3)
      have fr1 : LF l st0 (mny w (sc bs fs l) r) L (Ls L l (st0 + k) v) := LF_set hkm
      have fr2 : TF l tp r T (Ls T1 7 (ps w (sc bs fs l) l tp k) v) := TF_t (TA_f c3) (TF_set hsc.1 h1.1.2 h1.2.1.2 hkm)
      rcases ih (k + 1) (p + 3) (Ls L l (st0 + k) v) (Ls T1 7 (ps w (sc bs fs l) l tp k) v) g g' (by omega) hT1 hL1 hR1 (by omega) (by omega) with ⟨L', T', a1, a2, a3, a4, a5, a6⟩ | ⟨q, L', T', a1, a2, a3, a3b, a4, a5⟩
      · left
        refine ⟨L', T', ?_, a2, ?_, LF_t fr1 a4, TF_t fr2 a5, a6⟩
        · rw [a1, show p + 3 + 3 * d = p + 3 * (d + 1) by omega]
        · rw [show p + 3 * (d + 1) = p + 3 + 3 * d by omega]; exact a3
      · right
        exact ⟨q, L', T', a1, a2, a3, a3b, LF_t fr1 a4, TF_t fr2 a5⟩
    · right
      rw [c1, c2, Option.bind_some, Option.bind_some]
      dsimp only
      rw [if_pos rfl]
      obtain ⟨t1, t2, t3, t4⟩ := id c3
      obtain ⟨g2, rfl⟩ : ∃ g2, g' = g2 + 1 := ⟨g' - 1, by omega⟩
      refine ⟨q, L, Ls T1 7 (ps w (sc bs fs l) l tp k) u, rfl, ?_, t1, t2, LF_r, TF_t (TB_f c3) (TF_set hsc.1 h1.1.2 h1.2.1.2 hkm)⟩
      have z12 : (Ls T1 7 (ps w (sc bs fs l) l tp k) u).1 12 = nI q := t1
      rw [Mo_takePlain_l8, z12, if_pos (nI_pos' (show q < 2 ^ 31 by omega))]
      split <;> rfl
theorem bsh : ∀ j : Fin 8, ((((7 : Int32) - nI j.1) &&& 31).toBitVec.smod 32).toNat = 7 - j.1 := by decide +kernel
theorem bit_at {b j : Nat} (hb : b < 256) (hj : j < 8) : (nI b >>> ((7 - nI j) &&& 31)) &&& 1 = nI (b / 2 ^ (7 - j) % 2) := by
  rw [pk_shrN (by omega) _ (7 - j) (bsh ⟨j, hj⟩), pk_andN (by
    have : b / 2 ^ (7 - j) ≤ b := Nat.div_le_self _ _
    omega) 1 (by decide)]
theorem bit_bi (x : Nat) : Bi (nI (x % 2)) := by
  have : x % 2 = 0 ∨ x % 2 = 1 := by omega
  rcases this with h | h <;> rw [h]
  · exact Or.inl rfl
  · exact Or.inr rfl
/-- the reference's eight bits, once it has refused -/
theorem l34_any (H : RLy n m w tp r bs fs st0 1 B fd) {b k : Nat} (hb : b < 256) (hk : k < mny w (sc bs fs 1) r + 8) {q : Nat} (hq : q < 2 ^ 31) : ∀ (d j : Nat) (T : LyS) (f : Nat), j + d = 8 → T.1 12 = nI q → LayR w tp r bs fs T → d < f → ∃ T', Mo_takePlain_l34 1 (nI (mny w (sc bs fs 1) r)) (nI k) (nI b) f (nI j) T = some (0, T') ∧ T'.1 = T.1 ∧ TF 1 tp r T T' := by
  obtain ⟨h1, h2, h3, h4, h5⟩ := id H
  have hsc := sc_in (k := 1) h1.2.2.1 h1.2.2.2
  intro d
  induction d with
  | zero =>
    intro j T f hj hT hL hf
    obtain ⟨g, rfl⟩ : ∃ g, f = g + 1 := ⟨f - 1, by omega⟩
    rw [Mo_takePlain_l34, if_pos (show (8 : Int32) ≤ nI j from nI_le (a := 8) (by omega) (by omega))]
    exact ⟨T, rfl, rfl, TF_r⟩
  | succ d ih =>
    intro j T f hj hT hL hf
    obtain ⟨g, rfl⟩ : ∃ g, f = g + 1 := ⟨f - 1, by omega⟩
    rw [Mo_takePlain_l34, if_neg (show ¬ (8 : Int32) ≤ nI j from nI_ge (b := 8) (by omega) (by omega)), nI_add, bit_at hb (by omega), refuse_ref hq hT, nI_p1]
    by_cases z : mny w (sc bs fs 1) r ≤ k + j
    · rw [if_pos (nI_le z (by omega))]
      have : (if nI (b / 2 ^ (7 - j) % 2) = 1 then (some T).bind fun r7 => Mo_takePlain_l34 1 (nI (mny w (sc bs fs 1) r)) (nI k) (nI b) g (nI (j + 1)) r7 else Mo_takePlain_l34 1 (nI (mny w (sc bs fs 1) r)) (nI k) (nI b) g (nI (j + 1)) T) = Mo_takePlain_l34 1 (nI (mny w (sc bs fs 1) r)) (nI k) (nI b) g (nI (j + 1)) T := by split <;> rfl
      rw [this]
      exact ih (j + 1) T g (by omega) hT hL (by omega)
    · have hps := ps_lt (l := 1) hsc.1 h1.1.2 h1.2.1.2 (k := k + j) (by omega)
      rw [if_neg (nI_ge (by omega) (by omega)), show (1 : Int32) = nI 1 from rfl, place_eq h1 hL h2 (by omega), Option.bind_some, gd_nI (by omega) (by omega), nI_clamp (by omega)]
      have fr := TF_set (l := 1) (T := T) (v := nI (b / 2 ^ (7 - j) % 2)) hsc.1 h1.1.2 h1.2.1.2 (show k + j < mny w (sc bs fs 1) r by omega)
      obtain ⟨T', a1, a2, a3⟩ := ih (j + 1) (Ls T 7 (ps w (sc bs fs 1) 1 tp (k + j)) (nI (b / 2 ^ (7 - j) % 2))) g (by omega) hT (TF_lay fr hL) (by omega)
      exact ⟨T', a1, a2, TF_t fr a3⟩
/-- eight bits, side by side; they were byte p -/
theorem rd_8 (H : RLy n m w tp r bs fs st0 1 B fd) {b k p : Nat} (hb : b < 256) (hk : k < mny w (sc bs fs 1) r) (pl rf : Int32) : ∀ (d j : Nat) (L T : LyS) (f f' : Nat), j + d = 8 → TS m fd (p + 1) T → LayR w tp r bs fs T → RV w (sc bs fs 1) 1 tp st0 (min (k + j) (mny w (sc bs fs 1) r)) L T → d < f → d < f' →
    (∃ L' T', Reader_readBits_l28 n B pl rf hd (nI (st0 + mny w (sc bs fs 1) r)) (nI (st0 + k)) (nI b) f (nI j) L = some (0, L') ∧ Mo_takePlain_l34 1 (nI (mny w (sc bs fs 1) r)) (nI k) (nI b) f' (nI j) T = some (0, T') ∧ TS m fd (p + 1) T' ∧ LF 1 st0 (mny w (sc bs fs 1) r) L L' ∧ TF 1 tp r T T' ∧ RV w (sc bs fs 1) 1 tp st0 (min (k + 8) (mny w (sc bs fs 1) r)) L' T') ∨
    (∃ L' T', Reader_readBits_l28 n B pl rf hd (nI (st0 + mny w (sc bs fs 1) r)) (nI (st0 + k)) (nI b) f (nI j) L = some (1, L') ∧ Mo_takePlain_l34 1 (nI (mny w (sc bs fs 1) r)) (nI k) (nI b) f' (nI j) T = some (0, T') ∧ T'.1 12 = nI p ∧ LF 1 st0 (mny w (sc bs fs 1) r) L L' ∧ TF 1 tp r T T') := by
  obtain ⟨h1, h2, h3, h4, h5⟩ := id H
  have hsc := sc_in (k := 1) h1.2.2.1 h1.2.2.2
  intro d
  induction d with
  | zero =>
    intro j L T f f' hj hT hL hR hf hf'
    obtain ⟨g, rfl⟩ : ∃ g, f = g + 1 := ⟨f - 1, by omega⟩
    obtain ⟨g', rfl⟩ : ∃ g, f' = g + 1 := ⟨f' - 1, by omega⟩
    have hj8 : j = 8 := by omega
    subst hj8
    left
    rw [Reader_readBits_l28, if_pos (by decide), Mo_takePlain_l34, if_pos (by decide)]
    exact ⟨L, T, rfl, rfl, hT, LF_r, TF_r, hR⟩
  | succ d ih =>
    intro j L T f f' hj hT hL hR hf hf'
    obtain ⟨g, rfl⟩ : ∃ g, f = g + 1 := ⟨f - 1, by omega⟩
    obtain ⟨g', rfl⟩ : ∃ g, f' = g + 1 := ⟨f' - 1, by omega⟩
    have hp64 := hT.2.2.2.2
    rw [Reader_readBits_l28, if_neg (show ¬ (8 : Int32) ≤ nI j from nI_ge (b := 8) (by omega) (by omega)), Mo_takePlain_l34, if_neg (show ¬ (8 : Int32) ≤ nI j from nI_ge (b := 8) (by omega) (by omega)), nI_add, nI_add, bit_at hb (by omega), nI_p1, Nat.add_assoc]
    by_cases z : mny w (sc bs fs 1) r ≤ k + j
    · rw [if_pos (nI_le (by omega) (by omega)), if_pos (nI_le z (by omega))]
      by_cases z1 : nI (b / 2 ^ (7 - j) % 2) = 1
      · right
        rw [if_pos z1, if_pos z1]
        have e : nI (p + 1) - 1 = nI p := pk_sub (b := 1) (by omega)
        have hrf : Mo_refuse T (T.1 11 - 1) = some (Lf T 12 (nI p)) := by
          unfold Mo_refuse
          rw [hT.2.2.2.1, if_neg m1_ge0, hT.2.2.1, e]
        rw [hrf, Option.bind_some]
        obtain ⟨T', a1, a2, a3⟩ := l34_any H hb (show k < mny w (sc bs fs 1) r + 8 by omega) (q := p) (by omega) d (j + 1) (Lf T 12 (nI p)) g' (by omega) lf_s ⟨hL.1, hL.2.1, hL.2.2.1, hL.2.2.2.1, hL.2.2.2.2⟩ (by omega)
        refine ⟨L, T', rfl, a1, by rw [a2]; exact lf_s, LF_r, TF_t ⟨fun k _ h12 => lf_n h12, fun _ _ => rfl, fun _ _ => rfl⟩ a3⟩
      · rw [if_neg z1, if_neg z1]
        rcases ih (j + 1) L T g g' (by omega) hT hL (by rw [show min (k + (j + 1)) (mny w (sc bs fs 1) r) = min (k + j) (mny w (sc bs fs 1) r) by omega]; exact hR) (by omega) (by omega) with ⟨L', T', a1, a2, a3⟩ | ⟨L', T', a1, a2, a3⟩
        · exact Or.inl ⟨L', T', a1, a2, a3⟩
        · exact Or.inr ⟨L', T', a1, a2, a3⟩
    · have hkj : k + j < mny w (sc bs fs 1) r := by omega
      have hps := ps_lt (l := 1) hsc.1 h1.1.2 h1.2.1.2 hkj
      rw [if_neg (nI_ge (by omega) (by omega)), if_neg (nI_ge (by omega) (by omega)), show (1 : Int32) = nI 1 from rfl, lys_eq (show 1 < 4 by decide) (show st0 + (k + j) < n by omega) (by omega), Option.bind_some, place_eq h1 hL h2 (by omega), Option.bind_some, gd_nI (by omega) (by omega), nI_clamp (by omega)]
      have hv : Vl 1 (nI (b / 2 ^ (7 - j) % 2)) := by unfold Vl; rw [if_pos rfl]; exact bit_bi _
      have fr := TF_set (l := 1) (T := T) (v := nI (b / 2 ^ (7 - j) % 2)) hsc.1 h1.1.2 h1.2.1.2 hkj
      have fr1 : LF 1 st0 (mny w (sc bs fs 1) r) L (Ls L 1 (st0 + (k + j)) (nI (b / 2 ^ (7 - j) % 2))) := LF_set hkj
      rw [show min (k + j) (mny w (sc bs fs 1) r) = k + j by omega] at hR
      have hR1 := RV_set H hkj hv hR
      rcases ih (j + 1) (Ls L 1 (st0 + (k + j)) (nI (b / 2 ^ (7 - j) % 2))) (Ls T 7 (ps w (sc bs fs 1) 1 tp (k + j)) (nI (b / 2 ^ (7 - j) % 2))) g g' (by omega) (TS_set hT) (TF_lay fr hL) (by rw [show min (k + (j + 1)) (mny w (sc bs fs 1) r) = k + j + 1 by omega]; exact hR1) (by omega) (by omega) with ⟨L', T', a1, a2, a3, a4, a5, a6⟩ | ⟨L', T', a1, a2, a3, a4, a5⟩
      · exact Or.inl ⟨L', T', a1, a2, a3, LF_t fr1 a4, TF_t fr a5, a6⟩
      · exact Or.inr ⟨L', T', a1, a2, a3, LF_t fr1 a4, TF_t fr a5⟩
theorem rd_bits (H : RLy n m w tp r bs fs st0 1 B fd) (fu : Nat) (hfu : 7000 ≤ fu) (rf : Int32) : ∀ (d k p : Nat) (L T : LyS) (f f' : Nat), mny w (sc bs fs 1) r ≤ k + 8 * d → (d = 0 ∨ k + 8 * d < mny w (sc bs fs 1) r + 8) → k ≤ mny w (sc bs fs 1) r + 8 → TS m fd p T → LayR w tp r bs fs T → RV w (sc bs fs 1) 1 tp st0 (min k (mny w (sc bs fs 1) r)) L T → d < f → d < f' →
    (∃ L' T', Reader_readBits_l2 fu n B hd (nI (st0 + mny w (sc bs fs 1) r)) f (nI (st0 + k)) (nI p) rf L = some (0, nI (p + d), rf, L') ∧ Mo_takePlain_l8 fu 1 (nI (mny w (sc bs fs 1) r)) f' (nI k) T = some (0, T') ∧ TS m fd (p + d) T' ∧ LF 1 st0 (mny w (sc bs fs 1) r) L L' ∧ TF 1 tp r T T' ∧ RV w (sc bs fs 1) 1 tp st0 (mny w (sc bs fs 1) r) L' T') ∨
    (∃ q L' T', (Reader_readBits_l2 fu n B hd (nI (st0 + mny w (sc bs fs 1) r)) f (nI (st0 + k)) (nI p) rf L = some (1, nI q, nI q, L') ∨ Reader_readBits_l2 fu n B hd (nI (st0 + mny w (sc bs fs 1) r)) f (nI (st0 + k)) (nI p) rf L = some (2, nI (q + 1), rf, L')) ∧ Mo_takePlain_l8 fu 1 (nI (mny w (sc bs fs 1) r)) f' (nI k) T = some (0, T') ∧ T'.1 12 = nI q ∧ q ≤ 6400 ∧ LF 1 st0 (mny w (sc bs fs 1) r) L L' ∧ TF 1 tp r T T') := by
  obtain ⟨h1, h2, h3, h4, h5⟩ := id H
  have hsc := sc_in (k := 1) h1.2.2.1 h1.2.2.2
  intro d
  induction d with
  | zero =>
    intro k p L T f f' hk hk2 hk8 hT hL hR hf hf'
    obtain ⟨g, rfl⟩ : ∃ g, f = g + 1 := ⟨f - 1, by omega⟩
    obtain ⟨g', rfl⟩ : ∃ g, f' = g + 1 := ⟨f' - 1, by omega⟩
    left
    rw [Reader_readBits_l2, if_pos (nI_le (by omega) (by omega)), Mo_takePlain_l8, if_pos (nI_le (by omega) (by omega))]
    refine ⟨L, T, rfl, rfl, hT, LF_r, TF_r, ?_⟩
    rw [show min k (mny w (sc bs fs 1) r) = mny w (sc bs fs 1) r by omega] at hR
    exact hR
  | succ d ih =>
    intro k p L T f f' hk hk2 hk8 hT hL hR hf hf'
    obtain ⟨g, rfl⟩ : ∃ g, f = g + 1 := ⟨f - 1, by omega⟩
    obtain ⟨g', rfl⟩ : ∃ g, f' = g + 1 := ⟨f' - 1, by omega⟩
    have hkm : k < mny w (sc bs fs 1) r := by omega
    have hF : Mo_takePlain_l8 fu 1 (nI (mny w (sc bs fs 1) r)) (g' + 1) (nI k) T = (Mo_take T).bind fun r6 => (Mo_takePlain_l34 1 (nI (mny w (sc bs fs 1) r)) (nI k) r6.1 fu 0 r6.2).bind fun r13 => Mo_takePlain_l8 fu 1 (nI (mny w (sc bs fs 1) r)) g' (nI (k + 8)) r13.2 := by
      rw [Mo_takePlain_l8, if_neg (nI_ge hkm (by omega)), hT.2.2.2.1, if_neg m1_ge0, if_pos rfl]
      simp only [if_pos, Option.bind_assoc, Option.bind_some]
      rw [show nI k + 8 = nI (k + 8) from nI_add _ 8]
    rw [hF, Reader_readBits_l2, if_neg (nI_ge (by omega) (by omega))]
    rcases take1 (n := n) (rf := rf) (hd := hd) (L := L) h5 hT with ⟨b, hb, c1, c2, c3⟩ | ⟨c2, c3⟩
    · rw [c2, c3, Option.bind_some, Option.bind_some]
      dsimp only
      rw [if_neg (nI_ne_m1 (by omega))]
      have hT1 := TS_p hT (p' := p + 1) (by omega)
      have hR0 : RV w (sc bs fs 1) 1 tp st0 (min (k + 0) (mny w (sc bs fs 1) r)) L (Lf T 11 (nI (p + 1))) := hR
      rcases rd_8 (hd := hd) (p := p) H hb hkm (nI (p + 1)) rf 8 0 L (Lf T 11 (nI (p + 1))) fu fu rfl hT1 hL hR0 (by omega) (by omega) with ⟨L1, T1, a1, a2, a3, a4, a5, a6⟩ | ⟨L1, T1, a1, a2, a3, a4, a5⟩
      · rw [show (0 : Int32) = nI 0 from rfl, a1, a2, Option.bind_some, Option.bind_some]
        dsimp only
        rw [if_pos rfl, show nI (st0 + k) + 8 = nI (st0 + (k + 8)) by rw [show (8 : Int32) = nI 8 from rfl, nI_add, Nat.add_assoc]]
        have fr : TF 1 tp r T T1 := TF_t ⟨fun k h11 _ => lf_n h11, fun _ _ => rfl, fun _ _ => rfl⟩ a5
        rcases ih (k + 8) (p + 1) L1 T1 g g' (by omega) (by omega) (by omega) a3 (TF_lay fr hL) a6 (by omega) (by omega) with ⟨L', T', b1, b2, b3, b4, b5, b6⟩ | ⟨q, L', T', b1, b2, b3, b3b, b4, b5⟩
        · left
          refine ⟨L', T', ?_, b2, ?_, LF_t a4 b4, TF_t fr b5, b6⟩
          · rw [b1, show p + 1 + d = p + (d + 1) by omega]
          · rw [show p + (d + 1) = p + 1 + d by omega]; exact b3
        · right
          exact ⟨q, L', T', b1, b2, b3, b3b, LF_t a4 b4, TF_t fr b5⟩
      · right
        rw [show (0 : Int32) = nI 0 from rfl, a1, a2, Option.bind_some, Option.bind_some]
        dsimp only
        rw [if_neg (by decide)]
        have hp64 := hT.2.2.2.2
        have fr : TF 1 tp r T T1 := TF_t ⟨fun k h11 _ => lf_n h11, fun _ _ => rfl, fun _ _ => rfl⟩ a5
        obtain ⟨g2, rfl⟩ : ∃ g2, g' = g2 + 1 := ⟨g' - 1, by omega⟩
        refine ⟨p, L1, T1, Or.inr rfl, ?_, a3, by omega, a4, fr⟩
        rw [Mo_takePlain_l8, a3, if_pos (nI_pos' (show p < 2 ^ 31 by omega))]
        split <;> rfl
    · right
      have hp64 := hT.2.2.2.2
      rw [c2, c3, Option.bind_some, Option.bind_some]
      dsimp only
      rw [if_pos rfl]
      obtain ⟨T1, a1, a2, a3⟩ := l34_any H (b := 0) (by omega) (show k < mny w (sc bs fs 1) r + 8 by omega) (q := p) (by omega) 8 0 (Lf T 12 (nI p)) fu rfl lf_s ⟨hL.1, hL.2.1, hL.2.2.1, hL.2.2.2.1, hL.2.2.2.2⟩ (by omega)
      rw [show (0 : Int32) = nI 0 from rfl, a1, Option.bind_some]
      obtain ⟨g2, rfl⟩ : ∃ g2, g' = g2 + 1 := ⟨g' - 1, by omega⟩
      have z12 : T1.1 12 = nI p := by rw [a2]; exact lf_s
      refine ⟨p, L, T1, Or.inl rfl, ?_, z12, by omega, LF_r, TF_t ⟨fun k _ h12 => lf_n h12, fun _ _ => rfl, fun _ _ => rfl⟩ a3⟩
      rw [Mo_takePlain_l8, z12, if_pos (nI_pos' (show p < 2 ^ 31 by omega))]
      split <;> rfl
end RD
