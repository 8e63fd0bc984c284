/-! ===== a stripe: the mask ===== -/
def InR (l tp r P : Nat) : Prop := 576 * l + 24 * tp ≤ P ∧ P < 576 * l + 24 * (tp + r)
theorem ps_in {w s l tp r k : Nat} (hs : 1 ≤ s) (hw : w ≤ 24) (hr : tp + r ≤ 24) (hk : k < mny w s r) : InR l tp r (ps w s l tp k) := by
  have := ps_lt (l := l) hs hw hr hk
  unfold InR
  have e : ps w s l tp k = 576 * l + 24 * (tp + k / cd w s * s) + k % cd w s * s := rfl
  omega
theorem ps_1k {w l tp k : Nat} : ps w 1 l tp k = 576 * l + 24 * (tp + k / w) + k % w := by
  unfold ps; rw [cd_1, Nat.mul_one, Nat.mul_one]
theorem st_k {w tp k : Nat} : tp * w + k = (tp + k / w) * w + k % w := by
  rw [Nat.add_mul, Nat.add_assoc, Nat.mul_comm (k / w) w, Nat.div_add_mod]
theorem k_in {w r k : Nat} (hw : 1 ≤ w) (hk : k < w * r) : k / w < r ∧ k % w < w := by
  refine ⟨?_, Nat.mod_lt _ (by omega)⟩
  rw [Nat.mul_comm] at hk
  exact (Nat.div_lt_iff_lt_mul (by omega)).mpr hk
def nz (q : Nat) : Nat := if q = 0 then 0 else 1
theorem nz_or (q : Nat) : nz q = 0 ∨ nz q = 1 := by unfold nz; split <;> omega
section TM
variable {n w h st i tp r bs fs : Nat} {col msk bare : Nat → Int32} {L T : LyS}
theorem tm_all (D : LD w tp r bs fs) (H : LayR w tp r bs fs T) (V : VL n w h st bs fs L) (etp : tp = i * st) (er : r = hs h st i) (hi : i < cd h st) (hM : RM w h msk (T.2 1)) (e1 : T.1 1 = nI w) (hn : n = w * h) (v1 v2 v5 : Int32) (fu : Nat) (hfu : 7000 ≤ fu) (st0 : Nat) (est0 : st0 = i * st * w) :
    ∃ L' T', Maker_takeMask fu n col msk bare L (nI i) = some (nI (sm (fun j => one (msk (st0 + j))) (w * r)), L') ∧ Mo_makeStripe_l28 v1 v2 v5 fu 0 0 0 T = some (0, nI (nz (sm (fun j => one (msk (st0 + j))) (w * r))), nI (nz (w * r - sm (fun j => one (msk (st0 + j))) (w * r))), T') ∧
      L'.1 = L.1 ∧ (∀ q, q ≠ 1 → L'.2 q = L.2 q) ∧ (∀ j, j < st0 ∨ st0 + w * r ≤ j → L'.2 1 j = L.2 1 j) ∧ (∀ k, k < w * r → L'.2 1 (st0 + k) = msk (st0 + k) ∧ T'.2 2 (ps w 1 1 tp k) = msk (st0 + k)) ∧ T'.1 = T.1 ∧ (∀ q, q ≠ 2 → T'.2 q = T.2 q) ∧ ∀ P, ¬ InR 1 tp r P → T'.2 2 P = T.2 2 P := by
  have hw := D.1
  have hr := D.2.1
  have hih := hs_h hi V.2.2.1.1
  have hwr : w * r ≤ 24 * 24 := Nat.mul_le_mul (by omega) (by omega)
  have hst0 : st0 + w * r ≤ n := by
    rw [est0]
    have h1 : (i * st + hs h st i) * w ≤ h * w := Nat.mul_le_mul_right w hih.1
    rw [Nat.add_mul, Nat.mul_comm h w, Nat.mul_comm (hs h st i) w, ← er] at h1
    omega
  have hn576 := V.2.2.2.2.2.1.2
  have hmk : ∀ k, k < w * r → msk (st0 + k) = T.2 1 (24 * (tp + k / w) + k % w) ∧ Bi (msk (st0 + k)) := by
    intro k hk
    obtain ⟨k1, k2⟩ := k_in hw.1 hk
    have := hM.1 (tp + k / w) (k % w) (by omega) k2
    rw [← st_k, etp, ← est0] at this
    rw [← etp] at this
    exact ⟨this, hM.2.1 _ (by omega)⟩
  have hqle : ∀ k, sm (fun j => one (msk (st0 + j))) k ≤ k := sm_le (fun j => one_le _)
  obtain ⟨s', t', g1, g2, a1, a2, a3, a4, a5, a6, a7, a8, a9, a10⟩ := loop2 (σ := Int32 × LyS) (τ := Int32 × Int32 × LyS)
    (fun k j s => Maker_takeMask_l22 n col msk bare (nI (st0 + w * r)) k s.1 (nI (st0 + j)) s.2)
    (fun k j t => Mo_makeStripe_l28 v1 v2 v5 k t.1 t.2.1 (nI j) t.2.2)
    (fun k s t => s.1 = nI (sm (fun j => one (msk (st0 + j))) k) ∧ t.1 = nI (nz (sm (fun j => one (msk (st0 + j))) k)) ∧ t.2.1 = nI (nz (k - sm (fun j => one (msk (st0 + j))) k)) ∧ s.2.1 = L.1 ∧ (∀ q, q ≠ 1 → s.2.2 q = L.2 q) ∧ (∀ j, j < st0 ∨ st0 + k ≤ j → s.2.2 1 j = L.2 1 j) ∧ (∀ k', k' < k → s.2.2 1 (st0 + k') = msk (st0 + k') ∧ t.2.2.2 2 (ps w 1 1 tp k') = msk (st0 + k')) ∧ t.2.2.1 = T.1 ∧ (∀ q, q ≠ 2 → t.2.2.2 q = T.2 q) ∧ ∀ P, ¬ InR 1 tp r P → t.2.2.2 2 P = T.2 2 P) (w * r)
    (by
      rintro k k' j ⟨c, L'⟩ ⟨fr, be, T'⟩ hj ⟨h1, h2, h3, h4, h5, h6, h7, h8, h9, h10⟩
      dsimp only at h1 h2 h3 h4 h5 h6 h7 h8 h9 h10
      subst h1 h2 h3
      obtain ⟨m1, m2⟩ := hmk j hj
      obtain ⟨k1, k2⟩ := k_in hw.1 hj
      have hq := hqle j
      have hpj : InR 1 tp r (ps w 1 1 tp j) := ps_in (by omega) hw.2 hr.2 (by rw [mny_1]; exact hj)
      have hsucc : sm (fun j => one (msk (st0 + j))) (j + 1) = sm (fun j => one (msk (st0 + j))) j + one (msk (st0 + j)) := rfl
      have ho := one_le (msk (st0 + j))
      refine ⟨(nI (sm (fun j => one (msk (st0 + j))) (j + 1)), Ls L' 1 (st0 + j) (msk (st0 + j))), (nI (nz (sm (fun j => one (msk (st0 + j))) (j + 1))), nI (nz (j + 1 - sm (fun j => one (msk (st0 + j))) (j + 1))), Ls T' 2 (ps w 1 1 tp j) (msk (st0 + j))), ?_, ?_, rfl, rfl, rfl, h4, ?_, ?_, ?_, h8, ?_, ?_⟩
      · dsimp only
        have em : (if (if msk (st0 + j) = 1 then (1 : Int32) else 0) = 0 then some (0 : Int32) else some 1) = some (msk (st0 + j)) := by
          rcases m2 with z | z <;> rw [z] <;> rfl
        rw [Maker_takeMask_l22, if_neg (nI_ge (by omega) (by omega)), mkm_eq (show st0 + j < n by omega) (by omega), Option.bind_some, em, Option.bind_some, show (1 : Int32) = nI 1 from rfl, lys_eq (show 1 < 4 by decide) (show st0 + j < n by omega) (by omega), Option.bind_some, nI_add, Nat.add_assoc]
        have : nI (sm (fun j => one (msk (st0 + j))) j) + msk (st0 + j) = nI (sm (fun j => one (msk (st0 + j))) (j + 1)) := by
          have e := one_bi m2
          have e2 := nI_add (sm (fun j => one (msk (st0 + j))) j) (one (msk (st0 + j)))
          rw [e] at e2
          exact e2
        rw [this]
      · dsimp only
        have hT1 : T'.1 1 = nI w := by rw [h8]; exact e1
        have hT16 : T'.1 16 = nI tp := by rw [h8]; exact H.2.1
        have hT17 : T'.1 17 = nI r := by rw [h8]; exact H.2.2.1
        have hcell : (24 : Int32) * (T'.1 16 + nI j / T'.1 1) + (nI j - nI j / T'.1 1 * T'.1 1) = nI (24 * (tp + j / w) + j % w) := by
          rw [hT1, hT16, pk_rem (by omega) (by omega) (by omega), pk_div (by omega) (by omega) (by omega), nI_add, ql24, pk_mul, nI_add]
        rw [Mo_makeStripe_l28, hcell, hT1, hT17, pk_mul, if_neg (nI_ge hj (by omega)), dz_nI (by omega) (by omega), dz_nI (by omega) (by omega), gd_nI (by omega) (by omega), nI_clamp (by omega), ql576, nI_add]
        have e576 : 576 + (24 * (tp + j / w) + j % w) = ps w 1 1 tp j := by rw [ps_1k]; omega
        have hps : ps w 1 1 tp j < 2304 := by have := hpj.2; omega
        rw [e576, nI_clamp (by omega), h9 1 (by decide), ← m1]
        have hls : ∀ v, (Ls T' 2 (ps w 1 1 tp j) v).2 1 (24 * (tp + j / w) + j % w) = msk (st0 + j) := by
          intro v
          rw [ls_n (by decide), h9 1 (by decide), ← m1]
        have e5 : (if msk (st0 + j) = 0 then some (0 : Int32) else some 1) = some (msk (st0 + j)) := by
          rcases m2 with z | z <;> rw [z] <;> rfl
        rw [e5]
        simp only [Option.bind_some]
        rw [gd_nI hps (by omega), hls, e5]
        have e7 : (if nI (nz (sm (fun j => one (msk (st0 + j))) j)) = 0 then gd (nI (24 * (tp + j / w) + j % w)) 576 (some (msk (st0 + j))) else some 1) = some (nI (nz (sm (fun j => one (msk (st0 + j))) (j + 1)))) := by
          rw [gd_nI (by omega) (by omega), hsucc]
          unfold nz
          by_cases z : sm (fun j => one (msk (st0 + j))) j = 0
          · rw [if_pos z, if_pos e00, z]
            rcases m2 with z2 | z2 <;> rw [z2] <;> rfl
          · rw [if_neg z, if_neg n10, if_neg (by omega)]; rfl
        rw [e7]
        simp only [Option.bind_some]
        rw [gd_nI (by omega) (by omega), nI_p1]
        have e8 : nz (j + 1 - sm (fun j => one (msk (st0 + j))) (j + 1)) = if nz (j - sm (fun j => one (msk (st0 + j))) j) = 0 then (if msk (st0 + j) = 0 then 1 else 0) else 1 := by
          rw [hsucc]
          by_cases z : j - sm (fun j => one (msk (st0 + j))) j = 0
          · rw [z, if_pos (show nz 0 = 0 from rfl)]
            rcases m2 with z2 | z2
            · rw [z2, if_pos e00]; show nz (j + 1 - (sm (fun j => one (msk (st0 + j))) j + 0)) = 1
              unfold nz; rw [if_neg (by omega)]
            · rw [z2, if_neg n10]; show nz (j + 1 - (sm (fun j => one (msk (st0 + j))) j + 1)) = 0
              unfold nz; rw [if_pos (by omega)]
          · have : nz (j - sm (fun j => one (msk (st0 + j))) j) = 1 := by unfold nz; rw [if_neg z]
            rw [this, if_neg (by decide)]
            unfold nz; rw [if_neg (by omega)]
        rw [e8]
        by_cases z : nz (j - sm (fun j => one (msk (st0 + j))) j) = 0
        · rw [if_pos z, z, if_pos e00]
          by_cases z2 : msk (st0 + j) = 0
          · rw [if_pos z2, if_pos z2]; rfl
          · rw [if_neg z2, if_neg z2]; rfl
        · have : nz (j - sm (fun j => one (msk (st0 + j))) j) = 1 := by rcases nz_or (j - sm (fun j => one (msk (st0 + j))) j) with o | o <;> omega
          rw [if_neg z, this, if_neg n10]; rfl
      · intro q hq; dsimp only; rw [ls_n hq]; exact h5 q hq
      · intro q hq; dsimp only; rw [ls_s, pk_un (by omega)]; exact h6 q (by omega)
      · intro k2' hk2
        dsimp only
        rw [ls_s, ls_s]
        by_cases z : k2' = j
        · rw [z, pk_us, pk_us]; exact ⟨rfl, rfl⟩
        · have : ps w 1 1 tp k2' ≠ ps w 1 1 tp j := fun e => z (ps_inj (l := 1) (s := 1) (r := r) (by omega) hw.2 hr.2 (by rw [mny_1]; omega) (by rw [mny_1]; omega) e)
          rw [pk_un (by omega), pk_un this]; exact h7 k2' (by omega)
      · intro q hq; dsimp only; rw [ls_n hq]; exact h9 q hq
      · intro P hP; dsimp only
        rw [ls_s, pk_un (by intro e; rw [e] at hP; exact hP hpj)]; exact h10 P hP)
    (w * r) (fu - w * r) (fu - w * r) 0 (nI 0, L) (nI 0, nI 0, T) (by omega) ⟨rfl, rfl, rfl, rfl, fun _ _ => rfl, fun _ _ => rfl, fun k' hk' => by omega, rfl, fun _ _ => rfl, fun _ _ => rfl⟩
  obtain ⟨c, L'⟩ := s'
  obtain ⟨fr, be, T'⟩ := t'
  dsimp only at g1 g2 a1 a2 a3 a4 a5 a6 a7 a8 a9 a10
  subst a1 a2 a3
  rw [show fu - w * r + w * r = fu by omega, show fu - w * r = fu - w * r - 1 + 1 by omega] at g1 g2
  rw [Maker_takeMask_l22, if_pos (nI_le (Nat.le_refl _) (by omega))] at g1
  rw [Mo_makeStripe_l28, show T'.1 1 = nI w by rw [a8]; exact e1, show T'.1 17 = nI r by rw [a8]; exact H.2.2.1, pk_mul, if_pos (nI_le (Nat.le_refl _) (by omega))] at g2
  refine ⟨L', T', ?_, g2, a4, a5, a6, a7, a8, a9, a10⟩
  unfold Maker_takeMask
  rw [show (1 : Int32) = nI 1 from rfl, endOf_eq V (by omega) (by decide), Option.bind_some, startOf_eq V, Option.bind_some, sc_1, cd_1, cd_1, ← er, ← est0]
  rw [Nat.add_zero] at g1
  rw [show (0 : Int32) = nI 0 from rfl, g1]; rfl
end TM
theorem add_eq {n : Nat} {L : LyS} {i t l cnt : Nat} (hi : i < 24) (e : L.2 4 i = nI t) (ht : t < 16) (hl : l < 4) (ec : L.1 3 = nI cnt) : ∃ L', Layers_add n L (nI i) (nI l) = some L' ∧ L'.1 3 = nI (cnt + 1) ∧ (∀ k, k ≠ 3 → L'.1 k = L.1 k) ∧ (∀ q, q ≠ 4 → L'.2 q = L.2 q) ∧ L'.2 4 = upd (L.2 4) i (nI (t ||| 2 ^ l)) := by
  obtain ⟨o1, o2, o3, o4⟩ := or_bits ht hl
  unfold Layers_add
  rw [lyh_eq hi, Option.bind_some, if_neg (show ¬ (1 : Int32) = 0 by decide), gd_nI hi (by omega), gd_nI hi (by omega), nI_clamp (by omega), e, o1]
  have : (Ls L 4 i (nI (t ||| 2 ^ l))).1 3 = nI cnt := ec
  rw [this, nI_p1]
  exact ⟨_, rfl, lf_s, fun k hk => lf_n hk, fun q hq => ls_n hq, (show (Ls L 4 i (nI (t ||| 2 ^ l))).2 4 = _ from ls_s)⟩
