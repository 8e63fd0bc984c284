theorem ql0 : (0 : Int32) = nI 0 := rfl
theorem ql1 : (1 : Int32) = nI 1 := rfl
theorem ql2 : (2 : Int32) = nI 2 := rfl
theorem ql3 : (3 : Int32) = nI 3 := rfl
theorem ql4 : (4 : Int32) = nI 4 := rfl
theorem ql5 : (5 : Int32) = nI 5 := rfl
theorem ql6 : (6 : Int32) = nI 6 := rfl
theorem ql7 : (7 : Int32) = nI 7 := rfl
theorem ql8 : (8 : Int32) = nI 8 := rfl
theorem ql16 : (16 : Int32) = nI 16 := rfl
theorem ql24 : (24 : Int32) = nI 24 := rfl
theorem ql76 : (76 : Int32) = nI 76 := rfl
theorem ql77 : (77 : Int32) = nI 77 := rfl
theorem ql160 : (160 : Int32) = nI 160 := rfl
theorem ql175 : (175 : Int32) = nI 175 := rfl
theorem ql255 : (255 : Int32) = nI 255 := rfl
theorem ql576 : (576 : Int32) = nI 576 := rfl
theorem ql1728 : (1728 : Int32) = nI 1728 := rfl
theorem ql2304 : (2304 : Int32) = nI 2304 := rfl
theorem ql6400 : (6400 : Int32) = nI 6400 := rfl
theorem ql16777215 : (16777215 : Int32) = nI 16777215 := rfl
theorem gd_nI {α : Type} {k m : Nat} {x : Option α} (h : k < m) (hm : m < 2 ^ 31) : gd (nI k) m x = x := gd_in (vp_in_nI h hm)
theorem dz_nI {α : Type} {k : Nat} {x : Option α} (h : 0 < k) (hm : k < 2 ^ 31) : dz (nI k) x = x := dz_in (nI_ne0 h hm)
theorem zb_0 {α : Type} {x : Option α} : zb (nI 0) x = x := zb_in (Or.inl rfl)
theorem zb_1 {α : Type} {x : Option α} : zb (nI 1) x = x := zb_in (Or.inr rfl)
theorem mn_eq {a b : Nat} (ha : a < 2 ^ 31) (hb : b < 2 ^ 31) : mn (nI a) (nI b) = nI (min a b) := by
  unfold mn
  by_cases h : b < a
  · rw [if_pos (nI_lt h ha), Nat.min_eq_right (by omega)]
  · rw [if_neg (nI_nlt (by omega) hb), Nat.min_eq_left (by omega)]
theorem mx_eq {a b : Nat} (ha : a < 2 ^ 31) (hb : b < 2 ^ 31) : mx (nI a) (nI b) = nI (max a b) := by
  unfold mx
  by_cases h : a < b
  · rw [if_pos (nI_lt h hb), Nat.max_eq_right (by omega)]
  · rw [if_neg (nI_nlt (by omega) ha), Nat.max_eq_left (by omega)]
/-- into how many parts -/
def cd (a b : Nat) : Nat := (a + b - 1) / b
theorem cd_le {a b : Nat} (hb : 1 ≤ b) : cd a b ≤ a := by
  unfold cd
  rw [Nat.div_le_iff_le_mul_add_pred (by omega)]
  have : a ≤ b * a := Nat.le_mul_of_pos_left a (by omega)
  omega
theorem cd_lt {a b x : Nat} (hb : 1 ≤ b) (h : x < a) : x / b < cd a b := by
  unfold cd
  have h1 : x / b + 1 = (x + b) / b := by rw [Nat.add_div_right _ (by omega)]
  have h2 : (x + b) / b ≤ (a + b - 1) / b := Nat.div_le_div_right (by omega)
  omega
theorem cd_mul {a b r : Nat} (hb : 1 ≤ b) (h : r < cd a b) : r * b < a := by
  unfold cd at h
  have h1 : (r + 1) * b ≤ a + b - 1 := by
    have := (Nat.le_div_iff_mul_le (k := b) (by omega)).mp (show r + 1 ≤ (a + b - 1) / b by omega)
    exact this
  rw [Nat.add_mul] at h1
  omega
theorem cd_pos {a b : Nat} (hb : 1 ≤ b) (h : 1 ≤ a) : 1 ≤ cd a b := by
  have := cd_lt (x := 0) hb (show 0 < a by omega)
  rw [Nat.zero_div] at this
  omega
theorem cd_1 (a : Nat) : cd a 1 = a := by unfold cd; simp
theorem parts_eq {a b : Nat} (ha : a < 2 ^ 20) (hb1 : 1 ≤ b) (hb : b < 2 ^ 20) : ML_parts (nI a) (nI b) = some (nI (cd a b)) := by
  unfold ML_parts
  simp (disch := omega) only [ql0, ql1, ql2, ql3, ql4, ql5, ql6, ql7, ql8, ql16, ql24, ql76, ql77, ql160, ql175, ql255, ql576, ql1728, ql2304, ql6400, ql16777215, nI_add, pk_mul, pk_sub, pk_div, pk_rem, nI_ltI, nI_leI, nI_eq, nI_clamp, gd_nI, dz_nI, zb_0, zb_1, Option.bind_some, mn_eq, mx_eq]
  rw [if_pos hb1]; rfl
theorem stripesOf_eq {a b : Nat} (ha : a < 2 ^ 20) (hb1 : 1 ≤ b) (hb : b < 2 ^ 20) : Mo_stripesOf (nI a) (nI b) = some (nI (cd a b)) := by
  unfold Mo_stripesOf
  simp (disch := omega) only [ql0, ql1, ql2, ql3, ql4, ql5, ql6, ql7, ql8, ql16, ql24, ql76, ql77, ql160, ql175, ql255, ql576, ql1728, ql2304, ql6400, ql16777215, nI_add, pk_mul, pk_sub, pk_div, pk_rem, nI_ltI, nI_leI, nI_eq, nI_clamp, gd_nI, dz_nI, zb_0, zb_1, Option.bind_some, mn_eq, mx_eq]
  rfl
/-- two loops side by side -/
theorem loop2 {σ τ ρ ρ' : Type} (F : Nat → Nat → σ → Option ρ) (G : Nat → Nat → τ → Option ρ') (I : Nat → σ → τ → Prop) (e : Nat)
    (step : ∀ k k' i s t, i < e → I i s t → ∃ s' t', F (k + 1) i s = F k (i + 1) s' ∧ G (k' + 1) i t = G k' (i + 1) t' ∧ I (i + 1) s' t') :
    ∀ m k k' i s t, i + m = e → I i s t → ∃ s' t', F (k + m) i s = F k e s' ∧ G (k' + m) i t = G k' e t' ∧ I e s' t' := by
  intro m
  induction m with
  | zero => intro k k' i s t h hI; subst h; exact ⟨s, t, rfl, rfl, hI⟩
  | succ m ih =>
    intro k k' i s t h hI
    obtain ⟨s', t', h1, h2, h3⟩ := step (k + m) (k' + m) i s t (by omega) hI
    obtain ⟨s2, t2, g1, g2, g3⟩ := ih k k' (i + 1) s' t' (by omega) h3
    exact ⟨s2, t2, (by rw [← g1, ← h1]; rfl), (by rw [← g2, ← h2]; rfl), g3⟩
theorem loop1 {σ ρ : Type} (F : Nat → Nat → σ → Option ρ) (I : Nat → σ → Prop) (e : Nat)
    (step : ∀ k i s, i < e → I i s → ∃ s', F (k + 1) i s = F k (i + 1) s' ∧ I (i + 1) s') :
    ∀ m k i s, i + m = e → I i s → ∃ s', F (k + m) i s = F k e s' ∧ I e s' := by
  intro m
  induction m with
  | zero => intro k i s h hI; subst h; exact ⟨s, rfl, hI⟩
  | succ m ih =>
    intro k i s h hI
    obtain ⟨s', h1, h3⟩ := step (k + m) i s (by omega) hI
    obtain ⟨s2, g1, g3⟩ := ih k (i + 1) s' (by omega) h3
    exact ⟨s2, (by rw [← g1, ← h1]; rfl), g3⟩
/-- a colour -/
def Cl (x : Int32) : Prop := ∃ c : Nat, c < 16777216 ∧ x = nI c
/-- a byte -/
def Bt (x : Int32) : Prop := ∃ c : Nat, c < 256 ∧ x = nI c
def Bi (x : Int32) : Prop := x = nI 0 ∨ x = nI 1
theorem Cl_ne {x : Int32} (h : Cl x) : ¬ x = -1 := by
  obtain ⟨c, hc, rfl⟩ := h
  intro h
  have h1 : (nI c).toInt = (-1 : Int32).toInt := by rw [h]
  rw [nI_toInt (by omega)] at h1
  have h2 : (-1 : Int32).toInt = -1 := by decide
  omega
theorem Bi_cl {x : Int32} (h : Bi x) : Cl x := by
  rcases h with h | h <;> exact ⟨_, by omega, h⟩
/-- the scale of a layer -/
def sc (bs fs k : Nat) : Nat := if k = 0 then bs else if k = 2 then fs else 1
theorem sc_in {bs fs k : Nat} (h1 : 1 ≤ bs ∧ bs ≤ 8) (h2 : 1 ≤ fs ∧ fs ≤ 8) : 1 ≤ sc bs fs k ∧ sc bs fs k ≤ 8 := by
  unfold sc; split
  · exact h1
  · split
    · exact h2
    · omega
/-- a shape of layers: width w, height h, step st, scales bs and fs, inner arrays of n places -/
def VL (n w h st bs fs : Nat) (L : LyS) : Prop := (1 ≤ w ∧ w ≤ 24) ∧ (1 ≤ h ∧ h ≤ 24) ∧ (1 ≤ st ∧ st ≤ 24) ∧ (1 ≤ bs ∧ bs ≤ 8) ∧ (1 ≤ fs ∧ fs ≤ 8) ∧ (w * h ≤ n ∧ n ≤ 576) ∧ L.1 0 = nI w ∧ L.1 1 = nI h ∧ L.1 2 = nI st ∧ L.1 4 = nI fs ∧ L.1 5 = nI bs
/-- rows of a stripe -/
def hs (h st i : Nat) : Nat := min st (h - i * st)
theorem hs_le {h st i : Nat} : hs h st i ≤ st := Nat.min_le_left _ _
theorem hs_h {h st i : Nat} (hi : i < cd h st) (hst : 1 ≤ st) : i * st + hs h st i ≤ h ∧ 1 ≤ hs h st i := by
  have := cd_mul hst hi
  unfold hs; omega
section LY
variable {n w h st bs fs : Nat} {L : LyS}
theorem stripes_eq (V : VL n w h st bs fs L) : Layers_stripes n L = some (nI (cd h st)) := by
  obtain ⟨hw, hh, hst, hb, hf, hn, e0, e1, e2, e5, e6⟩ := V
  unfold Layers_stripes
  rw [e1, e2, parts_eq (by omega) (by omega) (by omega)]
  rfl
theorem stripeOf_eq (V : VL n w h st bs fs L) {y : Nat} (hy : y < 2 ^ 20) : Layers_stripeOf n L (nI y) = some (nI (y / st)) := by
  obtain ⟨hw, hh, hst, hb, hf, hn, e0, e1, e2, e5, e6⟩ := V
  unfold Layers_stripeOf
  rw [e2]
  simp (disch := omega) only [ql0, ql1, ql2, ql3, ql4, ql5, ql6, ql7, ql8, ql16, ql24, ql76, ql77, ql160, ql175, ql255, ql576, ql1728, ql2304, ql6400, ql16777215, nI_add, pk_mul, pk_sub, pk_div, pk_rem, nI_ltI, nI_leI, nI_eq, nI_clamp, gd_nI, dz_nI, zb_0, zb_1, Option.bind_some, mn_eq, mx_eq]
  rw [if_pos (by omega)]
theorem startOf_eq (V : VL n w h st bs fs L) (i : Nat) : Layers_startOf n L (nI i) = some (nI (i * st * w)) := by
  obtain ⟨hw, hh, hst, hb, hf, hn, e0, e1, e2, e5, e6⟩ := V
  unfold Layers_startOf
  rw [e0, e2, pk_mul, pk_mul]
theorem topOf_eq (V : VL n w h st bs fs L) (i : Nat) : Layers_topOf n L (nI i) = some (nI (i * st)) := by
  obtain ⟨hw, hh, hst, hb, hf, hn, e0, e1, e2, e5, e6⟩ := V
  unfold Layers_topOf
  rw [e2, pk_mul]
theorem bottomOf_eq (V : VL n w h st bs fs L) {i : Nat} (hi : i * st < 2 ^ 20) : Layers_bottomOf n L (nI i) = some (nI (min (i * st + st) h)) := by
  obtain ⟨hw, hh, hst, hb, hf, hn, e0, e1, e2, e5, e6⟩ := V
  unfold Layers_bottomOf
  rw [e1, e2]
  simp (disch := omega) only [ql0, ql1, ql2, ql3, ql4, ql5, ql6, ql7, ql8, ql16, ql24, ql76, ql77, ql160, ql175, ql255, ql576, ql1728, ql2304, ql6400, ql16777215, nI_add, pk_mul, pk_sub, pk_div, pk_rem, nI_ltI, nI_leI, nI_eq, nI_clamp, gd_nI, dz_nI, zb_0, zb_1, Option.bind_some, mn_eq, mx_eq]
theorem scaleOf_eq (V : VL n w h st bs fs L) {k : Nat} (hk : k < 4) : Layers_scaleOf n L (nI k) = some (nI (sc bs fs k)) := by
  obtain ⟨hw, hh, hst, hb, hf, hn, e0, e1, e2, e4, e5⟩ := V
  unfold Layers_scaleOf
  rw [e4, e5]
  rcases (by omega : k = 0 ∨ k = 1 ∨ k = 2 ∨ k = 3) with rfl | rfl | rfl | rfl
  · rw [if_neg (show ¬ nI 0 = 2 by decide), if_pos (show nI 0 = 0 from rfl)]; rfl
  · rw [if_neg (show ¬ nI 1 = 2 by decide), if_neg (show ¬ nI 1 = 0 by decide)]; rfl
  · rw [if_pos (show nI 2 = 2 from rfl)]; rfl
  · rw [if_neg (show ¬ nI 3 = 2 by decide), if_neg (show ¬ nI 3 = 0 by decide)]; rfl
theorem columnsOf_eq (V : VL n w h st bs fs L) {k : Nat} (hk : k < 4) : Layers_columnsOf n L (nI k) = some (nI (cd w (sc bs fs k))) := by
  have h1 := scaleOf_eq V hk
  obtain ⟨hw, hh, hst, hb, hf, hn, e0, e1, e2, e4, e5⟩ := V
  have hsc := sc_in (k := k) hb hf
  unfold Layers_columnsOf
  rw [h1, Option.bind_some, e0, parts_eq (by omega) (by omega) (by omega)]
  rfl
theorem rowsOf_eq (V : VL n w h st bs fs L) {i k : Nat} (hi : i * st ≤ h) (hk : k < 4) : Layers_rowsOf n L (nI i) (nI k) = some (nI (cd (hs h st i) (sc bs fs k))) := by
  have h1 := bottomOf_eq V (i := i) (by have := V.2.1; omega)
  have h2 := topOf_eq V i
  have h3 := scaleOf_eq V hk
  obtain ⟨hw, hh, hst, hb, hf, hn, e0, e1, e2, e4, e5⟩ := V
  have hsc := sc_in (k := k) hb hf
  have e : min (i * st + st) h - i * st = hs h st i := by unfold hs; omega
  have hle := hs_le (h := h) (st := st) (i := i)
  unfold Layers_rowsOf
  rw [h1, Option.bind_some, h2, Option.bind_some, h3, Option.bind_some, pk_sub (by omega), e, parts_eq (by omega) (by omega) (by omega)]
  rfl
theorem endOf_eq (V : VL n w h st bs fs L) {i k : Nat} (hi : i * st ≤ h) (hk : k < 4) : Layers_endOf n L (nI i) (nI k) = some (nI (i * st * w + cd w (sc bs fs k) * cd (hs h st i) (sc bs fs k))) := by
  have h1 := startOf_eq V i
  have h2 := rowsOf_eq V hi hk
  have h3 := columnsOf_eq V hk
  unfold Layers_endOf
  rw [h1, Option.bind_some, h3, Option.bind_some, h2, Option.bind_some, pk_mul, nI_add]
theorem placeOf_eq (V : VL n w h st bs fs L) {k x y : Nat} (hk : k < 4) (hx : x < w) (hy : y < h) : Layers_placeOf n L (nI k) (nI x) (nI y) = some (nI (y / st * st * w + (y - y / st * st) / sc bs fs k * cd w (sc bs fs k) + x / sc bs fs k)) := by
  have h1 := stripeOf_eq V (y := y) (by have := V.2.1; omega)
  have h2 := topOf_eq V (y / st)
  have h3 := scaleOf_eq V hk
  have h4 := columnsOf_eq V hk
  obtain ⟨hw, hh, hst, hb, hf, hn, e0, e1, e2, e4, e5⟩ := V
  have hsc := sc_in (k := k) hb hf
  have hle : y / st * st ≤ y := Nat.div_mul_le_self y st
  unfold Layers_placeOf
  rw [h3, Option.bind_some, if_pos (show (1 : Int32) ≤ nI _ from nI_le (a := 1) (by omega) (by omega)), h1, Option.bind_some, h2, Option.bind_some, dz_in (nI_ne0 (by omega) (by omega)), h4, Option.bind_some, dz_in (nI_ne0 (by omega) (by omega)), e0, pk_mul, pk_sub hle, pk_div (by omega) (by omega) (by omega), pk_mul, nI_add, pk_div (by omega) (by omega) (by omega), nI_add]
end LY
/-! values and stripes behind their tests -/
theorem lyp_eq {n : Nat} {L : LyS} {k p : Nat} (hk : k < 4) (hp : p < n) (hn : n < 2 ^ 31) : Layers_holdsPlace n L (nI k) (nI p) = some 1 := by
  unfold Layers_holdsPlace
  rw [if_neg (nI_pos (by omega)), if_neg (show ¬ (4 : Int32) ≤ nI k from nI_ge (b := 4) hk (by omega)), if_neg (nI_pos (by omega)), gd_nI hk (by omega), if_neg (nI_ge hp hn)]
  rfl
theorem lyv_eq {n : Nat} {L : LyS} {k p : Nat} (hk : k < 4) (hp : p < n) (hn : n < 2 ^ 31) : Layers_value n L (nI k) (nI p) = some (L.2 k p) := by
  unfold Layers_value
  rw [lyp_eq hk hp hn, Option.bind_some, if_neg (show ¬ (1 : Int32) = 0 by decide), gd_nI hk (by omega), gd_nI hp hn, nI_clamp (show k < 2 ^ 31 by omega), nI_clamp (show p < 2 ^ 31 by omega)]
theorem lys_eq {n : Nat} {L : LyS} {k p : Nat} {v : Int32} (hk : k < 4) (hp : p < n) (hn : n < 2 ^ 31) : Layers_set n L (nI k) (nI p) v = some (Ls L k p v) := by
  unfold Layers_set
  rw [lyp_eq hk hp hn, Option.bind_some, if_neg (show ¬ (1 : Int32) = 0 by decide), gd_nI hk (by omega), gd_nI hp hn, nI_clamp (show k < 2 ^ 31 by omega), nI_clamp (show p < 2 ^ 31 by omega)]
theorem lyh_eq {n : Nat} {L : LyS} {i : Nat} (hi : i < 24) : Layers_holdsStripe n L (nI i) = some 1 := by
  unfold Layers_holdsStripe
  rw [if_neg (nI_pos (by omega)), if_neg (show ¬ (24 : Int32) ≤ nI i from nI_ge (b := 24) hi (by omega))]
  rfl
theorem mkh_eq {n : Nat} {v : Nat → Int32} {p : Nat} (hp : p < n) (hn : n < 2 ^ 31) : Maker_holds n v (nI p) = some 1 := by
  unfold Maker_holds
  rw [if_neg (nI_pos (by omega)), if_neg (nI_ge hp hn)]
  rfl
theorem mkm_eq {n : Nat} {col msk bare : Nat → Int32} {L : LyS} {p : Nat} (hp : p < n) (hn : n < 2 ^ 31) : Maker_isMasked n col msk bare L (nI p) = some (if msk p = 1 then 1 else 0) := by
  unfold Maker_isMasked
  rw [mkh_eq hp hn, Option.bind_some, if_neg (show ¬ (1 : Int32) = 0 by decide), gd_nI hp hn, nI_clamp (show p < 2 ^ 31 by omega)]
  split <;> rfl
theorem mkc_eq {n : Nat} {col msk bare : Nat → Int32} {L : LyS} {p : Nat} (hp : p < n) (hn : n < 2 ^ 31) : Maker_colourAt n col msk bare L (nI p) = some (col p) := by
  unfold Maker_colourAt
  rw [mkh_eq hp hn, Option.bind_some, if_neg (show ¬ (1 : Int32) = 0 by decide), gd_nI hp hn, nI_clamp (show p < 2 ^ 31 by omega)]
