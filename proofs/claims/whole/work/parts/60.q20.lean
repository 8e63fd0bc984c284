/-! ===== write: bytes side by side ===== -/
def BB (c i : Nat) (B : ByS) (S : LyS) : Prop := i ≤ 7 ∧ B.1 = nI c ∧ B.2.1 = cap i ∧ c ≤ cap i ∧ (∀ j, j < c → B.2.2 j = S.2 5 j ∧ Bt (S.2 5 j)) ∧ S.1 9 = nI c
def Fr (S S' : LyS) : Prop := (∀ k, k ≠ 9 → S'.1 k = S.1 k) ∧ ∀ q, q ≠ 5 → S'.2 q = S.2 q
theorem Fr_r (S : LyS) : Fr S S := ⟨fun _ _ => rfl, fun _ _ => rfl⟩
theorem Fr_t {S S' S'' : LyS} (h : Fr S S') (h' : Fr S' S'') : Fr S S'' := ⟨fun k hk => by rw [h'.1 k hk, h.1 k hk], fun q hq => by rw [h'.2 q hq, h.2 q hq]⟩
theorem Fr_lay {w tp r bs fs : Nat} {S S' : LyS} (h : Fr S S') (H : LayR w tp r bs fs S) : LayR w tp r bs fs S' := by
  unfold LayR
  rw [h.1 15 (by decide), h.1 16 (by decide), h.1 17 (by decide), h.1 18 (by decide), h.1 19 (by decide)]
  exact H
/-- both write d bytes, the same ones -/
def OW {α β : Type} (fa : ByS → α) (fb : LyS → β) (X : Option (α × Nat × Nat)) (Y : Option β) (i c d : Nat) (S : LyS) : Prop :=
  ∃ i' B' S', i ≤ i' ∧ X = some (fa B', i' - i, ph i' - ph i) ∧ Y = some (fb S') ∧ BB (c + d) i' B' S' ∧ Fr S S'
theorem ow_end {α β : Type} {fa : ByS → α} {fb : LyS → β} {i c : Nat} {B : ByS} {S : LyS} (h : BB c i B S) : OW fa fb (some (fa B, 0, 0)) (some (fb S)) i c 0 S :=
  ⟨i, B, S, Nat.le_refl _, by rw [Nat.sub_self, Nat.sub_self], rfl, h, Fr_r S⟩
theorem ow_bind {α β γ δ : Type} {fa : ByS → α} {fb : LyS → β} {ga : ByS → γ} {gb : LyS → δ} {X : Option (α × Nat × Nat)} {Y : Option β} {f : α → Option (γ × Nat × Nat)} {g : β → Option δ} {i c d d' e : Nat} {S : LyS} (h : OW fa fb X Y i c d S) (hd : e = d + d')
    (k : ∀ i' B' S', i ≤ i' → BB (c + d) i' B' S' → Fr S S' → OW ga gb (f (fa B')) (g (fb S')) i' (c + d) d' S') : OW ga gb (X.bind fun r => ad r.2.1 r.2.2 (f r.1)) (Y.bind g) i c e S := by
  obtain ⟨i1, B1, S1, h1, h2, h3, h4, h5⟩ := h
  obtain ⟨i2, B2, S2, k1, k2, k3, k4, k5⟩ := k i1 B1 S1 h1 h4 h5
  have m1 := ph_mono h1
  have m2 := ph_mono k1
  subst hd
  refine ⟨i2, B2, S2, by omega, ?_, ?_, by rw [← Nat.add_assoc]; exact k4, Fr_t h5 k5⟩
  · rw [h2, Option.bind_some]
    show ad (i1 - i) (ph i1 - ph i) (f (fa B1)) = _
    rw [k2, ad_some]
    have e1 : i1 - i + (i2 - i1) = i2 - i := by omega
    have e2 : ph i1 - ph i + (ph i2 - ph i1) = ph i2 - ph i := by omega
    rw [e1, e2]
  · rw [h3, Option.bind_some, k3]
theorem ow_map {α β γ δ : Type} {fa : ByS → α} {fb : LyS → β} {X : Option (α × Nat × Nat)} {Y : Option β} {ga : α → γ} {gb : β → δ} {i c d : Nat} {S : LyS} (h : OW fa fb X Y i c d S) : OW (fun B => ga (fa B)) (fun S => gb (fb S)) (X.bind fun r => ad r.2.1 r.2.2 (some (ga r.1, 0, 0))) (Y.bind fun r => some (gb r)) i c d S :=
  ow_bind (f := fun a => some (ga a, 0, 0)) (g := fun r => some (gb r)) h (d' := 0) rfl (fun i' B' S' _ hB _ => ow_end hB)
theorem ow_out {i c : Nat} {B : ByS} {S : LyS} (h : BB c i B S) (hc : c < 6400) {b : Int32} (hb : Bt b) : OW (fun B => B) (fun S => S) (ByteRow_append B b) (Mo_out S b) i c 1 S := by
  obtain ⟨h1, h2, h3, h4, h5, h6⟩ := h
  obtain ⟨i', f', a1, a2, a3, a4, a5, a6⟩ := append_eq h2 h3 h4 h1 hc b
  refine ⟨i', (nI (c + 1), cap i', f'), Lf (Ls S 5 c b) 9 (nI (c + 1)), a1, a4, ?_, ⟨a2, rfl, rfl, a3, ?_, lf_s⟩, fun k hk => lf_n hk, fun q hq => ls_n hq⟩
  · unfold Mo_out
    rw [h6, gd_nI hc (by omega), nI_clamp (by omega)]
    have : (Ls S 5 c b).1 9 = nI c := h6
    rw [this, nI_p1]
  · intro j hj
    show f' j = (Ls S 5 c b).2 5 j ∧ Bt ((Ls S 5 c b).2 5 j)
    rw [ls_s]
    by_cases q : j = c
    · rw [q, pk_us, a5]; exact ⟨rfl, hb⟩
    · rw [pk_un q, a6 j (by omega)]; exact h5 j (by omega)
theorem ow_eq {α β : Type} {fa : ByS → α} {fb : LyS → β} {X X' : Option (α × Nat × Nat)} {Y Y' : Option β} {i c d d' : Nat} {S : LyS} (h : OW fa fb X Y i c d S) (e1 : X' = X) (e2 : Y' = Y) (e3 : d' = d) : OW fa fb X' Y' i c d' S := by
  subst e1 e2 e3; exact h
/-- then both write one more byte -/
theorem ow_cons {γ δ : Type} {ga : ByS → γ} {gb : LyS → δ} {B : ByS} {S : LyS} {b : Int32} {f : ByS → Option (γ × Nat × Nat)} {g : LyS → Option δ} {i c d e : Nat} (h : BB c i B S) (hc : c < 6400) (hb : Bt b) (he : e = 1 + d)
    (k : ∀ i' B' S', i ≤ i' → BB (c + 1) i' B' S' → Fr S S' → OW ga gb (f B') (g S') i' (c + 1) d S') : OW ga gb ((ByteRow_append B b).bind fun r => ad r.2.1 r.2.2 (f r.1)) ((Mo_out S b).bind g) i c e S :=
  ow_bind (ow_out h hc hb) he k
def vb (l : Nat) : Nat := if l = 1 then 1 else 3
theorem prt_bt (p c : Nat) : Bt (nI (prt p c)) := ⟨_, prt_lt p c, rfl⟩
theorem ow_value {n i c l : Nat} {L : LyS} {B : ByS} {S : LyS} (h : BB c i B S) (hl : l < 4) {v : Int32} (hv : Vl l v) (hc : c + vb l ≤ 6400) : OW (fun B => B) (fun S => S) (Writer_writeValue n L B (nI l) v) (Mo_outValue S (nI l) v) i c (vb l) S := by
  have hcl : Cl v := by
    unfold Vl at hv
    by_cases q : l = 1
    · rw [if_pos q] at hv; exact Bi_cl hv
    · rw [if_neg q] at hv; exact hv
  obtain ⟨x, hx, rfl⟩ := hcl
  unfold Writer_writeValue Mo_outValue
  rw [red_eq hx, green_eq hx, blue_eq hx]
  simp only [Option.bind_some]
  have e0 : nI x >>> ((16 : Int32) &&& 31) = nI (prt 0 x) := by
    rw [pk_shrN (by omega) _ 16 s16]
    unfold prt
    rw [Nat.mod_eq_of_lt (by show x / 2 ^ 16 < 256; omega)]
  have e1 : (nI x >>> ((8 : Int32) &&& 31)) &&& 255 = nI (prt 1 x) := by
    rw [pk_shrN (by omega) _ 8 s8, pk_andN (by omega) 8 m255]; rfl
  have e2 : nI x &&& 255 = nI (prt 2 x) := by
    rw [pk_andN (by omega) 8 m255]; unfold prt; simp
  rw [e0, e1, e2]
  unfold vb at hc ⊢
  by_cases q : l = 1
  · rw [if_pos q] at hc ⊢
    subst q
    rw [if_pos n11, if_pos n11]
    exact ow_cons (f := fun B => some (B, 0, 0)) (g := fun S => some S) h (by omega) (prt_bt _ _) (d := 0) (by omega) (fun i' B' S' _ hB _ => ow_end (fa := fun B => B) (fb := fun S => S) hB)
  · rw [if_neg q] at hc ⊢
    have q1 : ¬ nI l = 1 := by intro z; exact q ((nI_eq (b := 1) (by omega) (by omega)).mp z)
    rw [if_neg q1, if_neg q1]
    exact ow_cons (f := fun B => (ByteRow_append B (nI (prt 1 x))).bind fun r6 => ad r6.2.1 r6.2.2 ((ByteRow_append r6.1 (nI (prt 2 x))).bind fun r8 => ad r8.2.1 r8.2.2 (some (r8.1, 0, 0)))) (g := fun S => (Mo_out S (nI (prt 1 x))).bind fun r3 => (Mo_out r3 (nI (prt 2 x))).bind fun r4 => some r4) h (by omega) (prt_bt _ _) (d := 2) (by omega) (fun i1 B1 S1 _ h1 _ =>
      ow_cons (f := fun B => (ByteRow_append B (nI (prt 2 x))).bind fun r8 => ad r8.2.1 r8.2.2 (some (r8.1, 0, 0))) (g := fun S => (Mo_out S (nI (prt 2 x))).bind fun r4 => some r4) h1 (by omega) (prt_bt _ _) (d := 1) (by omega) (fun i2 B2 S2 _ h2 _ =>
        ow_cons (f := fun B => some (B, 0, 0)) (g := fun S => some S) h2 (by omega) (prt_bt _ _) (d := 0) (by omega) (fun i3 B3 S3 _ h3 _ => ow_end (fa := fun B => B) (fb := fun S => S) h3)))
section WV
variable {n w tp r bs fs st0 l : Nat} {L : LyS}
/-- what writing a layer's values knows of it -/
def WL (n w tp r bs fs st0 l : Nat) (L S : LyS) : Prop := LD w tp r bs fs ∧ LayR w tp r bs fs S ∧ l < 4 ∧ n ≤ 576 ∧ st0 + mny w (sc bs fs l) r ≤ n ∧ ∀ k, k < mny w (sc bs fs l) r → L.2 l (st0 + k) = S.2 2 (ps w (sc bs fs l) l tp k) ∧ Vl l (L.2 l (st0 + k))
theorem WL_fr {S S' : LyS} (h : Fr S S') (H : WL n w tp r bs fs st0 l L S) : WL n w tp r bs fs st0 l L S' := by
  obtain ⟨h1, h2, h3, h4, h5, h6⟩ := H
  refine ⟨h1, Fr_lay h h2, h3, h4, h5, ?_⟩
  rw [h.2 2 (by decide)]
  exact h6
theorem WL_p {S : LyS} (H : WL n w tp r bs fs st0 l L S) {k : Nat} (hk : k < mny w (sc bs fs l) r) : Mo_place S (nI l) (nI k) = some (nI (ps w (sc bs fs l) l tp k)) ∧ ps w (sc bs fs l) l tp k < 2304 ∧ mny w (sc bs fs l) r ≤ 576 := by
  obtain ⟨h1, h2, h3, h4, h5, h6⟩ := H
  have hsc := sc_in (k := l) h1.2.2.1 h1.2.2.2
  have hp := ps_lt (l := l) hsc.1 h1.1.2 h1.2.1.2 hk
  exact ⟨place_eq h1 h2 h3 (by omega), by omega, by omega⟩
theorem ow_values : ∀ (m k : Nat) {i c : Nat} {B : ByS} {S : LyS} (fu fu' : Nat), WL n w tp r bs fs st0 l L S → l ≠ 1 → k + m = mny w (sc bs fs l) r → BB c i B S → c + 3 * m ≤ 6400 → m < fu → m < fu' →
    OW (fun B => ((0 : Nat), B)) (fun S => ((0 : Nat), S)) (Writer_writeValues_l3 n L (nI l) (nI (st0 + mny w (sc bs fs l) r)) fu (nI (st0 + k)) B) (Mo_outLayer_l261 (nI l) (nI (mny w (sc bs fs l) r)) fu' (nI k) S) i c (3 * m) S := by
  intro m
  induction m with
  | zero =>
    intro k i c B S fu fu' H hl1 hk hB hc hf hf'
    obtain ⟨f, rfl⟩ : ∃ f, fu = f + 1 := ⟨fu - 1, by omega⟩
    obtain ⟨f', rfl⟩ : ∃ f, fu' = f + 1 := ⟨fu' - 1, by omega⟩
    have := H.2.2.2.1
    have := H.2.2.2.2.1
    rw [Writer_writeValues_l3, if_pos (nI_le (by omega) (by omega)), Mo_outLayer_l261, if_pos (nI_le (by omega) (by omega))]
    exact ow_end (fa := fun B => ((0 : Nat), B)) (fb := fun S => ((0 : Nat), S)) hB
  | succ m ih =>
    intro k i c B S fu fu' H hl1 hk hB hc hf hf'
    obtain ⟨f, rfl⟩ : ∃ f, fu = f + 1 := ⟨fu - 1, by omega⟩
    obtain ⟨f', rfl⟩ : ∃ f, fu' = f + 1 := ⟨fu' - 1, by omega⟩
    have hkm : k < mny w (sc bs fs l) r := by omega
    obtain ⟨p1, p2, p3⟩ := WL_p H hkm
    obtain ⟨h1, h2, h3, h4, h5, h6⟩ := id H
    have hvb : vb l = 3 := by unfold vb; rw [if_neg hl1]
    rw [Writer_writeValues_l3, if_neg (nI_ge (by omega) (by omega)), lyv_eq h3 (show st0 + k < n by omega) (by omega), Option.bind_some, Mo_outLayer_l261, if_neg (nI_ge hkm (by omega)), p1, Option.bind_some, gd_nI p2 (by omega), nI_clamp (by omega), ← (h6 k hkm).1, nI_p1, nI_p1]
    refine ow_bind (f := fun B => Writer_writeValues_l3 n L (nI l) (nI (st0 + mny w (sc bs fs l) r)) f (nI (st0 + k + 1)) B) (g := fun S => Mo_outLayer_l261 (nI l) (nI (mny w (sc bs fs l) r)) f' (nI (k + 1)) S) (ow_value (n := n) (L := L) hB h3 (h6 k hkm).2 (by omega)) (d' := 3 * m) (by omega) ?_
    intro i' B' S' _ hB' hF
    exact ih (k + 1) f f' (WL_fr hF H) hl1 (by omega) hB' (by omega) (by omega) (by omega)
/-- eight bits -/
def b8 (f : Nat → Nat) : Nat → Nat
  | 0 => 0
  | j + 1 => 2 * b8 f j + f j
theorem b8_lt {f : Nat → Nat} (h : ∀ j, f j ≤ 1) : ∀ j, b8 f j < 2 ^ j
  | 0 => by show 0 < 1; omega
  | j + 1 => by
    have := b8_lt h j
    have := h j
    show 2 * b8 f j + f j < 2 ^ (j + 1)
    rw [Nat.pow_succ]
    omega
theorem bits_c {B : ByS} (st0 mn0 k : Nat) (fb : Nat → Nat) (hfb : ∀ j, fb j ≤ 1) (hn : n ≤ 576) (hst : st0 + mn0 ≤ n) (hk : k < mn0) (hv : ∀ j, j < 8 → k + j < mn0 → L.2 1 (st0 + (k + j)) = nI (fb j)) (hz : ∀ j, j < 8 → mn0 ≤ k + j → fb j = 0) (fu : Nat) (hfu : 7000 ≤ fu) :
    Writer_writeBits_l13 n L B (nI (st0 + mn0)) (nI (st0 + k)) fu 0 (nI (st0 + k)) = some (0, nI (b8 fb 8)) := by
  obtain ⟨s, g1, g2⟩ := loop1 (σ := Int32) (fun q j s => Writer_writeBits_l13 n L B (nI (st0 + mn0)) (nI (st0 + k)) q s (nI (st0 + (k + j)))) (fun j s => s = nI (b8 fb j)) 8
    (by
      intro q j s hj hs
      subst hs
      refine ⟨nI (b8 fb (j + 1)), ?_, rfl⟩
      show Writer_writeBits_l13 n L B (nI (st0 + mn0)) (nI (st0 + k)) (q + 1) (nI (b8 fb j)) (nI (st0 + (k + j))) = _
      have hlt : b8 fb j < 2 ^ 8 := Nat.lt_of_lt_of_le (b8_lt hfb j) (Nat.pow_le_pow_right (by omega) (by omega))
      have hfj := hfb j
      have eor : (nI (b8 fb j) <<< ((1 : Int32) &&& 31)) ||| nI (fb j) = nI (b8 fb (j + 1)) := by
        rw [pk_shlN _ 1 s1 (by omega)]
        have := or_eq (a := b8 fb j) (b := fb j) 1 (by omega) (by omega)
        rw [Nat.mul_comm (b8 fb j) (2 ^ 1), this]; rfl
      rw [Writer_writeBits_l13, show nI (st0 + k) + 8 = nI (st0 + k + 8) from nI_add _ 8, if_neg (nI_ge (by omega) (by omega)), nI_p1, show st0 + (k + j) + 1 = st0 + (k + (j + 1)) by omega]
      by_cases z : mn0 ≤ k + j
      · rw [if_pos (nI_le (by omega) (by omega)), ← eor, hz j hj z]; rfl
      · have hvl : Layers_value n L 1 (nI (st0 + (k + j))) = some (L.2 1 (st0 + (k + j))) := lyv_eq (k := 1) (by decide) (show st0 + (k + j) < n by omega) (by omega)
        rw [if_neg (nI_ge (by omega) (by omega)), hvl, Option.bind_some, hv j hj (by omega), eor])
    8 (fu - 8) 0 (nI 0) (by omega) rfl
  subst g2
  rw [show fu - 8 + 8 = fu by omega, show fu - 8 = fu - 8 - 1 + 1 by omega] at g1
  rw [Writer_writeBits_l13, show nI (st0 + k) + 8 = nI (st0 + k + 8) from nI_add _ 8, if_pos (nI_le (by omega) (by omega))] at g1
  exact g1
theorem bits_r {S : LyS} (H : WL n w tp r bs fs st0 1 L S) (k : Nat) (fb : Nat → Nat) (hfb : ∀ j, fb j ≤ 1) (hk : k < mny w (sc bs fs 1) r) (hv : ∀ j, j < 8 → k + j < mny w (sc bs fs 1) r → L.2 1 (st0 + (k + j)) = nI (fb j)) (hz : ∀ j, j < 8 → mny w (sc bs fs 1) r ≤ k + j → fb j = 0) (fu : Nat) (hfu : 7000 ≤ fu) :
    Mo_outLayer_l195 S 1 (nI (mny w (sc bs fs 1) r)) (nI k) fu 0 0 = some (0, nI (b8 fb 8)) := by
  have h5 := H.2.2.2.2.1
  have h4 := H.2.2.2.1
  obtain ⟨s, g1, g2⟩ := loop1 (σ := Int32) (fun q j s => Mo_outLayer_l195 S 1 (nI (mny w (sc bs fs 1) r)) (nI k) q s (nI j)) (fun j s => s = nI (b8 fb j)) 8
    (by
      intro q j s hj hs
      subst hs
      refine ⟨nI (b8 fb (j + 1)), ?_, rfl⟩
      show Mo_outLayer_l195 S 1 (nI (mny w (sc bs fs 1) r)) (nI k) (q + 1) (nI (b8 fb j)) (nI j) = _
      have eadd : 2 * nI (b8 fb j) + nI (fb j) = nI (b8 fb (j + 1)) := by
        rw [show (2 : Int32) * nI (b8 fb j) = nI (2 * b8 fb j) from pk_mul 2 _, nI_add]; rfl
      rw [Mo_outLayer_l195, if_neg (show ¬ (8 : Int32) ≤ nI j from nI_ge (b := 8) hj (by omega)), nI_add, nI_p1]
      by_cases z : mny w (sc bs fs 1) r ≤ k + j
      · rw [if_pos (nI_le (by omega) (by omega)), ← eadd, hz j hj z]; rfl
      · obtain ⟨p1, p2, p3⟩ := WL_p H (k := k + j) (by omega)
        rw [if_neg (nI_ge (by omega) (by omega)), show (1 : Int32) = nI 1 from rfl, p1, Option.bind_some, gd_nI p2 (by omega), nI_clamp (by omega), ← (H.2.2.2.2.2 (k + j) (by omega)).1, hv j hj (by omega), eadd])
    8 (fu - 8) 0 (nI 0) (by omega) rfl
  subst g2
  rw [show fu - 8 + 8 = fu by omega, show fu - 8 = fu - 8 - 1 + 1 by omega] at g1
  rw [Mo_outLayer_l195, if_pos (by decide)] at g1
  exact g1
theorem ow_bits : ∀ (m k : Nat) {i c : Nat} {B : ByS} {S : LyS} (fu fu1 fu2 : Nat), 7000 ≤ fu → WL n w tp r bs fs st0 1 L S → mny w (sc bs fs 1) r ≤ k + 8 * m → (m = 0 ∨ k + 8 * m < mny w (sc bs fs 1) r + 8) → k ≤ mny w (sc bs fs 1) r + 8 → BB c i B S → c + m ≤ 6400 → m < fu1 → m < fu2 →
    OW (fun B => ((0 : Nat), B)) (fun S => ((0 : Nat), S)) (Writer_writeBits_l2 fu n L (nI (st0 + mny w (sc bs fs 1) r)) fu1 (nI (st0 + k)) B) (Mo_outLayer_l183 fu 1 (nI (mny w (sc bs fs 1) r)) fu2 (nI k) S) i c m S := by
  intro m
  induction m with
  | zero =>
    intro k i c B S fu fu1 fu2 hfu H h1 h2 hk8 hB hc hf hf'
    obtain ⟨f, rfl⟩ : ∃ f, fu1 = f + 1 := ⟨fu1 - 1, by omega⟩
    obtain ⟨f', rfl⟩ : ∃ f, fu2 = f + 1 := ⟨fu2 - 1, by omega⟩
    have := H.2.2.2.1
    have := H.2.2.2.2.1
    rw [Writer_writeBits_l2, if_pos (nI_le (by omega) (by omega)), Mo_outLayer_l183, if_pos (nI_le (by omega) (by omega))]
    exact ow_end (fa := fun B => ((0 : Nat), B)) (fb := fun S => ((0 : Nat), S)) hB
  | succ m ih =>
    intro k i c B S fu fu1 fu2 hfu H h1 h2 hk8 hB hc hf hf'
    obtain ⟨f, rfl⟩ : ∃ f, fu1 = f + 1 := ⟨fu1 - 1, by omega⟩
    obtain ⟨f', rfl⟩ : ∃ f, fu2 = f + 1 := ⟨fu2 - 1, by omega⟩
    have h4 := H.2.2.2.1
    have h5 := H.2.2.2.2.1
    have hkm : k < mny w (sc bs fs 1) r := by omega
    let fb : Nat → Nat := fun j => if k + j < mny w (sc bs fs 1) r then one (L.2 1 (st0 + (k + j))) else 0
    have hfb : ∀ j, fb j ≤ 1 := by
      intro j; dsimp only [fb]; split
      · exact one_le _
      · omega
    have hv : ∀ j, j < 8 → k + j < mny w (sc bs fs 1) r → L.2 1 (st0 + (k + j)) = nI (fb j) := by
      intro j _ hj
      have := (H.2.2.2.2.2 (k + j) hj).2
      unfold Vl at this
      rw [if_pos rfl] at this
      dsimp only [fb]; rw [if_pos hj, one_bi this]
    have hz : ∀ j, j < 8 → mny w (sc bs fs 1) r ≤ k + j → fb j = 0 := by
      intro j _ hj
      dsimp only [fb]; rw [if_neg (by omega)]
    have hb : b8 fb 8 < 256 := b8_lt hfb 8
    rw [Writer_writeBits_l2, if_neg (nI_ge (by omega) (by omega)), bits_c st0 (mny w (sc bs fs 1) r) k fb hfb h4 h5 hkm hv hz fu hfu, Option.bind_some, Mo_outLayer_l183, if_neg (nI_ge (by omega) (by omega)), bits_r H k fb hfb hkm hv hz fu hfu, Option.bind_some]
    dsimp only
    rw [show nI (st0 + k) + 8 = nI (st0 + (k + 8)) by rw [show (8 : Int32) = nI 8 from rfl, nI_add, Nat.add_assoc], show nI k + 8 = nI (k + 8) from nI_add _ 8]
    refine ow_cons (f := fun B => Writer_writeBits_l2 fu n L (nI (st0 + mny w (sc bs fs 1) r)) f (nI (st0 + (k + 8))) B) (g := fun S => Mo_outLayer_l183 fu 1 (nI (mny w (sc bs fs 1) r)) f' (nI (k + 8)) S) hB (by omega) ⟨_, hb, rfl⟩ (d := m) (by omega) ?_
    intro i' B' S' _ hB' hF
    exact ih (k + 8) fu f f' hfu (WL_fr hF H) (by omega) (by omega) (by omega) hB' (by omega) (by omega) (by omega)
end WV
