/-! ===== a stripe: the two layers of blocks ===== -/
def pr (b0 b1 l : Nat) : Nat := if l = 0 then b0 else b1
def SG (w st0 tp r bs fs i b0 b1 cnt : Nat) (L0 T0 : LyS) (bare0 : Nat → Int32) (L : LyS) (bare : Nat → Int32) (T : LyS) : Prop :=
  (∀ k, k ≠ 3 → L.1 k = L0.1 k) ∧ L.1 3 = nI (cnt + b0 + 2 * b1) ∧ L.2 4 = upd (L0.2 4) i (nI (b0 + 6 * b1)) ∧
  (∀ q, q ≠ 0 → q ≠ 2 → q ≠ 4 → L.2 q = L0.2 q) ∧ (∀ l j, l = 0 ∨ l = 2 → j < st0 ∨ st0 + w * r ≤ j → L.2 l j = L0.2 l j) ∧
  (∀ j, j < st0 ∨ st0 + w * r ≤ j → bare j = bare0 j) ∧
  (∃ bf : Nat → Nat, (∀ k, k < w * r → bf k < 16 ∧ bare (st0 + k) = nI (bf k) ∧ (b0 = 0 → bit (bf k) 0 = 0) ∧ (b1 = 0 → bit (bf k) 2 = 0)) ∧ ∀ l k, l = 0 ∨ l = 2 → pr b0 b1 l = 1 → k < mny w (sc bs fs l) r → T.2 3 (ps w (sc bs fs l) l tp k) = nI (bit (bf k) l)) ∧
  (∀ l k, l = 0 ∨ l = 2 → pr b0 b1 l = 1 → k < mny w (sc bs fs l) r → L.2 l (st0 + k) = T.2 2 (ps w (sc bs fs l) l tp k) ∧ Cl (L.2 l (st0 + k))) ∧
  T.1 = T0.1 ∧ (∀ q, q ≠ 2 → q ≠ 3 → T.2 q = T0.2 q) ∧ ∀ P, ¬ InR 0 tp r P → ¬ InR 2 tp r P → T.2 2 P = T0.2 2 P ∧ T.2 3 P = T0.2 3 P
section SGS
variable {n w h st i tp r bs fs st0 cnt b0 : Nat} {col msk bare bare0 : Nat → Int32} {L T L0 T0 : LyS}
/-- the blocks of one layer, over what is there -/
theorem sg_blk (D : LD w tp r bs fs) (H : LayR w tp r bs fs T) (V : VL n w h st bs fs L) (etp : tp = i * st) (er : r = hs h st i) (hi : i < cd h st) {l : Nat} (hl : l = 0 ∨ l = 2) (side : Int32) (hside : side = if l = 2 then 1 else 0) (hC : RC w h col (T.2 0)) (hM : PB w h msk (T.2 1)) (hn : n = w * h) (fu : Nat) (hfu : 7000 ≤ fu) (est0 : st0 = i * st * w)
    (hex : ∃ y x, tp ≤ y ∧ y < tp + r ∧ x < w ∧ T.2 1 (24 * y + x) = side) {bf : Nat → Nat} (hb : ∀ k, k < w * r → bf k < 16 ∧ bare (st0 + k) = nI (bf k) ∧ bit (bf k) l = 0) :
    ∃ f L1 bare' L' T', Maker_makeBlocks fu n col msk bare L (nI i) (nI l) = some (f, L1) ∧ Maker_fillBlocks fu n col msk bare L1 (nI i) (nI l) f = some (bare', L') ∧ Mo_makeBlocks fu T (nI l) = some T' ∧
      L'.1 = L.1 ∧ (∀ q, q ≠ l → L'.2 q = L.2 q) ∧ (∀ j, j < st0 ∨ st0 + w * r ≤ j → L'.2 l j = L.2 l j) ∧ (∀ j, j < st0 ∨ st0 + w * r ≤ j → bare' j = bare j) ∧
      (∃ bf' : Nat → Nat, (∀ k, k < w * r → bf' k < 16 ∧ bare' (st0 + k) = nI (bf' k) ∧ ∀ m, m < 4 → m ≠ l → bit (bf' k) m = bit (bf k) m) ∧ ∀ k, k < mny w (sc bs fs l) r → T'.2 3 (ps w (sc bs fs l) l tp k) = nI (bit (bf' k) l)) ∧
      (∀ k, k < mny w (sc bs fs l) r → L'.2 l (st0 + k) = T'.2 2 (ps w (sc bs fs l) l tp k) ∧ Cl (L'.2 l (st0 + k))) ∧
      T'.1 = T.1 ∧ (∀ q, q ≠ 2 → q ≠ 3 → T'.2 q = T.2 q) ∧ ∀ P, ¬ InR l tp r P → T'.2 2 P = T.2 2 P ∧ T'.2 3 P = T.2 3 P := by
  have hw := D.1
  have hr := D.2.1
  have hsc := sc_in (k := l) D.2.2.1 D.2.2.2
  have hm := mny_le (w := w) (s := sc bs fs l) (r := r) hsc.1
  obtain ⟨f, L1, bare', L', T', a1, a2, a3, c1, c2, c3, c4, c5, c6, c7, c8, c9⟩ := bk_all (col := col) (msk := msk) (bare := bare) (bf := fun j => bf (j - st0)) D H V etp er hi hl side hside hC hM hn fu hfu st0 est0 (by
    intro k' hk'
    rw [show st0 + k' - st0 = k' by omega]
    exact hb k' (by omega)) hex
  refine ⟨f, L1, bare', L', T', a1, a2, a3, c1, c2, fun j hj => c3 j (by omega), fun j hj => c5 j (by omega), ?_, c4, c7, c8, ?_⟩
  · have hch : ∀ k, ∃ b, k < w * r → (b < 16 ∧ bare' (st0 + k) = nI b ∧ (∀ m, m < 4 → m ≠ l → bit b m = bit (bf k) m) ∧ (k < mny w (sc bs fs l) r → T'.2 3 (ps w (sc bs fs l) l tp k) = nI (bit b l))) := by
      intro k
      by_cases q : k < mny w (sc bs fs l) r
      · obtain ⟨b, h1, h2, h3, h4⟩ := c6 k q
        refine ⟨b, fun _ => ⟨h1, h2, ?_, fun _ => h3⟩⟩
        intro m hm1 hm2
        have := h4 m hm1 hm2
        dsimp only at this
        rw [show st0 + k - st0 = k by omega] at this
        exact this
      · refine ⟨bf k, fun hk => ⟨(hb k hk).1, ?_, fun m _ _ => rfl, fun z => absurd z q⟩⟩
        rw [c5 _ (by omega)]; exact (hb k hk).2.1
    refine ⟨fun k => Classical.choose (hch k), ?_, ?_⟩
    · intro k hk
      obtain ⟨z1, z2, z3, z4⟩ := Classical.choose_spec (hch k) hk
      exact ⟨z1, z2, z3⟩
    · intro k hk
      exact (Classical.choose_spec (hch k) (by omega)).2.2.2 hk
  · intro P hP
    exact c9 P (fun k hk e => hP (by rw [e]; exact ps_in hsc.1 hw.2 hr.2 hk))
theorem sg_0 (D : LD w tp r bs fs) (H : LayR w tp r bs fs T0) (V : VL n w h st bs fs L0) (etp : tp = i * st) (er : r = hs h st i) (hi : i < cd h st) (hC : RC w h col (T0.2 0)) (hM : PB w h msk (T0.2 1)) (hn : n = w * h) (fu : Nat) (hfu : 7000 ≤ fu) (est0 : st0 = i * st * w)
    (hex : ∃ y x, tp ≤ y ∧ y < tp + r ∧ x < w ∧ T0.2 1 (24 * y + x) = 0) (hS : SG w st0 tp r bs fs i 0 0 cnt L0 T0 bare0 L bare T) :
    ∃ f L1 bare' L2 L' T', Maker_makeBlocks fu n col msk bare L (nI i) 0 = some (f, L1) ∧ Maker_fillBlocks fu n col msk bare L1 (nI i) 0 f = some (bare', L2) ∧ Layers_add n L2 (nI i) 0 = some L' ∧ Mo_makeBlocks fu T 0 = some T' ∧ SG w st0 tp r bs fs i 1 0 cnt L0 T0 bare0 L' bare' T' := by
  obtain ⟨s1, s2, s3, s4, s5, s6, ⟨bf, s7, s8⟩, s9, s10, s11, s12⟩ := hS
  have h24 := cd_24 V.2.2.1.1 V.2.1.2
  have hT0 : T.2 0 = T0.2 0 := s11 0 (by decide) (by decide)
  have hT1 : T.2 1 = T0.2 1 := s11 1 (by decide) (by decide)
  obtain ⟨f, L1, bare', L2, T', a1, a2, a3, c1, c2, c3, c4, ⟨bf', c5, c6⟩, c7, c8, c9, c10⟩ := sg_blk (col := col) (msk := msk) (bare := bare) (L := L) (T := T) (l := 0) D (LayR_fr H s10) (VL_fr V (fun k hk => s1 k (by omega)) (s4 5 (by decide) (by decide) (by decide)) (s4 6 (by decide) (by decide) (by decide))) etp er hi (Or.inl rfl) 0 rfl (by rw [hT0]; exact hC) (by rw [hT1]; exact hM) hn fu hfu est0 (by rw [hT1]; exact hex) (bf := bf) (fun k hk => ⟨(s7 k hk).1, (s7 k hk).2.1, (s7 k hk).2.2.1 rfl⟩)
  have e4 : L2.2 4 i = nI 0 := by rw [c2 4 (by decide), s3, pk_us]
  obtain ⟨L', d1, d2, d3, d4, d5⟩ := add_eq (n := n) (L := L2) (i := i) (t := 0) (l := 0) (cnt := cnt) (by omega) e4 (by decide) (by decide) (by rw [c1]; exact s2)
  refine ⟨f, L1, bare', L2, L', T', a1, a2, d1, a3, ?_, by rw [d2], ?_, ?_, ?_, ?_, ⟨bf', ?_, ?_⟩, ?_, by rw [c8, s10], ?_, ?_⟩
  · intro k hk
    rw [d3 k hk, c1]; exact s1 k hk
  · rw [d5, c2 4 (by decide), s3]
    funext x
    by_cases q : x = i
    · rw [q, pk_us, pk_us]; rfl
    · rw [pk_un q, pk_un q, pk_un q]
  · intro q h0 h2 h4
    rw [d4 q h4, c2 q h0]; exact s4 q h0 h2 h4
  · intro l j hl hj
    rw [d4 l (by omega)]
    rcases hl with rfl | rfl
    · rw [c3 j hj]; exact s5 0 j (Or.inl rfl) hj
    · rw [c2 2 (by decide)]; exact s5 2 j (Or.inr rfl) hj
  · intro j hj
    rw [c4 j hj]; exact s6 j hj
  · intro k hk
    obtain ⟨z1, z2, z3⟩ := c5 k hk
    exact ⟨z1, z2, fun z => absurd z (by decide), fun _ => by rw [z3 2 (by decide) (by decide)]; exact (s7 k hk).2.2.2 rfl⟩
  · intro l k hl hp hk
    rcases hl with rfl | rfl
    · exact c6 k hk
    · exact absurd hp (by decide)
  · intro l k hl hp hk
    rcases hl with rfl | rfl
    · rw [d4 0 (by decide)]; exact c7 k hk
    · exact absurd hp (by decide)
  · intro q h2 h3
    rw [c9 q h2 h3]; exact s11 q h2 h3
  · intro P h0 h2
    obtain ⟨z1, z2⟩ := c10 P h0
    obtain ⟨y1, y2⟩ := s12 P h0 h2
    exact ⟨by rw [z1, y1], by rw [z2, y2]⟩
theorem sg_2 (D : LD w tp r bs fs) (H : LayR w tp r bs fs T0) (V : VL n w h st bs fs L0) (etp : tp = i * st) (er : r = hs h st i) (hi : i < cd h st) (hC : RC w h col (T0.2 0)) (hM : PB w h msk (T0.2 1)) (hn : n = w * h) (fu : Nat) (hfu : 7000 ≤ fu) (est0 : st0 = i * st * w)
    (hex : ∃ y x, tp ≤ y ∧ y < tp + r ∧ x < w ∧ T0.2 1 (24 * y + x) = 1) (hb0 : b0 = 0 ∨ b0 = 1) (hS : SG w st0 tp r bs fs i b0 0 cnt L0 T0 bare0 L bare T) :
    ∃ La' f L1 bare' L2 L' T', Layers_add n L (nI i) 1 = some La' ∧ Maker_makeBlocks fu n col msk bare La' (nI i) 2 = some (f, L1) ∧ Maker_fillBlocks fu n col msk bare L1 (nI i) 2 f = some (bare', L2) ∧ Layers_add n L2 (nI i) 2 = some L' ∧ Mo_makeBlocks fu T 2 = some T' ∧ SG w st0 tp r bs fs i b0 1 cnt L0 T0 bare0 L' bare' T' := by
  obtain ⟨s1, s2, s3, s4, s5, s6, ⟨bf, s7, s8⟩, s9, s10, s11, s12⟩ := hS
  have h24 := cd_24 V.2.2.1.1 V.2.1.2
  have hT0 : T.2 0 = T0.2 0 := s11 0 (by decide) (by decide)
  have hT1 : T.2 1 = T0.2 1 := s11 1 (by decide) (by decide)
  have e4a : L.2 4 i = nI b0 := by rw [s3, pk_us]; rfl
  obtain ⟨La', p1, p2, p3, p4, p5⟩ := add_eq (n := n) (L := L) (i := i) (t := b0) (l := 1) (cnt := cnt + b0) (by omega) e4a (by omega) (by decide) s2
  obtain ⟨f, L1, bare', L2, T', a1, a2, a3, c1, c2, c3, c4, ⟨bf', c5, c6⟩, c7, c8, c9, c10⟩ := sg_blk (col := col) (msk := msk) (bare := bare) (L := La') (T := T) (l := 2) D (LayR_fr H s10) (VL_fr V (fun k hk => by rw [p3 k (by omega)]; exact s1 k (by omega)) (by rw [p4 5 (by decide)]; exact s4 5 (by decide) (by decide) (by decide)) (by rw [p4 6 (by decide)]; exact s4 6 (by decide) (by decide) (by decide))) etp er hi (Or.inr rfl) 1 rfl (by rw [hT0]; exact hC) (by rw [hT1]; exact hM) hn fu hfu est0 (by rw [hT1]; exact hex) (bf := bf) (fun k hk => ⟨(s7 k hk).1, (s7 k hk).2.1, (s7 k hk).2.2.2 rfl⟩)
  have e4 : L2.2 4 i = nI (b0 ||| 2 ^ 1) := by rw [c2 4 (by decide), p5, pk_us]
  obtain ⟨L', d1, d2, d3, d4, d5⟩ := add_eq (n := n) (L := L2) (i := i) (t := b0 ||| 2 ^ 1) (l := 2) (cnt := cnt + b0 + 1) (by omega) e4 (by rcases hb0 with rfl | rfl <;> decide) (by decide) (by rw [c1]; exact p2)
  refine ⟨La', f, L1, bare', L2, L', T', p1, a1, a2, d1, a3, ?_, by rw [d2], ?_, ?_, ?_, ?_, ⟨bf', ?_, ?_⟩, ?_, by rw [c8, s10], ?_, ?_⟩
  · intro k hk
    rw [d3 k hk, c1, p3 k hk]; exact s1 k hk
  · rw [d5, c2 4 (by decide), p5, s3]
    funext x
    by_cases q : x = i
    · rw [q, pk_us, pk_us]
      rcases hb0 with rfl | rfl <;> rfl
    · rw [pk_un q, pk_un q, pk_un q, pk_un q]
  · intro q h0 h2 h4
    rw [d4 q h4, c2 q h2, p4 q h4]; exact s4 q h0 h2 h4
  · intro l j hl hj
    rw [d4 l (by omega)]
    rcases hl with rfl | rfl
    · rw [c2 0 (by decide), p4 0 (by decide)]; exact s5 0 j (Or.inl rfl) hj
    · rw [c3 j hj, p4 2 (by decide)]; exact s5 2 j (Or.inr rfl) hj
  · intro j hj
    rw [c4 j hj]; exact s6 j hj
  · intro k hk
    obtain ⟨z1, z2, z3⟩ := c5 k hk
    exact ⟨z1, z2, fun z => by rw [z3 0 (by decide) (by decide)]; exact (s7 k hk).2.2.1 z, fun z => absurd z (by decide)⟩
  · intro l k hl hp hk
    rcases hl with rfl | rfl
    · have hsc := sc_in (k := 0) D.2.2.1 D.2.2.2
      have hin := ps_in (l := 0) hsc.1 D.1.2 D.2.1.2 hk
      have hm := mny_le (w := w) (s := sc bs fs 0) (r := r) hsc.1
      rw [(c10 _ (by unfold InR at hin ⊢; have := D.2.1; omega)).2, s8 0 k (Or.inl rfl) hp hk, (c5 k (by omega)).2.2 0 (by decide) (by decide)]
    · exact c6 k hk
  · intro l k hl hp hk
    rcases hl with rfl | rfl
    · have hsc := sc_in (k := 0) D.2.2.1 D.2.2.2
      have hin := ps_in (l := 0) hsc.1 D.1.2 D.2.1.2 hk
      rw [d4 0 (by decide), c2 0 (by decide), p4 0 (by decide), (c10 _ (by unfold InR at hin ⊢; have := D.2.1; omega)).1]
      exact s9 0 k (Or.inl rfl) hp hk
    · rw [d4 2 (by decide)]; exact c7 k hk
  · intro q h2 h3
    rw [c9 q h2 h3]; exact s11 q h2 h3
  · intro P h0 h2
    obtain ⟨z1, z2⟩ := c10 P h2
    obtain ⟨y1, y2⟩ := s12 P h0 h2
    exact ⟨by rw [z1, y1], by rw [z2, y2]⟩
end SGS
