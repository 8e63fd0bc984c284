def pbx (x l : Nat) : Nat := if l = 1 then x else 3 * x
def bnd (x l : Nat) : Nat := if l = 0 then 16 + 10 * x else if l = 1 then 12 + 7 * x else if l = 2 then 8 + 6 * x else if l = 3 then 4 + 3 * x else 0
theorem bnd_s {x l : Nat} (hl : l < 4) : bnd x l = 4 + pbx x l + bnd x (l + 1) := by
  have : l = 0 ∨ l = 1 ∨ l = 2 ∨ l = 3 := by omega
  rcases this with rfl | rfl | rfl | rfl
  · show 16 + 10 * x = 4 + 3 * x + (12 + 7 * x); omega
  · show 12 + 7 * x = 4 + x + (8 + 6 * x); omega
  · show 8 + 6 * x = 4 + 3 * x + (4 + 3 * x); omega
  · show 4 + 3 * x = 4 + 3 * x + 0; omega
theorem pb_le {m x l : Nat} (h : m ≤ x) (h1 : 1 ≤ m) : pb l m ≤ pbx x l := by
  unfold pb pbx; split <;> omega
theorem ow_bind1 {α β γ δ : Type} {fa : ByS → α} {fb : LyS → β} {ga : ByS → γ} {gb : LyS → δ} {X : Option (α × Nat × Nat)} {Y : Option β} {f : α → Option (γ × Nat × Nat)} {g : β → Option δ} {i i1 c d d' : Nat} {B1 : ByS} {S S1 : LyS} (h1 : i ≤ i1) (h2 : X = some (fa B1, i1 - i, ph i1 - ph i)) (h3 : Y = some (fb S1)) (h5 : Fr S S1)
    (k : OW ga gb (f (fa B1)) (g (fb S1)) i1 (c + d) d' S1) : OW ga gb (X.bind fun r => ad r.2.1 r.2.2 (f r.1)) (Y.bind g) i c (d + d') S := by
  obtain ⟨i2, B2, S2, k1, k2, k3, k4, k5⟩ := k
  have m1 := ph_mono h1
  have m2 := ph_mono k1
  refine ⟨i2, B2, S2, by omega, ?_, ?_, by rw [← Nat.add_assoc]; exact k4, Fr_t h5 k5⟩
  · rw [h2, Option.bind_some]
    show ad (i1 - i) (ph i1 - ph i) (f (fa B1)) = _
    rw [k2, ad_some]
    have e1 : i1 - i + (i2 - i1) = i2 - i := by omega
    have e2 : ph i1 - ph i + (ph i2 - ph i1) = ph i2 - ph i := by omega
    rw [e1, e2]
  · rw [h3, Option.bind_some, k3]
section WST
variable {n w h st i tp r bs fs st0 t : Nat} {L S0 : LyS}
theorem ow_stripe (V : VL n w h st bs fs L) (hi : i < cd h st) (etp : tp = i * st) (er : r = hs h st i) (est0 : st0 = i * st * w) (ht : t < 16) (e4 : L.2 4 i = nI t) (eth : ∀ l, l < 4 → S0.2 4 (4 * i + l) = nI (bit t l)) (hW : ∀ l, l < 4 → bit t l = 1 → WL n w tp r bs fs st0 l L S0) (fu : Nat) (hfu : 7000 ≤ fu) :
    ∀ (m l : Nat), l + m = 4 → ∀ {c ci : Nat} {B : ByS} {S : LyS} (f f' : Nat), Fr S0 S → BB c ci B S → c + bnd (w * r) l ≤ 6400 → m < f → m < f' →
      ∃ d, d ≤ bnd (w * r) l ∧ OW (fun B => ((0 : Nat), B)) (fun S => ((0 : Nat), S)) (Writer_writeAll_l26 fu n L (nI i) f (nI l) B) (Mo_write_l112 fu (nI i) f' (nI l) S) ci c d S := by
  have h24 := cd_24 V.2.2.1.1 V.2.1.2
  have hih := hs_h hi V.2.2.1.1
  intro m
  induction m with
  | zero =>
    intro l hl c ci B S f f' hF hB hc hf hf'
    obtain ⟨g, rfl⟩ : ∃ g, f = g + 1 := ⟨f - 1, by omega⟩
    obtain ⟨g', rfl⟩ : ∃ g, f' = g + 1 := ⟨f' - 1, by omega⟩
    have : l = 4 := by omega
    subst this
    refine ⟨0, Nat.zero_le _, ?_⟩
    rw [Writer_writeAll_l26, if_pos (by decide), Mo_write_l112, if_pos (by decide)]
    exact ow_end (fa := fun B => ((0 : Nat), B)) (fb := fun S => ((0 : Nat), S)) hB
  | succ m ih =>
    intro l hl c ci B S f f' hF hB hc hf hf'
    obtain ⟨g, rfl⟩ : ∃ g, f = g + 1 := ⟨f - 1, by omega⟩
    obtain ⟨g', rfl⟩ : ∃ g, f' = g + 1 := ⟨f' - 1, by omega⟩
    have hl4 : l < 4 := by omega
    have hb := bnd_s (x := w * r) hl4
    have hS4 : S.2 4 (4 * i + l) = nI (bit t l) := by rw [hF.2 4 (by decide)]; exact eth l hl4
    rw [Writer_writeAll_l26, if_neg (show ¬ (3 : Int32) < nI l from nI_nlt (a := 3) (by omega) (by omega)), has_eq (by omega) e4 ht hl4, Option.bind_some, Mo_write_l112, if_neg (show ¬ (4 : Int32) ≤ nI l from nI_ge (b := 4) hl4 (by omega)), show (4 : Int32) * nI i = nI (4 * i) from pk_mul 4 i, nI_add, gd_nI (by omega) (by omega), nI_clamp (by omega), hS4, nI_p1]
    rcases bit_le t l with q | q
    · rw [q, if_pos e00, if_pos e00]
      obtain ⟨d, d1, d2⟩ := ih (l + 1) (by omega) g g' hF hB (by omega) (by omega) (by omega)
      exact ⟨d, by omega, d2⟩
    · rw [q, if_neg n10, if_neg n10]
      have hWl := WL_fr hF (hW l hl4 q)
      have hsc := sc_in (k := l) V.2.2.2.1 V.2.2.2.2.1
      have hm1 : 1 ≤ mny w (sc bs fs l) r := by
        have := kx_lt (w := w) (s := sc bs fs l) (r := r) (tp := 0) (x := 0) (y := 0) hsc.1 (by have := V.1; omega) (by omega)
        omega
      have hmle := mny_le (w := w) (s := sc bs fs l) (r := r) hsc.1
      have hpb := pb_le (l := l) hmle hm1
      obtain ⟨d, d1, d2⟩ := ow_layer V hi etp er est0 hWl hB hm1 (by omega) fu hfu
      obtain ⟨i1, B1, S1, z1, z2, z3, z4, z5⟩ := d2
      obtain ⟨d', y1, y2⟩ := ih (l + 1) (by omega) g g' (Fr_t hF z5) z4 (by omega) (by omega) (by omega)
      exact ⟨d + d', by omega, ow_bind1 (fa := fun B => B) (fb := fun S => S) (f := fun B => Writer_writeAll_l26 fu n L (nI i) g (nI (l + 1)) B) (g := fun S => Mo_write_l112 fu (nI i) g' (nI (l + 1)) S) z1 z2 z3 z5 y2⟩
end WST
theorem write_all {n w h st bs fs : Nat} {L S0 : LyS} {bare : Nat → Int32} (V : VL n w h st bs fs L) (s1 : S0.1 1 = nI w) (s2 : S0.1 2 = nI h) (s5 : S0.1 5 = nI st) (s6 : S0.1 6 = nI fs) (s7 : S0.1 7 = nI bs) (hst : ∀ i, i < cd h st → StR w h st bs fs i L bare (S0.2 2) (S0.2 3) (S0.2 4)) {B : ByS} {ci : Nat} (hB : BB 7 ci B S0) (fu : Nat) (hfu : 7000 ≤ fu) :
    ∃ c ci' B' S', Writer_writeAll_l13 fu n L fu 0 B = some ((0, B'), ci' - ci, ph ci' - ph ci) ∧ ci ≤ ci' ∧ Mo_write_l84 fu fu 0 S0 = some (0, S') ∧ BB c ci' B' S' ∧ (∀ k, k < 15 → k ≠ 9 → S'.1 k = S0.1 k) ∧ ∀ q, q ≠ 5 → S'.2 q = S0.2 q := by
  obtain ⟨hw, hh, hst1, hb, hf, hnn, -⟩ := id V
  have h24 := cd_24 hst1.1 hh.2
  have hwh : w * h ≤ 24 * 24 := Nat.mul_le_mul hw.2 hh.2
  obtain ⟨s', t', g1, gp, g2, c, g3, g4, g5, g6⟩ := loop2A (σ := ByS × Nat) (τ := LyS)
    (fun k i s => Writer_writeAll_l13 fu n L k (nI i) s.1) (fun k i t => Mo_write_l84 fu k (nI i) t) (fun s => s.2)
    (fun i s t => ∃ c, c ≤ 7 + 18 * i + 10 * (w * min (i * st) h) ∧ BB c s.2 s.1 t ∧ (∀ k, k < 15 → k ≠ 9 → t.1 k = S0.1 k) ∧ ∀ q, q ≠ 5 → t.2 q = S0.2 q) (cd h st)
    (by
      rintro k k' i ⟨B, ci⟩ T hi ⟨c, h1, h2, h3, h4⟩
      dsimp only at h1 h2 h3 h4 ⊢
      have hih := hs_h hi hst1.1
      have hcm := cd_mul hst1.1 hi
      have hist : i * st / st = i := Nat.mul_div_cancel i (by omega)
      obtain ⟨T1, u1, u2, u3, u4⟩ := layMade_eq (S := T) (w := w) (h := h) (st := st) (bs := bs) (fs := fs) (y := i * st) (by rw [h3 1 (by decide) (by decide)]; exact s1) (by rw [h3 2 (by decide) (by decide)]; exact s2) (by rw [h3 5 (by decide) (by decide)]; exact s5) (by rw [h3 6 (by decide) (by decide)]; exact s6) (by rw [h3 7 (by decide) (by decide)]; exact s7) hst1 hh.2 hcm
      rw [hist] at u1 u2
      obtain ⟨t, ht, a1, a2, a3, a4, a5⟩ := hst i hi
      have hmin : min (i * st) h = i * st := Nat.min_eq_left (by omega)
      have hmin2 : min ((i + 1) * st) h = i * st + hs h st i := by
        rw [Nat.add_mul, Nat.one_mul]; unfold hs; omega
      rw [hmin] at h1
      have hle : w * (i * st) + w * hs h st i ≤ w * h := by
        rw [← Nat.mul_add]; exact Nat.mul_le_mul_left w hih.1
      have hBT : BB c ci B T1 := by
        obtain ⟨z1, z2, z3, z4, z5, z6⟩ := h2
        refine ⟨z1, z2, z3, z4, ?_, by rw [u4 9 (by decide)]; exact z6⟩
        rw [u3]; exact z5
      have hD : LD w (i * st) (hs h st i) bs fs := ⟨hw, ⟨hih.2, by omega⟩, hb, hf⟩
      have e2 : T1.2 2 = S0.2 2 := by rw [u3, h4 2 (by decide)]
      have e4 : T1.2 4 = S0.2 4 := by rw [u3, h4 4 (by decide)]
      have hst0 : i * st * w + w * hs h st i ≤ n := by
        have h1 : (i * st + hs h st i) * w ≤ h * w := Nat.mul_le_mul_right w hih.1
        rw [Nat.add_mul, Nat.mul_comm h w, Nat.mul_comm (hs h st i) w] at h1
        omega
      have hb0 : bnd (w * hs h st i) 0 = 16 + 10 * (w * hs h st i) := rfl
      obtain ⟨d, d1, i1, B1, S1, x1, x2, x3, x4, x5⟩ := ow_stripe (S0 := T1) V hi rfl rfl rfl ht a1 (by rw [e4]; exact a2) (fun l hl hbit => by
        have hsc := sc_in (k := l) hb hf
        have hm := mny_le (w := w) (s := sc bs fs l) (r := hs h st i) hsc.1
        refine ⟨hD, u2, hl, hnn.2, by omega, ?_⟩
        rw [e2]
        exact fun k hk => a3 l k hl hbit hk) fu hfu 4 0 rfl fu fu (Fr_r T1) hBT (by omega) (by omega) (by omega)
      obtain ⟨i2, B2, S2, y1, y2, y3, y4, y5⟩ := ow_out (b := 175) x4 (by omega) ⟨175, by omega, rfl⟩
      have m1 := ph_mono x1
      have m2 := ph_mono y1
      refine ⟨(B2, i2), S2, ?_, by omega, ?_, c + d + 1, ?_, y4, ?_, ?_⟩
      · rw [Writer_writeAll_l13, stripes_eq V, Option.bind_some, if_neg (nI_ge hi (by omega)), show (0 : Int32) = nI 0 from rfl, x2, Option.bind_some]
        dsimp only
        rw [y2, Option.bind_some]
        dsimp only
        have z1 : i1 - ci + (i2 - i1) = i2 - ci := by omega
        have z2 : ph i1 - ph ci + (ph i2 - ph i1) = ph i2 - ph ci := by omega
        rw [ad_ad, nI_p1, z1, z2]
      · rw [Mo_write_l84, h3 2 (by decide) (by decide), h3 5 (by decide) (by decide), s2, s5, stripesOf_eq (by omega) (by omega) (by omega), Option.bind_some, if_neg (nI_ge hi (by omega)), pk_mul, u1, Option.bind_some, show (0 : Int32) = nI 0 from rfl, x3, Option.bind_some]
        dsimp only
        rw [y3, Option.bind_some, nI_p1]
      · have z3 : w * (i * st + hs h st i) = w * (i * st) + w * hs h st i := Nat.mul_add _ _ _
        rw [hmin2, z3]; omega
      · intro k hk hk9
        rw [y5.1 k hk9, x5.1 k hk9, u4 k hk]; exact h3 k hk hk9
      · intro q hq
        rw [y5.2 q hq, x5.2 q hq, u3]; exact h4 q hq)
    (cd h st) (fu - cd h st) (fu - cd h st) 0 (B, ci) S0 (by omega) ⟨7, by omega, hB, fun _ _ _ => rfl, fun _ _ => rfl⟩
  obtain ⟨B', ci'⟩ := s'
  dsimp only at g1 gp g2 g4
  rw [show fu - cd h st + cd h st = fu by omega, show fu - cd h st = fu - cd h st - 1 + 1 by omega] at g1 g2
  rw [Writer_writeAll_l13, stripes_eq V, Option.bind_some, if_pos (nI_le (Nat.le_refl _) (by omega)), ad_some] at g1
  rw [Mo_write_l84, g5 2 (by decide) (by decide), g5 5 (by decide) (by decide), s2, s5, stripesOf_eq (by omega) (by omega) (by omega), Option.bind_some, if_pos (nI_le (Nat.le_refl _) (by omega))] at g2
  exact ⟨c, ci', B', t', g1, gp, g2, g4, g5, g6⟩
theorem op_write (fu : Nat) (hfu : 7000 ≤ fu) : Op_write Rel fu := by
  rintro n ⟨wd, ht, stp, col, msk, bare, M, F, Bw, Bf, pl, rf, hd⟩ S ⟨w, h, st, d, hn, e1, e2, e3, R⟩
  dsimp only at e1 e2 e3 R ⊢
  subst e1 e2 e3
  have ⟨A11, A12, A13⟩ := R.1
  unfold Mo_write ML_write ML_write_t
  rcases R.2.2.2.1.2 with ⟨y1, y2⟩ | ⟨y1, st', bs, fs, cnt, V, hc, y2, y3, y5, y6, y7, hst⟩
  · rw [y1, y2]
    simp only [if_pos e00]
    refine ⟨(0, Lf S 0 1), ?_, Or.inr ⟨by trivial, lf_s, w, h, st, d, hn, rfl, rfl, rfl, RL_t 1 R⟩⟩
    unfold Mo_write_b13; rw [lf_s, if_neg (by decide)]
  · have hne : ¬ nI cnt = 0 := nI_ne0 (by omega) (by omega)
    rw [y1, y2]
    simp only [if_neg hne, if_neg n10]
    obtain ⟨hw, hh, hst', hb, hf, hnn, v0, v1, v2, v5, v6⟩ := id V
    obtain ⟨m, ci, hi, b1, b2, b3, b4, b5⟩ := R.2.2.2.2.1
    generalize hS0 : Lf (Lf S 0 0) 9 0 = S0
    have f1 : ∀ k, k ≠ 0 → k ≠ 9 → S0.1 k = S.1 k := by intro k h0 h9; rw [← hS0, lf_n h9, lf_n h0]
    have f2 : S0.2 = S.2 := by rw [← hS0]; rfl
    have f0 : S0.1 0 = 0 := by rw [← hS0, lf_n (by decide), lf_s]
    have hB0 : BB 0 ci (0, Bw.2) S0 := ⟨hi, rfl, b3, Nat.zero_le _, fun j hj => by omega, by rw [← hS0, lf_s]; rfl⟩
    -- the head
    have head : OW (fun B => B) (fun S => S) (Writer_writeHead n M (0, Bw.2)) ((Mo_out S0 77).bind fun r1 => (Mo_out r1 76).bind fun r2 => (Mo_out r2 (r2.1 1)).bind fun r3 => (Mo_out r3 (r3.1 2)).bind fun r4 => (Mo_out r4 (r4.1 5)).bind fun r5 => (Mo_out r5 (r5.1 6)).bind fun r6 => (Mo_out r6 (r6.1 7)).bind fun r7 => some r7) ci 0 7 S0 := by
      unfold Writer_writeHead
      rw [v0, v1, v2, v5, v6]
      refine ow_cons (f := fun B => (ByteRow_append B 76).bind fun r2 => ad r2.2.1 r2.2.2 ((ByteRow_append r2.1 (nI w)).bind fun r3 => ad r3.2.1 r3.2.2 ((ByteRow_append r3.1 (nI h)).bind fun r4 => ad r4.2.1 r4.2.2 ((ByteRow_append r4.1 (nI st')).bind fun r5 => ad r5.2.1 r5.2.2 ((ByteRow_append r5.1 (nI fs)).bind fun r7 => ad r7.2.1 r7.2.2 ((ByteRow_append r7.1 (nI bs)).bind fun r9 => ad r9.2.1 r9.2.2 (some (r9.1, 0, 0)))))))) (g := fun r1 => (Mo_out r1 76).bind fun r2 => (Mo_out r2 (r2.1 1)).bind fun r3 => (Mo_out r3 (r3.1 2)).bind fun r4 => (Mo_out r4 (r4.1 5)).bind fun r5 => (Mo_out r5 (r5.1 6)).bind fun r6 => (Mo_out r6 (r6.1 7)).bind fun r7 => some r7) hB0 (by omega) ⟨77, by omega, rfl⟩ (d := 6) (by omega) ?_
      intro i1 B1 S1 _ hB1 hF1
      refine ow_cons (f := fun B => (ByteRow_append B (nI w)).bind fun r3 => ad r3.2.1 r3.2.2 ((ByteRow_append r3.1 (nI h)).bind fun r4 => ad r4.2.1 r4.2.2 ((ByteRow_append r4.1 (nI st')).bind fun r5 => ad r5.2.1 r5.2.2 ((ByteRow_append r5.1 (nI fs)).bind fun r7 => ad r7.2.1 r7.2.2 ((ByteRow_append r7.1 (nI bs)).bind fun r9 => ad r9.2.1 r9.2.2 (some (r9.1, 0, 0))))))) (g := fun r2 => (Mo_out r2 (r2.1 1)).bind fun r3 => (Mo_out r3 (r3.1 2)).bind fun r4 => (Mo_out r4 (r4.1 5)).bind fun r5 => (Mo_out r5 (r5.1 6)).bind fun r6 => (Mo_out r6 (r6.1 7)).bind fun r7 => some r7) hB1 (by omega) ⟨76, by omega, rfl⟩ (d := 5) (by omega) ?_
      intro i2 B2 S2 _ hB2 hF2
      have hF2' := Fr_t hF1 hF2
      rw [show S2.1 1 = nI w by rw [hF2'.1 1 (by decide), f1 1 (by decide) (by decide)]; exact A11]
      refine ow_cons (f := fun B => (ByteRow_append B (nI h)).bind fun r4 => ad r4.2.1 r4.2.2 ((ByteRow_append r4.1 (nI st')).bind fun r5 => ad r5.2.1 r5.2.2 ((ByteRow_append r5.1 (nI fs)).bind fun r7 => ad r7.2.1 r7.2.2 ((ByteRow_append r7.1 (nI bs)).bind fun r9 => ad r9.2.1 r9.2.2 (some (r9.1, 0, 0)))))) (g := fun r3 => (Mo_out r3 (r3.1 2)).bind fun r4 => (Mo_out r4 (r4.1 5)).bind fun r5 => (Mo_out r5 (r5.1 6)).bind fun r6 => (Mo_out r6 (r6.1 7)).bind fun r7 => some r7) hB2 (by omega) (Bt_of (by omega)) (d := 4) (by omega) ?_
      intro i3 B3 S3 _ hB3 hF3
      have hF3' := Fr_t hF2' hF3
      rw [show S3.1 2 = nI h by rw [hF3'.1 2 (by decide), f1 2 (by decide) (by decide)]; exact A12]
      refine ow_cons (f := fun B => (ByteRow_append B (nI st')).bind fun r5 => ad r5.2.1 r5.2.2 ((ByteRow_append r5.1 (nI fs)).bind fun r7 => ad r7.2.1 r7.2.2 ((ByteRow_append r7.1 (nI bs)).bind fun r9 => ad r9.2.1 r9.2.2 (some (r9.1, 0, 0))))) (g := fun r4 => (Mo_out r4 (r4.1 5)).bind fun r5 => (Mo_out r5 (r5.1 6)).bind fun r6 => (Mo_out r6 (r6.1 7)).bind fun r7 => some r7) hB3 (by omega) (Bt_of (by omega)) (d := 3) (by omega) ?_
      intro i4 B4 S4 _ hB4 hF4
      have hF4' := Fr_t hF3' hF4
      rw [show S4.1 5 = nI st' by rw [hF4'.1 5 (by decide), f1 5 (by decide) (by decide)]; exact y5]
      refine ow_cons (f := fun B => (ByteRow_append B (nI fs)).bind fun r7 => ad r7.2.1 r7.2.2 ((ByteRow_append r7.1 (nI bs)).bind fun r9 => ad r9.2.1 r9.2.2 (some (r9.1, 0, 0)))) (g := fun r5 => (Mo_out r5 (r5.1 6)).bind fun r6 => (Mo_out r6 (r6.1 7)).bind fun r7 => some r7) hB4 (by omega) (Bt_of (by omega)) (d := 2) (by omega) ?_
      intro i5 B5 S5 _ hB5 hF5
      have hF5' := Fr_t hF4' hF5
      rw [show S5.1 6 = nI fs by rw [hF5'.1 6 (by decide), f1 6 (by decide) (by decide)]; exact y6]
      refine ow_cons (f := fun B => (ByteRow_append B (nI bs)).bind fun r9 => ad r9.2.1 r9.2.2 (some (r9.1, 0, 0))) (g := fun r6 => (Mo_out r6 (r6.1 7)).bind fun r7 => some r7) hB5 (by omega) (Bt_of (by omega)) (d := 1) (by omega) ?_
      intro i6 B6 S6 _ hB6 hF6
      have hF6' := Fr_t hF5' hF6
      rw [show S6.1 7 = nI bs by rw [hF6'.1 7 (by decide), f1 7 (by decide) (by decide)]; exact y7]
      refine ow_cons (f := fun B => some (B, 0, 0)) (g := fun r7 => some r7) hB6 (by omega) (Bt_of (by omega)) (d := 0) (by omega) ?_
      intro i7 B7 S7 _ hB7 hF7
      exact ow_end (fa := fun B => B) (fb := fun S => S) hB7
    obtain ⟨i1, B1, S1, q1, q2, q3, q4, q5⟩ := head
    have g1 : ∀ k, k ≠ 0 → k ≠ 9 → S1.1 k = S.1 k := fun k h0 h9 => by rw [q5.1 k h9, f1 k h0 h9]
    have g2 : ∀ q, q ≠ 5 → S1.2 q = S.2 q := fun q hq => by rw [q5.2 q hq, f2]
    obtain ⟨c, i2, B2, S2, w1, w2, w3, w4, w5, w6⟩ := write_all (S0 := S1) (B := B1) (ci := i1) V (by rw [g1 1 (by decide) (by decide)]; exact A11) (by rw [g1 2 (by decide) (by decide)]; exact A12) (by rw [g1 5 (by decide) (by decide)]; exact y5) (by rw [g1 6 (by decide) (by decide)]; exact y6) (by rw [g1 7 (by decide) (by decide)]; exact y7) (by rw [g2 2 (by decide), g2 3 (by decide), g2 4 (by decide)]; exact hst) q4 fu hfu
    have m1 := ph_mono q1
    have m2 := ph_mono w2
    have hr : ((Mo_out S0 77).bind fun r1 => (Mo_out r1 76).bind fun r2 => (Mo_out r2 (r2.1 1)).bind fun r3 => (Mo_out r3 (r3.1 2)).bind fun r4 => (Mo_out r4 (r4.1 5)).bind fun r5 => (Mo_out r5 (r5.1 6)).bind fun r6 => (Mo_out r6 (r6.1 7)).bind fun r7 => (Mo_write_l84 fu fu 0 r7).bind fun r18 => some (r18.2.1 9, r18.2)) = some (S2.1 9, S2) := by
      have : ((((Mo_out S0 77).bind fun r1 => (Mo_out r1 76).bind fun r2 => (Mo_out r2 (r2.1 1)).bind fun r3 => (Mo_out r3 (r3.1 2)).bind fun r4 => (Mo_out r4 (r4.1 5)).bind fun r5 => (Mo_out r5 (r5.1 6)).bind fun r6 => (Mo_out r6 (r6.1 7)).bind fun r7 => some r7).bind fun r7 => (Mo_write_l84 fu fu 0 r7).bind fun r18 => some (r18.2.1 9, r18.2))) = some (S2.1 9, S2) := by
        rw [q3, Option.bind_some, w3]; rfl
      rw [← this]
      simp only [Option.bind_assoc, Option.bind_some]
    refine ⟨(S2.1 9, S2), ?_, Or.inl ⟨((B2.1, B2), i2 - ci, ph i2 - ph ci), ?_, ?_, ?_, ⟨w, h, st, d, hn, rfl, rfl, rfl, ?_⟩, ?_, ?_⟩⟩
    · unfold Mo_write_b13
      rw [lf_s, if_pos le00, hS0]; exact hr
    · unfold Writer_writeAll ByteRow_empty
      rw [Option.bind_some, q2, Option.bind_some]
      dsimp only
      rw [w1, Option.bind_some]
      dsimp only
      rw [ad_some, ad_some, Option.bind_some, ad_some]
      have z1 : i1 - ci + (i2 - i1 + 0) + 0 = i2 - ci := by omega
      have z2 : ph i1 - ph ci + (ph i2 - ph i1 + 0) + 0 = ph i2 - ph ci := by omega
      rw [z1, z2]
    · show S2.1 0 = 0
      rw [w5 0 (by decide) (by decide), q5.1 0 (by decide)]; exact f0
    · show S2.1 9 = B2.1
      rw [w4.2.1, w4.2.2.2.2.2]
    · obtain ⟨-, A2, A3, A4, A5, A6, A7⟩ := R
      have h1 : ∀ k, k < 15 → k ≠ 0 → k ≠ 9 → S2.1 k = S.1 k := fun k hk h0 h9 => by rw [w5 k hk h9, g1 k h0 h9]
      have h2 : ∀ q, q ≠ 5 → S2.2 q = S.2 q := fun q hq => by rw [w6 q hq, g2 q hq]
      refine ⟨⟨?_, ?_, ?_⟩, ?_, ?_, ?_, ?_, ?_, ?_⟩
      · show S2.1 1 = _; rw [h1 1 (by decide) (by decide) (by decide)]; exact A11
      · show S2.1 2 = _; rw [h1 2 (by decide) (by decide) (by decide)]; exact A12
      · show S2.1 3 = _; rw [h1 3 (by decide) (by decide) (by decide)]; exact A13
      · show RC w h col (S2.2 0); rw [h2 0 (by decide)]; exact A2
      · show RM w h msk (S2.2 1); rw [h2 1 (by decide)]; exact A3
      · show MdR n w h bare M (S2.1 4) (S2.1 5) (S2.1 6) (S2.1 7) (S2.1 8) (S2.2 2) (S2.2 3) (S2.2 4)
        rw [h1 4 (by decide) (by decide) (by decide), h1 5 (by decide) (by decide) (by decide), h1 6 (by decide) (by decide) (by decide), h1 7 (by decide) (by decide) (by decide), h1 8 (by decide) (by decide) (by decide), h2 2 (by decide), h2 3 (by decide), h2 4 (by decide)]; exact A4
      · exact ⟨c, i2, w4.1, w4.2.1, w4.2.2.2.2.2, w4.2.2.1, w4.2.2.2.1, w4.2.2.2.2.1⟩
      · show BtR Bf (S2.1 10) (S2.2 6)
        rw [h1 10 (by decide) (by decide) (by decide), h2 6 (by decide)]; exact A6
      · show FoR F (S2.1 13) (S2.1 14) (S2.2 9)
        rw [h1 13 (by decide) (by decide) (by decide), h1 14 (by decide) (by decide) (by decide), h2 9 (by decide)]; exact A7
    · show i2 - ci ≤ 7
      have := w4.1; omega
    · show ph i2 - ph ci ≤ 14080
      have := ph_mono w4.1
      rw [ph_7] at this; omega
