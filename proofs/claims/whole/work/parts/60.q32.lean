/-! ===== read: the head, and all ===== -/
def RH7 (a b c : Int32) (T : LyS) (x : Int32) : Option (Int32 × Int32 × Int32 × LyS) := (Mo_takeIn (Lf T 18 x) 1 8).bind fun r7 => some (a, b, c, Lf r7.2 19 r7.1)
def RH6 (a b c : Int32) (T : LyS) : Option (Int32 × Int32 × Int32 × LyS) := (Mo_takeIn T 1 8).bind fun r6 => RH7 a b c r6.2 r6.1
def RH5 (a b : Int32) (T : LyS) : Option (Int32 × Int32 × Int32 × LyS) := (Mo_takeIn T 1 24).bind fun r5 => RH6 a b r5.1 r5.2
def RH4 (a : Int32) (T : LyS) : Option (Int32 × Int32 × Int32 × LyS) := (Mo_takeIn T 1 24).bind fun r4 => RH5 a r4.1 r4.2
def RH3 (T : LyS) : Option (Int32 × Int32 × Int32 × LyS) := (Mo_takeIn T 1 24).bind fun r3 => RH4 r3.1 r3.2
def RH2 (T : LyS) : Option (Int32 × Int32 × Int32 × LyS) := (Mo_takeIn T 76 76).bind fun r2 => RH3 r2.2
def RH1 (T : LyS) : Option (Int32 × Int32 × Int32 × LyS) := (Mo_takeIn T 77 77).bind fun r1 => RH2 r1.2
theorem read_RH (fu : Nat) (S : LyS) : Mo_read fu S = (RH1 (Lf (Lf (Lf (Lf (Lf S 0 0) 11 0) 12 ((-1))) 13 0) 14 0)).bind fun z => (Mo_read_l95 fu z.1 z.2.1 z.2.2.1 fu 0 0 z.2.2.2).bind fun r15 => Mo_read_b147 fu r15.2.2 z.1 z.2.1 r15.2.1 := by
  unfold Mo_read RH1 RH2 RH3 RH4 RH5 RH6 RH7
  simp only [Option.bind_assoc, Option.bind_some]
/-- a head that was refused -/
def HB (q : Nat) (T : LyS) (X : Option (Int32 × Int32 × Int32 × LyS)) : Prop := ∃ a b c T', X = some (a, b, c, T') ∧ T'.1 12 = nI q ∧ (∀ k, k < 15 → T'.1 k = T.1 k) ∧ T'.2 = T.2
section HD
variable {q : Nat} {T : LyS}
theorem hb7 (hq : q < 2 ^ 31) (h : T.1 12 = nI q) (a b c x : Int32) : HB q T (RH7 a b c T x) := by
  have h' : (Lf T 18 x).1 12 = nI q := h
  unfold RH7
  rw [mtakeIn_ref hq h']
  exact ⟨a, b, c, _, rfl, h, fun k hk => by show (Lf (Lf T 18 x) 19 0).1 k = _; rw [lf_n (by omega), lf_n (by omega)], rfl⟩
theorem hb6 (hq : q < 2 ^ 31) (h : T.1 12 = nI q) (a b c : Int32) : HB q T (RH6 a b c T) := by
  unfold RH6; rw [mtakeIn_ref hq h, Option.bind_some]; exact hb7 hq h a b c _
theorem hb5 (hq : q < 2 ^ 31) (h : T.1 12 = nI q) (a b : Int32) : HB q T (RH5 a b T) := by
  unfold RH5; rw [mtakeIn_ref hq h, Option.bind_some]; exact hb6 hq h a b _
theorem hb4 (hq : q < 2 ^ 31) (h : T.1 12 = nI q) (a : Int32) : HB q T (RH4 a T) := by
  unfold RH4; rw [mtakeIn_ref hq h, Option.bind_some]; exact hb5 hq h a _
theorem hb3 (hq : q < 2 ^ 31) (h : T.1 12 = nI q) : HB q T (RH3 T) := by
  unfold RH3; rw [mtakeIn_ref hq h, Option.bind_some]; exact hb4 hq h _
theorem hb2 (hq : q < 2 ^ 31) (h : T.1 12 = nI q) : HB q T (RH2 T) := by
  unfold RH2; rw [mtakeIn_ref hq h, Option.bind_some]; exact hb3 hq h
end HD
section HE
variable {n m p : Nat} {B : ByS} {fd : Nat → Int32} {L : LyS}
theorem hstep (hB : RB B m fd) {T : LyS} (hT : TS m fd p T) (rf : Int32) (hd : Nat → Int32) {j lo hi : Nat} (hj : j < 7) (e1 : hdLo j = nI lo) (e2 : hdHi j = nI hi) (hlo : lo < 2 ^ 31) (hhi : hi < 2 ^ 31) (k : Nat) :
    (∃ b, lo ≤ b ∧ b ≤ hi ∧ Reader_readHead_l2 n B L (k + 1) (nI j) (nI p) rf hd = Reader_readHead_l2 n B L k (nI (j + 1)) (nI (p + 1)) rf (upd hd j (nI b)) ∧ Mo_takeIn T (nI lo) (nI hi) = some (nI b, Lf T 11 (nI (p + 1))) ∧ TS m fd (p + 1) (Lf T 11 (nI (p + 1)))) ∨
    (∃ hd' u T', Reader_readHead_l2 n B L (k + 1) (nI j) (nI p) rf hd = some (1, nI p, nI p, hd') ∧ Mo_takeIn T (nI lo) (nI hi) = some (nI u, T') ∧ TB T T' p) := by
  have hg : ∀ x : Option (Nat × Int32 × Int32 × (Nat → Int32)), gd (nI j) 7 x = x := fun x => gd_nI hj (by omega)
  have hC : Reader_readHead_l2 n B L (k + 1) (nI j) (nI p) rf hd = (Reader_take n B (nI p) rf hd L (nI lo) (nI hi)).bind fun r3 => if upd hd j r3.1 j = -1 then some (1, r3.2.1, r3.2.2, upd hd j r3.1) else Reader_readHead_l2 n B L k (nI (j + 1)) r3.2.1 r3.2.2 (upd hd j r3.1) := by
    rw [Reader_readHead_l2, if_neg (show ¬ (7 : Int32) ≤ nI j from nI_ge (b := 7) hj (by omega)), nI_clamp (by omega), e1, e2, nI_p1]
    simp only [hg]
  rw [hC]
  rcases take2 (n := n) (rf := rf) (hd := hd) (L := L) hB hT lo hi hlo hhi with ⟨b, hb, c1, c2, c3, c4, c5⟩ | ⟨c4, u, T', hu, c5, c6⟩
  · left
    refine ⟨b, c1, c2, ?_, c5, TS_p hT (by omega)⟩
    rw [c4, Option.bind_some]
    dsimp only
    rw [pk_us, if_neg (nI_ne_m1 (by omega))]
  · right
    refine ⟨upd hd j (-1), u, T', ?_, c5, c6⟩
    rw [c4, Option.bind_some]
    dsimp only
    rw [pk_us, if_pos rfl]
theorem head2 (hB : RB B m fd) {T : LyS} (hT : TS m fd 0 T) (rf : Int32) (hd : Nat → Int32) (fu : Nat) (hfu : 7000 ≤ fu) :
    (∃ w h st fs bs hd' T', (1 ≤ w ∧ w ≤ 24) ∧ (1 ≤ h ∧ h ≤ 24) ∧ (1 ≤ st ∧ st ≤ 24) ∧ (1 ≤ fs ∧ fs ≤ 8) ∧ (1 ≤ bs ∧ bs ≤ 8) ∧ Reader_readHead_l2 n B L fu 0 0 rf hd = some (0, nI 7, rf, hd') ∧ hd' 2 = nI w ∧ hd' 3 = nI h ∧ hd' 4 = nI st ∧ hd' 5 = nI fs ∧ hd' 6 = nI bs ∧ RH1 T = some (nI w, nI h, nI st, T') ∧ TS m fd 7 T' ∧ T'.1 18 = nI fs ∧ T'.1 19 = nI bs ∧ (∀ k, k < 15 → k ≠ 11 → k ≠ 12 → T'.1 k = T.1 k) ∧ T'.2 = T.2) ∨
    (∃ q hd' a b c T', q ≤ 6400 ∧ Reader_readHead_l2 n B L fu 0 0 rf hd = some (1, nI q, nI q, hd') ∧ RH1 T = some (a, b, c, T') ∧ T'.1 12 = nI q ∧ (∀ k, k < 15 → k ≠ 11 → k ≠ 12 → T'.1 k = T.1 k) ∧ T'.2 = T.2) := by
  have hm64 := RB_m hB
  obtain ⟨k, rfl⟩ : ∃ k, fu = k + 1 + 1 + 1 + 1 + 1 + 1 + 1 + 1 := ⟨fu - 8, by omega⟩
  -- a refusal, once it is there
  have bad : ∀ (q : Nat) (hd' : Nat → Int32) (T1 : LyS), q ≤ 6400 → Reader_readHead_l2 n B L (k + 1 + 1 + 1 + 1 + 1 + 1 + 1 + 1) (nI 0) (nI 0) rf hd = some (1, nI q, nI q, hd') → HB q T1 (RH1 T) → (∀ j, j < 15 → j ≠ 11 → j ≠ 12 → T1.1 j = T.1 j) → T1.2 = T.2 → (∃ q hd' a b c T', q ≤ 6400 ∧ Reader_readHead_l2 n B L (k + 1 + 1 + 1 + 1 + 1 + 1 + 1 + 1) 0 0 rf hd = some (1, nI q, nI q, hd') ∧ RH1 T = some (a, b, c, T') ∧ T'.1 12 = nI q ∧ (∀ k, k < 15 → k ≠ 11 → k ≠ 12 → T'.1 k = T.1 k) ∧ T'.2 = T.2) := by
    rintro q hd' T1 h1 h2 ⟨a, b, c, T', h3, h4, h5, h6⟩ h7 h8
    exact ⟨q, hd', a, b, c, T', h1, h2, h3, h4, fun j h9 h10 h11 => by rw [h5 j h9, h7 j h9 h10 h11], by rw [h6, h8]⟩
  have frA : ∀ (X Y : LyS) (x : Int32), (∀ j, j < 15 → j ≠ 11 → j ≠ 12 → X.1 j = Y.1 j) → ∀ j, j < 15 → j ≠ 11 → j ≠ 12 → (Lf X 11 x).1 j = Y.1 j := fun X Y x h j h1 h2 h3 => by rw [lf_n h2]; exact h j h1 h2 h3
  show (∃ w h st fs bs hd' T', _ ∧ _ ∧ _ ∧ _ ∧ _ ∧ Reader_readHead_l2 n B L (k + 1 + 1 + 1 + 1 + 1 + 1 + 1 + 1) (nI 0) (nI 0) rf hd = _ ∧ _) ∨ _
  rcases hstep (n := n) (L := L) hB hT rf hd (j := 0) (lo := 77) (hi := 77) (by decide) rfl rfl (by omega) (by omega) (k + 1 + 1 + 1 + 1 + 1 + 1 + 1) with ⟨b0, x1, x2, x3, x4, x5⟩ | ⟨hd', u, T', x1, x2, x3⟩
  rotate_left
  · right
    refine bad 0 hd' T' (by omega) x1 ?_ (fun j h1 h2 h3 => x3.2.2.1 j h2 h3) x3.2.2.2
    unfold RH1
    rw [show Mo_takeIn T 77 77 = some (nI u, T') from x2, Option.bind_some]
    exact hb2 (by omega) x3.1
  have r1 : RH1 T = RH2 (Lf T 11 (nI (0 + 1))) := by unfold RH1; rw [show Mo_takeIn T 77 77 = _ from x4]; rfl
  generalize hT1 : Lf T 11 (nI (0 + 1)) = T1 at *
  have f1 : (∀ j, j < 15 → j ≠ 11 → j ≠ 12 → T1.1 j = T.1 j) ∧ T1.2 = T.2 := by rw [← hT1]; exact ⟨frA T T _ (fun _ _ _ _ => rfl), rfl⟩
  rw [x3, r1]
  rw [x3, r1] at bad
  clear x3 r1 x4 hT1
  rcases hstep (n := n) (L := L) hB x5 rf (upd hd 0 (nI b0)) (j := 0 + 1) (lo := 76) (hi := 76) (by decide) rfl rfl (by omega) (by omega) (k + 1 + 1 + 1 + 1 + 1 + 1) with ⟨b1, y1, y2, y3, y4, y5⟩ | ⟨hd', u, T', y1, y2, y3⟩
  rotate_left
  · right
    refine bad 1 hd' T' (by omega) y1 ?_ (fun j h1 h2 h3 => by rw [y3.2.2.1 j h2 h3]; exact f1.1 j h1 h2 h3) (by rw [y3.2.2.2]; exact f1.2)
    unfold RH2
    rw [show Mo_takeIn T1 76 76 = some (nI u, T') from y2, Option.bind_some]
    exact hb3 (by omega) y3.1
  have r2 : RH2 T1 = RH3 (Lf T1 11 (nI (0 + 1 + 1))) := by unfold RH2; rw [show Mo_takeIn T1 76 76 = _ from y4]; rfl
  generalize hT2 : Lf T1 11 (nI (0 + 1 + 1)) = T2 at *
  have f2 : (∀ j, j < 15 → j ≠ 11 → j ≠ 12 → T2.1 j = T.1 j) ∧ T2.2 = T.2 := by rw [← hT2]; exact ⟨frA T1 T _ f1.1, f1.2⟩
  rw [y3, r2]
  rw [y3, r2] at bad
  clear y3 r2 y4 hT2
  rcases hstep (n := n) (L := L) hB y5 rf (upd (upd hd 0 (nI b0)) (0 + 1) (nI b1)) (j := 0 + 1 + 1) (lo := 1) (hi := 24) (by decide) rfl rfl (by omega) (by omega) (k + 1 + 1 + 1 + 1 + 1) with ⟨w, z1, z2, z3, z4, z5⟩ | ⟨hd', u, T', z1, z2, z3⟩
  rotate_left
  · right
    refine bad 2 hd' T' (by omega) z1 ?_ (fun j h1 h2 h3 => by rw [z3.2.2.1 j h2 h3]; exact f2.1 j h1 h2 h3) (by rw [z3.2.2.2]; exact f2.2)
    unfold RH3
    rw [show Mo_takeIn T2 1 24 = some (nI u, T') from z2, Option.bind_some]
    exact hb4 (by omega) z3.1 _
  have r3 : RH3 T2 = RH4 (nI w) (Lf T2 11 (nI (0 + 1 + 1 + 1))) := by unfold RH3; rw [show Mo_takeIn T2 1 24 = _ from z4]; rfl
  generalize hT3 : Lf T2 11 (nI (0 + 1 + 1 + 1)) = T3 at *
  have f3 : (∀ j, j < 15 → j ≠ 11 → j ≠ 12 → T3.1 j = T.1 j) ∧ T3.2 = T.2 := by rw [← hT3]; exact ⟨frA T2 T _ f2.1, f2.2⟩
  rw [z3, r3]
  rw [z3, r3] at bad
  clear z3 r3 z4 hT3
  rcases hstep (n := n) (L := L) hB z5 rf (upd (upd (upd hd 0 (nI b0)) (0 + 1) (nI b1)) (0 + 1 + 1) (nI w)) (j := 0 + 1 + 1 + 1) (lo := 1) (hi := 24) (by decide) rfl rfl (by omega) (by omega) (k + 1 + 1 + 1 + 1) with ⟨h, a1, a2, a3, a4, a5⟩ | ⟨hd', u, T', a1, a2, a3⟩
  rotate_left
  · right
    refine bad 3 hd' T' (by omega) a1 ?_ (fun j h1 h2 h3 => by rw [a3.2.2.1 j h2 h3]; exact f3.1 j h1 h2 h3) (by rw [a3.2.2.2]; exact f3.2)
    unfold RH4
    rw [show Mo_takeIn T3 1 24 = some (nI u, T') from a2, Option.bind_some]
    exact hb5 (by omega) a3.1 _ _
  have r4 : RH4 (nI w) T3 = RH5 (nI w) (nI h) (Lf T3 11 (nI (0 + 1 + 1 + 1 + 1))) := by unfold RH4; rw [show Mo_takeIn T3 1 24 = _ from a4]; rfl
  generalize hT4 : Lf T3 11 (nI (0 + 1 + 1 + 1 + 1)) = T4 at *
  have f4 : (∀ j, j < 15 → j ≠ 11 → j ≠ 12 → T4.1 j = T.1 j) ∧ T4.2 = T.2 := by rw [← hT4]; exact ⟨frA T3 T _ f3.1, f3.2⟩
  rw [a3, r4]
  rw [a3, r4] at bad
  clear a3 r4 a4 hT4
  rcases hstep (n := n) (L := L) hB a5 rf (upd (upd (upd (upd hd 0 (nI b0)) (0 + 1) (nI b1)) (0 + 1 + 1) (nI w)) (0 + 1 + 1 + 1) (nI h)) (j := 0 + 1 + 1 + 1 + 1) (lo := 1) (hi := 24) (by decide) rfl rfl (by omega) (by omega) (k + 1 + 1 + 1) with ⟨st, c1, c2, c3, c4, c5⟩ | ⟨hd', u, T', c1, c2, c3⟩
  rotate_left
  · right
    refine bad 4 hd' T' (by omega) c1 ?_ (fun j h1 h2 h3 => by rw [c3.2.2.1 j h2 h3]; exact f4.1 j h1 h2 h3) (by rw [c3.2.2.2]; exact f4.2)
    unfold RH5
    rw [show Mo_takeIn T4 1 24 = some (nI u, T') from c2, Option.bind_some]
    exact hb6 (by omega) c3.1 _ _ _
  have r5 : RH5 (nI w) (nI h) T4 = RH6 (nI w) (nI h) (nI st) (Lf T4 11 (nI (0 + 1 + 1 + 1 + 1 + 1))) := by unfold RH5; rw [show Mo_takeIn T4 1 24 = _ from c4]; rfl
  generalize hT5 : Lf T4 11 (nI (0 + 1 + 1 + 1 + 1 + 1)) = T5 at *
  have f5 : (∀ j, j < 15 → j ≠ 11 → j ≠ 12 → T5.1 j = T.1 j) ∧ T5.2 = T.2 := by rw [← hT5]; exact ⟨frA T4 T _ f4.1, f4.2⟩
  rw [c3, r5]
  rw [c3, r5] at bad
  clear c3 r5 c4 hT5
  rcases hstep (n := n) (L := L) hB c5 rf (upd (upd (upd (upd (upd hd 0 (nI b0)) (0 + 1) (nI b1)) (0 + 1 + 1) (nI w)) (0 + 1 + 1 + 1) (nI h)) (0 + 1 + 1 + 1 + 1) (nI st)) (j := 0 + 1 + 1 + 1 + 1 + 1) (lo := 1) (hi := 8) (by decide) rfl rfl (by omega) (by omega) (k + 1 + 1) with ⟨fs, d1, d2, d3, d4, d5⟩ | ⟨hd', u, T', d1, d2, d3⟩
  rotate_left
  · right
    refine bad 5 hd' T' (by omega) d1 ?_ (fun j h1 h2 h3 => by rw [d3.2.2.1 j h2 h3]; exact f5.1 j h1 h2 h3) (by rw [d3.2.2.2]; exact f5.2)
    unfold RH6
    rw [show Mo_takeIn T5 1 8 = some (nI u, T') from d2, Option.bind_some]
    exact hb7 (by omega) d3.1 _ _ _ _
  have r6 : RH6 (nI w) (nI h) (nI st) T5 = RH7 (nI w) (nI h) (nI st) (Lf T5 11 (nI (0 + 1 + 1 + 1 + 1 + 1 + 1))) (nI fs) := by unfold RH6; rw [show Mo_takeIn T5 1 8 = _ from d4]; rfl
  generalize hT6 : Lf T5 11 (nI (0 + 1 + 1 + 1 + 1 + 1 + 1)) = T6 at *
  have f6 : (∀ j, j < 15 → j ≠ 11 → j ≠ 12 → T6.1 j = T.1 j) ∧ T6.2 = T.2 := by rw [← hT6]; exact ⟨frA T5 T _ f5.1, f5.2⟩
  rw [d3, r6]
  rw [d3, r6] at bad
  clear d3 r6 d4 hT6
  have d5' : TS m fd (0 + 1 + 1 + 1 + 1 + 1 + 1) (Lf T6 18 (nI fs)) := ⟨d5.1, d5.2.1, d5.2.2.1, d5.2.2.2.1, d5.2.2.2.2⟩
  rcases hstep (n := n) (L := L) hB d5' rf (upd (upd (upd (upd (upd (upd hd 0 (nI b0)) (0 + 1) (nI b1)) (0 + 1 + 1) (nI w)) (0 + 1 + 1 + 1) (nI h)) (0 + 1 + 1 + 1 + 1) (nI st)) (0 + 1 + 1 + 1 + 1 + 1) (nI fs)) (j := 0 + 1 + 1 + 1 + 1 + 1 + 1) (lo := 1) (hi := 8) (by decide) rfl rfl (by omega) (by omega) (k + 1) with ⟨bs, g1, g2, g3, g4, g5⟩ | ⟨hd', u, T', g1, g2, g3⟩
  rotate_left
  · right
    refine bad 6 hd' (Lf T' 19 (nI u)) (by omega) g1 ?_ (fun j h1 h2 h3 => by rw [lf_n (by omega), g3.2.2.1 j h2 h3, lf_n (by omega)]; exact f6.1 j h1 h2 h3) (by show T'.2 = T.2; rw [g3.2.2.2]; exact f6.2)
    unfold RH7
    rw [show Mo_takeIn (Lf T6 18 (nI fs)) 1 8 = some (nI u, T') from g2, Option.bind_some]
    exact ⟨_, _, _, _, rfl, g3.1, fun _ _ => rfl, rfl⟩
  left
  have r7 : RH7 (nI w) (nI h) (nI st) T6 (nI fs) = some (nI w, nI h, nI st, Lf (Lf (Lf T6 18 (nI fs)) 11 (nI (0 + 1 + 1 + 1 + 1 + 1 + 1 + 1))) 19 (nI bs)) := by unfold RH7; rw [show Mo_takeIn (Lf T6 18 (nI fs)) 1 8 = _ from g4]; rfl
  rw [g3, r7, Reader_readHead_l2, if_pos (show (7 : Int32) ≤ nI (0 + 1 + 1 + 1 + 1 + 1 + 1 + 1) by decide)]
  refine ⟨w, h, st, fs, bs, _, _, ⟨z1, z2⟩, ⟨a1, a2⟩, ⟨c1, c2⟩, ⟨d1, d2⟩, ⟨g1, g2⟩, rfl, rfl, rfl, rfl, rfl, rfl, rfl, ?_, ?_, ?_, ?_, ?_⟩
  · exact ⟨g5.1, g5.2.1, g5.2.2.1, g5.2.2.2.1, g5.2.2.2.2⟩
  · rw [lf_n (by decide), lf_n (by decide), lf_s]
  · rw [lf_s]
  · intro j h1 h2 h3
    rw [lf_n (by omega), lf_n h2, lf_n (by omega)]; exact f6.1 j h1 h2 h3
  · exact f6.2
end HE
