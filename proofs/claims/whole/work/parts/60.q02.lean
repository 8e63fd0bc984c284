/-! ===== the relation of the class's state and the reference's ===== -/
def bit (t l : Nat) : Nat := t / 2 ^ l % 2
def Vl (l : Nat) (x : Int32) : Prop := if l = 1 then Bi x else Cl x
/-- where value k of layer l, in a stripe whose top row is tp, lies in the reference's arrays -/
def ps (w s l tp k : Nat) : Nat := 576 * l + 24 * (tp + k / cd w s * s) + k % cd w s * s
def mny (w s r : Nat) : Nat := cd w s * cd r s
def StR (w h st bs fs i : Nat) (M : LyS) (bare md fi th : Nat → Int32) : Prop :=
  ∃ t, t < 16 ∧ M.2 4 i = nI t ∧ (∀ l, l < 4 → th (4 * i + l) = nI (bit t l)) ∧
  (∀ l k, l < 4 → bit t l = 1 → k < mny w (sc bs fs l) (hs h st i) → M.2 l (i * st * w + k) = md (ps w (sc bs fs l) l (i * st) k) ∧ Vl l (M.2 l (i * st * w + k))) ∧
  (∀ l k, l = 0 ∨ l = 2 → bit t l = 1 → k < mny w (sc bs fs l) (hs h st i) → ∃ b, b < 16 ∧ bare (i * st * w + k) = nI b ∧ fi (ps w (sc bs fs l) l (i * st) k) = nI (bit b l)) ∧
  (∀ k, k < w * hs h st i → if bit t 1 = 1 ∧ M.2 1 (i * st * w + k) = nI 1 then bit t 2 = 1 else bit t 0 = 1)
def PgR (w h : Nat) (c a : Nat → Int32) : Prop := ∀ y x, y < h → x < w → c (y * w + x) = a (24 * y + x)
def MdR (n w h : Nat) (bare : Nat → Int32) (M : LyS) (a4 a5 a6 a7 a8 : Int32) (md fi th : Nat → Int32) : Prop :=
  True ∧ ((a4 = nI 0 ∧ M.1 3 = nI 0) ∨ (a4 = nI 1 ∧ ∃ st bs fs cnt, VL n w h st bs fs M ∧ (1 ≤ cnt ∧ cnt ≤ 96) ∧ M.1 3 = nI cnt ∧ a8 = nI cnt ∧ a5 = nI st ∧ a6 = nI fs ∧ a7 = nI bs ∧ ∀ i, i < cd h st → StR w h st bs fs i M bare md fi th))
def cap : Nat → Nat
  | 0 => 0
  | i + 1 => min 6400 (2 * cap i + 64)
def BtR (B : ByS) (c : Int32) (a : Nat → Int32) : Prop := ∃ m i, i ≤ 7 ∧ B.1 = nI m ∧ c = nI m ∧ B.2.1 = cap i ∧ m ≤ cap i ∧ ∀ j, j < m → B.2.2 j = a j ∧ Bt (a j)
def FoR (F : LyS) (a13 a14 : Int32) (pg : Nat → Int32) : Prop :=
  True ∧ ((a13 = nI 0 ∧ a14 = nI 0 ∧ F.1 3 = nI 0) ∨ ∃ rw rh cnt, (1 ≤ rw ∧ rw ≤ 24) ∧ (1 ≤ rh ∧ rh ≤ 24) ∧ (1 ≤ cnt ∧ cnt ≤ 96) ∧ F.1 3 = nI cnt ∧ F.1 0 = nI rw ∧ F.1 1 = nI rh ∧ a13 = nI rw ∧ a14 = nI rh ∧ ∀ y x, y < rh → x < rw → Layers_exactAt 576 F (nI x) (nI y) = some (pg (24 * y + x)))
def RS (w h st : Nat) (S : LyS) : Prop := S.1 1 = nI w ∧ S.1 2 = nI h ∧ S.1 3 = nI st
def RC (w h : Nat) (col a : Nat → Int32) : Prop := PgR w h col a ∧ ∀ i, i < w * h → Cl (col i)
def RM (w h : Nat) (msk a : Nat → Int32) : Prop := PgR w h msk a ∧ (∀ i, i < w * h → Bi (msk i)) ∧ ∀ i, i < 576 → ¬ (i % 24 < w ∧ i / 24 < h) → a i = nI 0
def RL (n w h st : Nat) (col msk bare : Nat → Int32) (M F : LyS) (Bw Bf : ByS) (S : LyS) : Prop :=
  RS w h st S ∧ RC w h col (S.2 0) ∧ RM w h msk (S.2 1) ∧ MdR n w h bare M (S.1 4) (S.1 5) (S.1 6) (S.1 7) (S.1 8) (S.2 2) (S.2 3) (S.2 4) ∧ BtR Bw (S.1 9) (S.2 5) ∧ BtR Bf (S.1 10) (S.2 6) ∧ FoR F (S.1 13) (S.1 14) (S.2 9)
def DM (w h st : Nat) : Prop := (1 ≤ w ∧ w ≤ 24) ∧ (1 ≤ h ∧ h ≤ 24) ∧ (1 ≤ st ∧ st ≤ 24)
def Rel (n : Nat) (x : XS) (S : LyS) : Prop := ∃ w h st, DM w h st ∧ n = w * h ∧ x.1 = nI w ∧ x.2.1 = nI h ∧ x.2.2.1 = nI st ∧ RL n w h st x.2.2.2.1 x.2.2.2.2.1 x.2.2.2.2.2.1 x.2.2.2.2.2.2.1 x.2.2.2.2.2.2.2.1 x.2.2.2.2.2.2.2.2.1 x.2.2.2.2.2.2.2.2.2.1 S
theorem DM_n {w h st : Nat} (d : DM w h st) : w * h ≤ 576 := Nat.mul_le_mul d.1.2 d.2.1.2
theorem ix_lt {w h x y : Nat} (hx : x < w) (hy : y < h) : y * w + x < w * h := by
  have h1 : (y + 1) * w ≤ h * w := Nat.mul_le_mul_right w hy
  rw [Nat.add_mul, Nat.mul_comm h w] at h1
  omega
theorem ix_inj {w x y x' y' : Nat} (hx : x < w) (hx' : x' < w) (h : y * w + x = y' * w + x') : y = y' ∧ x = x' := by
  have h1 : (y * w + x) / w = y := by rw [Nat.mul_comm, Nat.mul_add_div (by omega), Nat.div_eq_of_lt hx]; rfl
  have h2 : (y' * w + x') / w = y' := by rw [Nat.mul_comm, Nat.mul_add_div (by omega), Nat.div_eq_of_lt hx']; rfl
  have h3 : y = y' := by rw [← h1, ← h2, h]
  subst h3
  exact ⟨rfl, by omega⟩
theorem upd_same (f : Nat → Int32) (k : Nat) : upd f k (f k) = f := by
  funext j; unfold upd; split
  · next h => rw [h]
  · rfl
theorem PgR_upd {w h : Nat} {c a : Nat → Int32} (H : PgR w h c a) {x y : Nat} (hx : x < w) (hw : w ≤ 24) (v : Int32) : PgR w h (upd c (y * w + x) v) (upd a (24 * y + x) v) := by
  intro y' x' hy' hx'
  by_cases e : y' = y ∧ x' = x
  · rw [e.1, e.2, pk_us, pk_us]
  · have h1 : y' * w + x' ≠ y * w + x := fun q => e (ix_inj hx' hx q)
    have h2 : 24 * y' + x' ≠ 24 * y + x := by omega
    rw [pk_un h1, pk_un h2]
    exact H y' x' hy' hx'
theorem lf_s {S : LyS} {k : Nat} {v : Int32} : (Lf S k v).1 k = v := pk_us
theorem lf_n {S : LyS} {k j : Nat} {v : Int32} (h : j ≠ k) : (Lf S k v).1 j = S.1 j := pk_un h
theorem ls_s {S : LyS} {k i : Nat} {v : Int32} : (Ls S k i v).2 k = upd (S.2 k) i v := va_up_self _ _ _
theorem ls_n {S : LyS} {k j i : Nat} {v : Int32} (h : j ≠ k) : (Ls S k i v).2 j = S.2 j := va_up_ne _ _ h
/-! has-sample -/
def hsB (W H p1 p2 : Int32) : Option Int32 :=
  (if p1 < 0 then zb 0 (some 0)
  else (if W ≤ p1 then zb 0 (some 0)
  else (if p2 < 0 then zb 0 (some 0)
  else (if H ≤ p2 then zb 0 (some 0)
  else zb 1 (some 1)))))
theorem hsB_in {w h x y : Nat} (hw : w < 2 ^ 31) (hh : h < 2 ^ 31) (hx : x < w) (hy : y < h) : hsB (nI w) (nI h) (nI x) (nI y) = some 1 := by
  unfold hsB
  rw [if_neg (nI_pos (by omega)), if_neg (nI_ge hx hw), if_neg (nI_pos (by omega)), if_neg (nI_ge hy hh)]
  rfl
theorem hsB_cases {w h : Nat} (hw : w < 2 ^ 31) (hh : h < 2 ^ 31) (p1 p2 : Int32) : hsB (nI w) (nI h) p1 p2 = some 0 ∨ ∃ x y, x < w ∧ y < h ∧ p1 = nI x ∧ p2 = nI y ∧ hsB (nI w) (nI h) p1 p2 = some 1 := by
  rcases pk_ix p1 hw with h1 | h1 | ⟨x, hx, rfl⟩
  · left; unfold hsB; rw [if_pos h1]; rfl
  · left; unfold hsB
    by_cases h0 : p1 < 0
    · rw [if_pos h0]; rfl
    · rw [if_neg h0, if_pos h1]; rfl
  · rcases pk_ix p2 hh with h2 | h2 | ⟨y, hy, rfl⟩
    · left; unfold hsB; rw [if_neg (nI_pos (by omega)), if_neg (nI_ge hx hw), if_pos h2]; rfl
    · left; unfold hsB; rw [if_neg (nI_pos (by omega)), if_neg (nI_ge hx hw)]
      by_cases h0 : p2 < 0
      · rw [if_pos h0]; rfl
      · rw [if_neg h0, if_pos h2]; rfl
    · exact Or.inr ⟨x, y, hx, hy, rfl, rfl, hsB_in hw hh hx hy⟩
theorem RL_t {n w h st : Nat} {col msk bare : Nat → Int32} {M F : LyS} {Bw Bf : ByS} {S : LyS} (v : Int32) (H : RL n w h st col msk bare M F Bw Bf S) : RL n w h st col msk bare M F Bw Bf (Lf S 0 v) := H
theorem end_eq {S : LyS} {w x N : Nat} (e : S.1 1 = nI w) (hw : w < 2 ^ 30) (hx : x < w) (hN : N < 2 ^ 31) : Mo_end S (nI x) (nI N) = some (nI (x + min N (w - x))) := by
  unfold Mo_end
  rw [e, pk_sub (by omega)]
  by_cases c : N ≤ w - x
  · rw [if_pos (nI_le c (by omega)), nI_add, Nat.min_eq_left c]
  · rw [if_neg (nI_ge (by omega) hN), Nat.min_eq_right (by omega), show x + (w - x) = w by omega]
