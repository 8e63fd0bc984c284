abbrev moF (a : Nat → Nat) (S : LyS) : List Value := [.int (S.1 0), .int (S.1 1), .int (S.1 2), .int (S.1 3), .ref (a 1), .ref (a 2), .int (S.1 4), .int (S.1 5), .int (S.1 6), .int (S.1 7), .int (S.1 8), .ref (a 3), .ref (a 4), .ref (a 5), .ref (a 6), .int (S.1 9), .ref (a 7), .int (S.1 10), .int (S.1 11), .int (S.1 12), .ref (a 8), .ref (a 9), .int (S.1 13), .int (S.1 14), .ref (a 10), .int (S.1 15), .int (S.1 16), .int (S.1 17), .int (S.1 18), .int (S.1 19)]
theorem mo_h {cI cZ : ClassId} {a : Nat → Nat} {S : LyS} : (wMo cI cZ a S)[0]? = some (a 0, .inr (6, moF a S)) := rfl
theorem mo_g0 {cI cZ : ClassId} {a : Nat → Nat} {S : LyS} : (wMo cI cZ a S)[1]? = some (a 1, .inl (cI, 576, .inl (S.2 0))) := rfl
theorem mo_s0 {cI cZ : ClassId} {a : Nat → Nat} {S : LyS} {i : Nat} {x : Int32} : (wMo cI cZ a S).set 1 (a 1, .inl (cI, 576, .inl (upd (S.2 0) i x))) = wMo cI cZ a (Ls S 0 i x) := rfl
theorem mo_g1 {cI cZ : ClassId} {a : Nat → Nat} {S : LyS} : (wMo cI cZ a S)[2]? = some (a 2, .inl (cZ, 576, .inl (S.2 1))) := rfl
theorem mo_s1 {cI cZ : ClassId} {a : Nat → Nat} {S : LyS} {i : Nat} {x : Int32} : (wMo cI cZ a S).set 2 (a 2, .inl (cZ, 576, .inl (upd (S.2 1) i x))) = wMo cI cZ a (Ls S 1 i x) := rfl
theorem mo_g2 {cI cZ : ClassId} {a : Nat → Nat} {S : LyS} : (wMo cI cZ a S)[3]? = some (a 3, .inl (cI, 2304, .inl (S.2 2))) := rfl
theorem mo_s2 {cI cZ : ClassId} {a : Nat → Nat} {S : LyS} {i : Nat} {x : Int32} : (wMo cI cZ a S).set 3 (a 3, .inl (cI, 2304, .inl (upd (S.2 2) i x))) = wMo cI cZ a (Ls S 2 i x) := rfl
theorem mo_g3 {cI cZ : ClassId} {a : Nat → Nat} {S : LyS} : (wMo cI cZ a S)[4]? = some (a 4, .inl (cZ, 2304, .inl (S.2 3))) := rfl
theorem mo_s3 {cI cZ : ClassId} {a : Nat → Nat} {S : LyS} {i : Nat} {x : Int32} : (wMo cI cZ a S).set 4 (a 4, .inl (cZ, 2304, .inl (upd (S.2 3) i x))) = wMo cI cZ a (Ls S 3 i x) := rfl
theorem mo_g4 {cI cZ : ClassId} {a : Nat → Nat} {S : LyS} : (wMo cI cZ a S)[5]? = some (a 5, .inl (cZ, 96, .inl (S.2 4))) := rfl
theorem mo_s4 {cI cZ : ClassId} {a : Nat → Nat} {S : LyS} {i : Nat} {x : Int32} : (wMo cI cZ a S).set 5 (a 5, .inl (cZ, 96, .inl (upd (S.2 4) i x))) = wMo cI cZ a (Ls S 4 i x) := rfl
theorem mo_g5 {cI cZ : ClassId} {a : Nat → Nat} {S : LyS} : (wMo cI cZ a S)[6]? = some (a 6, .inl (cI, 6400, .inl (S.2 5))) := rfl
theorem mo_s5 {cI cZ : ClassId} {a : Nat → Nat} {S : LyS} {i : Nat} {x : Int32} : (wMo cI cZ a S).set 6 (a 6, .inl (cI, 6400, .inl (upd (S.2 5) i x))) = wMo cI cZ a (Ls S 5 i x) := rfl
theorem mo_g6 {cI cZ : ClassId} {a : Nat → Nat} {S : LyS} : (wMo cI cZ a S)[7]? = some (a 7, .inl (cI, 6400, .inl (S.2 6))) := rfl
theorem mo_s6 {cI cZ : ClassId} {a : Nat → Nat} {S : LyS} {i : Nat} {x : Int32} : (wMo cI cZ a S).set 7 (a 7, .inl (cI, 6400, .inl (upd (S.2 6) i x))) = wMo cI cZ a (Ls S 6 i x) := rfl
theorem mo_g7 {cI cZ : ClassId} {a : Nat → Nat} {S : LyS} : (wMo cI cZ a S)[8]? = some (a 8, .inl (cI, 2304, .inl (S.2 7))) := rfl
theorem mo_s7 {cI cZ : ClassId} {a : Nat → Nat} {S : LyS} {i : Nat} {x : Int32} : (wMo cI cZ a S).set 8 (a 8, .inl (cI, 2304, .inl (upd (S.2 7) i x))) = wMo cI cZ a (Ls S 7 i x) := rfl
theorem mo_g8 {cI cZ : ClassId} {a : Nat → Nat} {S : LyS} : (wMo cI cZ a S)[9]? = some (a 9, .inl (cZ, 4, .inl (S.2 8))) := rfl
theorem mo_s8 {cI cZ : ClassId} {a : Nat → Nat} {S : LyS} {i : Nat} {x : Int32} : (wMo cI cZ a S).set 9 (a 9, .inl (cZ, 4, .inl (upd (S.2 8) i x))) = wMo cI cZ a (Ls S 8 i x) := rfl
theorem mo_g9 {cI cZ : ClassId} {a : Nat → Nat} {S : LyS} : (wMo cI cZ a S)[10]? = some (a 10, .inl (cI, 576, .inl (S.2 9))) := rfl
theorem mo_s9 {cI cZ : ClassId} {a : Nat → Nat} {S : LyS} {i : Nat} {x : Int32} : (wMo cI cZ a S).set 10 (a 10, .inl (cI, 576, .inl (upd (S.2 9) i x))) = wMo cI cZ a (Ls S 9 i x) := rfl
theorem mo_f0 {cI cZ : ClassId} {a : Nat → Nat} {S : LyS} {x : Int32} : (wMo cI cZ a S).set 0 (a 0, .inr (6, (moF a S).set 0 (.int x))) = wMo cI cZ a (Lf S 0 x) := rfl
theorem mo_f1 {cI cZ : ClassId} {a : Nat → Nat} {S : LyS} {x : Int32} : (wMo cI cZ a S).set 0 (a 0, .inr (6, (moF a S).set 1 (.int x))) = wMo cI cZ a (Lf S 1 x) := rfl
theorem mo_f2 {cI cZ : ClassId} {a : Nat → Nat} {S : LyS} {x : Int32} : (wMo cI cZ a S).set 0 (a 0, .inr (6, (moF a S).set 2 (.int x))) = wMo cI cZ a (Lf S 2 x) := rfl
theorem mo_f3 {cI cZ : ClassId} {a : Nat → Nat} {S : LyS} {x : Int32} : (wMo cI cZ a S).set 0 (a 0, .inr (6, (moF a S).set 3 (.int x))) = wMo cI cZ a (Lf S 3 x) := rfl
theorem mo_f4 {cI cZ : ClassId} {a : Nat → Nat} {S : LyS} {x : Int32} : (wMo cI cZ a S).set 0 (a 0, .inr (6, (moF a S).set 6 (.int x))) = wMo cI cZ a (Lf S 4 x) := rfl
theorem mo_f5 {cI cZ : ClassId} {a : Nat → Nat} {S : LyS} {x : Int32} : (wMo cI cZ a S).set 0 (a 0, .inr (6, (moF a S).set 7 (.int x))) = wMo cI cZ a (Lf S 5 x) := rfl
theorem mo_f6 {cI cZ : ClassId} {a : Nat → Nat} {S : LyS} {x : Int32} : (wMo cI cZ a S).set 0 (a 0, .inr (6, (moF a S).set 8 (.int x))) = wMo cI cZ a (Lf S 6 x) := rfl
theorem mo_f7 {cI cZ : ClassId} {a : Nat → Nat} {S : LyS} {x : Int32} : (wMo cI cZ a S).set 0 (a 0, .inr (6, (moF a S).set 9 (.int x))) = wMo cI cZ a (Lf S 7 x) := rfl
theorem mo_f8 {cI cZ : ClassId} {a : Nat → Nat} {S : LyS} {x : Int32} : (wMo cI cZ a S).set 0 (a 0, .inr (6, (moF a S).set 10 (.int x))) = wMo cI cZ a (Lf S 8 x) := rfl
theorem mo_f9 {cI cZ : ClassId} {a : Nat → Nat} {S : LyS} {x : Int32} : (wMo cI cZ a S).set 0 (a 0, .inr (6, (moF a S).set 15 (.int x))) = wMo cI cZ a (Lf S 9 x) := rfl
theorem mo_f10 {cI cZ : ClassId} {a : Nat → Nat} {S : LyS} {x : Int32} : (wMo cI cZ a S).set 0 (a 0, .inr (6, (moF a S).set 17 (.int x))) = wMo cI cZ a (Lf S 10 x) := rfl
theorem mo_f11 {cI cZ : ClassId} {a : Nat → Nat} {S : LyS} {x : Int32} : (wMo cI cZ a S).set 0 (a 0, .inr (6, (moF a S).set 18 (.int x))) = wMo cI cZ a (Lf S 11 x) := rfl
theorem mo_f12 {cI cZ : ClassId} {a : Nat → Nat} {S : LyS} {x : Int32} : (wMo cI cZ a S).set 0 (a 0, .inr (6, (moF a S).set 19 (.int x))) = wMo cI cZ a (Lf S 12 x) := rfl
theorem mo_f13 {cI cZ : ClassId} {a : Nat → Nat} {S : LyS} {x : Int32} : (wMo cI cZ a S).set 0 (a 0, .inr (6, (moF a S).set 22 (.int x))) = wMo cI cZ a (Lf S 13 x) := rfl
theorem mo_f14 {cI cZ : ClassId} {a : Nat → Nat} {S : LyS} {x : Int32} : (wMo cI cZ a S).set 0 (a 0, .inr (6, (moF a S).set 23 (.int x))) = wMo cI cZ a (Lf S 14 x) := rfl
theorem mo_f15 {cI cZ : ClassId} {a : Nat → Nat} {S : LyS} {x : Int32} : (wMo cI cZ a S).set 0 (a 0, .inr (6, (moF a S).set 25 (.int x))) = wMo cI cZ a (Lf S 15 x) := rfl
theorem mo_f16 {cI cZ : ClassId} {a : Nat → Nat} {S : LyS} {x : Int32} : (wMo cI cZ a S).set 0 (a 0, .inr (6, (moF a S).set 26 (.int x))) = wMo cI cZ a (Lf S 16 x) := rfl
theorem mo_f17 {cI cZ : ClassId} {a : Nat → Nat} {S : LyS} {x : Int32} : (wMo cI cZ a S).set 0 (a 0, .inr (6, (moF a S).set 27 (.int x))) = wMo cI cZ a (Lf S 17 x) := rfl
theorem mo_f18 {cI cZ : ClassId} {a : Nat → Nat} {S : LyS} {x : Int32} : (wMo cI cZ a S).set 0 (a 0, .inr (6, (moF a S).set 28 (.int x))) = wMo cI cZ a (Lf S 18 x) := rfl
theorem mo_f19 {cI cZ : ClassId} {a : Nat → Nat} {S : LyS} {x : Int32} : (wMo cI cZ a S).set 0 (a 0, .inr (6, (moF a S).set 29 (.int x))) = wMo cI cZ a (Lf S 19 x) := rfl
