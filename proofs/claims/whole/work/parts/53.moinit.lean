abbrev b_Mo_init : ByteArray := prog_8_method_1_code
def y_Mo_init : MethodName := ⟨"MaskLayersModel", "<init>", "(II)V"⟩
theorem d_Mo_init_0 : decode b_Mo_init 0 = .ok (.aload_n 0, 1) := by decide +kernel
theorem d_Mo_init_1 : decode b_Mo_init 1 = .ok (.invokespecial 1, 3) := by decide +kernel
theorem d_Mo_init_4 : decode b_Mo_init 4 = .ok (.aload_n 0, 1) := by decide +kernel
theorem d_Mo_init_5 : decode b_Mo_init 5 = .ok (.bipush 24, 2) := by decide +kernel
theorem d_Mo_init_7 : decode b_Mo_init 7 = .ok (.putfield 7, 3) := by decide +kernel
theorem d_Mo_init_10 : decode b_Mo_init 10 = .ok (.aload_n 0, 1) := by decide +kernel
theorem d_Mo_init_11 : decode b_Mo_init 11 = .ok (.sipush 576, 3) := by decide +kernel
theorem d_Mo_init_14 : decode b_Mo_init 14 = .ok (.newarray .int, 2) := by decide +kernel
theorem d_Mo_init_16 : decode b_Mo_init 16 = .ok (.putfield 13, 3) := by decide +kernel
theorem d_Mo_init_19 : decode b_Mo_init 19 = .ok (.aload_n 0, 1) := by decide +kernel
theorem d_Mo_init_20 : decode b_Mo_init 20 = .ok (.sipush 576, 3) := by decide +kernel
theorem d_Mo_init_23 : decode b_Mo_init 23 = .ok (.newarray .boolean, 2) := by decide +kernel
theorem d_Mo_init_25 : decode b_Mo_init 25 = .ok (.putfield 17, 3) := by decide +kernel
theorem d_Mo_init_28 : decode b_Mo_init 28 = .ok (.aload_n 0, 1) := by decide +kernel
theorem d_Mo_init_29 : decode b_Mo_init 29 = .ok (.sipush 2304, 3) := by decide +kernel
theorem d_Mo_init_32 : decode b_Mo_init 32 = .ok (.newarray .int, 2) := by decide +kernel
theorem d_Mo_init_34 : decode b_Mo_init 34 = .ok (.putfield 21, 3) := by decide +kernel
theorem d_Mo_init_37 : decode b_Mo_init 37 = .ok (.aload_n 0, 1) := by decide +kernel
theorem d_Mo_init_38 : decode b_Mo_init 38 = .ok (.sipush 2304, 3) := by decide +kernel
theorem d_Mo_init_41 : decode b_Mo_init 41 = .ok (.newarray .boolean, 2) := by decide +kernel
theorem d_Mo_init_43 : decode b_Mo_init 43 = .ok (.putfield 24, 3) := by decide +kernel
theorem d_Mo_init_46 : decode b_Mo_init 46 = .ok (.aload_n 0, 1) := by decide +kernel
theorem d_Mo_init_47 : decode b_Mo_init 47 = .ok (.bipush 96, 2) := by decide +kernel
theorem d_Mo_init_49 : decode b_Mo_init 49 = .ok (.newarray .boolean, 2) := by decide +kernel
theorem d_Mo_init_51 : decode b_Mo_init 51 = .ok (.putfield 27, 3) := by decide +kernel
theorem d_Mo_init_54 : decode b_Mo_init 54 = .ok (.aload_n 0, 1) := by decide +kernel
theorem d_Mo_init_55 : decode b_Mo_init 55 = .ok (.sipush 6400, 3) := by decide +kernel
theorem d_Mo_init_58 : decode b_Mo_init 58 = .ok (.newarray .int, 2) := by decide +kernel
theorem d_Mo_init_60 : decode b_Mo_init 60 = .ok (.putfield 30, 3) := by decide +kernel
theorem d_Mo_init_63 : decode b_Mo_init 63 = .ok (.aload_n 0, 1) := by decide +kernel
theorem d_Mo_init_64 : decode b_Mo_init 64 = .ok (.sipush 6400, 3) := by decide +kernel
theorem d_Mo_init_67 : decode b_Mo_init 67 = .ok (.newarray .int, 2) := by decide +kernel
theorem d_Mo_init_69 : decode b_Mo_init 69 = .ok (.putfield 33, 3) := by decide +kernel
theorem d_Mo_init_72 : decode b_Mo_init 72 = .ok (.aload_n 0, 1) := by decide +kernel
theorem d_Mo_init_73 : decode b_Mo_init 73 = .ok (.sipush 2304, 3) := by decide +kernel
theorem d_Mo_init_76 : decode b_Mo_init 76 = .ok (.newarray .int, 2) := by decide +kernel
theorem d_Mo_init_78 : decode b_Mo_init 78 = .ok (.putfield 36, 3) := by decide +kernel
theorem d_Mo_init_81 : decode b_Mo_init 81 = .ok (.aload_n 0, 1) := by decide +kernel
theorem d_Mo_init_82 : decode b_Mo_init 82 = .ok (.iconst 4, 1) := by decide +kernel
theorem d_Mo_init_83 : decode b_Mo_init 83 = .ok (.newarray .boolean, 2) := by decide +kernel
theorem d_Mo_init_85 : decode b_Mo_init 85 = .ok (.putfield 39, 3) := by decide +kernel
theorem d_Mo_init_88 : decode b_Mo_init 88 = .ok (.aload_n 0, 1) := by decide +kernel
theorem d_Mo_init_89 : decode b_Mo_init 89 = .ok (.sipush 576, 3) := by decide +kernel
theorem d_Mo_init_92 : decode b_Mo_init 92 = .ok (.newarray .int, 2) := by decide +kernel
theorem d_Mo_init_94 : decode b_Mo_init 94 = .ok (.putfield 42, 3) := by decide +kernel
theorem d_Mo_init_97 : decode b_Mo_init 97 = .ok (.aload_n 0, 1) := by decide +kernel
theorem d_Mo_init_98 : decode b_Mo_init 98 = .ok (.iload_n 1, 1) := by decide +kernel
theorem d_Mo_init_99 : decode b_Mo_init 99 = .ok (.iconst 1, 1) := by decide +kernel
theorem d_Mo_init_100 : decode b_Mo_init 100 = .ok (.if_icmp .ge 7, 3) := by decide +kernel
theorem d_Mo_init_103 : decode b_Mo_init 103 = .ok (.iconst 1, 1) := by decide +kernel
theorem d_Mo_init_104 : decode b_Mo_init 104 = .ok (.goto 15, 3) := by decide +kernel
theorem d_Mo_init_107 : decode b_Mo_init 107 = .ok (.iload_n 1, 1) := by decide +kernel
theorem d_Mo_init_108 : decode b_Mo_init 108 = .ok (.bipush 24, 2) := by decide +kernel
theorem d_Mo_init_110 : decode b_Mo_init 110 = .ok (.if_icmp .le 8, 3) := by decide +kernel
theorem d_Mo_init_113 : decode b_Mo_init 113 = .ok (.bipush 24, 2) := by decide +kernel
theorem d_Mo_init_115 : decode b_Mo_init 115 = .ok (.goto 4, 3) := by decide +kernel
theorem d_Mo_init_118 : decode b_Mo_init 118 = .ok (.iload_n 1, 1) := by decide +kernel
theorem d_Mo_init_119 : decode b_Mo_init 119 = .ok (.putfield 45, 3) := by decide +kernel
theorem d_Mo_init_122 : decode b_Mo_init 122 = .ok (.aload_n 0, 1) := by decide +kernel
theorem d_Mo_init_123 : decode b_Mo_init 123 = .ok (.iload_n 2, 1) := by decide +kernel
theorem d_Mo_init_124 : decode b_Mo_init 124 = .ok (.iconst 1, 1) := by decide +kernel
theorem d_Mo_init_125 : decode b_Mo_init 125 = .ok (.if_icmp .ge 7, 3) := by decide +kernel
theorem d_Mo_init_128 : decode b_Mo_init 128 = .ok (.iconst 1, 1) := by decide +kernel
theorem d_Mo_init_129 : decode b_Mo_init 129 = .ok (.goto 15, 3) := by decide +kernel
theorem d_Mo_init_132 : decode b_Mo_init 132 = .ok (.iload_n 2, 1) := by decide +kernel
theorem d_Mo_init_133 : decode b_Mo_init 133 = .ok (.bipush 24, 2) := by decide +kernel
theorem d_Mo_init_135 : decode b_Mo_init 135 = .ok (.if_icmp .le 8, 3) := by decide +kernel
theorem d_Mo_init_138 : decode b_Mo_init 138 = .ok (.bipush 24, 2) := by decide +kernel
theorem d_Mo_init_140 : decode b_Mo_init 140 = .ok (.goto 4, 3) := by decide +kernel
theorem d_Mo_init_143 : decode b_Mo_init 143 = .ok (.iload_n 2, 1) := by decide +kernel
theorem d_Mo_init_144 : decode b_Mo_init 144 = .ok (.putfield 48, 3) := by decide +kernel
theorem d_Mo_init_147 : decode b_Mo_init 147 = .ok (.return_, 1) := by decide +kernel
theorem m_Mo_init : Cond.code y_Mo_init b_Mo_init 3 none ∈ BIG := mb (List.mem_of_getElem? (i := 844) (by decide +kernel)) rfl
def rm_Mo_init (cT sT : Nat) : Room := { frames := 1, cells := cT, slots := sT, locals := 12 }
section W3
variable {p : Program} {l : Launch} {e : Env} {R : Room} {s : State} {m : MethodId} {args : Array Value} {below : List Frame} {meth : Method} {c : Code} {D : va_G} {A : Nat → Prop} {X : va_W → Prop} {nL : Nat} {Q : State → Prop} {cells slots : Nat} {ws : va_W} {lv : List (Nat × Value)} {st : List Value} {pc : Nat}
variable {tys : List (ClassId × FieldType)} {cc : ByteArray}
theorem pF_Mo_13 (C : Cx p s m args meth c D tys cc nL "MaskLayersModel") (hin : meth.name = "<init>") (q0 : Nat) (ws' : va_W) {a : Nat} {fs : List Value} {v : Value} (he : ws[q0]? = some (a, .inr (6, fs))) (hl : fs.length = 30) (hw : ws.set q0 (a, .inr (6, fs.set 4 v)) = ws') (hn : narrow (.array .int) v = v) (hf : fits (.array .int) v = true) (d : decode cc pc = .ok (.putfield 13, 3)) (kk : J p l e R s m args below meth c D A (va_D A) nL Q cells slots ws' lv st (pc + 3)) : J p l e R s m args below meth c D A (va_D A) nL Q cells slots ws lv (v :: .ref a :: st) pc := by
  subst hw
  exact fun H locs ls hP hD hS h => va_putF (ty := (.array .int)) (C := cn6) (T := cf6) (N := 30) C.1.1 C.1.2.1 C.1.2.2.2.2 ch6 ct6 cg6 ce6 C.1.2.2.2.1 C.2.1 hP hD hS q0 he rfl 4 (by decide) (C.1.2.2.2.2 (.fieldLink "MaskLayersModel" 13 "MaskLayersModel" "colours" "[I") (mb (List.mem_of_getElem? (i := 850) (by decide +kernel)) rfl)) (fun _ h9 => h9) rfl hin rfl rfl hn hf (by rw [hl]; decide) d (fun H1 locs1 hP hD hS => kk H1 locs1 ls hP hD hS h)
theorem pF_Mo_17 (C : Cx p s m args meth c D tys cc nL "MaskLayersModel") (hin : meth.name = "<init>") (q0 : Nat) (ws' : va_W) {a : Nat} {fs : List Value} {v : Value} (he : ws[q0]? = some (a, .inr (6, fs))) (hl : fs.length = 30) (hw : ws.set q0 (a, .inr (6, fs.set 5 v)) = ws') (hn : narrow (.array .boolean) v = v) (hf : fits (.array .boolean) v = true) (d : decode cc pc = .ok (.putfield 17, 3)) (kk : J p l e R s m args below meth c D A (va_D A) nL Q cells slots ws' lv st (pc + 3)) : J p l e R s m args below meth c D A (va_D A) nL Q cells slots ws lv (v :: .ref a :: st) pc := by
  subst hw
  exact fun H locs ls hP hD hS h => va_putF (ty := (.array .boolean)) (C := cn6) (T := cf6) (N := 30) C.1.1 C.1.2.1 C.1.2.2.2.2 ch6 ct6 cg6 ce6 C.1.2.2.2.1 C.2.1 hP hD hS q0 he rfl 5 (by decide) (C.1.2.2.2.2 (.fieldLink "MaskLayersModel" 17 "MaskLayersModel" "masked" "[Z") (mb (List.mem_of_getElem? (i := 851) (by decide +kernel)) rfl)) (fun _ h9 => h9) rfl hin rfl rfl hn hf (by rw [hl]; decide) d (fun H1 locs1 hP hD hS => kk H1 locs1 ls hP hD hS h)
theorem pF_Mo_21 (C : Cx p s m args meth c D tys cc nL "MaskLayersModel") (hin : meth.name = "<init>") (q0 : Nat) (ws' : va_W) {a : Nat} {fs : List Value} {v : Value} (he : ws[q0]? = some (a, .inr (6, fs))) (hl : fs.length = 30) (hw : ws.set q0 (a, .inr (6, fs.set 11 v)) = ws') (hn : narrow (.array .int) v = v) (hf : fits (.array .int) v = true) (d : decode cc pc = .ok (.putfield 21, 3)) (kk : J p l e R s m args below meth c D A (va_D A) nL Q cells slots ws' lv st (pc + 3)) : J p l e R s m args below meth c D A (va_D A) nL Q cells slots ws lv (v :: .ref a :: st) pc := by
  subst hw
  exact fun H locs ls hP hD hS h => va_putF (ty := (.array .int)) (C := cn6) (T := cf6) (N := 30) C.1.1 C.1.2.1 C.1.2.2.2.2 ch6 ct6 cg6 ce6 C.1.2.2.2.1 C.2.1 hP hD hS q0 he rfl 11 (by decide) (C.1.2.2.2.2 (.fieldLink "MaskLayersModel" 21 "MaskLayersModel" "made" "[I") (mb (List.mem_of_getElem? (i := 857) (by decide +kernel)) rfl)) (fun _ h9 => h9) rfl hin rfl rfl hn hf (by rw [hl]; decide) d (fun H1 locs1 hP hD hS => kk H1 locs1 ls hP hD hS h)
theorem pF_Mo_24 (C : Cx p s m args meth c D tys cc nL "MaskLayersModel") (hin : meth.name = "<init>") (q0 : Nat) (ws' : va_W) {a : Nat} {fs : List Value} {v : Value} (he : ws[q0]? = some (a, .inr (6, fs))) (hl : fs.length = 30) (hw : ws.set q0 (a, .inr (6, fs.set 12 v)) = ws') (hn : narrow (.array .boolean) v = v) (hf : fits (.array .boolean) v = true) (d : decode cc pc = .ok (.putfield 24, 3)) (kk : J p l e R s m args below meth c D A (va_D A) nL Q cells slots ws' lv st (pc + 3)) : J p l e R s m args below meth c D A (va_D A) nL Q cells slots ws lv (v :: .ref a :: st) pc := by
  subst hw
  exact fun H locs ls hP hD hS h => va_putF (ty := (.array .boolean)) (C := cn6) (T := cf6) (N := 30) C.1.1 C.1.2.1 C.1.2.2.2.2 ch6 ct6 cg6 ce6 C.1.2.2.2.1 C.2.1 hP hD hS q0 he rfl 12 (by decide) (C.1.2.2.2.2 (.fieldLink "MaskLayersModel" 24 "MaskLayersModel" "fills" "[Z") (mb (List.mem_of_getElem? (i := 858) (by decide +kernel)) rfl)) (fun _ h9 => h9) rfl hin rfl rfl hn hf (by rw [hl]; decide) d (fun H1 locs1 hP hD hS => kk H1 locs1 ls hP hD hS h)
theorem pF_Mo_27 (C : Cx p s m args meth c D tys cc nL "MaskLayersModel") (hin : meth.name = "<init>") (q0 : Nat) (ws' : va_W) {a : Nat} {fs : List Value} {v : Value} (he : ws[q0]? = some (a, .inr (6, fs))) (hl : fs.length = 30) (hw : ws.set q0 (a, .inr (6, fs.set 13 v)) = ws') (hn : narrow (.array .boolean) v = v) (hf : fits (.array .boolean) v = true) (d : decode cc pc = .ok (.putfield 27, 3)) (kk : J p l e R s m args below meth c D A (va_D A) nL Q cells slots ws' lv st (pc + 3)) : J p l e R s m args below meth c D A (va_D A) nL Q cells slots ws lv (v :: .ref a :: st) pc := by
  subst hw
  exact fun H locs ls hP hD hS h => va_putF (ty := (.array .boolean)) (C := cn6) (T := cf6) (N := 30) C.1.1 C.1.2.1 C.1.2.2.2.2 ch6 ct6 cg6 ce6 C.1.2.2.2.1 C.2.1 hP hD hS q0 he rfl 13 (by decide) (C.1.2.2.2.2 (.fieldLink "MaskLayersModel" 27 "MaskLayersModel" "there" "[Z") (mb (List.mem_of_getElem? (i := 859) (by decide +kernel)) rfl)) (fun _ h9 => h9) rfl hin rfl rfl hn hf (by rw [hl]; decide) d (fun H1 locs1 hP hD hS => kk H1 locs1 ls hP hD hS h)
theorem pF_Mo_30 (C : Cx p s m args meth c D tys cc nL "MaskLayersModel") (hin : meth.name = "<init>") (q0 : Nat) (ws' : va_W) {a : Nat} {fs : List Value} {v : Value} (he : ws[q0]? = some (a, .inr (6, fs))) (hl : fs.length = 30) (hw : ws.set q0 (a, .inr (6, fs.set 14 v)) = ws') (hn : narrow (.array .int) v = v) (hf : fits (.array .int) v = true) (d : decode cc pc = .ok (.putfield 30, 3)) (kk : J p l e R s m args below meth c D A (va_D A) nL Q cells slots ws' lv st (pc + 3)) : J p l e R s m args below meth c D A (va_D A) nL Q cells slots ws lv (v :: .ref a :: st) pc := by
  subst hw
  exact fun H locs ls hP hD hS h => va_putF (ty := (.array .int)) (C := cn6) (T := cf6) (N := 30) C.1.1 C.1.2.1 C.1.2.2.2.2 ch6 ct6 cg6 ce6 C.1.2.2.2.1 C.2.1 hP hD hS q0 he rfl 14 (by decide) (C.1.2.2.2.2 (.fieldLink "MaskLayersModel" 30 "MaskLayersModel" "written" "[I") (mb (List.mem_of_getElem? (i := 860) (by decide +kernel)) rfl)) (fun _ h9 => h9) rfl hin rfl rfl hn hf (by rw [hl]; decide) d (fun H1 locs1 hP hD hS => kk H1 locs1 ls hP hD hS h)
theorem pF_Mo_33 (C : Cx p s m args meth c D tys cc nL "MaskLayersModel") (hin : meth.name = "<init>") (q0 : Nat) (ws' : va_W) {a : Nat} {fs : List Value} {v : Value} (he : ws[q0]? = some (a, .inr (6, fs))) (hl : fs.length = 30) (hw : ws.set q0 (a, .inr (6, fs.set 16 v)) = ws') (hn : narrow (.array .int) v = v) (hf : fits (.array .int) v = true) (d : decode cc pc = .ok (.putfield 33, 3)) (kk : J p l e R s m args below meth c D A (va_D A) nL Q cells slots ws' lv st (pc + 3)) : J p l e R s m args below meth c D A (va_D A) nL Q cells slots ws lv (v :: .ref a :: st) pc := by
  subst hw
  exact fun H locs ls hP hD hS h => va_putF (ty := (.array .int)) (C := cn6) (T := cf6) (N := 30) C.1.1 C.1.2.1 C.1.2.2.2.2 ch6 ct6 cg6 ce6 C.1.2.2.2.1 C.2.1 hP hD hS q0 he rfl 16 (by decide) (C.1.2.2.2.2 (.fieldLink "MaskLayersModel" 33 "MaskLayersModel" "fed" "[I") (mb (List.mem_of_getElem? (i := 862) (by decide +kernel)) rfl)) (fun _ h9 => h9) rfl hin rfl rfl hn hf (by rw [hl]; decide) d (fun H1 locs1 hP hD hS => kk H1 locs1 ls hP hD hS h)
theorem pF_Mo_36 (C : Cx p s m args meth c D tys cc nL "MaskLayersModel") (hin : meth.name = "<init>") (q0 : Nat) (ws' : va_W) {a : Nat} {fs : List Value} {v : Value} (he : ws[q0]? = some (a, .inr (6, fs))) (hl : fs.length = 30) (hw : ws.set q0 (a, .inr (6, fs.set 20 v)) = ws') (hn : narrow (.array .int) v = v) (hf : fits (.array .int) v = true) (d : decode cc pc = .ok (.putfield 36, 3)) (kk : J p l e R s m args below meth c D A (va_D A) nL Q cells slots ws' lv st (pc + 3)) : J p l e R s m args below meth c D A (va_D A) nL Q cells slots ws lv (v :: .ref a :: st) pc := by
  subst hw
  exact fun H locs ls hP hD hS h => va_putF (ty := (.array .int)) (C := cn6) (T := cf6) (N := 30) C.1.1 C.1.2.1 C.1.2.2.2.2 ch6 ct6 cg6 ce6 C.1.2.2.2.1 C.2.1 hP hD hS q0 he rfl 20 (by decide) (C.1.2.2.2.2 (.fieldLink "MaskLayersModel" 36 "MaskLayersModel" "values" "[I") (mb (List.mem_of_getElem? (i := 866) (by decide +kernel)) rfl)) (fun _ h9 => h9) rfl hin rfl rfl hn hf (by rw [hl]; decide) d (fun H1 locs1 hP hD hS => kk H1 locs1 ls hP hD hS h)
theorem pF_Mo_39 (C : Cx p s m args meth c D tys cc nL "MaskLayersModel") (hin : meth.name = "<init>") (q0 : Nat) (ws' : va_W) {a : Nat} {fs : List Value} {v : Value} (he : ws[q0]? = some (a, .inr (6, fs))) (hl : fs.length = 30) (hw : ws.set q0 (a, .inr (6, fs.set 21 v)) = ws') (hn : narrow (.array .boolean) v = v) (hf : fits (.array .boolean) v = true) (d : decode cc pc = .ok (.putfield 39, 3)) (kk : J p l e R s m args below meth c D A (va_D A) nL Q cells slots ws' lv st (pc + 3)) : J p l e R s m args below meth c D A (va_D A) nL Q cells slots ws lv (v :: .ref a :: st) pc := by
  subst hw
  exact fun H locs ls hP hD hS h => va_putF (ty := (.array .boolean)) (C := cn6) (T := cf6) (N := 30) C.1.1 C.1.2.1 C.1.2.2.2.2 ch6 ct6 cg6 ce6 C.1.2.2.2.1 C.2.1 hP hD hS q0 he rfl 21 (by decide) (C.1.2.2.2.2 (.fieldLink "MaskLayersModel" 39 "MaskLayersModel" "come" "[Z") (mb (List.mem_of_getElem? (i := 867) (by decide +kernel)) rfl)) (fun _ h9 => h9) rfl hin rfl rfl hn hf (by rw [hl]; decide) d (fun H1 locs1 hP hD hS => kk H1 locs1 ls hP hD hS h)
theorem pF_Mo_42 (C : Cx p s m args meth c D tys cc nL "MaskLayersModel") (hin : meth.name = "<init>") (q0 : Nat) (ws' : va_W) {a : Nat} {fs : List Value} {v : Value} (he : ws[q0]? = some (a, .inr (6, fs))) (hl : fs.length = 30) (hw : ws.set q0 (a, .inr (6, fs.set 24 v)) = ws') (hn : narrow (.array .int) v = v) (hf : fits (.array .int) v = true) (d : decode cc pc = .ok (.putfield 42, 3)) (kk : J p l e R s m args below meth c D A (va_D A) nL Q cells slots ws' lv st (pc + 3)) : J p l e R s m args below meth c D A (va_D A) nL Q cells slots ws lv (v :: .ref a :: st) pc := by
  subst hw
  exact fun H locs ls hP hD hS h => va_putF (ty := (.array .int)) (C := cn6) (T := cf6) (N := 30) C.1.1 C.1.2.1 C.1.2.2.2.2 ch6 ct6 cg6 ce6 C.1.2.2.2.1 C.2.1 hP hD hS q0 he rfl 24 (by decide) (C.1.2.2.2.2 (.fieldLink "MaskLayersModel" 42 "MaskLayersModel" "pages" "[I") (mb (List.mem_of_getElem? (i := 870) (by decide +kernel)) rfl)) (fun _ h9 => h9) rfl hin rfl rfl hn hf (by rw [hl]; decide) d (fun H1 locs1 hP hD hS => kk H1 locs1 ls hP hD hS h)
theorem pF_Mo_45 (C : Cx p s m args meth c D tys cc nL "MaskLayersModel") (hin : meth.name = "<init>") (q0 : Nat) (ws' : va_W) {a : Nat} {fs : List Value} {v : Value} (he : ws[q0]? = some (a, .inr (6, fs))) (hl : fs.length = 30) (hw : ws.set q0 (a, .inr (6, fs.set 1 v)) = ws') (hn : narrow .int v = v) (hf : fits .int v = true) (d : decode cc pc = .ok (.putfield 45, 3)) (kk : J p l e R s m args below meth c D A (va_D A) nL Q cells slots ws' lv st (pc + 3)) : J p l e R s m args below meth c D A (va_D A) nL Q cells slots ws lv (v :: .ref a :: st) pc := by
  subst hw
  exact fun H locs ls hP hD hS h => va_putF (ty := .int) (C := cn6) (T := cf6) (N := 30) C.1.1 C.1.2.1 C.1.2.2.2.2 ch6 ct6 cg6 ce6 C.1.2.2.2.1 C.2.1 hP hD hS q0 he rfl 1 (by decide) (C.1.2.2.2.2 (.fieldLink "MaskLayersModel" 45 "MaskLayersModel" "width" "I") (mb (List.mem_of_getElem? (i := 847) (by decide +kernel)) rfl)) (fun _ h9 => h9) rfl hin rfl rfl hn hf (by rw [hl]; decide) d (fun H1 locs1 hP hD hS => kk H1 locs1 ls hP hD hS h)
theorem pF_Mo_48 (C : Cx p s m args meth c D tys cc nL "MaskLayersModel") (hin : meth.name = "<init>") (q0 : Nat) (ws' : va_W) {a : Nat} {fs : List Value} {v : Value} (he : ws[q0]? = some (a, .inr (6, fs))) (hl : fs.length = 30) (hw : ws.set q0 (a, .inr (6, fs.set 2 v)) = ws') (hn : narrow .int v = v) (hf : fits .int v = true) (d : decode cc pc = .ok (.putfield 48, 3)) (kk : J p l e R s m args below meth c D A (va_D A) nL Q cells slots ws' lv st (pc + 3)) : J p l e R s m args below meth c D A (va_D A) nL Q cells slots ws lv (v :: .ref a :: st) pc := by
  subst hw
  exact fun H locs ls hP hD hS h => va_putF (ty := .int) (C := cn6) (T := cf6) (N := 30) C.1.1 C.1.2.1 C.1.2.2.2.2 ch6 ct6 cg6 ce6 C.1.2.2.2.1 C.2.1 hP hD hS q0 he rfl 2 (by decide) (C.1.2.2.2.2 (.fieldLink "MaskLayersModel" 48 "MaskLayersModel" "height" "I") (mb (List.mem_of_getElem? (i := 848) (by decide +kernel)) rfl)) (fun _ h9 => h9) rfl hin rfl rfl hn hf (by rw [hl]; decide) d (fun H1 locs1 hP hD hS => kk H1 locs1 ls hP hD hS h)
theorem pF_Mo_7 (C : Cx p s m args meth c D tys cc nL "MaskLayersModel") (q0 : Nat) (ws' : va_W) {a : Nat} {fs : List Value} {v : Value} (he : ws[q0]? = some (a, .inr (6, fs))) (hl : fs.length = 30) (hw : ws.set q0 (a, .inr (6, fs.set 3 v)) = ws') (hn : narrow .int v = v) (hf : fits .int v = true) (d : decode cc pc = .ok (.putfield 7, 3)) (kk : J p l e R s m args below meth c D A (va_D A) nL Q cells slots ws' lv st (pc + 3)) : J p l e R s m args below meth c D A (va_D A) nL Q cells slots ws lv (v :: .ref a :: st) pc := by
  subst hw
  exact fun H locs ls hP hD hS h => va_put (ty := .int) (C := cn6) (T := cf6) (N := 30) C.1.1 C.1.2.1 C.1.2.2.2.2 ch6 ct6 cg6 ce6 C.1.2.2.2.1 C.2.1 hP hD hS q0 he rfl 3 (by decide) (C.1.2.2.2.2 (.fieldLink "MaskLayersModel" 7 "MaskLayersModel" "step" "I") (mb (List.mem_of_getElem? (i := 849) (by decide +kernel)) rfl)) (fun _ h9 => h9) rfl rfl hn hf (by rw [hl]; decide) d (fun H1 locs1 hP hD hS => kk H1 locs1 ls hP hD hS h)
end W3
section MI
variable {p : Program} {l : Launch} {e : Env} {R : Room} {s : State} {m : MethodId} {args : Array Value} {below : List Frame} {meth : Method} {c : Code} {D : va_G} {A : Nat → Prop} {X : va_W → Prop} {nL : Nat} {Q : State → Prop} {cells slots : Nat} {ws : va_W} {lv : List (Nat × Value)} {st : List Value} {pc : Nat}
variable {tys : List (ClassId × FieldType)} {cc : ByteArray}
variable {own : String}
theorem j_newz (C : Cx p s m args meth c D tys cc nL own) (hA : ∀ q, s.heap.size ≤ q → A q) {t0 : Nat} {cA : ClassId} (ht : tys[t0]? = some (cA, .boolean)) (harr : Cond.arrayClass .boolean ∈ BIG) {n : Int32} {N : Nat} (hn : ¬ n < 0) (hN : n.toNatClampNeg = N) (hbytes : N * 1 ≤ 536870912) (hcells : cells + 1 ≤ R.cells) (hslots : slots + N ≤ R.slots) (d : decode cc pc = .ok (.newarray .boolean, 2)) (k : ∀ q : Nat, J p l e R s m args below meth c D A (va_D A) nL Q (cells + 1) (slots + N) (ws ++ [(q, .inl (cA, N, .inl (fun _ => 0)))]) lv (.ref q :: st) (pc + 2)) : J p l e R s m args below meth c D A (va_D A) nL Q cells slots ws lv (.int n :: st) pc :=
  fun H locs ls hP hD hS h => va_newa (atype := .boolean) (ty := .boolean) (a0 := (N, .inl (fun _ => 0))) C.1.1 C.1.2.1 (C.1.2.2.2.2 _ harr) rfl C.2.1 hP hD hS hA (fun _ => rfl) hn hN hbytes hcells hslots d (fun q cA' H1 hK hP1 hD1 hS1 => by
    have h1 : va_RA s cA' .boolean := (hK.2 tys.length (cA', .boolean) (by simp)).2
    have h2 : va_RA s cA .boolean := (C.2.1.2 t0 _ ht).2
    have e : cA' = cA := Option.some.inj (Eq.trans (Eq.symm (h1 : s.vm.findClass _ = some cA')) (h2 : s.vm.findClass _ = some cA))
    subst e
    exact k q H1 locs ls hP1 hD1 hS1 h)
theorem j_top {x y : Int32} (h : x = y) (k : J p l e R s m args below meth c D A X nL Q cells slots ws lv (.int y :: st) pc) : J p l e R s m args below meth c D A X nL Q cells slots ws lv (.int x :: st) pc := h ▸ k
end MI
/-- a size as the two take it -/
def clp (p : Int32) : Int32 := if 1 ≤ p then (if p ≤ 24 then p else 24) else 1
def Mo0 (w h : Int32) : LyS := (upd (upd (upd (fun _ => 0) 3 24) 1 w) 2 h, fun _ _ => 0)
set_option maxRecDepth 100000 in
set_option maxHeartbeats 4000000 in
theorem c_Mo_init (l : Launch) (D : va_G) (cI cR cZ : ClassId) (t1 t2 : Nat) (o0 : Nat) (p1 p2 : Int32) (sz : Nat) : Met l y_Mo_init (Cond.code y_Mo_init b_Mo_init 3 none :: BIG) (rm_Mo_init (10) (21540)) (PcW t1 t2 [.ref o0, .int p1, .int p2] D (tyG cI cR cZ) ([(o0, .inr (6, [.int 0, .int 0, .int 0, .int 0, .null, .null, .int 0, .int 0, .int 0, .int 0, .int 0, .null, .null, .null, .null, .int 0, .null, .int 0, .int 0, .int 0, .null, .null, .int 0, .int 0, .null, .int 0, .int 0, .int 0, .int 0, .int 0]))]) sz) (QcV D (fun u : (Nat → Nat) => wMo cI cZ (adr o0 u) (Mo0 (clp p1) (clp p2))) (va_A ([(o0, .inr (6, [.int 0, .int 0, .int 0, .int 0, .null, .null, .int 0, .int 0, .int 0, .int 0, .int 0, .null, .null, .null, .null, .int 0, .null, .int 0, .int 0, .int 0, .null, .null, .int 0, .int 0, .null, .int 0, .int 0, .int 0, .int 0, .int 0]))]) sz)) (10) (21540) (va_A ([(o0, .inr (6, [.int 0, .int 0, .int 0, .int 0, .null, .null, .int 0, .int 0, .int 0, .int 0, .int 0, .null, .null, .null, .null, .int 0, .null, .int 0, .int 0, .int 0, .null, .null, .int 0, .int 0, .null, .int 0, .int 0, .int 0, .int 0, .int 0]))]) sz) := by
  refine met_Cw (by decide) (Nat.le_of_ble_eq_true rfl) (fun p e s m args below meth c A hA hX hTW C hr hin => ?_)
  have C : Cx p s m args meth c D (tyG cI cR cZ) b_Mo_init 3 "MaskLayersModel" := C
  have hin : meth.name = "<init>" := hin
  refine j_aload_n C 0 d_Mo_init_0 rfl ?_
  refine j_objInit C (mb (List.mem_of_getElem? (i := 845) (by decide +kernel)) rfl) (mb (List.mem_of_getElem? (i := 86) (by decide +kernel)) rfl) (mb (List.mem_of_getElem? (i := 87) (by decide +kernel)) rfl) d_Mo_init_1 (Nat.le_of_ble_eq_true rfl) (Nat.le_of_ble_eq_true rfl) ?_
  refine j_aload_n C 0 d_Mo_init_4 rfl ?_
  refine j_bipush C (v := 24) d_Mo_init_5 (by decide) ?_
  refine pF_Mo_7 C 0 ([(o0, .inr (6, [.int 0, .int 0, .int 0, .int 24, .null, .null, .int 0, .int 0, .int 0, .int 0, .int 0, .null, .null, .null, .null, .int 0, .null, .int 0, .int 0, .int 0, .null, .null, .int 0, .int 0, .null, .int 0, .int 0, .int 0, .int 0, .int 0]))]) rfl rfl rfl rfl rfl d_Mo_init_7 ?_
  refine j_aload_n C 0 d_Mo_init_10 rfl ?_
  refine j_sipush C (v := 576) d_Mo_init_11 (by decide) ?_
  refine j_newa C hA (t0 := 0) (N := 576) rfl (mb (List.mem_of_getElem? (i := 138) (by decide +kernel)) rfl) (by decide) rfl (by decide) (by show _ ≤ 10; omega) (by show _ ≤ 21540; omega) d_Mo_init_14 (fun q1 => ?_)
  refine j_ws (ws' := [(o0, .inr (6, [.int 0, .int 0, .int 0, .int 24, .null, .null, .int 0, .int 0, .int 0, .int 0, .int 0, .null, .null, .null, .null, .int 0, .null, .int 0, .int 0, .int 0, .null, .null, .int 0, .int 0, .null, .int 0, .int 0, .int 0, .int 0, .int 0]))] ++ ([(q1, .inl (cI, 576, .inl (fun _ => 0)))])) rfl ?_
  refine pF_Mo_13 C hin 0 ([(o0, .inr (6, [.int 0, .int 0, .int 0, .int 24, .ref q1, .null, .int 0, .int 0, .int 0, .int 0, .int 0, .null, .null, .null, .null, .int 0, .null, .int 0, .int 0, .int 0, .null, .null, .int 0, .int 0, .null, .int 0, .int 0, .int 0, .int 0, .int 0]))] ++ ([(q1, .inl (cI, 576, .inl (fun _ => 0)))])) rfl rfl rfl rfl rfl d_Mo_init_16 ?_
  refine j_aload_n C 0 d_Mo_init_19 rfl ?_
  refine j_sipush C (v := 576) d_Mo_init_20 (by decide) ?_
  refine j_newz C hA (t0 := 1) (N := 576) rfl (mb (List.mem_of_getElem? (i := 937) (by decide +kernel)) rfl) (by decide) rfl (by decide) (by show _ ≤ 10; omega) (by show _ ≤ 21540; omega) d_Mo_init_23 (fun q2 => ?_)
  refine j_ws (ws' := [(o0, .inr (6, [.int 0, .int 0, .int 0, .int 24, .ref q1, .null, .int 0, .int 0, .int 0, .int 0, .int 0, .null, .null, .null, .null, .int 0, .null, .int 0, .int 0, .int 0, .null, .null, .int 0, .int 0, .null, .int 0, .int 0, .int 0, .int 0, .int 0]))] ++ ([(q1, .inl (cI, 576, .inl (fun _ => 0)))] ++ ([(q2, .inl (cZ, 576, .inl (fun _ => 0)))]))) rfl ?_
  refine pF_Mo_17 C hin 0 ([(o0, .inr (6, [.int 0, .int 0, .int 0, .int 24, .ref q1, .ref q2, .int 0, .int 0, .int 0, .int 0, .int 0, .null, .null, .null, .null, .int 0, .null, .int 0, .int 0, .int 0, .null, .null, .int 0, .int 0, .null, .int 0, .int 0, .int 0, .int 0, .int 0]))] ++ ([(q1, .inl (cI, 576, .inl (fun _ => 0)))] ++ ([(q2, .inl (cZ, 576, .inl (fun _ => 0)))]))) rfl rfl rfl rfl rfl d_Mo_init_25 ?_
  refine j_aload_n C 0 d_Mo_init_28 rfl ?_
  refine j_sipush C (v := 2304) d_Mo_init_29 (by decide) ?_
  refine j_newa C hA (t0 := 0) (N := 2304) rfl (mb (List.mem_of_getElem? (i := 138) (by decide +kernel)) rfl) (by decide) rfl (by decide) (by show _ ≤ 10; omega) (by show _ ≤ 21540; omega) d_Mo_init_32 (fun q3 => ?_)
  refine j_ws (ws' := [(o0, .inr (6, [.int 0, .int 0, .int 0, .int 24, .ref q1, .ref q2, .int 0, .int 0, .int 0, .int 0, .int 0, .null, .null, .null, .null, .int 0, .null, .int 0, .int 0, .int 0, .null, .null, .int 0, .int 0, .null, .int 0, .int 0, .int 0, .int 0, .int 0]))] ++ ([(q1, .inl (cI, 576, .inl (fun _ => 0)))] ++ ([(q2, .inl (cZ, 576, .inl (fun _ => 0)))] ++ ([(q3, .inl (cI, 2304, .inl (fun _ => 0)))])))) rfl ?_
  refine pF_Mo_21 C hin 0 ([(o0, .inr (6, [.int 0, .int 0, .int 0, .int 24, .ref q1, .ref q2, .int 0, .int 0, .int 0, .int 0, .int 0, .ref q3, .null, .null, .null, .int 0, .null, .int 0, .int 0, .int 0, .null, .null, .int 0, .int 0, .null, .int 0, .int 0, .int 0, .int 0, .int 0]))] ++ ([(q1, .inl (cI, 576, .inl (fun _ => 0)))] ++ ([(q2, .inl (cZ, 576, .inl (fun _ => 0)))] ++ ([(q3, .inl (cI, 2304, .inl (fun _ => 0)))])))) rfl rfl rfl rfl rfl d_Mo_init_34 ?_
  refine j_aload_n C 0 d_Mo_init_37 rfl ?_
  refine j_sipush C (v := 2304) d_Mo_init_38 (by decide) ?_
  refine j_newz C hA (t0 := 1) (N := 2304) rfl (mb (List.mem_of_getElem? (i := 937) (by decide +kernel)) rfl) (by decide) rfl (by decide) (by show _ ≤ 10; omega) (by show _ ≤ 21540; omega) d_Mo_init_41 (fun q4 => ?_)
  refine j_ws (ws' := [(o0, .inr (6, [.int 0, .int 0, .int 0, .int 24, .ref q1, .ref q2, .int 0, .int 0, .int 0, .int 0, .int 0, .ref q3, .null, .null, .null, .int 0, .null, .int 0, .int 0, .int 0, .null, .null, .int 0, .int 0, .null, .int 0, .int 0, .int 0, .int 0, .int 0]))] ++ ([(q1, .inl (cI, 576, .inl (fun _ => 0)))] ++ ([(q2, .inl (cZ, 576, .inl (fun _ => 0)))] ++ ([(q3, .inl (cI, 2304, .inl (fun _ => 0)))] ++ ([(q4, .inl (cZ, 2304, .inl (fun _ => 0)))]))))) rfl ?_
  refine pF_Mo_24 C hin 0 ([(o0, .inr (6, [.int 0, .int 0, .int 0, .int 24, .ref q1, .ref q2, .int 0, .int 0, .int 0, .int 0, .int 0, .ref q3, .ref q4, .null, .null, .int 0, .null, .int 0, .int 0, .int 0, .null, .null, .int 0, .int 0, .null, .int 0, .int 0, .int 0, .int 0, .int 0]))] ++ ([(q1, .inl (cI, 576, .inl (fun _ => 0)))] ++ ([(q2, .inl (cZ, 576, .inl (fun _ => 0)))] ++ ([(q3, .inl (cI, 2304, .inl (fun _ => 0)))] ++ ([(q4, .inl (cZ, 2304, .inl (fun _ => 0)))]))))) rfl rfl rfl rfl rfl d_Mo_init_43 ?_
  refine j_aload_n C 0 d_Mo_init_46 rfl ?_
  refine j_bipush C (v := 96) d_Mo_init_47 (by decide) ?_
  refine j_newz C hA (t0 := 1) (N := 96) rfl (mb (List.mem_of_getElem? (i := 937) (by decide +kernel)) rfl) (by decide) rfl (by decide) (by show _ ≤ 10; omega) (by show _ ≤ 21540; omega) d_Mo_init_49 (fun q5 => ?_)
  refine j_ws (ws' := [(o0, .inr (6, [.int 0, .int 0, .int 0, .int 24, .ref q1, .ref q2, .int 0, .int 0, .int 0, .int 0, .int 0, .ref q3, .ref q4, .null, .null, .int 0, .null, .int 0, .int 0, .int 0, .null, .null, .int 0, .int 0, .null, .int 0, .int 0, .int 0, .int 0, .int 0]))] ++ ([(q1, .inl (cI, 576, .inl (fun _ => 0)))] ++ ([(q2, .inl (cZ, 576, .inl (fun _ => 0)))] ++ ([(q3, .inl (cI, 2304, .inl (fun _ => 0)))] ++ ([(q4, .inl (cZ, 2304, .inl (fun _ => 0)))] ++ ([(q5, .inl (cZ, 96, .inl (fun _ => 0)))])))))) rfl ?_
  refine pF_Mo_27 C hin 0 ([(o0, .inr (6, [.int 0, .int 0, .int 0, .int 24, .ref q1, .ref q2, .int 0, .int 0, .int 0, .int 0, .int 0, .ref q3, .ref q4, .ref q5, .null, .int 0, .null, .int 0, .int 0, .int 0, .null, .null, .int 0, .int 0, .null, .int 0, .int 0, .int 0, .int 0, .int 0]))] ++ ([(q1, .inl (cI, 576, .inl (fun _ => 0)))] ++ ([(q2, .inl (cZ, 576, .inl (fun _ => 0)))] ++ ([(q3, .inl (cI, 2304, .inl (fun _ => 0)))] ++ ([(q4, .inl (cZ, 2304, .inl (fun _ => 0)))] ++ ([(q5, .inl (cZ, 96, .inl (fun _ => 0)))])))))) rfl rfl rfl rfl rfl d_Mo_init_51 ?_
  refine j_aload_n C 0 d_Mo_init_54 rfl ?_
  refine j_sipush C (v := 6400) d_Mo_init_55 (by decide) ?_
  refine j_newa C hA (t0 := 0) (N := 6400) rfl (mb (List.mem_of_getElem? (i := 138) (by decide +kernel)) rfl) (by decide) rfl (by decide) (by show _ ≤ 10; omega) (by show _ ≤ 21540; omega) d_Mo_init_58 (fun q6 => ?_)
  refine j_ws (ws' := [(o0, .inr (6, [.int 0, .int 0, .int 0, .int 24, .ref q1, .ref q2, .int 0, .int 0, .int 0, .int 0, .int 0, .ref q3, .ref q4, .ref q5, .null, .int 0, .null, .int 0, .int 0, .int 0, .null, .null, .int 0, .int 0, .null, .int 0, .int 0, .int 0, .int 0, .int 0]))] ++ ([(q1, .inl (cI, 576, .inl (fun _ => 0)))] ++ ([(q2, .inl (cZ, 576, .inl (fun _ => 0)))] ++ ([(q3, .inl (cI, 2304, .inl (fun _ => 0)))] ++ ([(q4, .inl (cZ, 2304, .inl (fun _ => 0)))] ++ ([(q5, .inl (cZ, 96, .inl (fun _ => 0)))] ++ ([(q6, .inl (cI, 6400, .inl (fun _ => 0)))]))))))) rfl ?_
  refine pF_Mo_30 C hin 0 ([(o0, .inr (6, [.int 0, .int 0, .int 0, .int 24, .ref q1, .ref q2, .int 0, .int 0, .int 0, .int 0, .int 0, .ref q3, .ref q4, .ref q5, .ref q6, .int 0, .null, .int 0, .int 0, .int 0, .null, .null, .int 0, .int 0, .null, .int 0, .int 0, .int 0, .int 0, .int 0]))] ++ ([(q1, .inl (cI, 576, .inl (fun _ => 0)))] ++ ([(q2, .inl (cZ, 576, .inl (fun _ => 0)))] ++ ([(q3, .inl (cI, 2304, .inl (fun _ => 0)))] ++ ([(q4, .inl (cZ, 2304, .inl (fun _ => 0)))] ++ ([(q5, .inl (cZ, 96, .inl (fun _ => 0)))] ++ ([(q6, .inl (cI, 6400, .inl (fun _ => 0)))]))))))) rfl rfl rfl rfl rfl d_Mo_init_60 ?_
  refine j_aload_n C 0 d_Mo_init_63 rfl ?_
  refine j_sipush C (v := 6400) d_Mo_init_64 (by decide) ?_
  refine j_newa C hA (t0 := 0) (N := 6400) rfl (mb (List.mem_of_getElem? (i := 138) (by decide +kernel)) rfl) (by decide) rfl (by decide) (by show _ ≤ 10; omega) (by show _ ≤ 21540; omega) d_Mo_init_67 (fun q7 => ?_)
  refine j_ws (ws' := [(o0, .inr (6, [.int 0, .int 0, .int 0, .int 24, .ref q1, .ref q2, .int 0, .int 0, .int 0, .int 0, .int 0, .ref q3, .ref q4, .ref q5, .ref q6, .int 0, .null, .int 0, .int 0, .int 0, .null, .null, .int 0, .int 0, .null, .int 0, .int 0, .int 0, .int 0, .int 0]))] ++ ([(q1, .inl (cI, 576, .inl (fun _ => 0)))] ++ ([(q2, .inl (cZ, 576, .inl (fun _ => 0)))] ++ ([(q3, .inl (cI, 2304, .inl (fun _ => 0)))] ++ ([(q4, .inl (cZ, 2304, .inl (fun _ => 0)))] ++ ([(q5, .inl (cZ, 96, .inl (fun _ => 0)))] ++ ([(q6, .inl (cI, 6400, .inl (fun _ => 0)))] ++ ([(q7, .inl (cI, 6400, .inl (fun _ => 0)))])))))))) rfl ?_
  refine pF_Mo_33 C hin 0 ([(o0, .inr (6, [.int 0, .int 0, .int 0, .int 24, .ref q1, .ref q2, .int 0, .int 0, .int 0, .int 0, .int 0, .ref q3, .ref q4, .ref q5, .ref q6, .int 0, .ref q7, .int 0, .int 0, .int 0, .null, .null, .int 0, .int 0, .null, .int 0, .int 0, .int 0, .int 0, .int 0]))] ++ ([(q1, .inl (cI, 576, .inl (fun _ => 0)))] ++ ([(q2, .inl (cZ, 576, .inl (fun _ => 0)))] ++ ([(q3, .inl (cI, 2304, .inl (fun _ => 0)))] ++ ([(q4, .inl (cZ, 2304, .inl (fun _ => 0)))] ++ ([(q5, .inl (cZ, 96, .inl (fun _ => 0)))] ++ ([(q6, .inl (cI, 6400, .inl (fun _ => 0)))] ++ ([(q7, .inl (cI, 6400, .inl (fun _ => 0)))])))))))) rfl rfl rfl rfl rfl d_Mo_init_69 ?_
  refine j_aload_n C 0 d_Mo_init_72 rfl ?_
  refine j_sipush C (v := 2304) d_Mo_init_73 (by decide) ?_
  refine j_newa C hA (t0 := 0) (N := 2304) rfl (mb (List.mem_of_getElem? (i := 138) (by decide +kernel)) rfl) (by decide) rfl (by decide) (by show _ ≤ 10; omega) (by show _ ≤ 21540; omega) d_Mo_init_76 (fun q8 => ?_)
  refine j_ws (ws' := [(o0, .inr (6, [.int 0, .int 0, .int 0, .int 24, .ref q1, .ref q2, .int 0, .int 0, .int 0, .int 0, .int 0, .ref q3, .ref q4, .ref q5, .ref q6, .int 0, .ref q7, .int 0, .int 0, .int 0, .null, .null, .int 0, .int 0, .null, .int 0, .int 0, .int 0, .int 0, .int 0]))] ++ ([(q1, .inl (cI, 576, .inl (fun _ => 0)))] ++ ([(q2, .inl (cZ, 576, .inl (fun _ => 0)))] ++ ([(q3, .inl (cI, 2304, .inl (fun _ => 0)))] ++ ([(q4, .inl (cZ, 2304, .inl (fun _ => 0)))] ++ ([(q5, .inl (cZ, 96, .inl (fun _ => 0)))] ++ ([(q6, .inl (cI, 6400, .inl (fun _ => 0)))] ++ ([(q7, .inl (cI, 6400, .inl (fun _ => 0)))] ++ ([(q8, .inl (cI, 2304, .inl (fun _ => 0)))]))))))))) rfl ?_
  refine pF_Mo_36 C hin 0 ([(o0, .inr (6, [.int 0, .int 0, .int 0, .int 24, .ref q1, .ref q2, .int 0, .int 0, .int 0, .int 0, .int 0, .ref q3, .ref q4, .ref q5, .ref q6, .int 0, .ref q7, .int 0, .int 0, .int 0, .ref q8, .null, .int 0, .int 0, .null, .int 0, .int 0, .int 0, .int 0, .int 0]))] ++ ([(q1, .inl (cI, 576, .inl (fun _ => 0)))] ++ ([(q2, .inl (cZ, 576, .inl (fun _ => 0)))] ++ ([(q3, .inl (cI, 2304, .inl (fun _ => 0)))] ++ ([(q4, .inl (cZ, 2304, .inl (fun _ => 0)))] ++ ([(q5, .inl (cZ, 96, .inl (fun _ => 0)))] ++ ([(q6, .inl (cI, 6400, .inl (fun _ => 0)))] ++ ([(q7, .inl (cI, 6400, .inl (fun _ => 0)))] ++ ([(q8, .inl (cI, 2304, .inl (fun _ => 0)))]))))))))) rfl rfl rfl rfl rfl d_Mo_init_78 ?_
  refine j_aload_n C 0 d_Mo_init_81 rfl ?_
  refine j_iconst C (v := 4) d_Mo_init_82 (by decide) ?_
  refine j_newz C hA (t0 := 1) (N := 4) rfl (mb (List.mem_of_getElem? (i := 937) (by decide +kernel)) rfl) (by decide) rfl (by decide) (by show _ ≤ 10; omega) (by show _ ≤ 21540; omega) d_Mo_init_83 (fun q9 => ?_)
  refine j_ws (ws' := [(o0, .inr (6, [.int 0, .int 0, .int 0, .int 24, .ref q1, .ref q2, .int 0, .int 0, .int 0, .int 0, .int 0, .ref q3, .ref q4, .ref q5, .ref q6, .int 0, .ref q7, .int 0, .int 0, .int 0, .ref q8, .null, .int 0, .int 0, .null, .int 0, .int 0, .int 0, .int 0, .int 0]))] ++ ([(q1, .inl (cI, 576, .inl (fun _ => 0)))] ++ ([(q2, .inl (cZ, 576, .inl (fun _ => 0)))] ++ ([(q3, .inl (cI, 2304, .inl (fun _ => 0)))] ++ ([(q4, .inl (cZ, 2304, .inl (fun _ => 0)))] ++ ([(q5, .inl (cZ, 96, .inl (fun _ => 0)))] ++ ([(q6, .inl (cI, 6400, .inl (fun _ => 0)))] ++ ([(q7, .inl (cI, 6400, .inl (fun _ => 0)))] ++ ([(q8, .inl (cI, 2304, .inl (fun _ => 0)))] ++ ([(q9, .inl (cZ, 4, .inl (fun _ => 0)))])))))))))) rfl ?_
  refine pF_Mo_39 C hin 0 ([(o0, .inr (6, [.int 0, .int 0, .int 0, .int 24, .ref q1, .ref q2, .int 0, .int 0, .int 0, .int 0, .int 0, .ref q3, .ref q4, .ref q5, .ref q6, .int 0, .ref q7, .int 0, .int 0, .int 0, .ref q8, .ref q9, .int 0, .int 0, .null, .int 0, .int 0, .int 0, .int 0, .int 0]))] ++ ([(q1, .inl (cI, 576, .inl (fun _ => 0)))] ++ ([(q2, .inl (cZ, 576, .inl (fun _ => 0)))] ++ ([(q3, .inl (cI, 2304, .inl (fun _ => 0)))] ++ ([(q4, .inl (cZ, 2304, .inl (fun _ => 0)))] ++ ([(q5, .inl (cZ, 96, .inl (fun _ => 0)))] ++ ([(q6, .inl (cI, 6400, .inl (fun _ => 0)))] ++ ([(q7, .inl (cI, 6400, .inl (fun _ => 0)))] ++ ([(q8, .inl (cI, 2304, .inl (fun _ => 0)))] ++ ([(q9, .inl (cZ, 4, .inl (fun _ => 0)))])))))))))) rfl rfl rfl rfl rfl d_Mo_init_85 ?_
  refine j_aload_n C 0 d_Mo_init_88 rfl ?_
  refine j_sipush C (v := 576) d_Mo_init_89 (by decide) ?_
  refine j_newa C hA (t0 := 0) (N := 576) rfl (mb (List.mem_of_getElem? (i := 138) (by decide +kernel)) rfl) (by decide) rfl (by decide) (by show _ ≤ 10; omega) (by show _ ≤ 21540; omega) d_Mo_init_92 (fun q10 => ?_)
  refine j_ws (ws' := [(o0, .inr (6, [.int 0, .int 0, .int 0, .int 24, .ref q1, .ref q2, .int 0, .int 0, .int 0, .int 0, .int 0, .ref q3, .ref q4, .ref q5, .ref q6, .int 0, .ref q7, .int 0, .int 0, .int 0, .ref q8, .ref q9, .int 0, .int 0, .null, .int 0, .int 0, .int 0, .int 0, .int 0]))] ++ ([(q1, .inl (cI, 576, .inl (fun _ => 0)))] ++ ([(q2, .inl (cZ, 576, .inl (fun _ => 0)))] ++ ([(q3, .inl (cI, 2304, .inl (fun _ => 0)))] ++ ([(q4, .inl (cZ, 2304, .inl (fun _ => 0)))] ++ ([(q5, .inl (cZ, 96, .inl (fun _ => 0)))] ++ ([(q6, .inl (cI, 6400, .inl (fun _ => 0)))] ++ ([(q7, .inl (cI, 6400, .inl (fun _ => 0)))] ++ ([(q8, .inl (cI, 2304, .inl (fun _ => 0)))] ++ ([(q9, .inl (cZ, 4, .inl (fun _ => 0)))] ++ ([(q10, .inl (cI, 576, .inl (fun _ => 0)))]))))))))))) rfl ?_
  refine pF_Mo_42 C hin 0 ([(o0, .inr (6, [.int 0, .int 0, .int 0, .int 24, .ref q1, .ref q2, .int 0, .int 0, .int 0, .int 0, .int 0, .ref q3, .ref q4, .ref q5, .ref q6, .int 0, .ref q7, .int 0, .int 0, .int 0, .ref q8, .ref q9, .int 0, .int 0, .ref q10, .int 0, .int 0, .int 0, .int 0, .int 0]))] ++ ([(q1, .inl (cI, 576, .inl (fun _ => 0)))] ++ ([(q2, .inl (cZ, 576, .inl (fun _ => 0)))] ++ ([(q3, .inl (cI, 2304, .inl (fun _ => 0)))] ++ ([(q4, .inl (cZ, 2304, .inl (fun _ => 0)))] ++ ([(q5, .inl (cZ, 96, .inl (fun _ => 0)))] ++ ([(q6, .inl (cI, 6400, .inl (fun _ => 0)))] ++ ([(q7, .inl (cI, 6400, .inl (fun _ => 0)))] ++ ([(q8, .inl (cI, 2304, .inl (fun _ => 0)))] ++ ([(q9, .inl (cZ, 4, .inl (fun _ => 0)))] ++ ([(q10, .inl (cI, 576, .inl (fun _ => 0)))]))))))))))) rfl rfl rfl rfl rfl d_Mo_init_94 ?_
  refine j_aload_n C 0 d_Mo_init_97 rfl ?_
  refine j_iload_n C 1 d_Mo_init_98 rfl ?_
  refine j_iconst C (v := 1) d_Mo_init_99 (by decide) ?_
  refine j_let (ws' := [(o0, .inr (6, [.int 0, .int 0, .int 0, .int 24, .ref q1, .ref q2, .int 0, .int 0, .int 0, .int 0, .int 0, .ref q3, .ref q4, .ref q5, .ref q6, .int 0, .ref q7, .int 0, .int 0, .int 0, .ref q8, .ref q9, .int 0, .int 0, .ref q10, .int 0, .int 0, .int 0, .int 0, .int 0]))] ++ ([(q1, .inl (cI, 576, .inl (fun _ => 0)))] ++ ([(q2, .inl (cZ, 576, .inl (fun _ => 0)))] ++ ([(q3, .inl (cI, 2304, .inl (fun _ => 0)))] ++ ([(q4, .inl (cZ, 2304, .inl (fun _ => 0)))] ++ ([(q5, .inl (cZ, 96, .inl (fun _ => 0)))] ++ ([(q6, .inl (cI, 6400, .inl (fun _ => 0)))] ++ ([(q7, .inl (cI, 6400, .inl (fun _ => 0)))] ++ ([(q8, .inl (cI, 2304, .inl (fun _ => 0)))] ++ ([(q9, .inl (cZ, 4, .inl (fun _ => 0)))] ++ ([(q10, .inl (cI, 576, .inl (fun _ => 0)))]))))))))))) (lv' := [(0, .ref o0), (1, .int p1), (2, .int p2)]) (st' := [.int (clp p1), .ref o0]) (pc' := 119) ?_ (fun K11 => ?_)
  rotate_left
  · refine j_icmp_ge C 107 d_Mo_init_100 (by decide) (fun c12 => ?_) (fun c12 => ?_)
    · refine j_iload_n C 1 d_Mo_init_107 rfl ?_
      refine j_bipush C (v := 24) d_Mo_init_108 (by decide) ?_
      refine j_icmp_le C 118 d_Mo_init_110 (by decide) (fun c13 => ?_) (fun c13 => ?_)
      · refine j_iload_n C 1 d_Mo_init_118 rfl ?_
        refine j_top (show p1 = clp p1 from ((if_pos c12).trans (if_pos c13)).symm) ?_
        exact K11
      · refine j_bipush C (v := 24) d_Mo_init_113 (by decide) ?_
        refine j_goto C 119 d_Mo_init_115 (by decide) ?_
        refine j_top (show 24 = clp p1 from ((if_pos c12).trans (if_neg c13)).symm) ?_
        exact K11
    · refine j_iconst C (v := 1) d_Mo_init_103 (by decide) ?_
      refine j_goto C 119 d_Mo_init_104 (by decide) ?_
      refine j_top (show 1 = clp p1 from (if_neg c12).symm) ?_
      exact K11
  refine pF_Mo_45 C hin 0 ([(o0, .inr (6, [.int 0, .int (clp p1), .int 0, .int 24, .ref q1, .ref q2, .int 0, .int 0, .int 0, .int 0, .int 0, .ref q3, .ref q4, .ref q5, .ref q6, .int 0, .ref q7, .int 0, .int 0, .int 0, .ref q8, .ref q9, .int 0, .int 0, .ref q10, .int 0, .int 0, .int 0, .int 0, .int 0]))] ++ ([(q1, .inl (cI, 576, .inl (fun _ => 0)))] ++ ([(q2, .inl (cZ, 576, .inl (fun _ => 0)))] ++ ([(q3, .inl (cI, 2304, .inl (fun _ => 0)))] ++ ([(q4, .inl (cZ, 2304, .inl (fun _ => 0)))] ++ ([(q5, .inl (cZ, 96, .inl (fun _ => 0)))] ++ ([(q6, .inl (cI, 6400, .inl (fun _ => 0)))] ++ ([(q7, .inl (cI, 6400, .inl (fun _ => 0)))] ++ ([(q8, .inl (cI, 2304, .inl (fun _ => 0)))] ++ ([(q9, .inl (cZ, 4, .inl (fun _ => 0)))] ++ ([(q10, .inl (cI, 576, .inl (fun _ => 0)))]))))))))))) rfl rfl rfl rfl rfl d_Mo_init_119 ?_
  refine j_aload_n C 0 d_Mo_init_122 rfl ?_
  refine j_iload_n C 2 d_Mo_init_123 rfl ?_
  refine j_iconst C (v := 1) d_Mo_init_124 (by decide) ?_
  refine j_let (ws' := [(o0, .inr (6, [.int 0, .int (clp p1), .int 0, .int 24, .ref q1, .ref q2, .int 0, .int 0, .int 0, .int 0, .int 0, .ref q3, .ref q4, .ref q5, .ref q6, .int 0, .ref q7, .int 0, .int 0, .int 0, .ref q8, .ref q9, .int 0, .int 0, .ref q10, .int 0, .int 0, .int 0, .int 0, .int 0]))] ++ ([(q1, .inl (cI, 576, .inl (fun _ => 0)))] ++ ([(q2, .inl (cZ, 576, .inl (fun _ => 0)))] ++ ([(q3, .inl (cI, 2304, .inl (fun _ => 0)))] ++ ([(q4, .inl (cZ, 2304, .inl (fun _ => 0)))] ++ ([(q5, .inl (cZ, 96, .inl (fun _ => 0)))] ++ ([(q6, .inl (cI, 6400, .inl (fun _ => 0)))] ++ ([(q7, .inl (cI, 6400, .inl (fun _ => 0)))] ++ ([(q8, .inl (cI, 2304, .inl (fun _ => 0)))] ++ ([(q9, .inl (cZ, 4, .inl (fun _ => 0)))] ++ ([(q10, .inl (cI, 576, .inl (fun _ => 0)))]))))))))))) (lv' := [(0, .ref o0), (1, .int p1), (2, .int p2)]) (st' := [.int (clp p2), .ref o0]) (pc' := 144) ?_ (fun K14 => ?_)
  rotate_left
  · refine j_icmp_ge C 132 d_Mo_init_125 (by decide) (fun c15 => ?_) (fun c15 => ?_)
    · refine j_iload_n C 2 d_Mo_init_132 rfl ?_
      refine j_bipush C (v := 24) d_Mo_init_133 (by decide) ?_
      refine j_icmp_le C 143 d_Mo_init_135 (by decide) (fun c16 => ?_) (fun c16 => ?_)
      · refine j_iload_n C 2 d_Mo_init_143 rfl ?_
        refine j_top (show p2 = clp p2 from ((if_pos c15).trans (if_pos c16)).symm) ?_
        exact K14
      · refine j_bipush C (v := 24) d_Mo_init_138 (by decide) ?_
        refine j_goto C 144 d_Mo_init_140 (by decide) ?_
        refine j_top (show 24 = clp p2 from ((if_pos c15).trans (if_neg c16)).symm) ?_
        exact K14
    · refine j_iconst C (v := 1) d_Mo_init_128 (by decide) ?_
      refine j_goto C 144 d_Mo_init_129 (by decide) ?_
      refine j_top (show 1 = clp p2 from (if_neg c15).symm) ?_
      exact K14
  refine pF_Mo_48 C hin 0 ([(o0, .inr (6, [.int 0, .int (clp p1), .int (clp p2), .int 24, .ref q1, .ref q2, .int 0, .int 0, .int 0, .int 0, .int 0, .ref q3, .ref q4, .ref q5, .ref q6, .int 0, .ref q7, .int 0, .int 0, .int 0, .ref q8, .ref q9, .int 0, .int 0, .ref q10, .int 0, .int 0, .int 0, .int 0, .int 0]))] ++ ([(q1, .inl (cI, 576, .inl (fun _ => 0)))] ++ ([(q2, .inl (cZ, 576, .inl (fun _ => 0)))] ++ ([(q3, .inl (cI, 2304, .inl (fun _ => 0)))] ++ ([(q4, .inl (cZ, 2304, .inl (fun _ => 0)))] ++ ([(q5, .inl (cZ, 96, .inl (fun _ => 0)))] ++ ([(q6, .inl (cI, 6400, .inl (fun _ => 0)))] ++ ([(q7, .inl (cI, 6400, .inl (fun _ => 0)))] ++ ([(q8, .inl (cI, 2304, .inl (fun _ => 0)))] ++ ([(q9, .inl (cZ, 4, .inl (fun _ => 0)))] ++ ([(q10, .inl (cI, 576, .inl (fun _ => 0)))]))))))))))) rfl rfl rfl rfl rfl d_Mo_init_144 ?_
  refine j_perm [0, 1, 2, 3, 4, 5, 6, 7, 8, 9, 10] (ws' := wMo cI cZ (adr o0 (fun k => match k with | 1 => q1 | 2 => q2 | 3 => q3 | 4 => q4 | 5 => q5 | 6 => q6 | 7 => q7 | 8 => q8 | 9 => q9 | _ => q10)) (Mo0 (clp p1) (clp p2))) rfl (by decide) ?_
  refine j_widen (c2 := 10) (s2 := 21540) (by omega) (by omega) ?_
  exact j_vret C hr d_Mo_init_147 (fun k => match k with | 1 => q1 | 2 => q2 | 3 => q3 | 4 => q4 | 5 => q5 | 6 => q6 | 7 => q7 | 8 => q8 | 9 => q9 | _ => q10) rfl
