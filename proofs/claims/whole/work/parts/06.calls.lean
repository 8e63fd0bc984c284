def rm_ML_isByte : Room := { frames := 0, cells := 0, slots := 0, locals := 0 }
def rm_ML_parts : Room := { frames := 0, cells := 0, slots := 0, locals := 0 }
def rm_ML_red : Room := { frames := 0, cells := 0, slots := 0, locals := 0 }
def rm_ML_green : Room := { frames := 0, cells := 0, slots := 0, locals := 0 }
def rm_ML_blue : Room := { frames := 0, cells := 0, slots := 0, locals := 0 }
def rm_ML_colourOf : Room := { frames := 0, cells := 0, slots := 0, locals := 0 }
def rm_ML_sum : Room := { frames := 1, cells := 0, slots := 0, locals := 22 }
def rm_ML_difference : Room := { frames := 1, cells := 0, slots := 0, locals := 22 }
def rm_ML_middle : Room := { frames := 1, cells := 0, slots := 0, locals := 22 }
def rm_ML_mean : Room := { frames := 0, cells := 0, slots := 0, locals := 0 }
def rm_ML_plainBytes : Room := { frames := 1, cells := 0, slots := 0, locals := 21 }
def rm_Layers_has : Room := { frames := 0, cells := 0, slots := 0, locals := 0 }
def rm_Layers_hasSample : Room := { frames := 0, cells := 0, slots := 0, locals := 0 }
def rm_Layers_stripes : Room := { frames := 1, cells := 0, slots := 0, locals := 21 }
def rm_Layers_stripeOf : Room := { frames := 0, cells := 0, slots := 0, locals := 0 }
def rm_Layers_topOf : Room := { frames := 0, cells := 0, slots := 0, locals := 0 }
def rm_Layers_bottomOf : Room := { frames := 1, cells := 0, slots := 0, locals := 21 }
def rm_Layers_rowsOf : Room := { frames := 1, cells := 0, slots := 0, locals := 21 }
def rm_Layers_startOf : Room := { frames := 0, cells := 0, slots := 0, locals := 0 }
def rm_Layers_endOf : Room := { frames := 2, cells := 0, slots := 0, locals := 43 }
def rm_Layers_placeOf : Room := { frames := 1, cells := 0, slots := 0, locals := 21 }
def rm_Layers_valueAt : Room := { frames := 2, cells := 0, slots := 0, locals := 46 }
def rm_Layers_joinedAt : Room := { frames := 3, cells := 0, slots := 0, locals := 69 }
def rm_Layers_exactAt : Room := { frames := 4, cells := 0, slots := 0, locals := 92 }
section WC
variable {p : Program} {l : Launch} {e : Env} {R : Room} {s : State} {m : MethodId} {args : Array Value} {below : List Frame} {meth : Method} {c : Code} {D : va_G} {A : Nat → Prop} {X : va_W → Prop} {nL : Nat} {Q : State → Prop} {cells slots : Nat} {ws : va_W} {lv : List (Nat × Value)} {st : List Value} {pc : Nat}
variable {tys : List (ClassId × FieldType)} {cc : ByteArray}
theorem cw_ML_109 (C : Cx p s m args meth c D tys cc nL "MaskLayers") (hR : rm_ML_parts.frames + 1 ≤ R.frames ∧ 8 + (2 + 11) + rm_ML_parts.locals ≤ R.locals) : CallB R s args "MaskLayers" 109 y_ML_parts b_ML_parts 2 (some .int) (Cond.code y_ML_parts b_ML_parts 2 (some .int) :: BIG) rm_ML_parts 0 0 2 ∧ (Cond.static y_ML_parts).before args s = true :=
  ⟨cB C (mb (by decide +kernel) rfl) (mb (by decide +kernel) rfl) m_ML_parts rfl rfl ⟨by decide, by decide, by decide +kernel⟩ hR, C.1.2.2.2.2 _ (mb (by decide +kernel) rfl)⟩
theorem cw_ML_206 (C : Cx p s m args meth c D tys cc nL "MaskLayers") (hR : rm_ML_red.frames + 1 ≤ R.frames ∧ 8 + (1 + 11) + rm_ML_red.locals ≤ R.locals) : CallB R s args "MaskLayers" 206 y_ML_red b_ML_red 1 (some .int) (Cond.code y_ML_red b_ML_red 1 (some .int) :: BIG) rm_ML_red 0 0 1 ∧ (Cond.static y_ML_red).before args s = true :=
  ⟨cB C (mb (by decide +kernel) rfl) (mb (by decide +kernel) rfl) m_ML_red rfl rfl ⟨by decide, by decide, by decide +kernel⟩ hR, C.1.2.2.2.2 _ (mb (by decide +kernel) rfl)⟩
theorem cw_ML_209 (C : Cx p s m args meth c D tys cc nL "MaskLayers") (hR : rm_ML_green.frames + 1 ≤ R.frames ∧ 8 + (1 + 11) + rm_ML_green.locals ≤ R.locals) : CallB R s args "MaskLayers" 209 y_ML_green b_ML_green 1 (some .int) (Cond.code y_ML_green b_ML_green 1 (some .int) :: BIG) rm_ML_green 0 0 1 ∧ (Cond.static y_ML_green).before args s = true :=
  ⟨cB C (mb (by decide +kernel) rfl) (mb (by decide +kernel) rfl) m_ML_green rfl rfl ⟨by decide, by decide, by decide +kernel⟩ hR, C.1.2.2.2.2 _ (mb (by decide +kernel) rfl)⟩
theorem cw_ML_212 (C : Cx p s m args meth c D tys cc nL "MaskLayers") (hR : rm_ML_blue.frames + 1 ≤ R.frames ∧ 8 + (1 + 11) + rm_ML_blue.locals ≤ R.locals) : CallB R s args "MaskLayers" 212 y_ML_blue b_ML_blue 1 (some .int) (Cond.code y_ML_blue b_ML_blue 1 (some .int) :: BIG) rm_ML_blue 0 0 1 ∧ (Cond.static y_ML_blue).before args s = true :=
  ⟨cB C (mb (by decide +kernel) rfl) (mb (by decide +kernel) rfl) m_ML_blue rfl rfl ⟨by decide, by decide, by decide +kernel⟩ hR, C.1.2.2.2.2 _ (mb (by decide +kernel) rfl)⟩
theorem cw_ML_215 (C : Cx p s m args meth c D tys cc nL "MaskLayers") (hR : rm_ML_colourOf.frames + 1 ≤ R.frames ∧ 8 + (3 + 11) + rm_ML_colourOf.locals ≤ R.locals) : CallB R s args "MaskLayers" 215 y_ML_colourOf b_ML_colourOf 3 (some .int) (Cond.code y_ML_colourOf b_ML_colourOf 3 (some .int) :: BIG) rm_ML_colourOf 0 0 3 ∧ (Cond.static y_ML_colourOf).before args s = true :=
  ⟨cB C (mb (by decide +kernel) rfl) (mb (by decide +kernel) rfl) m_ML_colourOf rfl rfl ⟨by decide, by decide, by decide +kernel⟩ hR, C.1.2.2.2.2 _ (mb (by decide +kernel) rfl)⟩
theorem cw_Layers_45 (C : Cx p s m args meth c D tys cc nL "MaskLayers$Layers") (hR : rm_ML_parts.frames + 1 ≤ R.frames ∧ 8 + (2 + 11) + rm_ML_parts.locals ≤ R.locals) : va_CN R s args "MaskLayers$Layers" 45 y_ML_parts "MaskLayers" b_ML_parts 2 (some .int) (Cond.code y_ML_parts b_ML_parts 2 (some .int) :: BIG) rm_ML_parts 0 0 2 ∧ (Cond.static y_ML_parts).before args s = true ∧ True :=
  ⟨cN C (mb (by decide +kernel) rfl) (C.2.2.1 (.methodLinkNest "MaskLayers$Layers" 45 y_ML_parts "MaskLayers") (nwm (by decide +kernel) rfl)) m_ML_parts rfl rfl ⟨by decide, by decide, by decide +kernel⟩ hR, C.1.2.2.2.2 _ (mb (by decide +kernel) rfl), trivial⟩
theorem mw_Layers_49 : MW "MaskLayers$Layers" 49 Lib.Math.min.name Lib.Math.min.code := ⟨mb (by decide +kernel) rfl, mb (by decide +kernel) rfl, mb (by decide +kernel) rfl, mb (by decide +kernel) rfl⟩
theorem cw_Layers_54 (C : Cx p s m args meth c D tys cc nL "MaskLayers$Layers") (hR : rm_Layers_startOf.frames + 1 ≤ R.frames ∧ 8 + (2 + 11) + rm_Layers_startOf.locals ≤ R.locals) : CallW R s args "MaskLayers$Layers" "MaskLayers$Layers" 54 y_Layers_startOf b_Layers_startOf 2 (some .int) (Cond.code y_Layers_startOf b_Layers_startOf 2 (some .int) :: BIG) rm_Layers_startOf 0 0 1 :=
  ⟨cB C (mb (by decide +kernel) rfl) (mb (by decide +kernel) rfl) m_Layers_startOf rfl rfl ⟨by decide, by decide, by decide +kernel⟩ hR, C.1.2.2.2.2 _ (mb (by decide +kernel) rfl), C.1.2.2.2.2 _ (mb (by decide +kernel) rfl)⟩
theorem cw_Layers_58 (C : Cx p s m args meth c D tys cc nL "MaskLayers$Layers") (hR : rm_Layers_rowsOf.frames + 1 ≤ R.frames ∧ 8 + (3 + 11) + rm_Layers_rowsOf.locals ≤ R.locals) : CallW R s args "MaskLayers$Layers" "MaskLayers$Layers" 58 y_Layers_rowsOf b_Layers_rowsOf 3 (some .int) (Cond.code y_Layers_rowsOf b_Layers_rowsOf 3 (some .int) :: BIG) rm_Layers_rowsOf 0 0 2 :=
  ⟨cB C (mb (by decide +kernel) rfl) (mb (by decide +kernel) rfl) m_Layers_rowsOf rfl rfl ⟨by decide, by decide, by decide +kernel⟩ hR, C.1.2.2.2.2 _ (mb (by decide +kernel) rfl), C.1.2.2.2.2 _ (mb (by decide +kernel) rfl)⟩
theorem cw_Layers_61 (C : Cx p s m args meth c D tys cc nL "MaskLayers$Layers") (hR : rm_Layers_stripeOf.frames + 1 ≤ R.frames ∧ 8 + (2 + 11) + rm_Layers_stripeOf.locals ≤ R.locals) : CallW R s args "MaskLayers$Layers" "MaskLayers$Layers" 61 y_Layers_stripeOf b_Layers_stripeOf 2 (some .int) (Cond.code y_Layers_stripeOf b_Layers_stripeOf 2 (some .int) :: BIG) rm_Layers_stripeOf 0 0 1 :=
  ⟨cB C (mb (by decide +kernel) rfl) (mb (by decide +kernel) rfl) m_Layers_stripeOf rfl rfl ⟨by decide, by decide, by decide +kernel⟩ hR, C.1.2.2.2.2 _ (mb (by decide +kernel) rfl), C.1.2.2.2.2 _ (mb (by decide +kernel) rfl)⟩
theorem cw_Layers_64 (C : Cx p s m args meth c D tys cc nL "MaskLayers$Layers") (hR : rm_Layers_has.frames + 1 ≤ R.frames ∧ 8 + (3 + 11) + rm_Layers_has.locals ≤ R.locals) : CallW R s args "MaskLayers$Layers" "MaskLayers$Layers" 64 y_Layers_has b_Layers_has 3 (some .boolean) (Cond.code y_Layers_has b_Layers_has 3 (some .boolean) :: BIG) rm_Layers_has 0 0 2 :=
  ⟨cB C (mb (by decide +kernel) rfl) (mb (by decide +kernel) rfl) m_Layers_has rfl rfl ⟨by decide, by decide, by decide +kernel⟩ hR, C.1.2.2.2.2 _ (mb (by decide +kernel) rfl), C.1.2.2.2.2 _ (mb (by decide +kernel) rfl)⟩
theorem cw_Layers_68 (C : Cx p s m args meth c D tys cc nL "MaskLayers$Layers") (hR : rm_Layers_placeOf.frames + 1 ≤ R.frames ∧ 8 + (6 + 11) + rm_Layers_placeOf.locals ≤ R.locals) : CallW R s args "MaskLayers$Layers" "MaskLayers$Layers" 68 y_Layers_placeOf b_Layers_placeOf 6 (some .int) (Cond.code y_Layers_placeOf b_Layers_placeOf 6 (some .int) :: BIG) rm_Layers_placeOf 0 0 3 :=
  ⟨cB C (mb (by decide +kernel) rfl) (mb (by decide +kernel) rfl) m_Layers_placeOf rfl rfl ⟨by decide, by decide, by decide +kernel⟩ hR, C.1.2.2.2.2 _ (mb (by decide +kernel) rfl), C.1.2.2.2.2 _ (mb (by decide +kernel) rfl)⟩
theorem cw_Layers_72 (C : Cx p s m args meth c D tys cc nL "MaskLayers$Layers") (hR : rm_Layers_valueAt.frames + 1 ≤ R.frames ∧ 8 + (4 + 11) + rm_Layers_valueAt.locals ≤ R.locals) : CallW R s args "MaskLayers$Layers" "MaskLayers$Layers" 72 y_Layers_valueAt b_Layers_valueAt 4 (some .int) (Cond.code y_Layers_valueAt b_Layers_valueAt 4 (some .int) :: BIG) rm_Layers_valueAt 0 0 3 :=
  ⟨cB C (mb (by decide +kernel) rfl) (mb (by decide +kernel) rfl) m_Layers_valueAt rfl rfl ⟨by decide, by decide, by decide +kernel⟩ hR, C.1.2.2.2.2 _ (mb (by decide +kernel) rfl), C.1.2.2.2.2 _ (mb (by decide +kernel) rfl)⟩
theorem cw_Layers_75 (C : Cx p s m args meth c D tys cc nL "MaskLayers$Layers") (hR : rm_Layers_joinedAt.frames + 1 ≤ R.frames ∧ 8 + (4 + 11) + rm_Layers_joinedAt.locals ≤ R.locals) : CallW R s args "MaskLayers$Layers" "MaskLayers$Layers" 75 y_Layers_joinedAt b_Layers_joinedAt 4 (some .int) (Cond.code y_Layers_joinedAt b_Layers_joinedAt 4 (some .int) :: BIG) rm_Layers_joinedAt 0 0 2 :=
  ⟨cB C (mb (by decide +kernel) rfl) (mb (by decide +kernel) rfl) m_Layers_joinedAt rfl rfl ⟨by decide, by decide, by decide +kernel⟩ hR, C.1.2.2.2.2 _ (mb (by decide +kernel) rfl), C.1.2.2.2.2 _ (mb (by decide +kernel) rfl)⟩
theorem cw_Layers_78 (C : Cx p s m args meth c D tys cc nL "MaskLayers$Layers") (hR : rm_ML_sum.frames + 1 ≤ R.frames ∧ 8 + (2 + 11) + rm_ML_sum.locals ≤ R.locals) : va_CN R s args "MaskLayers$Layers" 78 y_ML_sum "MaskLayers" b_ML_sum 2 (some .int) (Cond.code y_ML_sum b_ML_sum 2 (some .int) :: BIG) rm_ML_sum 0 0 2 ∧ (Cond.static y_ML_sum).before args s = true ∧ True :=
  ⟨cN C (mb (by decide +kernel) rfl) (C.2.2.1 (.methodLinkNest "MaskLayers$Layers" 78 y_ML_sum "MaskLayers") (nwm (by decide +kernel) rfl)) m_ML_sum rfl rfl ⟨by decide, by decide, by decide +kernel⟩ hR, C.1.2.2.2.2 _ (mb (by decide +kernel) rfl), trivial⟩
end WC
