def BIG : List Cond := lw_tbl.filter goodWord
theorem mb {w : Cond} (h : w ∈ lw_tbl) (g : goodWord w = true) : w ∈ BIG := List.mem_filter.mpr ⟨h, g⟩
theorem big_good : ∀ w ∈ BIG, (w.onTables && w.keeps) = true ∨ ∃ ty, w = .arrayClass ty := fun _ h => good_of_word (List.mem_filter.mp h).2
def isNest : Cond → Bool
  | .fieldLinkNest .. => true
  | .methodLinkNest .. => true
  | _ => false
def NWL : List Cond := lw_tbl.filter isNest
def NW (U : State) : Prop := ∀ w ∈ NWL, va_Nw w U
theorem nwm {w : Cond} (h : w ∈ lw_tbl) (g : isNest w = true) : w ∈ NWL := List.mem_filter.mpr ⟨h, g⟩
theorem NW.moved {u U : State} (hW : u.WarmedH U.vm) (h : NW u) : NW U := fun w hw => by
  have hz := h w hw
  have hn := (List.mem_filter.mp hw).2
  cases w <;> first | (simp [isNest] at hn; done) | exact va_Nw.warmF hW hz | exact va_Nw.warmM hW hz
theorem NW.same {u U : State} (hvm : u.vm = U.vm) (h : NW u) : NW U := fun w hw => by
  have hz := h w hw
  have hn := (List.mem_filter.mp hw).2
  cases w <;> first | (simp [isNest] at hn; done) | exact va_Nw.same rfl hvm hz
def R0 : String := "MaskLayers$ByteRow"
def F0 : u_T := fun k => match k with
  | 0 => ("MaskLayers$ByteRow", "row", "[I", false)
  | _ => ("MaskLayers$ByteRow", "count", "I", false)
def ty0 : Nat → FieldType := fun k => match k with
  | 0 => .array .int
  | _ => .int
theorem nm0 : ∀ a, a < 2 → ∀ b, b < 2 → a ≠ b → (F0 a).2.1 ≠ (F0 b).2.1 := by decide +kernel
theorem tk0 : ∀ k, k < 2 → parseFieldDescriptor (F0 k).2.2.1 = some (ty0 k) := by decide +kernel
theorem in0 : ∀ w ∈ u_ws R0 F0 2, w ∈ BIG := fun w h => mb ((by decide +kernel : ∀ w ∈ u_ws R0 F0 2, w ∈ lw_tbl) w h) ((by decide +kernel : ∀ w ∈ u_ws R0 F0 2, goodWord w = true) w h)
def R1 : String := "MaskLayers$Layers"
def F1 : u_T := fun k => match k with
  | 0 => ("MaskLayers$Layers", "values", "[[I", true)
  | 1 => ("MaskLayers$Layers", "there", "[I", true)
  | 2 => ("MaskLayers$Layers", "scales", "[I", true)
  | 3 => ("MaskLayers$Layers", "columns", "[I", true)
  | 4 => ("MaskLayers$Layers", "width", "I", false)
  | 5 => ("MaskLayers$Layers", "height", "I", false)
  | 6 => ("MaskLayers$Layers", "step", "I", false)
  | _ => ("MaskLayers$Layers", "count", "I", false)
def ty1 : Nat → FieldType := fun k => match k with
  | 0 => .array (.array .int)
  | 1 => .array .int
  | 2 => .array .int
  | 3 => .array .int
  | 4 => .int
  | 5 => .int
  | 6 => .int
  | _ => .int
theorem nm1 : ∀ a, a < 8 → ∀ b, b < 8 → a ≠ b → (F1 a).2.1 ≠ (F1 b).2.1 := by decide +kernel
theorem tk1 : ∀ k, k < 8 → parseFieldDescriptor (F1 k).2.2.1 = some (ty1 k) := by decide +kernel
theorem in1 : ∀ w ∈ u_ws R1 F1 8, w ∈ BIG := fun w h => mb ((by decide +kernel : ∀ w ∈ u_ws R1 F1 8, w ∈ lw_tbl) w h) ((by decide +kernel : ∀ w ∈ u_ws R1 F1 8, goodWord w = true) w h)
def R2 : String := "MaskLayers$Maker"
def F2 : u_T := fun k => match k with
  | 0 => ("MaskLayers$Maker", "layers", "LMaskLayers$Layers;", true)
  | 1 => ("MaskLayers$Maker", "colours", "[I", true)
  | 2 => ("MaskLayers$Maker", "masked", "[I", true)
  | _ => ("MaskLayers$Maker", "bare", "[I", true)
def ty2 : Nat → FieldType := fun k => match k with
  | 0 => .object "MaskLayers$Layers"
  | 1 => .array .int
  | 2 => .array .int
  | _ => .array .int
theorem nm2 : ∀ a, a < 4 → ∀ b, b < 4 → a ≠ b → (F2 a).2.1 ≠ (F2 b).2.1 := by decide +kernel
theorem tk2 : ∀ k, k < 4 → parseFieldDescriptor (F2 k).2.2.1 = some (ty2 k) := by decide +kernel
theorem in2 : ∀ w ∈ u_ws R2 F2 4, w ∈ BIG := fun w h => mb ((by decide +kernel : ∀ w ∈ u_ws R2 F2 4, w ∈ lw_tbl) w h) ((by decide +kernel : ∀ w ∈ u_ws R2 F2 4, goodWord w = true) w h)
def R3 : String := "MaskLayers$Reader"
def F3 : u_T := fun k => match k with
  | 0 => ("MaskLayers$Reader", "bytes", "LMaskLayers$ByteRow;", true)
  | 1 => ("MaskLayers$Reader", "layers", "LMaskLayers$Layers;", true)
  | 2 => ("MaskLayers$Reader", "head", "[I", true)
  | 3 => ("MaskLayers$Reader", "place", "I", false)
  | _ => ("MaskLayers$Reader", "refusedAt", "I", false)
def ty3 : Nat → FieldType := fun k => match k with
  | 0 => .object "MaskLayers$ByteRow"
  | 1 => .object "MaskLayers$Layers"
  | 2 => .array .int
  | 3 => .int
  | _ => .int
theorem nm3 : ∀ a, a < 5 → ∀ b, b < 5 → a ≠ b → (F3 a).2.1 ≠ (F3 b).2.1 := by decide +kernel
theorem tk3 : ∀ k, k < 5 → parseFieldDescriptor (F3 k).2.2.1 = some (ty3 k) := by decide +kernel
theorem in3 : ∀ w ∈ u_ws R3 F3 5, w ∈ BIG := fun w h => mb ((by decide +kernel : ∀ w ∈ u_ws R3 F3 5, w ∈ lw_tbl) w h) ((by decide +kernel : ∀ w ∈ u_ws R3 F3 5, goodWord w = true) w h)
def R4 : String := "MaskLayers$Writer"
def F4 : u_T := fun k => match k with
  | 0 => ("MaskLayers$Writer", "layers", "LMaskLayers$Layers;", true)
  | _ => ("MaskLayers$Writer", "bytes", "LMaskLayers$ByteRow;", true)
def ty4 : Nat → FieldType := fun k => match k with
  | 0 => .object "MaskLayers$Layers"
  | _ => .object "MaskLayers$ByteRow"
theorem nm4 : ∀ a, a < 2 → ∀ b, b < 2 → a ≠ b → (F4 a).2.1 ≠ (F4 b).2.1 := by decide +kernel
theorem tk4 : ∀ k, k < 2 → parseFieldDescriptor (F4 k).2.2.1 = some (ty4 k) := by decide +kernel
theorem in4 : ∀ w ∈ u_ws R4 F4 2, w ∈ BIG := fun w h => mb ((by decide +kernel : ∀ w ∈ u_ws R4 F4 2, w ∈ lw_tbl) w h) ((by decide +kernel : ∀ w ∈ u_ws R4 F4 2, goodWord w = true) w h)
def R5 : String := "MaskLayers"
def F5 : u_T := fun k => match k with
  | 0 => ("MaskLayers", "width", "I", true)
  | 1 => ("MaskLayers", "height", "I", true)
  | 2 => ("MaskLayers", "colours", "[I", true)
  | 3 => ("MaskLayers", "masked", "[I", true)
  | 4 => ("MaskLayers", "made", "LMaskLayers$Layers;", true)
  | 5 => ("MaskLayers", "found", "LMaskLayers$Layers;", true)
  | 6 => ("MaskLayers", "written", "LMaskLayers$ByteRow;", true)
  | 7 => ("MaskLayers", "fed", "LMaskLayers$ByteRow;", true)
  | 8 => ("MaskLayers", "maker", "LMaskLayers$Maker;", true)
  | 9 => ("MaskLayers", "writer", "LMaskLayers$Writer;", true)
  | 10 => ("MaskLayers", "reader", "LMaskLayers$Reader;", true)
  | _ => ("MaskLayers", "step", "I", false)
def ty5 : Nat → FieldType := fun k => match k with
  | 0 => .int
  | 1 => .int
  | 2 => .array .int
  | 3 => .array .int
  | 4 => .object "MaskLayers$Layers"
  | 5 => .object "MaskLayers$Layers"
  | 6 => .object "MaskLayers$ByteRow"
  | 7 => .object "MaskLayers$ByteRow"
  | 8 => .object "MaskLayers$Maker"
  | 9 => .object "MaskLayers$Writer"
  | 10 => .object "MaskLayers$Reader"
  | _ => .int
theorem nm5 : ∀ a, a < 12 → ∀ b, b < 12 → a ≠ b → (F5 a).2.1 ≠ (F5 b).2.1 := by decide +kernel
theorem tk5 : ∀ k, k < 12 → parseFieldDescriptor (F5 k).2.2.1 = some (ty5 k) := by decide +kernel
theorem in5 : ∀ w ∈ u_ws R5 F5 12, w ∈ BIG := fun w h => mb ((by decide +kernel : ∀ w ∈ u_ws R5 F5 12, w ∈ lw_tbl) w h) ((by decide +kernel : ∀ w ∈ u_ws R5 F5 12, goodWord w = true) w h)
abbrev vwCl : List vw_C := [(R0, F0, 2), (R1, F1, 8), (R2, F2, 4), (R3, F3, 5), (R4, F4, 2), (R5, F5, 12)]
