def BIG : List Cond := lw_tbl.filter goodWord
theorem mb {w : Cond} (h : w ∈ lw_tbl) (g : goodWord w = true) : w ∈ BIG := List.mem_filter.mpr ⟨h, g⟩
theorem big_good : ∀ w ∈ BIG, (w.onTables && w.keeps) = true ∨ ∃ ty, w = .arrayClass ty := fun _ h => good_of_word (List.mem_filter.mp h).2
def isNest : Cond → Bool
  | .fieldLinkNest .. => true
  | .methodLinkNest .. => true
  | _ => false
def NWL : List Cond := lw_tbl.filter isNest
def NW (U : State) : Prop := ∀ w ∈ NWL, va_Nw w U
theorem nwm {w : Cond} (h : w ∈ lw_tbl) (g : isNest w = true) : w ∈ NWL := List.mem_filter.mpr ⟨h, g⟩
theorem NW.moved {u U : State} (hW : u.WarmedH U.vm) (h : NW u) : NW U := fun w hw => by
  have hz := h w hw
  have hn := (List.mem_filter.mp hw).2
  cases w <;> first | (simp [isNest] at hn; done) | exact va_Nw.warmF hW hz | exact va_Nw.warmM hW hz
theorem NW.same {u U : State} (hvm : u.vm = U.vm) (h : NW u) : NW U := fun w hw => by
  have hz := h w hw
  have hn := (List.mem_filter.mp hw).2
  cases w <;> first | (simp [isNest] at hn; done) | exact va_Nw.same rfl hvm hz
def cn0 : String := "MaskLayers$ByteRow"
def cf0 : u_T := fun k => match k with
  | 0 => ("MaskLayers$ByteRow", "row", "[I", false)
  | _ => ("MaskLayers$ByteRow", "count", "I", false)
def ct0 : Nat → FieldType := fun k => match k with
  | 0 => .array .int
  | _ => .int
theorem ce0 : ∀ a, a < 2 → ∀ b, b < 2 → a ≠ b → (cf0 a).2.1 ≠ (cf0 b).2.1 := by decide +kernel
theorem cg0 : ∀ k, k < 2 → parseFieldDescriptor (cf0 k).2.2.1 = some (ct0 k) := by decide +kernel
theorem ch0 : ∀ w ∈ u_ws cn0 cf0 2, w ∈ BIG := fun w h => mb ((by decide +kernel : ∀ w ∈ u_ws cn0 cf0 2, w ∈ lw_tbl) w h) ((by decide +kernel : ∀ w ∈ u_ws cn0 cf0 2, goodWord w = true) w h)
def cn1 : String := "MaskLayers$Layers"
def cf1 : u_T := fun k => match k with
  | 0 => ("MaskLayers$Layers", "values", "[[I", true)
  | 1 => ("MaskLayers$Layers", "there", "[I", true)
  | 2 => ("MaskLayers$Layers", "width", "I", false)
  | 3 => ("MaskLayers$Layers", "height", "I", false)
  | 4 => ("MaskLayers$Layers", "step", "I", false)
  | 5 => ("MaskLayers$Layers", "foreScale", "I", false)
  | 6 => ("MaskLayers$Layers", "backScale", "I", false)
  | _ => ("MaskLayers$Layers", "count", "I", false)
def ct1 : Nat → FieldType := fun k => match k with
  | 0 => .array (.array .int)
  | 1 => .array .int
  | 2 => .int
  | 3 => .int
  | 4 => .int
  | 5 => .int
  | 6 => .int
  | _ => .int
theorem ce1 : ∀ a, a < 8 → ∀ b, b < 8 → a ≠ b → (cf1 a).2.1 ≠ (cf1 b).2.1 := by decide +kernel
theorem cg1 : ∀ k, k < 8 → parseFieldDescriptor (cf1 k).2.2.1 = some (ct1 k) := by decide +kernel
theorem ch1 : ∀ w ∈ u_ws cn1 cf1 8, w ∈ BIG := fun w h => mb ((by decide +kernel : ∀ w ∈ u_ws cn1 cf1 8, w ∈ lw_tbl) w h) ((by decide +kernel : ∀ w ∈ u_ws cn1 cf1 8, goodWord w = true) w h)
def cn2 : String := "MaskLayers$Maker"
def cf2 : u_T := fun k => match k with
  | 0 => ("MaskLayers$Maker", "layers", "LMaskLayers$Layers;", true)
  | 1 => ("MaskLayers$Maker", "colours", "[I", true)
  | 2 => ("MaskLayers$Maker", "masked", "[I", true)
  | _ => ("MaskLayers$Maker", "bare", "[I", true)
def ct2 : Nat → FieldType := fun k => match k with
  | 0 => .object "MaskLayers$Layers"
  | 1 => .array .int
  | 2 => .array .int
  | _ => .array .int
theorem ce2 : ∀ a, a < 4 → ∀ b, b < 4 → a ≠ b → (cf2 a).2.1 ≠ (cf2 b).2.1 := by decide +kernel
theorem cg2 : ∀ k, k < 4 → parseFieldDescriptor (cf2 k).2.2.1 = some (ct2 k) := by decide +kernel
theorem ch2 : ∀ w ∈ u_ws cn2 cf2 4, w ∈ BIG := fun w h => mb ((by decide +kernel : ∀ w ∈ u_ws cn2 cf2 4, w ∈ lw_tbl) w h) ((by decide +kernel : ∀ w ∈ u_ws cn2 cf2 4, goodWord w = true) w h)
def cn3 : String := "MaskLayers$Reader"
def cf3 : u_T := fun k => match k with
  | 0 => ("MaskLayers$Reader", "bytes", "LMaskLayers$ByteRow;", true)
  | 1 => ("MaskLayers$Reader", "layers", "LMaskLayers$Layers;", true)
  | 2 => ("MaskLayers$Reader", "head", "[I", true)
  | 3 => ("MaskLayers$Reader", "place", "I", false)
  | _ => ("MaskLayers$Reader", "refusedAt", "I", false)
def ct3 : Nat → FieldType := fun k => match k with
  | 0 => .object "MaskLayers$ByteRow"
  | 1 => .object "MaskLayers$Layers"
  | 2 => .array .int
  | 3 => .int
  | _ => .int
theorem ce3 : ∀ a, a < 5 → ∀ b, b < 5 → a ≠ b → (cf3 a).2.1 ≠ (cf3 b).2.1 := by decide +kernel
theorem cg3 : ∀ k, k < 5 → parseFieldDescriptor (cf3 k).2.2.1 = some (ct3 k) := by decide +kernel
theorem ch3 : ∀ w ∈ u_ws cn3 cf3 5, w ∈ BIG := fun w h => mb ((by decide +kernel : ∀ w ∈ u_ws cn3 cf3 5, w ∈ lw_tbl) w h) ((by decide +kernel : ∀ w ∈ u_ws cn3 cf3 5, goodWord w = true) w h)
def cn4 : String := "MaskLayers$Writer"
def cf4 : u_T := fun k => match k with
  | 0 => ("MaskLayers$Writer", "layers", "LMaskLayers$Layers;", true)
  | _ => ("MaskLayers$Writer", "bytes", "LMaskLayers$ByteRow;", true)
def ct4 : Nat → FieldType := fun k => match k with
  | 0 => .object "MaskLayers$Layers"
  | _ => .object "MaskLayers$ByteRow"
theorem ce4 : ∀ a, a < 2 → ∀ b, b < 2 → a ≠ b → (cf4 a).2.1 ≠ (cf4 b).2.1 := by decide +kernel
theorem cg4 : ∀ k, k < 2 → parseFieldDescriptor (cf4 k).2.2.1 = some (ct4 k) := by decide +kernel
theorem ch4 : ∀ w ∈ u_ws cn4 cf4 2, w ∈ BIG := fun w h => mb ((by decide +kernel : ∀ w ∈ u_ws cn4 cf4 2, w ∈ lw_tbl) w h) ((by decide +kernel : ∀ w ∈ u_ws cn4 cf4 2, goodWord w = true) w h)
def cn5 : String := "MaskLayers"
def cf5 : u_T := fun k => match k with
  | 0 => ("MaskLayers", "width", "I", true)
  | 1 => ("MaskLayers", "height", "I", true)
  | 2 => ("MaskLayers", "colours", "[I", true)
  | 3 => ("MaskLayers", "masked", "[I", true)
  | 4 => ("MaskLayers", "made", "LMaskLayers$Layers;", true)
  | 5 => ("MaskLayers", "found", "LMaskLayers$Layers;", true)
  | 6 => ("MaskLayers", "written", "LMaskLayers$ByteRow;", true)
  | 7 => ("MaskLayers", "fed", "LMaskLayers$ByteRow;", true)
  | 8 => ("MaskLayers", "maker", "LMaskLayers$Maker;", true)
  | 9 => ("MaskLayers", "writer", "LMaskLayers$Writer;", true)
  | 10 => ("MaskLayers", "reader", "LMaskLayers$Reader;", true)
  | _ => ("MaskLayers", "step", "I", false)
def ct5 : Nat → FieldType := fun k => match k with
  | 0 => .int
  | 1 => .int
  | 2 => .array .int
  | 3 => .array .int
  | 4 => .object "MaskLayers$Layers"
  | 5 => .object "MaskLayers$Layers"
  | 6 => .object "MaskLayers$ByteRow"
  | 7 => .object "MaskLayers$ByteRow"
  | 8 => .object "MaskLayers$Maker"
  | 9 => .object "MaskLayers$Writer"
  | 10 => .object "MaskLayers$Reader"
  | _ => .int
theorem ce5 : ∀ a, a < 12 → ∀ b, b < 12 → a ≠ b → (cf5 a).2.1 ≠ (cf5 b).2.1 := by decide +kernel
theorem cg5 : ∀ k, k < 12 → parseFieldDescriptor (cf5 k).2.2.1 = some (ct5 k) := by decide +kernel
theorem ch5 : ∀ w ∈ u_ws cn5 cf5 12, w ∈ BIG := fun w h => mb ((by decide +kernel : ∀ w ∈ u_ws cn5 cf5 12, w ∈ lw_tbl) w h) ((by decide +kernel : ∀ w ∈ u_ws cn5 cf5 12, goodWord w = true) w h)
def cn6 : String := "MaskLayersModel"
def cf6 : u_T := fun k => match k with
  | 0 => ("MaskLayersModel", "thrown", "I", false)
  | 1 => ("MaskLayersModel", "width", "I", true)
  | 2 => ("MaskLayersModel", "height", "I", true)
  | 3 => ("MaskLayersModel", "step", "I", false)
  | 4 => ("MaskLayersModel", "colours", "[I", true)
  | 5 => ("MaskLayersModel", "masked", "[Z", true)
  | 6 => ("MaskLayersModel", "ran", "Z", false)
  | 7 => ("MaskLayersModel", "madeStep", "I", false)
  | 8 => ("MaskLayersModel", "madeFore", "I", false)
  | 9 => ("MaskLayersModel", "madeBack", "I", false)
  | 10 => ("MaskLayersModel", "madeCount", "I", false)
  | 11 => ("MaskLayersModel", "made", "[I", true)
  | 12 => ("MaskLayersModel", "fills", "[Z", true)
  | 13 => ("MaskLayersModel", "there", "[Z", true)
  | 14 => ("MaskLayersModel", "written", "[I", true)
  | 15 => ("MaskLayersModel", "writtenCount", "I", false)
  | 16 => ("MaskLayersModel", "fed", "[I", true)
  | 17 => ("MaskLayersModel", "fedCount", "I", false)
  | 18 => ("MaskLayersModel", "at", "I", false)
  | 19 => ("MaskLayersModel", "refused", "I", false)
  | 20 => ("MaskLayersModel", "values", "[I", true)
  | 21 => ("MaskLayersModel", "come", "[Z", true)
  | 22 => ("MaskLayersModel", "readWidth", "I", false)
  | 23 => ("MaskLayersModel", "readHeight", "I", false)
  | 24 => ("MaskLayersModel", "pages", "[I", true)
  | 25 => ("MaskLayersModel", "wide", "I", false)
  | 26 => ("MaskLayersModel", "top", "I", false)
  | 27 => ("MaskLayersModel", "rows", "I", false)
  | 28 => ("MaskLayersModel", "foreScale", "I", false)
  | _ => ("MaskLayersModel", "backScale", "I", false)
def ct6 : Nat → FieldType := fun k => match k with
  | 0 => .int
  | 1 => .int
  | 2 => .int
  | 3 => .int
  | 4 => .array .int
  | 5 => .array .boolean
  | 6 => .boolean
  | 7 => .int
  | 8 => .int
  | 9 => .int
  | 10 => .int
  | 11 => .array .int
  | 12 => .array .boolean
  | 13 => .array .boolean
  | 14 => .array .int
  | 15 => .int
  | 16 => .array .int
  | 17 => .int
  | 18 => .int
  | 19 => .int
  | 20 => .array .int
  | 21 => .array .boolean
  | 22 => .int
  | 23 => .int
  | 24 => .array .int
  | 25 => .int
  | 26 => .int
  | 27 => .int
  | 28 => .int
  | _ => .int
theorem ce6 : ∀ a, a < 30 → ∀ b, b < 30 → a ≠ b → (cf6 a).2.1 ≠ (cf6 b).2.1 := by decide +kernel
theorem cg6 : ∀ k, k < 30 → parseFieldDescriptor (cf6 k).2.2.1 = some (ct6 k) := by decide +kernel
theorem ch6 : ∀ w ∈ u_ws cn6 cf6 30, w ∈ BIG := fun w h => mb ((by decide +kernel : ∀ w ∈ u_ws cn6 cf6 30, w ∈ lw_tbl) w h) ((by decide +kernel : ∀ w ∈ u_ws cn6 cf6 30, goodWord w = true) w h)
abbrev vwCl : List vw_C := [(cn0, cf0, 2), (cn1, cf1, 8), (cn2, cf2, 4), (cn3, cf3, 5), (cn4, cf4, 2), (cn5, cf5, 12), (cn6, cf6, 30)]
