/-! names, words and tables of BlockPictureModel: printed by my program out of javap's listing and the words' places -/
def R_M : String := "BlockPictureModel"
def T_M : u_T := fun k => match k with
  | 0 => ("BlockPictureModel", "thrown", "I", false)
  | 1 => ("BlockPictureModel", "wide", "I", false)
  | 2 => ("BlockPictureModel", "high", "I", false)
  | 3 => ("BlockPictureModel", "planes", "I", false)
  | 4 => ("BlockPictureModel", "canvas", "[I", true)
  | 5 => ("BlockPictureModel", "entries", "[I", true)
  | 6 => ("BlockPictureModel", "tape", "[I", true)
  | 7 => ("BlockPictureModel", "taped", "I", false)
  | 8 => ("BlockPictureModel", "out", "[I", true)
  | 9 => ("BlockPictureModel", "many", "I", false)
  | 10 => ("BlockPictureModel", "place", "I", false)
  | 11 => ("BlockPictureModel", "there", "[Z", true)
  | 12 => ("BlockPictureModel", "widths", "[I", true)
  | 13 => ("BlockPictureModel", "heights", "[I", true)
  | 14 => ("BlockPictureModel", "layers", "[I", true)
  | 15 => ("BlockPictureModel", "across", "[I", true)
  | 16 => ("BlockPictureModel", "down", "[I", true)
  | 17 => ("BlockPictureModel", "gridWide", "[I", true)
  | 18 => ("BlockPictureModel", "gridHigh", "[I", true)
  | 19 => ("BlockPictureModel", "levels", "[I", true)
  | 20 => ("BlockPictureModel", "samples", "[I", true)
  | 21 => ("BlockPictureModel", "raster", "[I", true)
  | 22 => ("BlockPictureModel", "order", "[I", true)
  | 23 => ("BlockPictureModel", "waves", "[I", true)
  | 24 => ("BlockPictureModel", "half", "[J", true)
  | 25 => ("BlockPictureModel", "block", "[I", true)
  | 26 => ("BlockPictureModel", "often", "[I", true)
  | 27 => ("BlockPictureModel", "lengths", "[I", true)
  | 28 => ("BlockPictureModel", "codes", "[I", true)
  | 29 => ("BlockPictureModel", "weights", "[I", true)
  | 30 => ("BlockPictureModel", "made", "[I", true)
  | 31 => ("BlockPictureModel", "taken", "[I", true)
  | 32 => ("BlockPictureModel", "bit", "I", false)
  | 33 => ("BlockPictureModel", "gathered", "I", false)
  | 34 => ("BlockPictureModel", "at", "I", false)
  | 35 => ("BlockPictureModel", "fault", "I", false)
  | 36 => ("BlockPictureModel", "end", "I", false)
  | 37 => ("BlockPictureModel", "lengthAt", "I", false)
  | 38 => ("BlockPictureModel", "tables", "[I", true)
  | 39 => ("BlockPictureModel", "hasTable", "[Z", true)
  | 40 => ("BlockPictureModel", "counts", "[I", true)
  | 41 => ("BlockPictureModel", "symbols", "[I", true)
  | 42 => ("BlockPictureModel", "hasCode", "[Z", true)
  | 43 => ("BlockPictureModel", "framed", "Z", false)
  | 44 => ("BlockPictureModel", "names", "[I", true)
  | 45 => ("BlockPictureModel", "tableOf", "[I", true)
  | 46 => ("BlockPictureModel", "used", "[I", true)
  | 47 => ("BlockPictureModel", "scanned", "[Z", true)
  | 48 => ("BlockPictureModel", "interval", "I", false)
  | 49 => ("BlockPictureModel", "many0", "I", false)
  | 50 => ("BlockPictureModel", "scan", "[I", true)
  | 51 => ("BlockPictureModel", "startsOf", "[I", true)
  | 52 => ("BlockPictureModel", "restsOf", "[I", true)
  | 53 => ("BlockPictureModel", "starts", "[I", true)
  | 54 => ("BlockPictureModel", "left", "I", false)
  | 55 => ("BlockPictureModel", "byteNow", "I", false)
  | 56 => ("BlockPictureModel", "byteAt", "I", false)
  | _ => ("BlockPictureModel", "symbolAt", "I", false)
def y_M : Nat → FieldType := fun k => match k with
  | 0 => .int
  | 1 => .int
  | 2 => .int
  | 3 => .int
  | 4 => .array .int
  | 5 => .array .int
  | 6 => .array .int
  | 7 => .int
  | 8 => .array .int
  | 9 => .int
  | 10 => .int
  | 11 => .array .boolean
  | 12 => .array .int
  | 13 => .array .int
  | 14 => .array .int
  | 15 => .array .int
  | 16 => .array .int
  | 17 => .array .int
  | 18 => .array .int
  | 19 => .array .int
  | 20 => .array .int
  | 21 => .array .int
  | 22 => .array .int
  | 23 => .array .int
  | 24 => .array .long
  | 25 => .array .int
  | 26 => .array .int
  | 27 => .array .int
  | 28 => .array .int
  | 29 => .array .int
  | 30 => .array .int
  | 31 => .array .int
  | 32 => .int
  | 33 => .int
  | 34 => .int
  | 35 => .int
  | 36 => .int
  | 37 => .int
  | 38 => .array .int
  | 39 => .array .boolean
  | 40 => .array .int
  | 41 => .array .int
  | 42 => .array .boolean
  | 43 => .boolean
  | 44 => .array .int
  | 45 => .array .int
  | 46 => .array .int
  | 47 => .array .boolean
  | 48 => .int
  | 49 => .int
  | 50 => .array .int
  | 51 => .array .int
  | 52 => .array .int
  | 53 => .array .int
  | 54 => .int
  | 55 => .int
  | 56 => .int
  | _ => .int
def R_B : String := "BlockPicture"
def T_B : u_T := fun k => match k with
  | 0 => ("BlockPicture", "canvas", "LBlockPicture$Canvas;", true)
  | 1 => ("BlockPicture", "tables", "[I", true)
  | 2 => ("BlockPicture", "packer", "LBlockPicture$Packer;", true)
  | 3 => ("BlockPicture", "unpacker", "LBlockPicture$Unpacker;", true)
  | 4 => ("BlockPicture", "out", "LBlockPicture$Row;", true)
  | 5 => ("BlockPicture", "waves", "LBlockPicture$Waves;", true)
  | 6 => ("BlockPicture", "tape", "LBlockPicture$Row;", true)
  | 7 => ("BlockPicture", "picture", "LBlockPicture$Picture;", false)
  | _ => ("BlockPicture", "place", "I", false)
def y_B : Nat → FieldType := fun k => match k with
  | 0 => .object "BlockPicture$Canvas"
  | 1 => .array (.int)
  | 2 => .object "BlockPicture$Packer"
  | 3 => .object "BlockPicture$Unpacker"
  | 4 => .object "BlockPicture$Row"
  | 5 => .object "BlockPicture$Waves"
  | 6 => .object "BlockPicture$Row"
  | 7 => .object "BlockPicture$Picture"
  | _ => .int
theorem g_nm_B : ∀ a, a < 9 → ∀ b, b < 9 → a ≠ b → (T_B a).2.1 ≠ (T_B b).2.1 := by decide +kernel
theorem g_ty_B : ∀ k, k < 9 → parseFieldDescriptor (T_B k).2.2.1 = some (y_B k) := by decide +kernel
theorem g_in_B : ∀ w ∈ u_ws R_B T_B 9, w ∈ lw_tbl := by
  intro w hw
  obtain ⟨k, hk, rfl⟩ := List.mem_map.mp hw
  have h : ∀ k : Fin 9, (tables_1.contains (u_lay R_B T_B k.val)) = true := by decide +kernel
  exact List.mem_append_right _ (List.contains_iff_mem.mp (h ⟨k, List.mem_range.mp hk⟩))
def R_Ca : String := "BlockPicture$Canvas"
def T_Ca : u_T := fun k => match k with
  | 0 => ("BlockPicture$Canvas", "width", "I", false)
  | 1 => ("BlockPicture$Canvas", "height", "I", false)
  | 2 => ("BlockPicture$Canvas", "planes", "I", false)
  | _ => ("BlockPicture$Canvas", "samples", "[I", true)
def y_Ca : Nat → FieldType := fun k => match k with
  | 0 => .int
  | 1 => .int
  | 2 => .int
  | _ => .array (.int)
theorem g_nm_Ca : ∀ a, a < 4 → ∀ b, b < 4 → a ≠ b → (T_Ca a).2.1 ≠ (T_Ca b).2.1 := by decide +kernel
theorem g_ty_Ca : ∀ k, k < 4 → parseFieldDescriptor (T_Ca k).2.2.1 = some (y_Ca k) := by decide +kernel
theorem g_in_Ca : ∀ w ∈ u_ws R_Ca T_Ca 4, w ∈ lw_tbl := by
  intro w hw
  obtain ⟨k, hk, rfl⟩ := List.mem_map.mp hw
  have h : ∀ k : Fin 4, (tables_1.contains (u_lay R_Ca T_Ca k.val)) = true := by decide +kernel
  exact List.mem_append_right _ (List.contains_iff_mem.mp (h ⟨k, List.mem_range.mp hk⟩))
def R_Co : String := "BlockPicture$Codes"
def T_Co : u_T := fun k => match k with
  | 0 => ("BlockPicture$Codes", "told", "Z", false)
  | 1 => ("BlockPicture$Codes", "counts", "[I", true)
  | 2 => ("BlockPicture$Codes", "firstCodes", "[I", true)
  | 3 => ("BlockPicture$Codes", "firstSymbols", "[I", true)
  | 4 => ("BlockPicture$Codes", "symbols", "[I", true)
  | _ => ("BlockPicture$Codes", "size", "I", false)
def y_Co : Nat → FieldType := fun k => match k with
  | 0 => .boolean
  | 1 => .array (.int)
  | 2 => .array (.int)
  | 3 => .array (.int)
  | 4 => .array (.int)
  | _ => .int
theorem g_nm_Co : ∀ a, a < 6 → ∀ b, b < 6 → a ≠ b → (T_Co a).2.1 ≠ (T_Co b).2.1 := by decide +kernel
theorem g_ty_Co : ∀ k, k < 6 → parseFieldDescriptor (T_Co k).2.2.1 = some (y_Co k) := by decide +kernel
theorem g_in_Co : ∀ w ∈ u_ws R_Co T_Co 6, w ∈ lw_tbl := by
  intro w hw
  obtain ⟨k, hk, rfl⟩ := List.mem_map.mp hw
  have h : ∀ k : Fin 6, (tables_1.contains (u_lay R_Co T_Co k.val)) = true := by decide +kernel
  exact List.mem_append_right _ (List.contains_iff_mem.mp (h ⟨k, List.mem_range.mp hk⟩))
def R_Li : String := "BlockPicture$Lines"
def T_Li : u_T := fun k => match k with
  | 0 => ("BlockPicture$Lines", "symbols", "[I", true)
  | 1 => ("BlockPicture$Lines", "count", "I", false)
  | 2 => ("BlockPicture$Lines", "twos", "[Z", true)
  | 3 => ("BlockPicture$Lines", "latest", "[I", false)
  | _ => ("BlockPicture$Lines", "next", "[I", false)
def y_Li : Nat → FieldType := fun k => match k with
  | 0 => .array (.int)
  | 1 => .int
  | 2 => .array (.boolean)
  | 3 => .array (.int)
  | _ => .array (.int)
theorem g_nm_Li : ∀ a, a < 5 → ∀ b, b < 5 → a ≠ b → (T_Li a).2.1 ≠ (T_Li b).2.1 := by decide +kernel
theorem g_ty_Li : ∀ k, k < 5 → parseFieldDescriptor (T_Li k).2.2.1 = some (y_Li k) := by decide +kernel
theorem g_in_Li : ∀ w ∈ u_ws R_Li T_Li 5, w ∈ lw_tbl := by
  intro w hw
  obtain ⟨k, hk, rfl⟩ := List.mem_map.mp hw
  have h : ∀ k : Fin 5, (tables_1.contains (u_lay R_Li T_Li k.val)) = true := by decide +kernel
  exact List.mem_append_right _ (List.contains_iff_mem.mp (h ⟨k, List.mem_range.mp hk⟩))
def R_Oc : String := "BlockPicture$OwnCodes"
def T_Oc : u_T := fun k => match k with
  | 0 => ("BlockPicture$OwnCodes", "often", "[I", true)
  | 1 => ("BlockPicture$OwnCodes", "lengths", "[I", true)
  | 2 => ("BlockPicture$OwnCodes", "codes", "[I", true)
  | 3 => ("BlockPicture$OwnCodes", "order", "[I", true)
  | 4 => ("BlockPicture$OwnCodes", "size", "I", false)
  | _ => ("BlockPicture$OwnCodes", "counts", "[I", true)
def y_Oc : Nat → FieldType := fun k => match k with
  | 0 => .array (.int)
  | 1 => .array (.int)
  | 2 => .array (.int)
  | 3 => .array (.int)
  | 4 => .int
  | _ => .array (.int)
theorem g_nm_Oc : ∀ a, a < 6 → ∀ b, b < 6 → a ≠ b → (T_Oc a).2.1 ≠ (T_Oc b).2.1 := by decide +kernel
theorem g_ty_Oc : ∀ k, k < 6 → parseFieldDescriptor (T_Oc k).2.2.1 = some (y_Oc k) := by decide +kernel
theorem g_in_Oc : ∀ w ∈ u_ws R_Oc T_Oc 6, w ∈ lw_tbl := by
  intro w hw
  obtain ⟨k, hk, rfl⟩ := List.mem_map.mp hw
  have h : ∀ k : Fin 6, (tables_1.contains (u_lay R_Oc T_Oc k.val)) = true := by decide +kernel
  exact List.mem_append_right _ (List.contains_iff_mem.mp (h ⟨k, List.mem_range.mp hk⟩))
def R_Pa : String := "BlockPicture$Packer"
def T_Pa : u_T := fun k => match k with
  | 0 => ("BlockPicture$Packer", "out", "LBlockPicture$Row;", true)
  | 1 => ("BlockPicture$Packer", "waves", "LBlockPicture$Waves;", true)
  | 2 => ("BlockPicture$Packer", "packed", "LBlockPicture$Picture;", true)
  | 3 => ("BlockPicture$Packer", "scan", "LBlockPicture$Scan;", true)
  | 4 => ("BlockPicture$Packer", "lines", "LBlockPicture$Lines;", true)
  | 5 => ("BlockPicture$Packer", "starts", "[LBlockPicture$OwnCodes;", true)
  | 6 => ("BlockPicture$Packer", "rests", "[LBlockPicture$OwnCodes;", true)
  | 7 => ("BlockPicture$Packer", "before", "[I", true)
  | 8 => ("BlockPicture$Packer", "kinds", "I", false)
  | 9 => ("BlockPicture$Packer", "counting", "Z", false)
  | 10 => ("BlockPicture$Packer", "held", "I", false)
  | _ => ("BlockPicture$Packer", "heldBits", "I", false)
def y_Pa : Nat → FieldType := fun k => match k with
  | 0 => .object "BlockPicture$Row"
  | 1 => .object "BlockPicture$Waves"
  | 2 => .object "BlockPicture$Picture"
  | 3 => .object "BlockPicture$Scan"
  | 4 => .object "BlockPicture$Lines"
  | 5 => .array (.object "BlockPicture$OwnCodes")
  | 6 => .array (.object "BlockPicture$OwnCodes")
  | 7 => .array (.int)
  | 8 => .int
  | 9 => .boolean
  | 10 => .int
  | _ => .int
theorem g_nm_Pa : ∀ a, a < 12 → ∀ b, b < 12 → a ≠ b → (T_Pa a).2.1 ≠ (T_Pa b).2.1 := by decide +kernel
theorem g_ty_Pa : ∀ k, k < 12 → parseFieldDescriptor (T_Pa k).2.2.1 = some (y_Pa k) := by decide +kernel
theorem g_in_Pa : ∀ w ∈ u_ws R_Pa T_Pa 12, w ∈ lw_tbl := by
  intro w hw
  obtain ⟨k, hk, rfl⟩ := List.mem_map.mp hw
  have h : ∀ k : Fin 12, (tables_1.contains (u_lay R_Pa T_Pa k.val)) = true := by decide +kernel
  exact List.mem_append_right _ (List.contains_iff_mem.mp (h ⟨k, List.mem_range.mp hk⟩))
def R_Pi : String := "BlockPicture$Picture"
def T_Pi : u_T := fun k => match k with
  | 0 => ("BlockPicture$Picture", "width", "I", false)
  | 1 => ("BlockPicture$Picture", "height", "I", false)
  | 2 => ("BlockPicture$Picture", "layers", "I", false)
  | 3 => ("BlockPicture$Picture", "across", "[I", true)
  | 4 => ("BlockPicture$Picture", "down", "[I", true)
  | 5 => ("BlockPicture$Picture", "mostAcross", "I", false)
  | 6 => ("BlockPicture$Picture", "mostDown", "I", false)
  | 7 => ("BlockPicture$Picture", "stretchesAcross", "I", false)
  | 8 => ("BlockPicture$Picture", "stretchesDown", "I", false)
  | 9 => ("BlockPicture$Picture", "wide", "[I", true)
  | 10 => ("BlockPicture$Picture", "high", "[I", true)
  | 11 => ("BlockPicture$Picture", "gridWide", "[I", true)
  | 12 => ("BlockPicture$Picture", "blocks", "[I", true)
  | 13 => ("BlockPicture$Picture", "levels", "[I", true)
  | 14 => ("BlockPicture$Picture", "entries", "[I", true)
  | 15 => ("BlockPicture$Picture", "samples", "[I", true)
  | 16 => ("BlockPicture$Picture", "drawn", "Z", false)
  | _ => ("BlockPicture$Picture", "told", "Z", false)
def y_Pi : Nat → FieldType := fun k => match k with
  | 0 => .int
  | 1 => .int
  | 2 => .int
  | 3 => .array (.int)
  | 4 => .array (.int)
  | 5 => .int
  | 6 => .int
  | 7 => .int
  | 8 => .int
  | 9 => .array (.int)
  | 10 => .array (.int)
  | 11 => .array (.int)
  | 12 => .array (.int)
  | 13 => .array (.int)
  | 14 => .array (.int)
  | 15 => .array (.int)
  | 16 => .boolean
  | _ => .boolean
theorem g_nm_Pi : ∀ a, a < 18 → ∀ b, b < 18 → a ≠ b → (T_Pi a).2.1 ≠ (T_Pi b).2.1 := by decide +kernel
theorem g_ty_Pi : ∀ k, k < 18 → parseFieldDescriptor (T_Pi k).2.2.1 = some (y_Pi k) := by decide +kernel
theorem g_in_Pi : ∀ w ∈ u_ws R_Pi T_Pi 18, w ∈ lw_tbl := by
  intro w hw
  obtain ⟨k, hk, rfl⟩ := List.mem_map.mp hw
  have h : ∀ k : Fin 18, (tables_1.contains (u_lay R_Pi T_Pi k.val)) = true := by decide +kernel
  exact List.mem_append_right _ (List.contains_iff_mem.mp (h ⟨k, List.mem_range.mp hk⟩))
def R_Re : String := "BlockPicture$Reader"
def T_Re : u_T := fun k => match k with
  | 0 => ("BlockPicture$Reader", "tape", "LBlockPicture$Row;", true)
  | 1 => ("BlockPicture$Reader", "at", "I", false)
  | 2 => ("BlockPicture$Reader", "held", "I", false)
  | 3 => ("BlockPicture$Reader", "heldAt", "I", false)
  | 4 => ("BlockPicture$Reader", "bitsLeft", "I", false)
  | 5 => ("BlockPicture$Reader", "symbolAt", "I", false)
  | 6 => ("BlockPicture$Reader", "fault", "I", false)
  | _ => ("BlockPicture$Reader", "place", "I", false)
def y_Re : Nat → FieldType := fun k => match k with
  | 0 => .object "BlockPicture$Row"
  | 1 => .int
  | 2 => .int
  | 3 => .int
  | 4 => .int
  | 5 => .int
  | 6 => .int
  | _ => .int
theorem g_nm_Re : ∀ a, a < 8 → ∀ b, b < 8 → a ≠ b → (T_Re a).2.1 ≠ (T_Re b).2.1 := by decide +kernel
theorem g_ty_Re : ∀ k, k < 8 → parseFieldDescriptor (T_Re k).2.2.1 = some (y_Re k) := by decide +kernel
theorem g_in_Re : ∀ w ∈ u_ws R_Re T_Re 8, w ∈ lw_tbl := by
  intro w hw
  obtain ⟨k, hk, rfl⟩ := List.mem_map.mp hw
  have h : ∀ k : Fin 8, (tables_1.contains (u_lay R_Re T_Re k.val)) = true := by decide +kernel
  exact List.mem_append_right _ (List.contains_iff_mem.mp (h ⟨k, List.mem_range.mp hk⟩))
def R_Ro : String := "BlockPicture$Row"
def T_Ro : u_T := fun k => match k with
  | 0 => ("BlockPicture$Row", "bytes", "[I", true)
  | _ => ("BlockPicture$Row", "size", "I", false)
def y_Ro : Nat → FieldType := fun k => match k with
  | 0 => .array (.int)
  | _ => .int
theorem g_nm_Ro : ∀ a, a < 2 → ∀ b, b < 2 → a ≠ b → (T_Ro a).2.1 ≠ (T_Ro b).2.1 := by decide +kernel
theorem g_ty_Ro : ∀ k, k < 2 → parseFieldDescriptor (T_Ro k).2.2.1 = some (y_Ro k) := by decide +kernel
theorem g_in_Ro : ∀ w ∈ u_ws R_Ro T_Ro 2, w ∈ lw_tbl := by
  intro w hw
  obtain ⟨k, hk, rfl⟩ := List.mem_map.mp hw
  have h : ∀ k : Fin 2, (tables_1.contains (u_lay R_Ro T_Ro k.val)) = true := by decide +kernel
  exact List.mem_append_right _ (List.contains_iff_mem.mp (h ⟨k, List.mem_range.mp hk⟩))
def R_Sc : String := "BlockPicture$Scan"
def T_Sc : u_T := fun k => match k with
  | 0 => ("BlockPicture$Scan", "layers", "I", false)
  | 1 => ("BlockPicture$Scan", "layer", "[I", true)
  | 2 => ("BlockPicture$Scan", "starts", "[I", true)
  | 3 => ("BlockPicture$Scan", "rests", "[I", true)
  | 4 => ("BlockPicture$Scan", "units", "I", false)
  | 5 => ("BlockPicture$Scan", "perUnit", "I", false)
  | 6 => ("BlockPicture$Scan", "blocks", "I", false)
  | _ => ("BlockPicture$Scan", "order", "[I", true)
def y_Sc : Nat → FieldType := fun k => match k with
  | 0 => .int
  | 1 => .array (.int)
  | 2 => .array (.int)
  | 3 => .array (.int)
  | 4 => .int
  | 5 => .int
  | 6 => .int
  | _ => .array (.int)
theorem g_nm_Sc : ∀ a, a < 8 → ∀ b, b < 8 → a ≠ b → (T_Sc a).2.1 ≠ (T_Sc b).2.1 := by decide +kernel
theorem g_ty_Sc : ∀ k, k < 8 → parseFieldDescriptor (T_Sc k).2.2.1 = some (y_Sc k) := by decide +kernel
theorem g_in_Sc : ∀ w ∈ u_ws R_Sc T_Sc 8, w ∈ lw_tbl := by
  intro w hw
  obtain ⟨k, hk, rfl⟩ := List.mem_map.mp hw
  have h : ∀ k : Fin 8, (tables_1.contains (u_lay R_Sc T_Sc k.val)) = true := by decide +kernel
  exact List.mem_append_right _ (List.contains_iff_mem.mp (h ⟨k, List.mem_range.mp hk⟩))
def R_Un : String := "BlockPicture$Unpacker"
def T_Un : u_T := fun k => match k with
  | 0 => ("BlockPicture$Unpacker", "reader", "LBlockPicture$Reader;", true)
  | 1 => ("BlockPicture$Unpacker", "made", "LBlockPicture$Picture;", false)
  | 2 => ("BlockPicture$Unpacker", "scan", "LBlockPicture$Scan;", true)
  | 3 => ("BlockPicture$Unpacker", "tables", "[I", true)
  | 4 => ("BlockPicture$Unpacker", "tableTold", "[Z", true)
  | 5 => ("BlockPicture$Unpacker", "codes", "[LBlockPicture$Codes;", true)
  | 6 => ("BlockPicture$Unpacker", "framed", "Z", false)
  | 7 => ("BlockPicture$Unpacker", "names", "[I", true)
  | 8 => ("BlockPicture$Unpacker", "tableOf", "[I", true)
  | 9 => ("BlockPicture$Unpacker", "scanned", "[Z", true)
  | 10 => ("BlockPicture$Unpacker", "before", "[I", true)
  | 11 => ("BlockPicture$Unpacker", "interval", "I", false)
  | 12 => ("BlockPicture$Unpacker", "lengthAt", "I", false)
  | _ => ("BlockPicture$Unpacker", "length", "I", false)
def y_Un : Nat → FieldType := fun k => match k with
  | 0 => .object "BlockPicture$Reader"
  | 1 => .object "BlockPicture$Picture"
  | 2 => .object "BlockPicture$Scan"
  | 3 => .array (.int)
  | 4 => .array (.boolean)
  | 5 => .array (.object "BlockPicture$Codes")
  | 6 => .boolean
  | 7 => .array (.int)
  | 8 => .array (.int)
  | 9 => .array (.boolean)
  | 10 => .array (.int)
  | 11 => .int
  | 12 => .int
  | _ => .int
theorem g_nm_Un : ∀ a, a < 14 → ∀ b, b < 14 → a ≠ b → (T_Un a).2.1 ≠ (T_Un b).2.1 := by decide +kernel
theorem g_ty_Un : ∀ k, k < 14 → parseFieldDescriptor (T_Un k).2.2.1 = some (y_Un k) := by decide +kernel
theorem g_in_Un : ∀ w ∈ u_ws R_Un T_Un 14, w ∈ lw_tbl := by
  intro w hw
  obtain ⟨k, hk, rfl⟩ := List.mem_map.mp hw
  have h : ∀ k : Fin 14, (tables_1.contains (u_lay R_Un T_Un k.val)) = true := by decide +kernel
  exact List.mem_append_right _ (List.contains_iff_mem.mp (h ⟨k, List.mem_range.mp hk⟩))
def R_Wa : String := "BlockPicture$Waves"
def T_Wa : u_T := fun k => match k with
  | 0 => ("BlockPicture$Waves", "waves", "[I", true)
  | 1 => ("BlockPicture$Waves", "samples", "[I", true)
  | 2 => ("BlockPicture$Waves", "weights", "[I", true)
  | _ => ("BlockPicture$Waves", "halfway", "[J", true)
def y_Wa : Nat → FieldType := fun k => match k with
  | 0 => .array (.int)
  | 1 => .array (.int)
  | 2 => .array (.int)
  | _ => .array (.long)
theorem g_nm_Wa : ∀ a, a < 4 → ∀ b, b < 4 → a ≠ b → (T_Wa a).2.1 ≠ (T_Wa b).2.1 := by decide +kernel
theorem g_ty_Wa : ∀ k, k < 4 → parseFieldDescriptor (T_Wa k).2.2.1 = some (y_Wa k) := by decide +kernel
theorem g_in_Wa : ∀ w ∈ u_ws R_Wa T_Wa 4, w ∈ lw_tbl := by
  intro w hw
  obtain ⟨k, hk, rfl⟩ := List.mem_map.mp hw
  have h : ∀ k : Fin 4, (tables_1.contains (u_lay R_Wa T_Wa k.val)) = true := by decide +kernel
  exact List.mem_append_right _ (List.contains_iff_mem.mp (h ⟨k, List.mem_range.mp hk⟩))
def T_E : u_T := fun _ => ("", "", "", false)
def lt_C : Nat → fl := fun c => match c with
  | 1 => [(5, 0), (5, 0), (5, 0), (5, 0), (5, 0), (5, 0), (5, 0), (5, 0), (0, 0)]
  | 2 => [(0, 0), (0, 0), (0, 0), (5, 0)]
  | 3 => [(1, 0), (5, 0), (5, 0), (5, 0), (5, 0), (0, 0)]
  | 4 => [(5, 0), (0, 0), (5, 0), (5, 0), (5, 0)]
  | 5 => [(5, 0), (5, 0), (5, 0), (5, 0), (0, 0), (5, 0)]
  | 6 => [(5, 0), (5, 0), (5, 0), (5, 0), (5, 0), (5, 0), (5, 0), (5, 0), (0, 0), (1, 0), (0, 0), (0, 0)]
  | 7 => [(0, 0), (0, 0), (0, 0), (5, 0), (5, 0), (0, 0), (0, 0), (0, 0), (0, 0), (5, 0), (5, 0), (5, 0), (5, 0), (5, 0), (5, 0), (5, 0), (1, 0), (1, 0)]
  | 8 => [(5, 0), (0, 0), (0, 0), (0, 0), (0, 0), (0, 0), (0, 0), (0, 0)]
  | 9 => [(5, 0), (0, 0)]
  | 10 => [(0, 0), (5, 0), (5, 0), (5, 0), (0, 0), (0, 0), (0, 0), (5, 0)]
  | 11 => [(5, 0), (5, 0), (5, 0), (5, 0), (5, 0), (5, 0), (1, 0), (5, 0), (5, 0), (5, 0), (5, 0), (0, 0), (0, 0), (0, 0)]
  | 12 => [(5, 0), (5, 0), (5, 0), (5, 0)]
  | _ => []
def g_cl : List vw_C := [(R_M, T_M, 58), (R_B, T_B, 9), (R_Ca, T_Ca, 4), (R_Co, T_Co, 6), (R_Li, T_Li, 5), (R_Oc, T_Oc, 6), (R_Pa, T_Pa, 12), (R_Pi, T_Pi, 18), (R_Re, T_Re, 8), (R_Ro, T_Ro, 2), (R_Sc, T_Sc, 8), (R_Un, T_Un, 14), (R_Wa, T_Wa, 4), ("java/lang/IllegalStateException", T_E, 0), ("java/lang/IllegalArgumentException", T_E, 0), ("java/lang/IndexOutOfBoundsException", T_E, 0)]
/-- which of the three exceptions is none of another: out of the launch -/
def ex_not : List Cond := [.not (.castable "java/lang/IllegalStateException" "java/lang/IllegalArgumentException"), .not (.castable "java/lang/IllegalStateException" "java/lang/IndexOutOfBoundsException"), .not (.castable "java/lang/IllegalArgumentException" "java/lang/IllegalStateException"), .not (.castable "java/lang/IllegalArgumentException" "java/lang/IndexOutOfBoundsException"), .not (.castable "java/lang/IndexOutOfBoundsException" "java/lang/IllegalStateException"), .not (.castable "java/lang/IndexOutOfBoundsException" "java/lang/IllegalArgumentException")]
def gG : List Cond × List vw_C := (ex_not ++ lw_tbl, g_cl)
theorem g_nm : ∀ a, a < 58 → ∀ b, b < 58 → a ≠ b → (T_M a).2.1 ≠ (T_M b).2.1 := by decide +kernel
theorem g_ty : ∀ k, k < 58 → parseFieldDescriptor (T_M k).2.2.1 = some (y_M k) := by decide +kernel
theorem g_in : ∀ w ∈ u_ws R_M T_M 58, w ∈ lw_tbl := by
  intro w hw
  obtain ⟨k, hk, rfl⟩ := List.mem_map.mp hw
  have h : ∀ k : Fin 58, (tables_1.contains (u_lay R_M T_M k.val)) = true := by decide +kernel
  exact List.mem_append_right _ (List.contains_iff_mem.mp (h ⟨k, List.mem_range.mp hk⟩))
theorem g_ok : gok gG := by
  intro ci q hq
  match ci, hq with
  | 0, hq => cases hq; exact ⟨fun w hw => List.mem_append_right _ (g_in w hw), g_nm, y_M, g_ty⟩
  | 1, hq => cases hq; exact ⟨fun w hw => List.mem_append_right _ (g_in_B w hw), g_nm_B, y_B, g_ty_B⟩
  | 2, hq => cases hq; exact ⟨fun w hw => List.mem_append_right _ (g_in_Ca w hw), g_nm_Ca, y_Ca, g_ty_Ca⟩
  | 3, hq => cases hq; exact ⟨fun w hw => List.mem_append_right _ (g_in_Co w hw), g_nm_Co, y_Co, g_ty_Co⟩
  | 4, hq => cases hq; exact ⟨fun w hw => List.mem_append_right _ (g_in_Li w hw), g_nm_Li, y_Li, g_ty_Li⟩
  | 5, hq => cases hq; exact ⟨fun w hw => List.mem_append_right _ (g_in_Oc w hw), g_nm_Oc, y_Oc, g_ty_Oc⟩
  | 6, hq => cases hq; exact ⟨fun w hw => List.mem_append_right _ (g_in_Pa w hw), g_nm_Pa, y_Pa, g_ty_Pa⟩
  | 7, hq => cases hq; exact ⟨fun w hw => List.mem_append_right _ (g_in_Pi w hw), g_nm_Pi, y_Pi, g_ty_Pi⟩
  | 8, hq => cases hq; exact ⟨fun w hw => List.mem_append_right _ (g_in_Re w hw), g_nm_Re, y_Re, g_ty_Re⟩
  | 9, hq => cases hq; exact ⟨fun w hw => List.mem_append_right _ (g_in_Ro w hw), g_nm_Ro, y_Ro, g_ty_Ro⟩
  | 10, hq => cases hq; exact ⟨fun w hw => List.mem_append_right _ (g_in_Sc w hw), g_nm_Sc, y_Sc, g_ty_Sc⟩
  | 11, hq => cases hq; exact ⟨fun w hw => List.mem_append_right _ (g_in_Un w hw), g_nm_Un, y_Un, g_ty_Un⟩
  | 12, hq => cases hq; exact ⟨fun w hw => List.mem_append_right _ (g_in_Wa w hw), g_nm_Wa, y_Wa, g_ty_Wa⟩
  | 13, hq => cases hq; exact ⟨(fun w hw => absurd hw List.not_mem_nil), (fun a h => absurd h (Nat.not_lt_zero _)), (fun _ => FieldType.int), (fun k h => absurd h (Nat.not_lt_zero _))⟩
  | 14, hq => cases hq; exact ⟨(fun w hw => absurd hw List.not_mem_nil), (fun a h => absurd h (Nat.not_lt_zero _)), (fun _ => FieldType.int), (fun k h => absurd h (Nat.not_lt_zero _))⟩
  | 15, hq => cases hq; exact ⟨(fun w hw => absurd hw List.not_mem_nil), (fun a h => absurd h (Nat.not_lt_zero _)), (fun _ => FieldType.int), (fun k h => absurd h (Nat.not_lt_zero _))⟩
  | n + 16, hq => simp [gG, g_cl] at hq
set_option maxRecDepth 100000 in
theorem f_M_7 : Cond.fieldLink R_M 7 "BlockPictureModel" "wide" "I" ∈ gG.1 := List.mem_append_right _ (List.mem_append_right _ (List.mem_append_right _ (List.mem_append_right _ (List.mem_append_right _ (List.mem_append_right _ (List.mem_append_right _ (List.mem_append_left _ (List.mem_of_getElem? (i := 224) rfl))))))))
set_option maxRecDepth 100000 in
theorem f_M_13 : Cond.fieldLink R_M 13 "BlockPictureModel" "high" "I" ∈ gG.1 := List.mem_append_right _ (List.mem_append_right _ (List.mem_append_right _ (List.mem_append_right _ (List.mem_append_right _ (List.mem_append_right _ (List.mem_append_right _ (List.mem_append_left _ (List.mem_of_getElem? (i := 225) rfl))))))))
set_option maxRecDepth 100000 in
theorem f_M_16 : Cond.fieldLink R_M 16 "BlockPictureModel" "planes" "I" ∈ gG.1 := List.mem_append_right _ (List.mem_append_right _ (List.mem_append_right _ (List.mem_append_right _ (List.mem_append_right _ (List.mem_append_right _ (List.mem_append_right _ (List.mem_append_left _ (List.mem_of_getElem? (i := 226) rfl))))))))
set_option maxRecDepth 100000 in
theorem f_M_19 : Cond.fieldLink R_M 19 "BlockPictureModel" "canvas" "[I" ∈ gG.1 := List.mem_append_right _ (List.mem_append_right _ (List.mem_append_right _ (List.mem_append_right _ (List.mem_append_right _ (List.mem_append_right _ (List.mem_append_right _ (List.mem_append_left _ (List.mem_of_getElem? (i := 227) rfl))))))))
set_option maxRecDepth 100000 in
theorem f_M_23 : Cond.fieldLink R_M 23 "BlockPictureModel" "entries" "[I" ∈ gG.1 := List.mem_append_right _ (List.mem_append_right _ (List.mem_append_right _ (List.mem_append_right _ (List.mem_append_right _ (List.mem_append_right _ (List.mem_append_right _ (List.mem_append_left _ (List.mem_of_getElem? (i := 228) rfl))))))))
set_option maxRecDepth 100000 in
theorem f_M_27 : Cond.fieldLink R_M 27 "BlockPictureModel" "tape" "[I" ∈ gG.1 := List.mem_append_right _ (List.mem_append_right _ (List.mem_append_right _ (List.mem_append_right _ (List.mem_append_right _ (List.mem_append_right _ (List.mem_append_right _ (List.mem_append_left _ (List.mem_of_getElem? (i := 229) rfl))))))))
set_option maxRecDepth 100000 in
theorem f_M_31 : Cond.fieldLink R_M 31 "BlockPictureModel" "out" "[I" ∈ gG.1 := List.mem_append_right _ (List.mem_append_right _ (List.mem_append_right _ (List.mem_append_right _ (List.mem_append_right _ (List.mem_append_right _ (List.mem_append_right _ (List.mem_append_left _ (List.mem_of_getElem? (i := 231) rfl))))))))
set_option maxRecDepth 100000 in
theorem f_M_34 : Cond.fieldLink R_M 34 "BlockPictureModel" "place" "I" ∈ gG.1 := List.mem_append_right _ (List.mem_append_right _ (List.mem_append_right _ (List.mem_append_right _ (List.mem_append_right _ (List.mem_append_right _ (List.mem_append_right _ (List.mem_append_left _ (List.mem_of_getElem? (i := 233) rfl))))))))
set_option maxRecDepth 100000 in
theorem f_M_37 : Cond.fieldLink R_M 37 "BlockPictureModel" "there" "[Z" ∈ gG.1 := List.mem_append_right _ (List.mem_append_right _ (List.mem_append_right _ (List.mem_append_right _ (List.mem_append_right _ (List.mem_append_right _ (List.mem_append_right _ (List.mem_append_left _ (List.mem_of_getElem? (i := 234) rfl))))))))
set_option maxRecDepth 100000 in
theorem f_M_41 : Cond.fieldLink R_M 41 "BlockPictureModel" "widths" "[I" ∈ gG.1 := List.mem_append_right _ (List.mem_append_right _ (List.mem_append_right _ (List.mem_append_right _ (List.mem_append_right _ (List.mem_append_right _ (List.mem_append_right _ (List.mem_append_left _ (List.mem_of_getElem? (i := 235) rfl))))))))
set_option maxRecDepth 100000 in
theorem f_M_44 : Cond.fieldLink R_M 44 "BlockPictureModel" "heights" "[I" ∈ gG.1 := List.mem_append_right _ (List.mem_append_right _ (List.mem_append_right _ (List.mem_append_right _ (List.mem_append_right _ (List.mem_append_right _ (List.mem_append_right _ (List.mem_append_left _ (List.mem_of_getElem? (i := 236) rfl))))))))
set_option maxRecDepth 100000 in
theorem f_M_47 : Cond.fieldLink R_M 47 "BlockPictureModel" "layers" "[I" ∈ gG.1 := List.mem_append_right _ (List.mem_append_right _ (List.mem_append_right _ (List.mem_append_right _ (List.mem_append_right _ (List.mem_append_right _ (List.mem_append_right _ (List.mem_append_left _ (List.mem_of_getElem? (i := 237) rfl))))))))
set_option maxRecDepth 100000 in
theorem f_M_50 : Cond.fieldLink R_M 50 "BlockPictureModel" "across" "[I" ∈ gG.1 := List.mem_append_right _ (List.mem_append_right _ (List.mem_append_right _ (List.mem_append_right _ (List.mem_append_right _ (List.mem_append_right _ (List.mem_append_right _ (List.mem_append_left _ (List.mem_of_getElem? (i := 238) rfl))))))))
set_option maxRecDepth 100000 in
theorem f_M_53 : Cond.fieldLink R_M 53 "BlockPictureModel" "down" "[I" ∈ gG.1 := List.mem_append_right _ (List.mem_append_right _ (List.mem_append_right _ (List.mem_append_right _ (List.mem_append_right _ (List.mem_append_right _ (List.mem_append_right _ (List.mem_append_left _ (List.mem_of_getElem? (i := 239) rfl))))))))
set_option maxRecDepth 100000 in
theorem f_M_56 : Cond.fieldLink R_M 56 "BlockPictureModel" "gridWide" "[I" ∈ gG.1 := List.mem_append_right _ (List.mem_append_right _ (List.mem_append_right _ (List.mem_append_right _ (List.mem_append_right _ (List.mem_append_right _ (List.mem_append_right _ (List.mem_append_right _ (List.mem_append_left _ (List.mem_of_getElem? (i := 0) rfl)))))))))
set_option maxRecDepth 100000 in
theorem f_M_59 : Cond.fieldLink R_M 59 "BlockPictureModel" "gridHigh" "[I" ∈ gG.1 := List.mem_append_right _ (List.mem_append_right _ (List.mem_append_right _ (List.mem_append_right _ (List.mem_append_right _ (List.mem_append_right _ (List.mem_append_right _ (List.mem_append_right _ (List.mem_append_left _ (List.mem_of_getElem? (i := 1) rfl)))))))))
set_option maxRecDepth 100000 in
theorem f_M_63 : Cond.fieldLink R_M 63 "BlockPictureModel" "levels" "[I" ∈ gG.1 := List.mem_append_right _ (List.mem_append_right _ (List.mem_append_right _ (List.mem_append_right _ (List.mem_append_right _ (List.mem_append_right _ (List.mem_append_right _ (List.mem_append_right _ (List.mem_append_left _ (List.mem_of_getElem? (i := 2) rfl)))))))))
set_option maxRecDepth 100000 in
theorem f_M_66 : Cond.fieldLink R_M 66 "BlockPictureModel" "samples" "[I" ∈ gG.1 := List.mem_append_right _ (List.mem_append_right _ (List.mem_append_right _ (List.mem_append_right _ (List.mem_append_right _ (List.mem_append_right _ (List.mem_append_right _ (List.mem_append_right _ (List.mem_append_left _ (List.mem_of_getElem? (i := 3) rfl)))))))))
set_option maxRecDepth 100000 in
theorem f_M_69 : Cond.fieldLink R_M 69 "BlockPictureModel" "raster" "[I" ∈ gG.1 := List.mem_append_right _ (List.mem_append_right _ (List.mem_append_right _ (List.mem_append_right _ (List.mem_append_right _ (List.mem_append_right _ (List.mem_append_right _ (List.mem_append_right _ (List.mem_append_left _ (List.mem_of_getElem? (i := 4) rfl)))))))))
set_option maxRecDepth 100000 in
theorem f_M_72 : Cond.fieldLink R_M 72 "BlockPictureModel" "order" "[I" ∈ gG.1 := List.mem_append_right _ (List.mem_append_right _ (List.mem_append_right _ (List.mem_append_right _ (List.mem_append_right _ (List.mem_append_right _ (List.mem_append_right _ (List.mem_append_right _ (List.mem_append_left _ (List.mem_of_getElem? (i := 5) rfl)))))))))
set_option maxRecDepth 100000 in
theorem f_M_75 : Cond.fieldLink R_M 75 "BlockPictureModel" "waves" "[I" ∈ gG.1 := List.mem_append_right _ (List.mem_append_right _ (List.mem_append_right _ (List.mem_append_right _ (List.mem_append_right _ (List.mem_append_right _ (List.mem_append_right _ (List.mem_append_right _ (List.mem_append_left _ (List.mem_of_getElem? (i := 6) rfl)))))))))
set_option maxRecDepth 100000 in
theorem f_M_78 : Cond.fieldLink R_M 78 "BlockPictureModel" "half" "[J" ∈ gG.1 := List.mem_append_right _ (List.mem_append_right _ (List.mem_append_right _ (List.mem_append_right _ (List.mem_append_right _ (List.mem_append_right _ (List.mem_append_right _ (List.mem_append_right _ (List.mem_append_left _ (List.mem_of_getElem? (i := 7) rfl)))))))))
set_option maxRecDepth 100000 in
theorem f_M_82 : Cond.fieldLink R_M 82 "BlockPictureModel" "block" "[I" ∈ gG.1 := List.mem_append_right _ (List.mem_append_right _ (List.mem_append_right _ (List.mem_append_right _ (List.mem_append_right _ (List.mem_append_right _ (List.mem_append_right _ (List.mem_append_right _ (List.mem_append_left _ (List.mem_of_getElem? (i := 8) rfl)))))))))
set_option maxRecDepth 100000 in
theorem f_M_85 : Cond.fieldLink R_M 85 "BlockPictureModel" "often" "[I" ∈ gG.1 := List.mem_append_right _ (List.mem_append_right _ (List.mem_append_right _ (List.mem_append_right _ (List.mem_append_right _ (List.mem_append_right _ (List.mem_append_right _ (List.mem_append_right _ (List.mem_append_left _ (List.mem_of_getElem? (i := 9) rfl)))))))))
set_option maxRecDepth 100000 in
theorem f_M_88 : Cond.fieldLink R_M 88 "BlockPictureModel" "lengths" "[I" ∈ gG.1 := List.mem_append_right _ (List.mem_append_right _ (List.mem_append_right _ (List.mem_append_right _ (List.mem_append_right _ (List.mem_append_right _ (List.mem_append_right _ (List.mem_append_right _ (List.mem_append_left _ (List.mem_of_getElem? (i := 10) rfl)))))))))
set_option maxRecDepth 100000 in
theorem f_M_91 : Cond.fieldLink R_M 91 "BlockPictureModel" "codes" "[I" ∈ gG.1 := List.mem_append_right _ (List.mem_append_right _ (List.mem_append_right _ (List.mem_append_right _ (List.mem_append_right _ (List.mem_append_right _ (List.mem_append_right _ (List.mem_append_right _ (List.mem_append_left _ (List.mem_of_getElem? (i := 11) rfl)))))))))
set_option maxRecDepth 100000 in
theorem f_M_94 : Cond.fieldLink R_M 94 "BlockPictureModel" "weights" "[I" ∈ gG.1 := List.mem_append_right _ (List.mem_append_right _ (List.mem_append_right _ (List.mem_append_right _ (List.mem_append_right _ (List.mem_append_right _ (List.mem_append_right _ (List.mem_append_right _ (List.mem_append_left _ (List.mem_of_getElem? (i := 12) rfl)))))))))
set_option maxRecDepth 100000 in
theorem f_M_97 : Cond.fieldLink R_M 97 "BlockPictureModel" "made" "[I" ∈ gG.1 := List.mem_append_right _ (List.mem_append_right _ (List.mem_append_right _ (List.mem_append_right _ (List.mem_append_right _ (List.mem_append_right _ (List.mem_append_right _ (List.mem_append_right _ (List.mem_append_left _ (List.mem_of_getElem? (i := 13) rfl)))))))))
set_option maxRecDepth 100000 in
theorem f_M_100 : Cond.fieldLink R_M 100 "BlockPictureModel" "taken" "[I" ∈ gG.1 := List.mem_append_right _ (List.mem_append_right _ (List.mem_append_right _ (List.mem_append_right _ (List.mem_append_right _ (List.mem_append_right _ (List.mem_append_right _ (List.mem_append_right _ (List.mem_append_left _ (List.mem_of_getElem? (i := 14) rfl)))))))))
set_option maxRecDepth 100000 in
theorem f_M_103 : Cond.fieldLink R_M 103 "BlockPictureModel" "tables" "[I" ∈ gG.1 := List.mem_append_right _ (List.mem_append_right _ (List.mem_append_right _ (List.mem_append_right _ (List.mem_append_right _ (List.mem_append_right _ (List.mem_append_right _ (List.mem_append_right _ (List.mem_append_left _ (List.mem_of_getElem? (i := 21) rfl)))))))))
set_option maxRecDepth 100000 in
theorem f_M_106 : Cond.fieldLink R_M 106 "BlockPictureModel" "hasTable" "[Z" ∈ gG.1 := List.mem_append_right _ (List.mem_append_right _ (List.mem_append_right _ (List.mem_append_right _ (List.mem_append_right _ (List.mem_append_right _ (List.mem_append_right _ (List.mem_append_right _ (List.mem_append_left _ (List.mem_of_getElem? (i := 22) rfl)))))))))
set_option maxRecDepth 100000 in
theorem f_M_109 : Cond.fieldLink R_M 109 "BlockPictureModel" "counts" "[I" ∈ gG.1 := List.mem_append_right _ (List.mem_append_right _ (List.mem_append_right _ (List.mem_append_right _ (List.mem_append_right _ (List.mem_append_right _ (List.mem_append_right _ (List.mem_append_right _ (List.mem_append_left _ (List.mem_of_getElem? (i := 23) rfl)))))))))
set_option maxRecDepth 100000 in
theorem f_M_112 : Cond.fieldLink R_M 112 "BlockPictureModel" "symbols" "[I" ∈ gG.1 := List.mem_append_right _ (List.mem_append_right _ (List.mem_append_right _ (List.mem_append_right _ (List.mem_append_right _ (List.mem_append_right _ (List.mem_append_right _ (List.mem_append_right _ (List.mem_append_left _ (List.mem_of_getElem? (i := 24) rfl)))))))))
set_option maxRecDepth 100000 in
theorem f_M_115 : Cond.fieldLink R_M 115 "BlockPictureModel" "hasCode" "[Z" ∈ gG.1 := List.mem_append_right _ (List.mem_append_right _ (List.mem_append_right _ (List.mem_append_right _ (List.mem_append_right _ (List.mem_append_right _ (List.mem_append_right _ (List.mem_append_right _ (List.mem_append_left _ (List.mem_of_getElem? (i := 25) rfl)))))))))
set_option maxRecDepth 100000 in
theorem f_M_118 : Cond.fieldLink R_M 118 "BlockPictureModel" "names" "[I" ∈ gG.1 := List.mem_append_right _ (List.mem_append_right _ (List.mem_append_right _ (List.mem_append_right _ (List.mem_append_right _ (List.mem_append_right _ (List.mem_append_right _ (List.mem_append_right _ (List.mem_append_left _ (List.mem_of_getElem? (i := 27) rfl)))))))))
set_option maxRecDepth 100000 in
theorem f_M_121 : Cond.fieldLink R_M 121 "BlockPictureModel" "tableOf" "[I" ∈ gG.1 := List.mem_append_right _ (List.mem_append_right _ (List.mem_append_right _ (List.mem_append_right _ (List.mem_append_right _ (List.mem_append_right _ (List.mem_append_right _ (List.mem_append_right _ (List.mem_append_left _ (List.mem_of_getElem? (i := 28) rfl)))))))))
set_option maxRecDepth 100000 in
theorem f_M_124 : Cond.fieldLink R_M 124 "BlockPictureModel" "used" "[I" ∈ gG.1 := List.mem_append_right _ (List.mem_append_right _ (List.mem_append_right _ (List.mem_append_right _ (List.mem_append_right _ (List.mem_append_right _ (List.mem_append_right _ (List.mem_append_right _ (List.mem_append_left _ (List.mem_of_getElem? (i := 29) rfl)))))))))
set_option maxRecDepth 100000 in
theorem f_M_127 : Cond.fieldLink R_M 127 "BlockPictureModel" "scanned" "[Z" ∈ gG.1 := List.mem_append_right _ (List.mem_append_right _ (List.mem_append_right _ (List.mem_append_right _ (List.mem_append_right _ (List.mem_append_right _ (List.mem_append_right _ (List.mem_append_right _ (List.mem_append_left _ (List.mem_of_getElem? (i := 30) rfl)))))))))
set_option maxRecDepth 100000 in
theorem f_M_130 : Cond.fieldLink R_M 130 "BlockPictureModel" "scan" "[I" ∈ gG.1 := List.mem_append_right _ (List.mem_append_right _ (List.mem_append_right _ (List.mem_append_right _ (List.mem_append_right _ (List.mem_append_right _ (List.mem_append_right _ (List.mem_append_right _ (List.mem_append_left _ (List.mem_of_getElem? (i := 33) rfl)))))))))
set_option maxRecDepth 100000 in
theorem f_M_133 : Cond.fieldLink R_M 133 "BlockPictureModel" "startsOf" "[I" ∈ gG.1 := List.mem_append_right _ (List.mem_append_right _ (List.mem_append_right _ (List.mem_append_right _ (List.mem_append_right _ (List.mem_append_right _ (List.mem_append_right _ (List.mem_append_right _ (List.mem_append_left _ (List.mem_of_getElem? (i := 34) rfl)))))))))
set_option maxRecDepth 100000 in
theorem f_M_136 : Cond.fieldLink R_M 136 "BlockPictureModel" "restsOf" "[I" ∈ gG.1 := List.mem_append_right _ (List.mem_append_right _ (List.mem_append_right _ (List.mem_append_right _ (List.mem_append_right _ (List.mem_append_right _ (List.mem_append_right _ (List.mem_append_right _ (List.mem_append_left _ (List.mem_of_getElem? (i := 35) rfl)))))))))
set_option maxRecDepth 100000 in
theorem f_M_139 : Cond.fieldLink R_M 139 "BlockPictureModel" "starts" "[I" ∈ gG.1 := List.mem_append_right _ (List.mem_append_right _ (List.mem_append_right _ (List.mem_append_right _ (List.mem_append_right _ (List.mem_append_right _ (List.mem_append_right _ (List.mem_append_right _ (List.mem_append_left _ (List.mem_of_getElem? (i := 36) rfl)))))))))
set_option maxRecDepth 100000 in
theorem f_M_146 : Cond.fieldLink R_M 146 "BlockPictureModel" "thrown" "I" ∈ gG.1 := List.mem_append_right _ (List.mem_append_right _ (List.mem_append_right _ (List.mem_append_right _ (List.mem_append_right _ (List.mem_append_right _ (List.mem_append_right _ (List.mem_append_left _ (List.mem_of_getElem? (i := 223) rfl))))))))
set_option maxRecDepth 100000 in
theorem f_M_197 : Cond.fieldLink R_M 197 "BlockPictureModel" "many" "I" ∈ gG.1 := List.mem_append_right _ (List.mem_append_right _ (List.mem_append_right _ (List.mem_append_right _ (List.mem_append_right _ (List.mem_append_right _ (List.mem_append_right _ (List.mem_append_left _ (List.mem_of_getElem? (i := 232) rfl))))))))
set_option maxRecDepth 100000 in
theorem f_M_204 : Cond.fieldLink R_M 204 "BlockPictureModel" "gathered" "I" ∈ gG.1 := List.mem_append_right _ (List.mem_append_right _ (List.mem_append_right _ (List.mem_append_right _ (List.mem_append_right _ (List.mem_append_right _ (List.mem_append_right _ (List.mem_append_right _ (List.mem_append_left _ (List.mem_of_getElem? (i := 16) rfl)))))))))
set_option maxRecDepth 100000 in
theorem f_M_207 : Cond.fieldLink R_M 207 "BlockPictureModel" "bit" "I" ∈ gG.1 := List.mem_append_right _ (List.mem_append_right _ (List.mem_append_right _ (List.mem_append_right _ (List.mem_append_right _ (List.mem_append_right _ (List.mem_append_right _ (List.mem_append_right _ (List.mem_append_left _ (List.mem_of_getElem? (i := 15) rfl)))))))))
set_option maxRecDepth 100000 in
theorem f_M_262 : Cond.fieldLink R_M 262 "BlockPictureModel" "taped" "I" ∈ gG.1 := List.mem_append_right _ (List.mem_append_right _ (List.mem_append_right _ (List.mem_append_right _ (List.mem_append_right _ (List.mem_append_right _ (List.mem_append_right _ (List.mem_append_left _ (List.mem_of_getElem? (i := 230) rfl))))))))
set_option maxRecDepth 100000 in
theorem f_M_265 : Cond.fieldLink R_M 265 "BlockPictureModel" "fault" "I" ∈ gG.1 := List.mem_append_right _ (List.mem_append_right _ (List.mem_append_right _ (List.mem_append_right _ (List.mem_append_right _ (List.mem_append_right _ (List.mem_append_right _ (List.mem_append_right _ (List.mem_append_left _ (List.mem_of_getElem? (i := 18) rfl)))))))))
set_option maxRecDepth 100000 in
theorem f_M_268 : Cond.fieldLink R_M 268 "BlockPictureModel" "at" "I" ∈ gG.1 := List.mem_append_right _ (List.mem_append_right _ (List.mem_append_right _ (List.mem_append_right _ (List.mem_append_right _ (List.mem_append_right _ (List.mem_append_right _ (List.mem_append_right _ (List.mem_append_left _ (List.mem_of_getElem? (i := 17) rfl)))))))))
set_option maxRecDepth 100000 in
theorem f_M_275 : Cond.fieldLink R_M 275 "BlockPictureModel" "end" "I" ∈ gG.1 := List.mem_append_right _ (List.mem_append_right _ (List.mem_append_right _ (List.mem_append_right _ (List.mem_append_right _ (List.mem_append_right _ (List.mem_append_right _ (List.mem_append_right _ (List.mem_append_left _ (List.mem_of_getElem? (i := 19) rfl)))))))))
set_option maxRecDepth 100000 in
theorem f_M_278 : Cond.fieldLink R_M 278 "BlockPictureModel" "lengthAt" "I" ∈ gG.1 := List.mem_append_right _ (List.mem_append_right _ (List.mem_append_right _ (List.mem_append_right _ (List.mem_append_right _ (List.mem_append_right _ (List.mem_append_right _ (List.mem_append_right _ (List.mem_append_left _ (List.mem_of_getElem? (i := 20) rfl)))))))))
set_option maxRecDepth 100000 in
theorem f_M_295 : Cond.fieldLink R_M 295 "BlockPictureModel" "framed" "Z" ∈ gG.1 := List.mem_append_right _ (List.mem_append_right _ (List.mem_append_right _ (List.mem_append_right _ (List.mem_append_right _ (List.mem_append_right _ (List.mem_append_right _ (List.mem_append_right _ (List.mem_append_left _ (List.mem_of_getElem? (i := 26) rfl)))))))))
set_option maxRecDepth 100000 in
theorem f_M_302 : Cond.fieldLink R_M 302 "BlockPictureModel" "many0" "I" ∈ gG.1 := List.mem_append_right _ (List.mem_append_right _ (List.mem_append_right _ (List.mem_append_right _ (List.mem_append_right _ (List.mem_append_right _ (List.mem_append_right _ (List.mem_append_right _ (List.mem_append_left _ (List.mem_of_getElem? (i := 32) rfl)))))))))
set_option maxRecDepth 100000 in
theorem f_M_305 : Cond.fieldLink R_M 305 "BlockPictureModel" "left" "I" ∈ gG.1 := List.mem_append_right _ (List.mem_append_right _ (List.mem_append_right _ (List.mem_append_right _ (List.mem_append_right _ (List.mem_append_right _ (List.mem_append_right _ (List.mem_append_right _ (List.mem_append_left _ (List.mem_of_getElem? (i := 37) rfl)))))))))
set_option maxRecDepth 100000 in
theorem f_M_308 : Cond.fieldLink R_M 308 "BlockPictureModel" "byteAt" "I" ∈ gG.1 := List.mem_append_right _ (List.mem_append_right _ (List.mem_append_right _ (List.mem_append_right _ (List.mem_append_right _ (List.mem_append_right _ (List.mem_append_right _ (List.mem_append_right _ (List.mem_append_left _ (List.mem_of_getElem? (i := 39) rfl)))))))))
set_option maxRecDepth 100000 in
theorem f_M_311 : Cond.fieldLink R_M 311 "BlockPictureModel" "byteNow" "I" ∈ gG.1 := List.mem_append_right _ (List.mem_append_right _ (List.mem_append_right _ (List.mem_append_right _ (List.mem_append_right _ (List.mem_append_right _ (List.mem_append_right _ (List.mem_append_right _ (List.mem_append_left _ (List.mem_of_getElem? (i := 38) rfl)))))))))
set_option maxRecDepth 100000 in
theorem f_M_317 : Cond.fieldLink R_M 317 "BlockPictureModel" "symbolAt" "I" ∈ gG.1 := List.mem_append_right _ (List.mem_append_right _ (List.mem_append_right _ (List.mem_append_right _ (List.mem_append_right _ (List.mem_append_right _ (List.mem_append_right _ (List.mem_append_right _ (List.mem_append_left _ (List.mem_of_getElem? (i := 40) rfl)))))))))
set_option maxRecDepth 100000 in
theorem f_M_330 : Cond.fieldLink R_M 330 "BlockPictureModel" "interval" "I" ∈ gG.1 := List.mem_append_right _ (List.mem_append_right _ (List.mem_append_right _ (List.mem_append_right _ (List.mem_append_right _ (List.mem_append_right _ (List.mem_append_right _ (List.mem_append_right _ (List.mem_append_left _ (List.mem_of_getElem? (i := 31) rfl)))))))))
set_option maxRecDepth 100000 in
theorem k_M_26 : Cond.constant R_M 26 (32768) ∈ gG.1 := List.mem_append_right _ (List.mem_append_right _ (List.mem_append_right _ (List.mem_append_right _ (List.mem_append_right _ (List.mem_append_right _ (List.mem_append_right _ (List.mem_append_left _ (List.mem_of_getElem? (i := 217) rfl))))))))
set_option maxRecDepth 100000 in
theorem k_M_30 : Cond.constant R_M 30 (65536) ∈ gG.1 := List.mem_append_right _ (List.mem_append_right _ (List.mem_append_right _ (List.mem_append_right _ (List.mem_append_right _ (List.mem_append_right _ (List.mem_append_right _ (List.mem_append_left _ (List.mem_of_getElem? (i := 218) rfl))))))))
set_option maxRecDepth 100000 in
theorem k_M_62 : Cond.constant R_M 62 (36864) ∈ gG.1 := List.mem_append_right _ (List.mem_append_right _ (List.mem_append_right _ (List.mem_append_right _ (List.mem_append_right _ (List.mem_append_right _ (List.mem_append_right _ (List.mem_append_left _ (List.mem_of_getElem? (i := 219) rfl))))))))
set_option maxRecDepth 100000 in
theorem k_M_165 : Cond.constantLong R_M 165 (256) ∈ gG.1 := List.mem_append_right _ (List.mem_append_right _ (List.mem_append_right _ (List.mem_append_right _ (List.mem_append_right _ (List.mem_append_right _ (List.mem_append_right _ (List.mem_append_right _ (List.mem_append_left _ (List.mem_of_getElem? (i := 239) rfl)))))))))
set_option maxRecDepth 100000 in
theorem k_M_167 : Cond.constantLong R_M 167 (65536) ∈ gG.1 := List.mem_append_right _ (List.mem_append_right _ (List.mem_append_right _ (List.mem_append_right _ (List.mem_append_right _ (List.mem_append_right _ (List.mem_append_right _ (List.mem_append_right _ (List.mem_append_right _ (List.mem_of_getElem? (i := 0) rfl)))))))))
set_option maxRecDepth 100000 in
theorem k_M_169 : Cond.constantLong R_M 169 (128) ∈ gG.1 := List.mem_append_right _ (List.mem_append_right _ (List.mem_append_right _ (List.mem_append_right _ (List.mem_append_right _ (List.mem_append_right _ (List.mem_append_right _ (List.mem_append_right _ (List.mem_append_right _ (List.mem_of_getElem? (i := 184) rfl)))))))))
set_option maxRecDepth 100000 in
theorem k_M_171 : Cond.constantLong R_M 171 (255) ∈ gG.1 := List.mem_append_right _ (List.mem_append_right _ (List.mem_append_right _ (List.mem_append_right _ (List.mem_append_right _ (List.mem_append_right _ (List.mem_append_right _ (List.mem_append_right _ (List.mem_append_right _ (List.mem_of_getElem? (i := 185) rfl)))))))))
set_option maxRecDepth 100000 in
theorem k_M_180 : Cond.constant R_M 180 (38470) ∈ gG.1 := List.mem_append_right _ (List.mem_append_right _ (List.mem_append_right _ (List.mem_append_right _ (List.mem_append_right _ (List.mem_append_right _ (List.mem_append_right _ (List.mem_append_right _ (List.mem_append_left _ (List.mem_of_getElem? (i := 230) rfl)))))))))
set_option maxRecDepth 100000 in
theorem k_M_242 : Cond.constant R_M 242 (65535) ∈ gG.1 := List.mem_append_right _ (List.mem_append_right _ (List.mem_append_right _ (List.mem_append_right _ (List.mem_append_right _ (List.mem_append_right _ (List.mem_append_right _ (List.mem_append_right _ (List.mem_append_left _ (List.mem_of_getElem? (i := 202) rfl)))))))))
set_option maxRecDepth 100000 in
theorem k_M_294 : Cond.constant R_M 294 (100000) ∈ gG.1 := List.mem_append_right _ (List.mem_append_right _ (List.mem_append_right _ (List.mem_append_right _ (List.mem_append_right _ (List.mem_append_right _ (List.mem_append_right _ (List.mem_append_right _ (List.mem_append_right _ (List.mem_of_getElem? (i := 139) rfl)))))))))
set_option maxRecDepth 100000 in
theorem k_M_380 : Cond.constant R_M 380 (91881) ∈ gG.1 := List.mem_append_right _ (List.mem_append_right _ (List.mem_append_right _ (List.mem_append_right _ (List.mem_append_right _ (List.mem_append_right _ (List.mem_append_right _ (List.mem_append_right _ (List.mem_append_right _ (List.mem_of_getElem? (i := 206) rfl)))))))))
set_option maxRecDepth 100000 in
theorem k_M_381 : Cond.constant R_M 381 (46802) ∈ gG.1 := List.mem_append_right _ (List.mem_append_right _ (List.mem_append_right _ (List.mem_append_right _ (List.mem_append_right _ (List.mem_append_right _ (List.mem_append_right _ (List.mem_append_right _ (List.mem_append_right _ (List.mem_of_getElem? (i := 207) rfl)))))))))
set_option maxRecDepth 100000 in
theorem k_M_382 : Cond.constant R_M 382 (116130) ∈ gG.1 := List.mem_append_right _ (List.mem_append_right _ (List.mem_append_right _ (List.mem_append_right _ (List.mem_append_right _ (List.mem_append_right _ (List.mem_append_right _ (List.mem_append_right _ (List.mem_append_right _ (List.mem_of_getElem? (i := 208) rfl)))))))))
set_option maxRecDepth 100000 in
theorem lo_M : Cond.methodLink R_M 1 Lib.objectInit ∈ gG.1 := List.mem_append_right _ (List.mem_append_right _ (List.mem_append_right _ (List.mem_append_right _ (List.mem_append_right _ (List.mem_append_right _ (List.mem_append_right _ (List.mem_append_left _ (List.mem_of_getElem? (i := 216) rfl))))))))
set_option maxRecDepth 100000 in
theorem oi_M : Cond.instanceMethod Lib.objectInit ∈ gG.1 := List.mem_append_right _ (List.mem_append_right _ (List.mem_append_left _ (List.mem_of_getElem? (i := 38) rfl)))
set_option maxRecDepth 100000 in
theorem oc_M : Cond.code Lib.objectInit ⟨#[0xb1]⟩ 1 none ∈ gG.1 := List.mem_append_right _ (List.mem_append_right _ (List.mem_append_left _ (List.mem_of_getElem? (i := 39) rfl)))
set_option maxRecDepth 100000 in
theorem ac_int : Cond.arrayClass .int ∈ gG.1 := List.mem_append_right _ (List.mem_append_right _ (List.mem_append_left _ (List.mem_of_getElem? (i := 64) rfl)))
set_option maxRecDepth 100000 in
theorem ac_boolean : Cond.arrayClass .boolean ∈ gG.1 := List.mem_append_right _ (List.mem_append_right _ (List.mem_append_right _ (List.mem_append_left _ (List.mem_of_getElem? (i := 35) rfl))))
set_option maxRecDepth 100000 in
theorem ac_long : Cond.arrayClass .long ∈ gG.1 := List.mem_append_right _ (List.mem_append_right _ (List.mem_append_left _ (List.mem_of_getElem? (i := 121) rfl)))
set_option maxRecDepth 100000 in
theorem i_M : Cond.initialized R_M ∈ gG.1 := List.mem_append_right _ (List.mem_append_right _ (List.mem_append_left _ (List.mem_of_getElem? (i := 15) rfl)))
abbrev c_M_init : ByteArray := prog_14_method_1_code
def n_M_init : MethodName := ⟨R_M, "<init>", "()V"⟩
set_option maxRecDepth 100000 in
theorem cd_M_init : Cond.code n_M_init c_M_init 5 (none) ∈ gG.1 := List.mem_append_right _ (List.mem_append_right _ (List.mem_append_right _ (List.mem_append_right _ (List.mem_append_right _ (List.mem_append_right _ (List.mem_append_right _ (List.mem_append_left _ (List.mem_of_getElem? (i := 215) rfl))))))))
theorem ln_M_init : (parseMethodDescriptor n_M_init.desc).map (fun d => d.parameters.length) = some 0 := by decide +kernel
set_option maxRecDepth 100000 in
theorem im_M_init : Cond.instanceMethod n_M_init ∈ gG.1 := List.mem_append_right _ (List.mem_append_right _ (List.mem_append_right _ (List.mem_append_right _ (List.mem_append_right _ (List.mem_append_right _ (List.mem_append_right _ (List.mem_append_left _ (List.mem_of_getElem? (i := 214) rfl))))))))
abbrev c_M_turn1 : ByteArray := prog_14_method_2_code
def n_M_turn1 : MethodName := ⟨R_M, "turn", "(I)I"⟩
set_option maxRecDepth 100000 in
theorem cd_M_turn1 : Cond.code n_M_turn1 c_M_turn1 4 (some .int) ∈ gG.1 := List.mem_append_right _ (List.mem_append_right _ (List.mem_append_right _ (List.mem_append_right _ (List.mem_append_right _ (List.mem_append_right _ (List.mem_append_right _ (List.mem_append_left _ (List.mem_of_getElem? (i := 222) rfl))))))))
theorem ln_M_turn1 : (parseMethodDescriptor n_M_turn1.desc).map (fun d => d.parameters.length) = some 1 := by decide +kernel
set_option maxRecDepth 100000 in
theorem st_M_turn1 : Cond.static n_M_turn1 ∈ gG.1 := List.mem_append_right _ (List.mem_append_right _ (List.mem_append_right _ (List.mem_append_right _ (List.mem_append_right _ (List.mem_append_right _ (List.mem_append_right _ (List.mem_append_left _ (List.mem_of_getElem? (i := 221) rfl))))))))
abbrev c_M_thrown : ByteArray := prog_14_method_3_code
def n_M_thrown : MethodName := ⟨R_M, "thrown", "()I"⟩
set_option maxRecDepth 100000 in
theorem cd_M_thrown : Cond.code n_M_thrown c_M_thrown 1 (some .int) ∈ gG.1 := List.mem_append_right _ (List.mem_append_right _ (List.mem_append_right _ (List.mem_append_right _ (List.mem_append_right _ (List.mem_append_right _ (List.mem_append_right _ (List.mem_append_right _ (List.mem_append_left _ (List.mem_of_getElem? (i := 161) rfl)))))))))
theorem ln_M_thrown : (parseMethodDescriptor n_M_thrown.desc).map (fun d => d.parameters.length) = some 0 := by decide +kernel
set_option maxRecDepth 100000 in
theorem im_M_thrown : Cond.instanceMethod n_M_thrown ∈ gG.1 := List.mem_append_right _ (List.mem_append_right _ (List.mem_append_right _ (List.mem_append_right _ (List.mem_append_right _ (List.mem_append_right _ (List.mem_append_right _ (List.mem_append_right _ (List.mem_append_left _ (List.mem_of_getElem? (i := 159) rfl)))))))))
set_option maxRecDepth 100000 in
theorem se_M_thrown : Cond.selects R_M n_M_thrown n_M_thrown ∈ gG.1 := List.mem_append_right _ (List.mem_append_right _ (List.mem_append_right _ (List.mem_append_right _ (List.mem_append_right _ (List.mem_append_right _ (List.mem_append_right _ (List.mem_append_right _ (List.mem_append_left _ (List.mem_of_getElem? (i := 160) rfl)))))))))
abbrev c_M_cell : ByteArray := prog_14_method_4_code
def n_M_cell : MethodName := ⟨R_M, "cell", "(III)I"⟩
set_option maxRecDepth 100000 in
theorem cd_M_cell : Cond.code n_M_cell c_M_cell 3 (some .int) ∈ gG.1 := List.mem_append_right _ (List.mem_append_right _ (List.mem_append_right _ (List.mem_append_right _ (List.mem_append_right _ (List.mem_append_right _ (List.mem_append_right _ (List.mem_append_right _ (List.mem_append_left _ (List.mem_of_getElem? (i := 184) rfl)))))))))
theorem ln_M_cell : (parseMethodDescriptor n_M_cell.desc).map (fun d => d.parameters.length) = some 3 := by decide +kernel
set_option maxRecDepth 100000 in
theorem st_M_cell : Cond.static n_M_cell ∈ gG.1 := List.mem_append_right _ (List.mem_append_right _ (List.mem_append_right _ (List.mem_append_right _ (List.mem_append_right _ (List.mem_append_right _ (List.mem_append_right _ (List.mem_append_right _ (List.mem_append_left _ (List.mem_of_getElem? (i := 183) rfl)))))))))
abbrev c_M_canvas : ByteArray := prog_14_method_5_code
def n_M_canvas : MethodName := ⟨R_M, "canvas", "(III)V"⟩
set_option maxRecDepth 100000 in
theorem cd_M_canvas : Cond.code n_M_canvas c_M_canvas 5 (none) ∈ gG.1 := List.mem_append_right _ (List.mem_append_right _ (List.mem_append_right _ (List.mem_append_right _ (List.mem_append_right _ (List.mem_append_right _ (List.mem_append_right _ (List.mem_append_right _ (List.mem_append_left _ (List.mem_of_getElem? (i := 165) rfl)))))))))
theorem ln_M_canvas : (parseMethodDescriptor n_M_canvas.desc).map (fun d => d.parameters.length) = some 3 := by decide +kernel
set_option maxRecDepth 100000 in
theorem im_M_canvas : Cond.instanceMethod n_M_canvas ∈ gG.1 := List.mem_append_right _ (List.mem_append_right _ (List.mem_append_right _ (List.mem_append_right _ (List.mem_append_right _ (List.mem_append_right _ (List.mem_append_right _ (List.mem_append_right _ (List.mem_append_left _ (List.mem_of_getElem? (i := 163) rfl)))))))))
set_option maxRecDepth 100000 in
theorem se_M_canvas : Cond.selects R_M n_M_canvas n_M_canvas ∈ gG.1 := List.mem_append_right _ (List.mem_append_right _ (List.mem_append_right _ (List.mem_append_right _ (List.mem_append_right _ (List.mem_append_right _ (List.mem_append_right _ (List.mem_append_right _ (List.mem_append_left _ (List.mem_of_getElem? (i := 164) rfl)))))))))
abbrev c_M_isOut : ByteArray := prog_14_method_6_code
def n_M_isOut : MethodName := ⟨R_M, "isOut", "(IIII)Z"⟩
set_option maxRecDepth 100000 in
theorem cd_M_isOut : Cond.code n_M_isOut c_M_isOut 5 (some .boolean) ∈ gG.1 := List.mem_append_right _ (List.mem_append_right _ (List.mem_append_right _ (List.mem_append_right _ (List.mem_append_right _ (List.mem_append_right _ (List.mem_append_right _ (List.mem_append_right _ (List.mem_append_left _ (List.mem_of_getElem? (i := 177) rfl)))))))))
theorem ln_M_isOut : (parseMethodDescriptor n_M_isOut.desc).map (fun d => d.parameters.length) = some 4 := by decide +kernel
set_option maxRecDepth 100000 in
theorem im_M_isOut : Cond.instanceMethod n_M_isOut ∈ gG.1 := List.mem_append_right _ (List.mem_append_right _ (List.mem_append_right _ (List.mem_append_right _ (List.mem_append_right _ (List.mem_append_right _ (List.mem_append_right _ (List.mem_append_right _ (List.mem_append_left _ (List.mem_of_getElem? (i := 176) rfl)))))))))
theorem se_M_isOut : Cond.selects R_M n_M_isOut n_M_isOut ∈ gG.1 := List.mem_append_right _ (List.mem_append_left _ (by decide +kernel))
abbrev c_M_byteOf : ByteArray := prog_14_method_7_code
def n_M_byteOf : MethodName := ⟨R_M, "byteOf", "(II)I"⟩
set_option maxRecDepth 100000 in
theorem cd_M_byteOf : Cond.code n_M_byteOf c_M_byteOf 3 (some .int) ∈ gG.1 := List.mem_append_right _ (List.mem_append_right _ (List.mem_append_right _ (List.mem_append_right _ (List.mem_append_right _ (List.mem_append_right _ (List.mem_append_right _ (List.mem_append_right _ (List.mem_append_left _ (List.mem_of_getElem? (i := 181) rfl)))))))))
theorem ln_M_byteOf : (parseMethodDescriptor n_M_byteOf.desc).map (fun d => d.parameters.length) = some 2 := by decide +kernel
set_option maxRecDepth 100000 in
theorem im_M_byteOf : Cond.instanceMethod n_M_byteOf ∈ gG.1 := List.mem_append_right _ (List.mem_append_right _ (List.mem_append_right _ (List.mem_append_right _ (List.mem_append_right _ (List.mem_append_right _ (List.mem_append_right _ (List.mem_append_right _ (List.mem_append_left _ (List.mem_of_getElem? (i := 180) rfl)))))))))
theorem se_M_byteOf : Cond.selects R_M n_M_byteOf n_M_byteOf ∈ gG.1 := List.mem_append_right _ (List.mem_append_left _ (by decide +kernel))
abbrev c_M_fill : ByteArray := prog_14_method_8_code
def n_M_fill : MethodName := ⟨R_M, "fill", "(IIIII)V"⟩
set_option maxRecDepth 100000 in
theorem cd_M_fill : Cond.code n_M_fill c_M_fill 6 (none) ∈ gG.1 := List.mem_append_right _ (List.mem_append_right _ (List.mem_append_right _ (List.mem_append_right _ (List.mem_append_right _ (List.mem_append_right _ (List.mem_append_right _ (List.mem_append_right _ (List.mem_append_left _ (List.mem_of_getElem? (i := 169) rfl)))))))))
theorem ln_M_fill : (parseMethodDescriptor n_M_fill.desc).map (fun d => d.parameters.length) = some 5 := by decide +kernel
set_option maxRecDepth 100000 in
theorem im_M_fill : Cond.instanceMethod n_M_fill ∈ gG.1 := List.mem_append_right _ (List.mem_append_right _ (List.mem_append_right _ (List.mem_append_right _ (List.mem_append_right _ (List.mem_append_right _ (List.mem_append_right _ (List.mem_append_right _ (List.mem_append_left _ (List.mem_of_getElem? (i := 167) rfl)))))))))
set_option maxRecDepth 100000 in
theorem se_M_fill : Cond.selects R_M n_M_fill n_M_fill ∈ gG.1 := List.mem_append_right _ (List.mem_append_right _ (List.mem_append_right _ (List.mem_append_right _ (List.mem_append_right _ (List.mem_append_right _ (List.mem_append_right _ (List.mem_append_right _ (List.mem_append_left _ (List.mem_of_getElem? (i := 168) rfl)))))))))
abbrev c_M_slope : ByteArray := prog_14_method_9_code
def n_M_slope : MethodName := ⟨R_M, "slope", "(IIIIII)V"⟩
set_option maxRecDepth 100000 in
theorem cd_M_slope : Cond.code n_M_slope c_M_slope 11 (none) ∈ gG.1 := List.mem_append_right _ (List.mem_append_right _ (List.mem_append_right _ (List.mem_append_right _ (List.mem_append_right _ (List.mem_append_right _ (List.mem_append_right _ (List.mem_append_right _ (List.mem_append_left _ (List.mem_of_getElem? (i := 173) rfl)))))))))
theorem ln_M_slope : (parseMethodDescriptor n_M_slope.desc).map (fun d => d.parameters.length) = some 6 := by decide +kernel
set_option maxRecDepth 100000 in
theorem im_M_slope : Cond.instanceMethod n_M_slope ∈ gG.1 := List.mem_append_right _ (List.mem_append_right _ (List.mem_append_right _ (List.mem_append_right _ (List.mem_append_right _ (List.mem_append_right _ (List.mem_append_right _ (List.mem_append_right _ (List.mem_append_left _ (List.mem_of_getElem? (i := 171) rfl)))))))))
set_option maxRecDepth 100000 in
theorem se_M_slope : Cond.selects R_M n_M_slope n_M_slope ∈ gG.1 := List.mem_append_right _ (List.mem_append_right _ (List.mem_append_right _ (List.mem_append_right _ (List.mem_append_right _ (List.mem_append_right _ (List.mem_append_right _ (List.mem_append_right _ (List.mem_append_left _ (List.mem_of_getElem? (i := 172) rfl)))))))))
abbrev c_M_at : ByteArray := prog_14_method_10_code
def n_M_at : MethodName := ⟨R_M, "at", "(III)I"⟩
set_option maxRecDepth 100000 in
theorem cd_M_at : Cond.code n_M_at c_M_at 4 (some .int) ∈ gG.1 := List.mem_append_right _ (List.mem_append_right _ (List.mem_append_right _ (List.mem_append_right _ (List.mem_append_right _ (List.mem_append_right _ (List.mem_append_right _ (List.mem_append_right _ (List.mem_append_left _ (List.mem_of_getElem? (i := 189) rfl)))))))))
theorem ln_M_at : (parseMethodDescriptor n_M_at.desc).map (fun d => d.parameters.length) = some 3 := by decide +kernel
set_option maxRecDepth 100000 in
theorem im_M_at : Cond.instanceMethod n_M_at ∈ gG.1 := List.mem_append_right _ (List.mem_append_right _ (List.mem_append_right _ (List.mem_append_right _ (List.mem_append_right _ (List.mem_append_right _ (List.mem_append_right _ (List.mem_append_right _ (List.mem_append_left _ (List.mem_of_getElem? (i := 187) rfl)))))))))
set_option maxRecDepth 100000 in
theorem se_M_at : Cond.selects R_M n_M_at n_M_at ∈ gG.1 := List.mem_append_right _ (List.mem_append_right _ (List.mem_append_right _ (List.mem_append_right _ (List.mem_append_right _ (List.mem_append_right _ (List.mem_append_right _ (List.mem_append_right _ (List.mem_append_left _ (List.mem_of_getElem? (i := 188) rfl)))))))))
abbrev c_M_scale : ByteArray := prog_14_method_11_code
def n_M_scale : MethodName := ⟨R_M, "scale", "(III)V"⟩
set_option maxRecDepth 100000 in
theorem cd_M_scale : Cond.code n_M_scale c_M_scale 6 (none) ∈ gG.1 := List.mem_append_right _ (List.mem_append_right _ (List.mem_append_right _ (List.mem_append_right _ (List.mem_append_right _ (List.mem_append_right _ (List.mem_append_right _ (List.mem_append_right _ (List.mem_append_left _ (List.mem_of_getElem? (i := 193) rfl)))))))))
theorem ln_M_scale : (parseMethodDescriptor n_M_scale.desc).map (fun d => d.parameters.length) = some 3 := by decide +kernel
set_option maxRecDepth 100000 in
theorem im_M_scale : Cond.instanceMethod n_M_scale ∈ gG.1 := List.mem_append_right _ (List.mem_append_right _ (List.mem_append_right _ (List.mem_append_right _ (List.mem_append_right _ (List.mem_append_right _ (List.mem_append_right _ (List.mem_append_right _ (List.mem_append_left _ (List.mem_of_getElem? (i := 191) rfl)))))))))
set_option maxRecDepth 100000 in
theorem se_M_scale : Cond.selects R_M n_M_scale n_M_scale ∈ gG.1 := List.mem_append_right _ (List.mem_append_right _ (List.mem_append_right _ (List.mem_append_right _ (List.mem_append_right _ (List.mem_append_right _ (List.mem_append_right _ (List.mem_append_right _ (List.mem_append_left _ (List.mem_of_getElem? (i := 192) rfl)))))))))
abbrev c_M_entry : ByteArray := prog_14_method_12_code
def n_M_entry : MethodName := ⟨R_M, "entry", "(IIII)V"⟩
set_option maxRecDepth 100000 in
theorem cd_M_entry : Cond.code n_M_entry c_M_entry 5 (none) ∈ gG.1 := List.mem_append_right _ (List.mem_append_right _ (List.mem_append_right _ (List.mem_append_right _ (List.mem_append_right _ (List.mem_append_right _ (List.mem_append_right _ (List.mem_append_right _ (List.mem_append_left _ (List.mem_of_getElem? (i := 197) rfl)))))))))
theorem ln_M_entry : (parseMethodDescriptor n_M_entry.desc).map (fun d => d.parameters.length) = some 4 := by decide +kernel
set_option maxRecDepth 100000 in
theorem im_M_entry : Cond.instanceMethod n_M_entry ∈ gG.1 := List.mem_append_right _ (List.mem_append_right _ (List.mem_append_right _ (List.mem_append_right _ (List.mem_append_right _ (List.mem_append_right _ (List.mem_append_right _ (List.mem_append_right _ (List.mem_append_left _ (List.mem_of_getElem? (i := 195) rfl)))))))))
set_option maxRecDepth 100000 in
theorem se_M_entry : Cond.selects R_M n_M_entry n_M_entry ∈ gG.1 := List.mem_append_right _ (List.mem_append_right _ (List.mem_append_right _ (List.mem_append_right _ (List.mem_append_right _ (List.mem_append_right _ (List.mem_append_right _ (List.mem_append_right _ (List.mem_append_left _ (List.mem_of_getElem? (i := 196) rfl)))))))))
abbrev c_M_toWeights : ByteArray := prog_14_method_13_code
def n_M_toWeights : MethodName := ⟨R_M, "toWeights", "()V"⟩
set_option maxRecDepth 100000 in
theorem cd_M_toWeights : Cond.code n_M_toWeights c_M_toWeights 6 (none) ∈ gG.1 := List.mem_append_right _ (List.mem_append_right _ (List.mem_append_right _ (List.mem_append_right _ (List.mem_append_right _ (List.mem_append_right _ (List.mem_append_right _ (List.mem_append_right _ (List.mem_append_left _ (List.mem_of_getElem? (i := 238) rfl)))))))))
theorem ln_M_toWeights : (parseMethodDescriptor n_M_toWeights.desc).map (fun d => d.parameters.length) = some 0 := by decide +kernel
set_option maxRecDepth 100000 in
theorem im_M_toWeights : Cond.instanceMethod n_M_toWeights ∈ gG.1 := List.mem_append_right _ (List.mem_append_right _ (List.mem_append_right _ (List.mem_append_right _ (List.mem_append_right _ (List.mem_append_right _ (List.mem_append_right _ (List.mem_append_right _ (List.mem_append_left _ (List.mem_of_getElem? (i := 237) rfl)))))))))
theorem se_M_toWeights : Cond.selects R_M n_M_toWeights n_M_toWeights ∈ gG.1 := List.mem_append_right _ (List.mem_append_left _ (by decide +kernel))
abbrev c_M_toSamples : ByteArray := prog_14_method_14_code
def n_M_toSamples : MethodName := ⟨R_M, "toSamples", "()V"⟩
set_option maxRecDepth 100000 in
theorem cd_M_toSamples : Cond.code n_M_toSamples c_M_toSamples 6 (none) ∈ gG.1 := List.mem_append_right _ (List.mem_append_right _ (List.mem_append_right _ (List.mem_append_right _ (List.mem_append_right _ (List.mem_append_right _ (List.mem_append_right _ (List.mem_append_right _ (List.mem_append_right _ (List.mem_of_getElem? (i := 183) rfl)))))))))
theorem ln_M_toSamples : (parseMethodDescriptor n_M_toSamples.desc).map (fun d => d.parameters.length) = some 0 := by decide +kernel
set_option maxRecDepth 100000 in
theorem im_M_toSamples : Cond.instanceMethod n_M_toSamples ∈ gG.1 := List.mem_append_right _ (List.mem_append_right _ (List.mem_append_right _ (List.mem_append_right _ (List.mem_append_right _ (List.mem_append_right _ (List.mem_append_right _ (List.mem_append_right _ (List.mem_append_right _ (List.mem_of_getElem? (i := 182) rfl)))))))))
theorem se_M_toSamples : Cond.selects R_M n_M_toSamples n_M_toSamples ∈ gG.1 := List.mem_append_right _ (List.mem_append_left _ (by decide +kernel))
abbrev c_M_upward : ByteArray := prog_14_method_15_code
def n_M_upward : MethodName := ⟨R_M, "upward", "(II)I"⟩
set_option maxRecDepth 100000 in
theorem cd_M_upward : Cond.code n_M_upward c_M_upward 2 (some .int) ∈ gG.1 := List.mem_append_right _ (List.mem_append_right _ (List.mem_append_right _ (List.mem_append_right _ (List.mem_append_right _ (List.mem_append_right _ (List.mem_append_right _ (List.mem_append_right _ (List.mem_append_left _ (List.mem_of_getElem? (i := 213) rfl)))))))))
theorem ln_M_upward : (parseMethodDescriptor n_M_upward.desc).map (fun d => d.parameters.length) = some 2 := by decide +kernel
set_option maxRecDepth 100000 in
theorem st_M_upward : Cond.static n_M_upward ∈ gG.1 := List.mem_append_right _ (List.mem_append_right _ (List.mem_append_right _ (List.mem_append_right _ (List.mem_append_right _ (List.mem_append_right _ (List.mem_append_right _ (List.mem_append_right _ (List.mem_append_left _ (List.mem_of_getElem? (i := 212) rfl)))))))))
abbrev c_M_greatest : ByteArray := prog_14_method_16_code
def n_M_greatest : MethodName := ⟨R_M, "greatest", "(IZ)I"⟩
set_option maxRecDepth 100000 in
theorem cd_M_greatest : Cond.code n_M_greatest c_M_greatest 6 (some .int) ∈ gG.1 := List.mem_append_right _ (List.mem_append_right _ (List.mem_append_right _ (List.mem_append_right _ (List.mem_append_right _ (List.mem_append_right _ (List.mem_append_right _ (List.mem_append_right _ (List.mem_append_left _ (List.mem_of_getElem? (i := 210) rfl)))))))))
theorem ln_M_greatest : (parseMethodDescriptor n_M_greatest.desc).map (fun d => d.parameters.length) = some 2 := by decide +kernel
set_option maxRecDepth 100000 in
theorem im_M_greatest : Cond.instanceMethod n_M_greatest ∈ gG.1 := List.mem_append_right _ (List.mem_append_right _ (List.mem_append_right _ (List.mem_append_right _ (List.mem_append_right _ (List.mem_append_right _ (List.mem_append_right _ (List.mem_append_right _ (List.mem_append_left _ (List.mem_of_getElem? (i := 209) rfl)))))))))
theorem se_M_greatest : Cond.selects R_M n_M_greatest n_M_greatest ∈ gG.1 := List.mem_append_right _ (List.mem_append_left _ (by decide +kernel))
abbrev c_M_makeGrids : ByteArray := prog_14_method_17_code
def n_M_makeGrids : MethodName := ⟨R_M, "makeGrids", "(I)V"⟩
set_option maxRecDepth 100000 in
theorem cd_M_makeGrids : Cond.code n_M_makeGrids c_M_makeGrids 5 (none) ∈ gG.1 := List.mem_append_right _ (List.mem_append_right _ (List.mem_append_right _ (List.mem_append_right _ (List.mem_append_right _ (List.mem_append_right _ (List.mem_append_right _ (List.mem_append_right _ (List.mem_append_left _ (List.mem_of_getElem? (i := 206) rfl)))))))))
theorem ln_M_makeGrids : (parseMethodDescriptor n_M_makeGrids.desc).map (fun d => d.parameters.length) = some 1 := by decide +kernel
set_option maxRecDepth 100000 in
theorem im_M_makeGrids : Cond.instanceMethod n_M_makeGrids ∈ gG.1 := List.mem_append_right _ (List.mem_append_right _ (List.mem_append_right _ (List.mem_append_right _ (List.mem_append_right _ (List.mem_append_right _ (List.mem_append_right _ (List.mem_append_right _ (List.mem_append_left _ (List.mem_of_getElem? (i := 205) rfl)))))))))
theorem se_M_makeGrids : Cond.selects R_M n_M_makeGrids n_M_makeGrids ∈ gG.1 := List.mem_append_right _ (List.mem_append_left _ (by decide +kernel))
abbrev c_M_layerWide : ByteArray := prog_14_method_18_code
def n_M_layerWide : MethodName := ⟨R_M, "layerWide", "(II)I"⟩
set_option maxRecDepth 100000 in
theorem cd_M_layerWide : Cond.code n_M_layerWide c_M_layerWide 3 (some .int) ∈ gG.1 := List.mem_append_right _ (List.mem_append_right _ (List.mem_append_right _ (List.mem_append_right _ (List.mem_append_right _ (List.mem_append_right _ (List.mem_append_right _ (List.mem_append_right _ (List.mem_append_left _ (List.mem_of_getElem? (i := 225) rfl)))))))))
theorem ln_M_layerWide : (parseMethodDescriptor n_M_layerWide.desc).map (fun d => d.parameters.length) = some 2 := by decide +kernel
set_option maxRecDepth 100000 in
theorem im_M_layerWide : Cond.instanceMethod n_M_layerWide ∈ gG.1 := List.mem_append_right _ (List.mem_append_right _ (List.mem_append_right _ (List.mem_append_right _ (List.mem_append_right _ (List.mem_append_right _ (List.mem_append_right _ (List.mem_append_right _ (List.mem_append_left _ (List.mem_of_getElem? (i := 224) rfl)))))))))
theorem se_M_layerWide : Cond.selects R_M n_M_layerWide n_M_layerWide ∈ gG.1 := List.mem_append_right _ (List.mem_append_left _ (by decide +kernel))
abbrev c_M_layerHigh : ByteArray := prog_14_method_19_code
def n_M_layerHigh : MethodName := ⟨R_M, "layerHigh", "(II)I"⟩
set_option maxRecDepth 100000 in
theorem cd_M_layerHigh : Cond.code n_M_layerHigh c_M_layerHigh 3 (some .int) ∈ gG.1 := List.mem_append_right _ (List.mem_append_right _ (List.mem_append_right _ (List.mem_append_right _ (List.mem_append_right _ (List.mem_append_right _ (List.mem_append_right _ (List.mem_append_right _ (List.mem_append_left _ (List.mem_of_getElem? (i := 221) rfl)))))))))
theorem ln_M_layerHigh : (parseMethodDescriptor n_M_layerHigh.desc).map (fun d => d.parameters.length) = some 2 := by decide +kernel
set_option maxRecDepth 100000 in
theorem im_M_layerHigh : Cond.instanceMethod n_M_layerHigh ∈ gG.1 := List.mem_append_right _ (List.mem_append_right _ (List.mem_append_right _ (List.mem_append_right _ (List.mem_append_right _ (List.mem_append_right _ (List.mem_append_right _ (List.mem_append_right _ (List.mem_append_left _ (List.mem_of_getElem? (i := 220) rfl)))))))))
theorem se_M_layerHigh : Cond.selects R_M n_M_layerHigh n_M_layerHigh ∈ gG.1 := List.mem_append_right _ (List.mem_append_left _ (by decide +kernel))
abbrev c_M_levelCell : ByteArray := prog_14_method_20_code
def n_M_levelCell : MethodName := ⟨R_M, "levelCell", "(IIII)I"⟩
set_option maxRecDepth 100000 in
theorem cd_M_levelCell : Cond.code n_M_levelCell c_M_levelCell 4 (some .int) ∈ gG.1 := List.mem_append_right _ (List.mem_append_right _ (List.mem_append_right _ (List.mem_append_right _ (List.mem_append_right _ (List.mem_append_right _ (List.mem_append_right _ (List.mem_append_right _ (List.mem_append_right _ (List.mem_of_getElem? (i := 3) rfl)))))))))
theorem ln_M_levelCell : (parseMethodDescriptor n_M_levelCell.desc).map (fun d => d.parameters.length) = some 4 := by decide +kernel
set_option maxRecDepth 100000 in
theorem st_M_levelCell : Cond.static n_M_levelCell ∈ gG.1 := List.mem_append_right _ (List.mem_append_right _ (List.mem_append_right _ (List.mem_append_right _ (List.mem_append_right _ (List.mem_append_right _ (List.mem_append_right _ (List.mem_append_right _ (List.mem_append_right _ (List.mem_of_getElem? (i := 2) rfl)))))))))
abbrev c_M_sampleOf : ByteArray := prog_14_method_21_code
def n_M_sampleOf : MethodName := ⟨R_M, "sampleOf", "(III)I"⟩
set_option maxRecDepth 100000 in
theorem cd_M_sampleOf : Cond.code n_M_sampleOf c_M_sampleOf 8 (some .int) ∈ gG.1 := List.mem_append_right _ (List.mem_append_right _ (List.mem_append_right _ (List.mem_append_right _ (List.mem_append_right _ (List.mem_append_right _ (List.mem_append_right _ (List.mem_append_right _ (List.mem_append_left _ (List.mem_of_getElem? (i := 229) rfl)))))))))
theorem ln_M_sampleOf : (parseMethodDescriptor n_M_sampleOf.desc).map (fun d => d.parameters.length) = some 3 := by decide +kernel
set_option maxRecDepth 100000 in
theorem im_M_sampleOf : Cond.instanceMethod n_M_sampleOf ∈ gG.1 := List.mem_append_right _ (List.mem_append_right _ (List.mem_append_right _ (List.mem_append_right _ (List.mem_append_right _ (List.mem_append_right _ (List.mem_append_right _ (List.mem_append_right _ (List.mem_append_left _ (List.mem_of_getElem? (i := 228) rfl)))))))))
theorem se_M_sampleOf : Cond.selects R_M n_M_sampleOf n_M_sampleOf ∈ gG.1 := List.mem_append_right _ (List.mem_append_left _ (by decide +kernel))
abbrev c_M_makeRaster : ByteArray := prog_14_method_22_code
def n_M_makeRaster : MethodName := ⟨R_M, "makeRaster", "(I)V"⟩
set_option maxRecDepth 100000 in
theorem cd_M_makeRaster : Cond.code n_M_makeRaster c_M_makeRaster 12 (none) ∈ gG.1 := List.mem_append_right _ (List.mem_append_right _ (List.mem_append_right _ (List.mem_append_right _ (List.mem_append_right _ (List.mem_append_right _ (List.mem_append_right _ (List.mem_append_right _ (List.mem_append_left _ (List.mem_of_getElem? (i := 217) rfl)))))))))
theorem ln_M_makeRaster : (parseMethodDescriptor n_M_makeRaster.desc).map (fun d => d.parameters.length) = some 1 := by decide +kernel
set_option maxRecDepth 100000 in
theorem im_M_makeRaster : Cond.instanceMethod n_M_makeRaster ∈ gG.1 := List.mem_append_right _ (List.mem_append_right _ (List.mem_append_right _ (List.mem_append_right _ (List.mem_append_right _ (List.mem_append_right _ (List.mem_append_right _ (List.mem_append_right _ (List.mem_append_left _ (List.mem_of_getElem? (i := 216) rfl)))))))))
theorem se_M_makeRaster : Cond.selects R_M n_M_makeRaster n_M_makeRaster ∈ gG.1 := List.mem_append_right _ (List.mem_append_left _ (by decide +kernel))
abbrev c_M_makeLevels : ByteArray := prog_14_method_23_code
def n_M_makeLevels : MethodName := ⟨R_M, "makeLevels", "(II)V"⟩
set_option maxRecDepth 100000 in
theorem cd_M_makeLevels : Cond.code n_M_makeLevels c_M_makeLevels 11 (none) ∈ gG.1 := List.mem_append_right _ (List.mem_append_right _ (List.mem_append_right _ (List.mem_append_right _ (List.mem_append_right _ (List.mem_append_right _ (List.mem_append_right _ (List.mem_append_right _ (List.mem_append_left _ (List.mem_of_getElem? (i := 234) rfl)))))))))
theorem ln_M_makeLevels : (parseMethodDescriptor n_M_makeLevels.desc).map (fun d => d.parameters.length) = some 2 := by decide +kernel
set_option maxRecDepth 100000 in
theorem im_M_makeLevels : Cond.instanceMethod n_M_makeLevels ∈ gG.1 := List.mem_append_right _ (List.mem_append_right _ (List.mem_append_right _ (List.mem_append_right _ (List.mem_append_right _ (List.mem_append_right _ (List.mem_append_right _ (List.mem_append_right _ (List.mem_append_left _ (List.mem_of_getElem? (i := 233) rfl)))))))))
theorem se_M_makeLevels : Cond.selects R_M n_M_makeLevels n_M_makeLevels ∈ gG.1 := List.mem_append_right _ (List.mem_append_left _ (by decide +kernel))
abbrev c_M_makeCode : ByteArray := prog_14_method_24_code
def n_M_makeCode : MethodName := ⟨R_M, "makeCode", "(I)V"⟩
set_option maxRecDepth 100000 in
theorem cd_M_makeCode : Cond.code n_M_makeCode c_M_makeCode 11 (none) ∈ gG.1 := List.mem_append_right _ (List.mem_append_right _ (List.mem_append_right _ (List.mem_append_right _ (List.mem_append_right _ (List.mem_append_right _ (List.mem_append_right _ (List.mem_append_right _ (List.mem_append_right _ (List.mem_of_getElem? (i := 42) rfl)))))))))
theorem ln_M_makeCode : (parseMethodDescriptor n_M_makeCode.desc).map (fun d => d.parameters.length) = some 1 := by decide +kernel
set_option maxRecDepth 100000 in
theorem im_M_makeCode : Cond.instanceMethod n_M_makeCode ∈ gG.1 := List.mem_append_right _ (List.mem_append_right _ (List.mem_append_right _ (List.mem_append_right _ (List.mem_append_right _ (List.mem_append_right _ (List.mem_append_right _ (List.mem_append_right _ (List.mem_append_right _ (List.mem_of_getElem? (i := 41) rfl)))))))))
theorem se_M_makeCode : Cond.selects R_M n_M_makeCode n_M_makeCode ∈ gG.1 := List.mem_append_right _ (List.mem_append_left _ (by decide +kernel))
abbrev c_M_put : ByteArray := prog_14_method_25_code
def n_M_put : MethodName := ⟨R_M, "put", "(I)V"⟩
set_option maxRecDepth 100000 in
theorem cd_M_put : Cond.code n_M_put c_M_put 2 (none) ∈ gG.1 := List.mem_append_right _ (List.mem_append_right _ (List.mem_append_right _ (List.mem_append_right _ (List.mem_append_right _ (List.mem_append_right _ (List.mem_append_right _ (List.mem_append_right _ (List.mem_append_right _ (List.mem_of_getElem? (i := 19) rfl)))))))))
theorem ln_M_put : (parseMethodDescriptor n_M_put.desc).map (fun d => d.parameters.length) = some 1 := by decide +kernel
set_option maxRecDepth 100000 in
theorem im_M_put : Cond.instanceMethod n_M_put ∈ gG.1 := List.mem_append_right _ (List.mem_append_right _ (List.mem_append_right _ (List.mem_append_right _ (List.mem_append_right _ (List.mem_append_right _ (List.mem_append_right _ (List.mem_append_right _ (List.mem_append_right _ (List.mem_of_getElem? (i := 18) rfl)))))))))
theorem se_M_put : Cond.selects R_M n_M_put n_M_put ∈ gG.1 := List.mem_append_right _ (List.mem_append_left _ (by decide +kernel))
abbrev c_M_putTwo : ByteArray := prog_14_method_26_code
def n_M_putTwo : MethodName := ⟨R_M, "putTwo", "(I)V"⟩
set_option maxRecDepth 100000 in
theorem cd_M_putTwo : Cond.code n_M_putTwo c_M_putTwo 2 (none) ∈ gG.1 := List.mem_append_right _ (List.mem_append_right _ (List.mem_append_right _ (List.mem_append_right _ (List.mem_append_right _ (List.mem_append_right _ (List.mem_append_right _ (List.mem_append_right _ (List.mem_append_right _ (List.mem_of_getElem? (i := 50) rfl)))))))))
theorem ln_M_putTwo : (parseMethodDescriptor n_M_putTwo.desc).map (fun d => d.parameters.length) = some 1 := by decide +kernel
set_option maxRecDepth 100000 in
theorem im_M_putTwo : Cond.instanceMethod n_M_putTwo ∈ gG.1 := List.mem_append_right _ (List.mem_append_right _ (List.mem_append_right _ (List.mem_append_right _ (List.mem_append_right _ (List.mem_append_right _ (List.mem_append_right _ (List.mem_append_right _ (List.mem_append_right _ (List.mem_of_getElem? (i := 49) rfl)))))))))
theorem se_M_putTwo : Cond.selects R_M n_M_putTwo n_M_putTwo ∈ gG.1 := List.mem_append_right _ (List.mem_append_left _ (by decide +kernel))
abbrev c_M_mark : ByteArray := prog_14_method_27_code
def n_M_mark : MethodName := ⟨R_M, "mark", "(I)V"⟩
set_option maxRecDepth 100000 in
theorem cd_M_mark : Cond.code n_M_mark c_M_mark 2 (none) ∈ gG.1 := List.mem_append_right _ (List.mem_append_right _ (List.mem_append_right _ (List.mem_append_right _ (List.mem_append_right _ (List.mem_append_right _ (List.mem_append_right _ (List.mem_append_right _ (List.mem_append_right _ (List.mem_of_getElem? (i := 23) rfl)))))))))
theorem ln_M_mark : (parseMethodDescriptor n_M_mark.desc).map (fun d => d.parameters.length) = some 1 := by decide +kernel
set_option maxRecDepth 100000 in
theorem im_M_mark : Cond.instanceMethod n_M_mark ∈ gG.1 := List.mem_append_right _ (List.mem_append_right _ (List.mem_append_right _ (List.mem_append_right _ (List.mem_append_right _ (List.mem_append_right _ (List.mem_append_right _ (List.mem_append_right _ (List.mem_append_right _ (List.mem_of_getElem? (i := 22) rfl)))))))))
theorem se_M_mark : Cond.selects R_M n_M_mark n_M_mark ∈ gG.1 := List.mem_append_right _ (List.mem_append_left _ (by decide +kernel))
abbrev c_M_putBits : ByteArray := prog_14_method_28_code
def n_M_putBits : MethodName := ⟨R_M, "putBits", "(II)V"⟩
set_option maxRecDepth 100000 in
theorem cd_M_putBits : Cond.code n_M_putBits c_M_putBits 4 (none) ∈ gG.1 := List.mem_append_right _ (List.mem_append_right _ (List.mem_append_right _ (List.mem_append_right _ (List.mem_append_right _ (List.mem_append_right _ (List.mem_append_right _ (List.mem_append_right _ (List.mem_append_right _ (List.mem_of_getElem? (i := 15) rfl)))))))))
theorem ln_M_putBits : (parseMethodDescriptor n_M_putBits.desc).map (fun d => d.parameters.length) = some 2 := by decide +kernel
set_option maxRecDepth 100000 in
theorem im_M_putBits : Cond.instanceMethod n_M_putBits ∈ gG.1 := List.mem_append_right _ (List.mem_append_right _ (List.mem_append_right _ (List.mem_append_right _ (List.mem_append_right _ (List.mem_append_right _ (List.mem_append_right _ (List.mem_append_right _ (List.mem_append_right _ (List.mem_of_getElem? (i := 14) rfl)))))))))
theorem se_M_putBits : Cond.selects R_M n_M_putBits n_M_putBits ∈ gG.1 := List.mem_append_right _ (List.mem_append_left _ (by decide +kernel))
abbrev c_M_fillUp : ByteArray := prog_14_method_29_code
def n_M_fillUp : MethodName := ⟨R_M, "fillUp", "()V"⟩
set_option maxRecDepth 100000 in
theorem cd_M_fillUp : Cond.code n_M_fillUp c_M_fillUp 1 (none) ∈ gG.1 := List.mem_append_right _ (List.mem_append_right _ (List.mem_append_right _ (List.mem_append_right _ (List.mem_append_right _ (List.mem_append_right _ (List.mem_append_right _ (List.mem_append_right _ (List.mem_append_right _ (List.mem_of_getElem? (i := 11) rfl)))))))))
theorem ln_M_fillUp : (parseMethodDescriptor n_M_fillUp.desc).map (fun d => d.parameters.length) = some 0 := by decide +kernel
set_option maxRecDepth 100000 in
theorem im_M_fillUp : Cond.instanceMethod n_M_fillUp ∈ gG.1 := List.mem_append_right _ (List.mem_append_right _ (List.mem_append_right _ (List.mem_append_right _ (List.mem_append_right _ (List.mem_append_right _ (List.mem_append_right _ (List.mem_append_right _ (List.mem_append_right _ (List.mem_of_getElem? (i := 10) rfl)))))))))
theorem se_M_fillUp : Cond.selects R_M n_M_fillUp n_M_fillUp ∈ gG.1 := List.mem_append_right _ (List.mem_append_left _ (by decide +kernel))
abbrev c_M_symbol : ByteArray := prog_14_method_30_code
def n_M_symbol : MethodName := ⟨R_M, "symbol", "(ZII)V"⟩
set_option maxRecDepth 100000 in
theorem cd_M_symbol : Cond.code n_M_symbol c_M_symbol 4 (none) ∈ gG.1 := List.mem_append_right _ (List.mem_append_right _ (List.mem_append_right _ (List.mem_append_right _ (List.mem_append_right _ (List.mem_append_right _ (List.mem_append_right _ (List.mem_append_right _ (List.mem_append_right _ (List.mem_of_getElem? (i := 34) rfl)))))))))
theorem ln_M_symbol : (parseMethodDescriptor n_M_symbol.desc).map (fun d => d.parameters.length) = some 3 := by decide +kernel
set_option maxRecDepth 100000 in
theorem im_M_symbol : Cond.instanceMethod n_M_symbol ∈ gG.1 := List.mem_append_right _ (List.mem_append_right _ (List.mem_append_right _ (List.mem_append_right _ (List.mem_append_right _ (List.mem_append_right _ (List.mem_append_right _ (List.mem_append_right _ (List.mem_append_right _ (List.mem_of_getElem? (i := 33) rfl)))))))))
theorem se_M_symbol : Cond.selects R_M n_M_symbol n_M_symbol ∈ gG.1 := List.mem_append_right _ (List.mem_append_left _ (by decide +kernel))
abbrev c_M_bitsOf : ByteArray := prog_14_method_31_code
def n_M_bitsOf : MethodName := ⟨R_M, "bitsOf", "(I)I"⟩
set_option maxRecDepth 100000 in
theorem cd_M_bitsOf : Cond.code n_M_bitsOf c_M_bitsOf 3 (some .int) ∈ gG.1 := List.mem_append_right _ (List.mem_append_right _ (List.mem_append_right _ (List.mem_append_right _ (List.mem_append_right _ (List.mem_append_right _ (List.mem_append_right _ (List.mem_append_right _ (List.mem_append_right _ (List.mem_of_getElem? (i := 30) rfl)))))))))
theorem ln_M_bitsOf : (parseMethodDescriptor n_M_bitsOf.desc).map (fun d => d.parameters.length) = some 1 := by decide +kernel
set_option maxRecDepth 100000 in
theorem st_M_bitsOf : Cond.static n_M_bitsOf ∈ gG.1 := List.mem_append_right _ (List.mem_append_right _ (List.mem_append_right _ (List.mem_append_right _ (List.mem_append_right _ (List.mem_append_right _ (List.mem_append_right _ (List.mem_append_right _ (List.mem_append_right _ (List.mem_of_getElem? (i := 29) rfl)))))))))
abbrev c_M_number : ByteArray := prog_14_method_32_code
def n_M_number : MethodName := ⟨R_M, "number", "(ZII)V"⟩
set_option maxRecDepth 100000 in
theorem cd_M_number : Cond.code n_M_number c_M_number 4 (none) ∈ gG.1 := List.mem_append_right _ (List.mem_append_right _ (List.mem_append_right _ (List.mem_append_right _ (List.mem_append_right _ (List.mem_append_right _ (List.mem_append_right _ (List.mem_append_right _ (List.mem_append_right _ (List.mem_of_getElem? (i := 38) rfl)))))))))
theorem ln_M_number : (parseMethodDescriptor n_M_number.desc).map (fun d => d.parameters.length) = some 3 := by decide +kernel
set_option maxRecDepth 100000 in
theorem im_M_number : Cond.instanceMethod n_M_number ∈ gG.1 := List.mem_append_right _ (List.mem_append_right _ (List.mem_append_right _ (List.mem_append_right _ (List.mem_append_right _ (List.mem_append_right _ (List.mem_append_right _ (List.mem_append_right _ (List.mem_append_right _ (List.mem_of_getElem? (i := 37) rfl)))))))))
theorem se_M_number : Cond.selects R_M n_M_number n_M_number ∈ gG.1 := List.mem_append_right _ (List.mem_append_left _ (by decide +kernel))
abbrev c_M_tell : ByteArray := prog_14_method_33_code
def n_M_tell : MethodName := ⟨R_M, "tell", "(ZII)V"⟩
set_option maxRecDepth 100000 in
theorem cd_M_tell : Cond.code n_M_tell c_M_tell 10 (none) ∈ gG.1 := List.mem_append_right _ (List.mem_append_right _ (List.mem_append_right _ (List.mem_append_right _ (List.mem_append_right _ (List.mem_append_right _ (List.mem_append_right _ (List.mem_append_right _ (List.mem_append_right _ (List.mem_of_getElem? (i := 27) rfl)))))))))
theorem ln_M_tell : (parseMethodDescriptor n_M_tell.desc).map (fun d => d.parameters.length) = some 3 := by decide +kernel
set_option maxRecDepth 100000 in
theorem im_M_tell : Cond.instanceMethod n_M_tell ∈ gG.1 := List.mem_append_right _ (List.mem_append_right _ (List.mem_append_right _ (List.mem_append_right _ (List.mem_append_right _ (List.mem_append_right _ (List.mem_append_right _ (List.mem_append_right _ (List.mem_append_right _ (List.mem_of_getElem? (i := 26) rfl)))))))))
theorem se_M_tell : Cond.selects R_M n_M_tell n_M_tell ∈ gG.1 := List.mem_append_right _ (List.mem_append_left _ (by decide +kernel))
abbrev c_M_units : ByteArray := prog_14_method_34_code
def n_M_units : MethodName := ⟨R_M, "units", "(ZI)V"⟩
set_option maxRecDepth 100000 in
theorem cd_M_units : Cond.code n_M_units c_M_units 17 (none) ∈ gG.1 := List.mem_append_right _ (List.mem_append_right _ (List.mem_append_right _ (List.mem_append_right _ (List.mem_append_right _ (List.mem_append_right _ (List.mem_append_right _ (List.mem_append_right _ (List.mem_append_right _ (List.mem_of_getElem? (i := 7) rfl)))))))))
theorem ln_M_units : (parseMethodDescriptor n_M_units.desc).map (fun d => d.parameters.length) = some 2 := by decide +kernel
set_option maxRecDepth 100000 in
theorem im_M_units : Cond.instanceMethod n_M_units ∈ gG.1 := List.mem_append_right _ (List.mem_append_right _ (List.mem_append_right _ (List.mem_append_right _ (List.mem_append_right _ (List.mem_append_right _ (List.mem_append_right _ (List.mem_append_right _ (List.mem_append_right _ (List.mem_of_getElem? (i := 6) rfl)))))))))
theorem se_M_units : Cond.selects R_M n_M_units n_M_units ∈ gG.1 := List.mem_append_right _ (List.mem_append_left _ (by decide +kernel))
abbrev c_M_putCode : ByteArray := prog_14_method_35_code
def n_M_putCode : MethodName := ⟨R_M, "putCode", "(II)V"⟩
set_option maxRecDepth 100000 in
theorem cd_M_putCode : Cond.code n_M_putCode c_M_putCode 6 (none) ∈ gG.1 := List.mem_append_right _ (List.mem_append_right _ (List.mem_append_right _ (List.mem_append_right _ (List.mem_append_right _ (List.mem_append_right _ (List.mem_append_right _ (List.mem_append_right _ (List.mem_append_right _ (List.mem_of_getElem? (i := 58) rfl)))))))))
theorem ln_M_putCode : (parseMethodDescriptor n_M_putCode.desc).map (fun d => d.parameters.length) = some 2 := by decide +kernel
set_option maxRecDepth 100000 in
theorem im_M_putCode : Cond.instanceMethod n_M_putCode ∈ gG.1 := List.mem_append_right _ (List.mem_append_right _ (List.mem_append_right _ (List.mem_append_right _ (List.mem_append_right _ (List.mem_append_right _ (List.mem_append_right _ (List.mem_append_right _ (List.mem_append_right _ (List.mem_of_getElem? (i := 57) rfl)))))))))
theorem se_M_putCode : Cond.selects R_M n_M_putCode n_M_putCode ∈ gG.1 := List.mem_append_right _ (List.mem_append_left _ (by decide +kernel))
abbrev c_M_codeSize : ByteArray := prog_14_method_36_code
def n_M_codeSize : MethodName := ⟨R_M, "codeSize", "(I)I"⟩
set_option maxRecDepth 100000 in
theorem cd_M_codeSize : Cond.code n_M_codeSize c_M_codeSize 4 (some .int) ∈ gG.1 := List.mem_append_right _ (List.mem_append_right _ (List.mem_append_right _ (List.mem_append_right _ (List.mem_append_right _ (List.mem_append_right _ (List.mem_append_right _ (List.mem_append_right _ (List.mem_append_right _ (List.mem_of_getElem? (i := 54) rfl)))))))))
theorem ln_M_codeSize : (parseMethodDescriptor n_M_codeSize.desc).map (fun d => d.parameters.length) = some 1 := by decide +kernel
set_option maxRecDepth 100000 in
theorem im_M_codeSize : Cond.instanceMethod n_M_codeSize ∈ gG.1 := List.mem_append_right _ (List.mem_append_right _ (List.mem_append_right _ (List.mem_append_right _ (List.mem_append_right _ (List.mem_append_right _ (List.mem_append_right _ (List.mem_append_right _ (List.mem_append_right _ (List.mem_of_getElem? (i := 53) rfl)))))))))
theorem se_M_codeSize : Cond.selects R_M n_M_codeSize n_M_codeSize ∈ gG.1 := List.mem_append_right _ (List.mem_append_left _ (by decide +kernel))
abbrev c_M_putSections : ByteArray := prog_14_method_37_code
def n_M_putSections : MethodName := ⟨R_M, "putSections", "(I)V"⟩
set_option maxRecDepth 100000 in
theorem cd_M_putSections : Cond.code n_M_putSections c_M_putSections 6 (none) ∈ gG.1 := List.mem_append_right _ (List.mem_append_right _ (List.mem_append_right _ (List.mem_append_right _ (List.mem_append_right _ (List.mem_append_right _ (List.mem_append_right _ (List.mem_append_right _ (List.mem_append_right _ (List.mem_of_getElem? (i := 46) rfl)))))))))
theorem ln_M_putSections : (parseMethodDescriptor n_M_putSections.desc).map (fun d => d.parameters.length) = some 1 := by decide +kernel
set_option maxRecDepth 100000 in
theorem im_M_putSections : Cond.instanceMethod n_M_putSections ∈ gG.1 := List.mem_append_right _ (List.mem_append_right _ (List.mem_append_right _ (List.mem_append_right _ (List.mem_append_right _ (List.mem_append_right _ (List.mem_append_right _ (List.mem_append_right _ (List.mem_append_right _ (List.mem_of_getElem? (i := 45) rfl)))))))))
theorem se_M_putSections : Cond.selects R_M n_M_putSections n_M_putSections ∈ gG.1 := List.mem_append_right _ (List.mem_append_left _ (by decide +kernel))
abbrev c_M_pack : ByteArray := prog_14_method_38_code
def n_M_pack : MethodName := ⟨R_M, "pack", "(III)I"⟩
set_option maxRecDepth 100000 in
theorem cd_M_pack : Cond.code n_M_pack c_M_pack 8 (some .int) ∈ gG.1 := List.mem_append_right _ (List.mem_append_right _ (List.mem_append_right _ (List.mem_append_right _ (List.mem_append_right _ (List.mem_append_right _ (List.mem_append_right _ (List.mem_append_right _ (List.mem_append_left _ (List.mem_of_getElem? (i := 201) rfl)))))))))
theorem ln_M_pack : (parseMethodDescriptor n_M_pack.desc).map (fun d => d.parameters.length) = some 3 := by decide +kernel
set_option maxRecDepth 100000 in
theorem im_M_pack : Cond.instanceMethod n_M_pack ∈ gG.1 := List.mem_append_right _ (List.mem_append_right _ (List.mem_append_right _ (List.mem_append_right _ (List.mem_append_right _ (List.mem_append_right _ (List.mem_append_right _ (List.mem_append_right _ (List.mem_append_left _ (List.mem_of_getElem? (i := 199) rfl)))))))))
set_option maxRecDepth 100000 in
theorem se_M_pack : Cond.selects R_M n_M_pack n_M_pack ∈ gG.1 := List.mem_append_right _ (List.mem_append_right _ (List.mem_append_right _ (List.mem_append_right _ (List.mem_append_right _ (List.mem_append_right _ (List.mem_append_right _ (List.mem_append_right _ (List.mem_append_left _ (List.mem_of_getElem? (i := 200) rfl)))))))))
abbrev c_M_size : ByteArray := prog_14_method_39_code
def n_M_size : MethodName := ⟨R_M, "size", "()I"⟩
set_option maxRecDepth 100000 in
theorem cd_M_size : Cond.code n_M_size c_M_size 1 (some .int) ∈ gG.1 := List.mem_append_right _ (List.mem_append_right _ (List.mem_append_right _ (List.mem_append_right _ (List.mem_append_right _ (List.mem_append_right _ (List.mem_append_right _ (List.mem_append_right _ (List.mem_append_right _ (List.mem_of_getElem? (i := 62) rfl)))))))))
theorem ln_M_size : (parseMethodDescriptor n_M_size.desc).map (fun d => d.parameters.length) = some 0 := by decide +kernel
set_option maxRecDepth 100000 in
theorem im_M_size : Cond.instanceMethod n_M_size ∈ gG.1 := List.mem_append_right _ (List.mem_append_right _ (List.mem_append_right _ (List.mem_append_right _ (List.mem_append_right _ (List.mem_append_right _ (List.mem_append_right _ (List.mem_append_right _ (List.mem_append_right _ (List.mem_of_getElem? (i := 60) rfl)))))))))
set_option maxRecDepth 100000 in
theorem se_M_size : Cond.selects R_M n_M_size n_M_size ∈ gG.1 := List.mem_append_right _ (List.mem_append_right _ (List.mem_append_right _ (List.mem_append_right _ (List.mem_append_right _ (List.mem_append_right _ (List.mem_append_right _ (List.mem_append_right _ (List.mem_append_right _ (List.mem_of_getElem? (i := 61) rfl)))))))))
abbrev c_M_out : ByteArray := prog_14_method_40_code
def n_M_out : MethodName := ⟨R_M, "out", "(I)I"⟩
set_option maxRecDepth 100000 in
theorem cd_M_out : Cond.code n_M_out c_M_out 2 (some .int) ∈ gG.1 := List.mem_append_right _ (List.mem_append_right _ (List.mem_append_right _ (List.mem_append_right _ (List.mem_append_right _ (List.mem_append_right _ (List.mem_append_right _ (List.mem_append_right _ (List.mem_append_right _ (List.mem_of_getElem? (i := 66) rfl)))))))))
theorem ln_M_out : (parseMethodDescriptor n_M_out.desc).map (fun d => d.parameters.length) = some 1 := by decide +kernel
set_option maxRecDepth 100000 in
theorem im_M_out : Cond.instanceMethod n_M_out ∈ gG.1 := List.mem_append_right _ (List.mem_append_right _ (List.mem_append_right _ (List.mem_append_right _ (List.mem_append_right _ (List.mem_append_right _ (List.mem_append_right _ (List.mem_append_right _ (List.mem_append_right _ (List.mem_of_getElem? (i := 64) rfl)))))))))
set_option maxRecDepth 100000 in
theorem se_M_out : Cond.selects R_M n_M_out n_M_out ∈ gG.1 := List.mem_append_right _ (List.mem_append_right _ (List.mem_append_right _ (List.mem_append_right _ (List.mem_append_right _ (List.mem_append_right _ (List.mem_append_right _ (List.mem_append_right _ (List.mem_append_right _ (List.mem_of_getElem? (i := 65) rfl)))))))))
abbrev c_M_feed : ByteArray := prog_14_method_41_code
def n_M_feed : MethodName := ⟨R_M, "feed", "(IIIII)I"⟩
set_option maxRecDepth 100000 in
theorem cd_M_feed : Cond.code n_M_feed c_M_feed 8 (some .int) ∈ gG.1 := List.mem_append_right _ (List.mem_append_right _ (List.mem_append_right _ (List.mem_append_right _ (List.mem_append_right _ (List.mem_append_right _ (List.mem_append_right _ (List.mem_append_right _ (List.mem_append_right _ (List.mem_of_getElem? (i := 70) rfl)))))))))
theorem ln_M_feed : (parseMethodDescriptor n_M_feed.desc).map (fun d => d.parameters.length) = some 5 := by decide +kernel
set_option maxRecDepth 100000 in
theorem im_M_feed : Cond.instanceMethod n_M_feed ∈ gG.1 := List.mem_append_right _ (List.mem_append_right _ (List.mem_append_right _ (List.mem_append_right _ (List.mem_append_right _ (List.mem_append_right _ (List.mem_append_right _ (List.mem_append_right _ (List.mem_append_right _ (List.mem_of_getElem? (i := 68) rfl)))))))))
set_option maxRecDepth 100000 in
theorem se_M_feed : Cond.selects R_M n_M_feed n_M_feed ∈ gG.1 := List.mem_append_right _ (List.mem_append_right _ (List.mem_append_right _ (List.mem_append_right _ (List.mem_append_right _ (List.mem_append_right _ (List.mem_append_right _ (List.mem_append_right _ (List.mem_append_right _ (List.mem_of_getElem? (i := 69) rfl)))))))))
abbrev c_M_end : ByteArray := prog_14_method_42_code
def n_M_end : MethodName := ⟨R_M, "end", "(I)V"⟩
set_option maxRecDepth 100000 in
theorem cd_M_end : Cond.code n_M_end c_M_end 2 (none) ∈ gG.1 := List.mem_append_right _ (List.mem_append_right _ (List.mem_append_right _ (List.mem_append_right _ (List.mem_append_right _ (List.mem_append_right _ (List.mem_append_right _ (List.mem_append_right _ (List.mem_append_right _ (List.mem_of_getElem? (i := 74) rfl)))))))))
theorem ln_M_end : (parseMethodDescriptor n_M_end.desc).map (fun d => d.parameters.length) = some 1 := by decide +kernel
set_option maxRecDepth 100000 in
theorem im_M_end : Cond.instanceMethod n_M_end ∈ gG.1 := List.mem_append_right _ (List.mem_append_right _ (List.mem_append_right _ (List.mem_append_right _ (List.mem_append_right _ (List.mem_append_right _ (List.mem_append_right _ (List.mem_append_right _ (List.mem_append_right _ (List.mem_of_getElem? (i := 72) rfl)))))))))
set_option maxRecDepth 100000 in
theorem se_M_end : Cond.selects R_M n_M_end n_M_end ∈ gG.1 := List.mem_append_right _ (List.mem_append_right _ (List.mem_append_right _ (List.mem_append_right _ (List.mem_append_right _ (List.mem_append_right _ (List.mem_append_right _ (List.mem_append_right _ (List.mem_append_right _ (List.mem_of_getElem? (i := 73) rfl)))))))))
abbrev c_M_change : ByteArray := prog_14_method_43_code
def n_M_change : MethodName := ⟨R_M, "change", "(II)I"⟩
set_option maxRecDepth 100000 in
theorem cd_M_change : Cond.code n_M_change c_M_change 3 (some .int) ∈ gG.1 := List.mem_append_right _ (List.mem_append_right _ (List.mem_append_right _ (List.mem_append_right _ (List.mem_append_right _ (List.mem_append_right _ (List.mem_append_right _ (List.mem_append_right _ (List.mem_append_right _ (List.mem_of_getElem? (i := 78) rfl)))))))))
theorem ln_M_change : (parseMethodDescriptor n_M_change.desc).map (fun d => d.parameters.length) = some 2 := by decide +kernel
set_option maxRecDepth 100000 in
theorem im_M_change : Cond.instanceMethod n_M_change ∈ gG.1 := List.mem_append_right _ (List.mem_append_right _ (List.mem_append_right _ (List.mem_append_right _ (List.mem_append_right _ (List.mem_append_right _ (List.mem_append_right _ (List.mem_append_right _ (List.mem_append_right _ (List.mem_of_getElem? (i := 76) rfl)))))))))
set_option maxRecDepth 100000 in
theorem se_M_change : Cond.selects R_M n_M_change n_M_change ∈ gG.1 := List.mem_append_right _ (List.mem_append_right _ (List.mem_append_right _ (List.mem_append_right _ (List.mem_append_right _ (List.mem_append_right _ (List.mem_append_right _ (List.mem_append_right _ (List.mem_append_right _ (List.mem_of_getElem? (i := 77) rfl)))))))))
abbrev c_M_turn2 : ByteArray := prog_14_method_44_code
def n_M_turn2 : MethodName := ⟨R_M, "turn", "()I"⟩
set_option maxRecDepth 100000 in
theorem cd_M_turn2 : Cond.code n_M_turn2 c_M_turn2 2 (some .int) ∈ gG.1 := List.mem_append_right _ (List.mem_append_right _ (List.mem_append_right _ (List.mem_append_right _ (List.mem_append_right _ (List.mem_append_right _ (List.mem_append_right _ (List.mem_append_right _ (List.mem_append_right _ (List.mem_of_getElem? (i := 82) rfl)))))))))
theorem ln_M_turn2 : (parseMethodDescriptor n_M_turn2.desc).map (fun d => d.parameters.length) = some 0 := by decide +kernel
set_option maxRecDepth 100000 in
theorem im_M_turn2 : Cond.instanceMethod n_M_turn2 ∈ gG.1 := List.mem_append_right _ (List.mem_append_right _ (List.mem_append_right _ (List.mem_append_right _ (List.mem_append_right _ (List.mem_append_right _ (List.mem_append_right _ (List.mem_append_right _ (List.mem_append_right _ (List.mem_of_getElem? (i := 80) rfl)))))))))
set_option maxRecDepth 100000 in
theorem se_M_turn2 : Cond.selects R_M n_M_turn2 n_M_turn2 ∈ gG.1 := List.mem_append_right _ (List.mem_append_right _ (List.mem_append_right _ (List.mem_append_right _ (List.mem_append_right _ (List.mem_append_right _ (List.mem_append_right _ (List.mem_append_right _ (List.mem_append_right _ (List.mem_of_getElem? (i := 81) rfl)))))))))
abbrev c_M_fail : ByteArray := prog_14_method_45_code
def n_M_fail : MethodName := ⟨R_M, "fail", "(II)Z"⟩
set_option maxRecDepth 100000 in
theorem cd_M_fail : Cond.code n_M_fail c_M_fail 3 (some .boolean) ∈ gG.1 := List.mem_append_right _ (List.mem_append_right _ (List.mem_append_right _ (List.mem_append_right _ (List.mem_append_right _ (List.mem_append_right _ (List.mem_append_right _ (List.mem_append_right _ (List.mem_append_right _ (List.mem_of_getElem? (i := 102) rfl)))))))))
theorem ln_M_fail : (parseMethodDescriptor n_M_fail.desc).map (fun d => d.parameters.length) = some 2 := by decide +kernel
set_option maxRecDepth 100000 in
theorem im_M_fail : Cond.instanceMethod n_M_fail ∈ gG.1 := List.mem_append_right _ (List.mem_append_right _ (List.mem_append_right _ (List.mem_append_right _ (List.mem_append_right _ (List.mem_append_right _ (List.mem_append_right _ (List.mem_append_right _ (List.mem_append_right _ (List.mem_of_getElem? (i := 101) rfl)))))))))
theorem se_M_fail : Cond.selects R_M n_M_fail n_M_fail ∈ gG.1 := List.mem_append_right _ (List.mem_append_left _ (by decide +kernel))
abbrev c_M_next : ByteArray := prog_14_method_46_code
def n_M_next : MethodName := ⟨R_M, "next", "()I"⟩
set_option maxRecDepth 100000 in
theorem cd_M_next : Cond.code n_M_next c_M_next 2 (some .int) ∈ gG.1 := List.mem_append_right _ (List.mem_append_right _ (List.mem_append_right _ (List.mem_append_right _ (List.mem_append_right _ (List.mem_append_right _ (List.mem_append_right _ (List.mem_append_right _ (List.mem_append_right _ (List.mem_of_getElem? (i := 98) rfl)))))))))
theorem ln_M_next : (parseMethodDescriptor n_M_next.desc).map (fun d => d.parameters.length) = some 0 := by decide +kernel
set_option maxRecDepth 100000 in
theorem im_M_next : Cond.instanceMethod n_M_next ∈ gG.1 := List.mem_append_right _ (List.mem_append_right _ (List.mem_append_right _ (List.mem_append_right _ (List.mem_append_right _ (List.mem_append_right _ (List.mem_append_right _ (List.mem_append_right _ (List.mem_append_right _ (List.mem_of_getElem? (i := 97) rfl)))))))))
theorem se_M_next : Cond.selects R_M n_M_next n_M_next ∈ gG.1 := List.mem_append_right _ (List.mem_append_left _ (by decide +kernel))
abbrev c_M_nextWithin : ByteArray := prog_14_method_47_code
def n_M_nextWithin : MethodName := ⟨R_M, "nextWithin", "()I"⟩
set_option maxRecDepth 100000 in
theorem cd_M_nextWithin : Cond.code n_M_nextWithin c_M_nextWithin 2 (some .int) ∈ gG.1 := List.mem_append_right _ (List.mem_append_right _ (List.mem_append_right _ (List.mem_append_right _ (List.mem_append_right _ (List.mem_append_right _ (List.mem_append_right _ (List.mem_append_right _ (List.mem_append_right _ (List.mem_of_getElem? (i := 130) rfl)))))))))
theorem ln_M_nextWithin : (parseMethodDescriptor n_M_nextWithin.desc).map (fun d => d.parameters.length) = some 0 := by decide +kernel
set_option maxRecDepth 100000 in
theorem im_M_nextWithin : Cond.instanceMethod n_M_nextWithin ∈ gG.1 := List.mem_append_right _ (List.mem_append_right _ (List.mem_append_right _ (List.mem_append_right _ (List.mem_append_right _ (List.mem_append_right _ (List.mem_append_right _ (List.mem_append_right _ (List.mem_append_right _ (List.mem_of_getElem? (i := 129) rfl)))))))))
theorem se_M_nextWithin : Cond.selects R_M n_M_nextWithin n_M_nextWithin ∈ gG.1 := List.mem_append_right _ (List.mem_append_left _ (by decide +kernel))
abbrev c_M_readMark : ByteArray := prog_14_method_48_code
def n_M_readMark : MethodName := ⟨R_M, "readMark", "()I"⟩
set_option maxRecDepth 100000 in
theorem cd_M_readMark : Cond.code n_M_readMark c_M_readMark 4 (some .int) ∈ gG.1 := List.mem_append_right _ (List.mem_append_right _ (List.mem_append_right _ (List.mem_append_right _ (List.mem_append_right _ (List.mem_append_right _ (List.mem_append_right _ (List.mem_append_right _ (List.mem_append_right _ (List.mem_of_getElem? (i := 94) rfl)))))))))
theorem ln_M_readMark : (parseMethodDescriptor n_M_readMark.desc).map (fun d => d.parameters.length) = some 0 := by decide +kernel
set_option maxRecDepth 100000 in
theorem im_M_readMark : Cond.instanceMethod n_M_readMark ∈ gG.1 := List.mem_append_right _ (List.mem_append_right _ (List.mem_append_right _ (List.mem_append_right _ (List.mem_append_right _ (List.mem_append_right _ (List.mem_append_right _ (List.mem_append_right _ (List.mem_append_right _ (List.mem_of_getElem? (i := 93) rfl)))))))))
theorem se_M_readMark : Cond.selects R_M n_M_readMark n_M_readMark ∈ gG.1 := List.mem_append_right _ (List.mem_append_left _ (by decide +kernel))
abbrev c_M_nextTwo : ByteArray := prog_14_method_49_code
def n_M_nextTwo : MethodName := ⟨R_M, "nextTwo", "()I"⟩
set_option maxRecDepth 100000 in
theorem cd_M_nextTwo : Cond.code n_M_nextTwo c_M_nextTwo 3 (some .int) ∈ gG.1 := List.mem_append_right _ (List.mem_append_right _ (List.mem_append_right _ (List.mem_append_right _ (List.mem_append_right _ (List.mem_append_right _ (List.mem_append_right _ (List.mem_append_right _ (List.mem_append_right _ (List.mem_of_getElem? (i := 122) rfl)))))))))
theorem ln_M_nextTwo : (parseMethodDescriptor n_M_nextTwo.desc).map (fun d => d.parameters.length) = some 0 := by decide +kernel
set_option maxRecDepth 100000 in
theorem im_M_nextTwo : Cond.instanceMethod n_M_nextTwo ∈ gG.1 := List.mem_append_right _ (List.mem_append_right _ (List.mem_append_right _ (List.mem_append_right _ (List.mem_append_right _ (List.mem_append_right _ (List.mem_append_right _ (List.mem_append_right _ (List.mem_append_right _ (List.mem_of_getElem? (i := 121) rfl)))))))))
theorem se_M_nextTwo : Cond.selects R_M n_M_nextTwo n_M_nextTwo ∈ gG.1 := List.mem_append_right _ (List.mem_append_left _ (by decide +kernel))
abbrev c_M_readLength : ByteArray := prog_14_method_50_code
def n_M_readLength : MethodName := ⟨R_M, "readLength", "()V"⟩
set_option maxRecDepth 100000 in
theorem cd_M_readLength : Cond.code n_M_readLength c_M_readLength 3 (none) ∈ gG.1 := List.mem_append_right _ (List.mem_append_right _ (List.mem_append_right _ (List.mem_append_right _ (List.mem_append_right _ (List.mem_append_right _ (List.mem_append_right _ (List.mem_append_right _ (List.mem_append_right _ (List.mem_of_getElem? (i := 118) rfl)))))))))
theorem ln_M_readLength : (parseMethodDescriptor n_M_readLength.desc).map (fun d => d.parameters.length) = some 0 := by decide +kernel
set_option maxRecDepth 100000 in
theorem im_M_readLength : Cond.instanceMethod n_M_readLength ∈ gG.1 := List.mem_append_right _ (List.mem_append_right _ (List.mem_append_right _ (List.mem_append_right _ (List.mem_append_right _ (List.mem_append_right _ (List.mem_append_right _ (List.mem_append_right _ (List.mem_append_right _ (List.mem_of_getElem? (i := 117) rfl)))))))))
theorem se_M_readLength : Cond.selects R_M n_M_readLength n_M_readLength ∈ gG.1 := List.mem_append_right _ (List.mem_append_left _ (by decide +kernel))
abbrev c_M_must : ByteArray := prog_14_method_51_code
def n_M_must : MethodName := ⟨R_M, "must", "(ZI)V"⟩
set_option maxRecDepth 100000 in
theorem cd_M_must : Cond.code n_M_must c_M_must 4 (none) ∈ gG.1 := List.mem_append_right _ (List.mem_append_right _ (List.mem_append_right _ (List.mem_append_right _ (List.mem_append_right _ (List.mem_append_right _ (List.mem_append_right _ (List.mem_append_right _ (List.mem_append_right _ (List.mem_of_getElem? (i := 134) rfl)))))))))
theorem ln_M_must : (parseMethodDescriptor n_M_must.desc).map (fun d => d.parameters.length) = some 2 := by decide +kernel
set_option maxRecDepth 100000 in
theorem im_M_must : Cond.instanceMethod n_M_must ∈ gG.1 := List.mem_append_right _ (List.mem_append_right _ (List.mem_append_right _ (List.mem_append_right _ (List.mem_append_right _ (List.mem_append_right _ (List.mem_append_right _ (List.mem_append_right _ (List.mem_append_right _ (List.mem_of_getElem? (i := 133) rfl)))))))))
theorem se_M_must : Cond.selects R_M n_M_must n_M_must ∈ gG.1 := List.mem_append_right _ (List.mem_append_left _ (by decide +kernel))
abbrev c_M_readTables : ByteArray := prog_14_method_52_code
def n_M_readTables : MethodName := ⟨R_M, "readTables", "()V"⟩
set_option maxRecDepth 100000 in
theorem cd_M_readTables : Cond.code n_M_readTables c_M_readTables 5 (none) ∈ gG.1 := List.mem_append_right _ (List.mem_append_right _ (List.mem_append_right _ (List.mem_append_right _ (List.mem_append_right _ (List.mem_append_right _ (List.mem_append_right _ (List.mem_append_right _ (List.mem_append_right _ (List.mem_of_getElem? (i := 126) rfl)))))))))
theorem ln_M_readTables : (parseMethodDescriptor n_M_readTables.desc).map (fun d => d.parameters.length) = some 0 := by decide +kernel
set_option maxRecDepth 100000 in
theorem im_M_readTables : Cond.instanceMethod n_M_readTables ∈ gG.1 := List.mem_append_right _ (List.mem_append_right _ (List.mem_append_right _ (List.mem_append_right _ (List.mem_append_right _ (List.mem_append_right _ (List.mem_append_right _ (List.mem_append_right _ (List.mem_append_right _ (List.mem_of_getElem? (i := 125) rfl)))))))))
theorem se_M_readTables : Cond.selects R_M n_M_readTables n_M_readTables ∈ gG.1 := List.mem_append_right _ (List.mem_append_left _ (by decide +kernel))
abbrev c_M_readCodes : ByteArray := prog_14_method_53_code
def n_M_readCodes : MethodName := ⟨R_M, "readCodes", "()V"⟩
set_option maxRecDepth 100000 in
theorem cd_M_readCodes : Cond.code n_M_readCodes c_M_readCodes 11 (none) ∈ gG.1 := List.mem_append_right _ (List.mem_append_right _ (List.mem_append_right _ (List.mem_append_right _ (List.mem_append_right _ (List.mem_append_right _ (List.mem_append_right _ (List.mem_append_right _ (List.mem_append_right _ (List.mem_of_getElem? (i := 138) rfl)))))))))
theorem ln_M_readCodes : (parseMethodDescriptor n_M_readCodes.desc).map (fun d => d.parameters.length) = some 0 := by decide +kernel
set_option maxRecDepth 100000 in
theorem im_M_readCodes : Cond.instanceMethod n_M_readCodes ∈ gG.1 := List.mem_append_right _ (List.mem_append_right _ (List.mem_append_right _ (List.mem_append_right _ (List.mem_append_right _ (List.mem_append_right _ (List.mem_append_right _ (List.mem_append_right _ (List.mem_append_right _ (List.mem_of_getElem? (i := 137) rfl)))))))))
theorem se_M_readCodes : Cond.selects R_M n_M_readCodes n_M_readCodes ∈ gG.1 := List.mem_append_right _ (List.mem_append_left _ (by decide +kernel))
abbrev c_M_readFrame : ByteArray := prog_14_method_54_code
def n_M_readFrame : MethodName := ⟨R_M, "readFrame", "()V"⟩
set_option maxRecDepth 100000 in
theorem cd_M_readFrame : Cond.code n_M_readFrame c_M_readFrame 8 (none) ∈ gG.1 := List.mem_append_right _ (List.mem_append_right _ (List.mem_append_right _ (List.mem_append_right _ (List.mem_append_right _ (List.mem_append_right _ (List.mem_append_right _ (List.mem_append_right _ (List.mem_append_right _ (List.mem_of_getElem? (i := 143) rfl)))))))))
theorem ln_M_readFrame : (parseMethodDescriptor n_M_readFrame.desc).map (fun d => d.parameters.length) = some 0 := by decide +kernel
set_option maxRecDepth 100000 in
theorem im_M_readFrame : Cond.instanceMethod n_M_readFrame ∈ gG.1 := List.mem_append_right _ (List.mem_append_right _ (List.mem_append_right _ (List.mem_append_right _ (List.mem_append_right _ (List.mem_append_right _ (List.mem_append_right _ (List.mem_append_right _ (List.mem_append_right _ (List.mem_of_getElem? (i := 142) rfl)))))))))
theorem se_M_readFrame : Cond.selects R_M n_M_readFrame n_M_readFrame ∈ gG.1 := List.mem_append_right _ (List.mem_append_left _ (by decide +kernel))
abbrev c_M_layerNamed : ByteArray := prog_14_method_55_code
def n_M_layerNamed : MethodName := ⟨R_M, "layerNamed", "(I)I"⟩
set_option maxRecDepth 100000 in
theorem cd_M_layerNamed : Cond.code n_M_layerNamed c_M_layerNamed 4 (some .int) ∈ gG.1 := List.mem_append_right _ (List.mem_append_right _ (List.mem_append_right _ (List.mem_append_right _ (List.mem_append_right _ (List.mem_append_right _ (List.mem_append_right _ (List.mem_append_right _ (List.mem_append_right _ (List.mem_of_getElem? (i := 151) rfl)))))))))
theorem ln_M_layerNamed : (parseMethodDescriptor n_M_layerNamed.desc).map (fun d => d.parameters.length) = some 1 := by decide +kernel
set_option maxRecDepth 100000 in
theorem im_M_layerNamed : Cond.instanceMethod n_M_layerNamed ∈ gG.1 := List.mem_append_right _ (List.mem_append_right _ (List.mem_append_right _ (List.mem_append_right _ (List.mem_append_right _ (List.mem_append_right _ (List.mem_append_right _ (List.mem_append_right _ (List.mem_append_right _ (List.mem_of_getElem? (i := 150) rfl)))))))))
theorem se_M_layerNamed : Cond.selects R_M n_M_layerNamed n_M_layerNamed ∈ gG.1 := List.mem_append_right _ (List.mem_append_left _ (by decide +kernel))
abbrev c_M_readScanHead : ByteArray := prog_14_method_56_code
def n_M_readScanHead : MethodName := ⟨R_M, "readScanHead", "()V"⟩
set_option maxRecDepth 100000 in
theorem cd_M_readScanHead : Cond.code n_M_readScanHead c_M_readScanHead 10 (none) ∈ gG.1 := List.mem_append_right _ (List.mem_append_right _ (List.mem_append_right _ (List.mem_append_right _ (List.mem_append_right _ (List.mem_append_right _ (List.mem_append_right _ (List.mem_append_right _ (List.mem_append_right _ (List.mem_of_getElem? (i := 147) rfl)))))))))
theorem ln_M_readScanHead : (parseMethodDescriptor n_M_readScanHead.desc).map (fun d => d.parameters.length) = some 0 := by decide +kernel
set_option maxRecDepth 100000 in
theorem im_M_readScanHead : Cond.instanceMethod n_M_readScanHead ∈ gG.1 := List.mem_append_right _ (List.mem_append_right _ (List.mem_append_right _ (List.mem_append_right _ (List.mem_append_right _ (List.mem_append_right _ (List.mem_append_right _ (List.mem_append_right _ (List.mem_append_right _ (List.mem_of_getElem? (i := 146) rfl)))))))))
theorem se_M_readScanHead : Cond.selects R_M n_M_readScanHead n_M_readScanHead ∈ gG.1 := List.mem_append_right _ (List.mem_append_left _ (by decide +kernel))
abbrev c_M_readBit : ByteArray := prog_14_method_57_code
def n_M_readBit : MethodName := ⟨R_M, "readBit", "()I"⟩
set_option maxRecDepth 100000 in
theorem cd_M_readBit : Cond.code n_M_readBit c_M_readBit 3 (some .int) ∈ gG.1 := List.mem_append_right _ (List.mem_append_right _ (List.mem_append_right _ (List.mem_append_right _ (List.mem_append_right _ (List.mem_append_right _ (List.mem_append_right _ (List.mem_append_right _ (List.mem_append_right _ (List.mem_of_getElem? (i := 171) rfl)))))))))
theorem ln_M_readBit : (parseMethodDescriptor n_M_readBit.desc).map (fun d => d.parameters.length) = some 0 := by decide +kernel
set_option maxRecDepth 100000 in
theorem im_M_readBit : Cond.instanceMethod n_M_readBit ∈ gG.1 := List.mem_append_right _ (List.mem_append_right _ (List.mem_append_right _ (List.mem_append_right _ (List.mem_append_right _ (List.mem_append_right _ (List.mem_append_right _ (List.mem_append_right _ (List.mem_append_right _ (List.mem_of_getElem? (i := 170) rfl)))))))))
theorem se_M_readBit : Cond.selects R_M n_M_readBit n_M_readBit ∈ gG.1 := List.mem_append_right _ (List.mem_append_left _ (by decide +kernel))
abbrev c_M_readSymbol : ByteArray := prog_14_method_58_code
def n_M_readSymbol : MethodName := ⟨R_M, "readSymbol", "(I)I"⟩
set_option maxRecDepth 100000 in
theorem cd_M_readSymbol : Cond.code n_M_readSymbol c_M_readSymbol 7 (some .int) ∈ gG.1 := List.mem_append_right _ (List.mem_append_right _ (List.mem_append_right _ (List.mem_append_right _ (List.mem_append_right _ (List.mem_append_right _ (List.mem_append_right _ (List.mem_append_right _ (List.mem_append_right _ (List.mem_of_getElem? (i := 167) rfl)))))))))
theorem ln_M_readSymbol : (parseMethodDescriptor n_M_readSymbol.desc).map (fun d => d.parameters.length) = some 1 := by decide +kernel
set_option maxRecDepth 100000 in
theorem im_M_readSymbol : Cond.instanceMethod n_M_readSymbol ∈ gG.1 := List.mem_append_right _ (List.mem_append_right _ (List.mem_append_right _ (List.mem_append_right _ (List.mem_append_right _ (List.mem_append_right _ (List.mem_append_right _ (List.mem_append_right _ (List.mem_append_right _ (List.mem_of_getElem? (i := 166) rfl)))))))))
theorem se_M_readSymbol : Cond.selects R_M n_M_readSymbol n_M_readSymbol ∈ gG.1 := List.mem_append_right _ (List.mem_append_left _ (by decide +kernel))
abbrev c_M_readNumber : ByteArray := prog_14_method_59_code
def n_M_readNumber : MethodName := ⟨R_M, "readNumber", "(I)I"⟩
set_option maxRecDepth 100000 in
theorem cd_M_readNumber : Cond.code n_M_readNumber c_M_readNumber 4 (some .int) ∈ gG.1 := List.mem_append_right _ (List.mem_append_right _ (List.mem_append_right _ (List.mem_append_right _ (List.mem_append_right _ (List.mem_append_right _ (List.mem_append_right _ (List.mem_append_right _ (List.mem_append_right _ (List.mem_of_getElem? (i := 175) rfl)))))))))
theorem ln_M_readNumber : (parseMethodDescriptor n_M_readNumber.desc).map (fun d => d.parameters.length) = some 1 := by decide +kernel
set_option maxRecDepth 100000 in
theorem im_M_readNumber : Cond.instanceMethod n_M_readNumber ∈ gG.1 := List.mem_append_right _ (List.mem_append_right _ (List.mem_append_right _ (List.mem_append_right _ (List.mem_append_right _ (List.mem_append_right _ (List.mem_append_right _ (List.mem_append_right _ (List.mem_append_right _ (List.mem_of_getElem? (i := 174) rfl)))))))))
theorem se_M_readNumber : Cond.selects R_M n_M_readNumber n_M_readNumber ∈ gG.1 := List.mem_append_right _ (List.mem_append_left _ (by decide +kernel))
abbrev c_M_readBlock : ByteArray := prog_14_method_60_code
def n_M_readBlock : MethodName := ⟨R_M, "readBlock", "(III)V"⟩
set_option maxRecDepth 100000 in
theorem cd_M_readBlock : Cond.code n_M_readBlock c_M_readBlock 10 (none) ∈ gG.1 := List.mem_append_right _ (List.mem_append_right _ (List.mem_append_right _ (List.mem_append_right _ (List.mem_append_right _ (List.mem_append_right _ (List.mem_append_right _ (List.mem_append_right _ (List.mem_append_right _ (List.mem_of_getElem? (i := 163) rfl)))))))))
theorem ln_M_readBlock : (parseMethodDescriptor n_M_readBlock.desc).map (fun d => d.parameters.length) = some 3 := by decide +kernel
set_option maxRecDepth 100000 in
theorem im_M_readBlock : Cond.instanceMethod n_M_readBlock ∈ gG.1 := List.mem_append_right _ (List.mem_append_right _ (List.mem_append_right _ (List.mem_append_right _ (List.mem_append_right _ (List.mem_append_right _ (List.mem_append_right _ (List.mem_append_right _ (List.mem_append_right _ (List.mem_of_getElem? (i := 162) rfl)))))))))
theorem se_M_readBlock : Cond.selects R_M n_M_readBlock n_M_readBlock ∈ gG.1 := List.mem_append_right _ (List.mem_append_left _ (by decide +kernel))
abbrev c_M_readUnit : ByteArray := prog_14_method_61_code
def n_M_readUnit : MethodName := ⟨R_M, "readUnit", "(II)V"⟩
set_option maxRecDepth 100000 in
theorem cd_M_readUnit : Cond.code n_M_readUnit c_M_readUnit 12 (none) ∈ gG.1 := List.mem_append_right _ (List.mem_append_right _ (List.mem_append_right _ (List.mem_append_right _ (List.mem_append_right _ (List.mem_append_right _ (List.mem_append_right _ (List.mem_append_right _ (List.mem_append_right _ (List.mem_of_getElem? (i := 159) rfl)))))))))
theorem ln_M_readUnit : (parseMethodDescriptor n_M_readUnit.desc).map (fun d => d.parameters.length) = some 2 := by decide +kernel
set_option maxRecDepth 100000 in
theorem im_M_readUnit : Cond.instanceMethod n_M_readUnit ∈ gG.1 := List.mem_append_right _ (List.mem_append_right _ (List.mem_append_right _ (List.mem_append_right _ (List.mem_append_right _ (List.mem_append_right _ (List.mem_append_right _ (List.mem_append_right _ (List.mem_append_right _ (List.mem_of_getElem? (i := 158) rfl)))))))))
theorem se_M_readUnit : Cond.selects R_M n_M_readUnit n_M_readUnit ∈ gG.1 := List.mem_append_right _ (List.mem_append_left _ (by decide +kernel))
abbrev c_M_readData : ByteArray := prog_14_method_62_code
def n_M_readData : MethodName := ⟨R_M, "readData", "()V"⟩
set_option maxRecDepth 100000 in
theorem cd_M_readData : Cond.code n_M_readData c_M_readData 8 (none) ∈ gG.1 := List.mem_append_right _ (List.mem_append_right _ (List.mem_append_right _ (List.mem_append_right _ (List.mem_append_right _ (List.mem_append_right _ (List.mem_append_right _ (List.mem_append_right _ (List.mem_append_right _ (List.mem_of_getElem? (i := 155) rfl)))))))))
theorem ln_M_readData : (parseMethodDescriptor n_M_readData.desc).map (fun d => d.parameters.length) = some 0 := by decide +kernel
set_option maxRecDepth 100000 in
theorem im_M_readData : Cond.instanceMethod n_M_readData ∈ gG.1 := List.mem_append_right _ (List.mem_append_right _ (List.mem_append_right _ (List.mem_append_right _ (List.mem_append_right _ (List.mem_append_right _ (List.mem_append_right _ (List.mem_append_right _ (List.mem_append_right _ (List.mem_of_getElem? (i := 154) rfl)))))))))
theorem se_M_readData : Cond.selects R_M n_M_readData n_M_readData ∈ gG.1 := List.mem_append_right _ (List.mem_append_left _ (by decide +kernel))
abbrev c_M_readSection : ByteArray := prog_14_method_63_code
def n_M_readSection : MethodName := ⟨R_M, "readSection", "(I)V"⟩
set_option maxRecDepth 100000 in
theorem cd_M_readSection : Cond.code n_M_readSection c_M_readSection 3 (none) ∈ gG.1 := List.mem_append_right _ (List.mem_append_right _ (List.mem_append_right _ (List.mem_append_right _ (List.mem_append_right _ (List.mem_append_right _ (List.mem_append_right _ (List.mem_append_right _ (List.mem_append_right _ (List.mem_of_getElem? (i := 114) rfl)))))))))
theorem ln_M_readSection : (parseMethodDescriptor n_M_readSection.desc).map (fun d => d.parameters.length) = some 1 := by decide +kernel
set_option maxRecDepth 100000 in
theorem im_M_readSection : Cond.instanceMethod n_M_readSection ∈ gG.1 := List.mem_append_right _ (List.mem_append_right _ (List.mem_append_right _ (List.mem_append_right _ (List.mem_append_right _ (List.mem_append_right _ (List.mem_append_right _ (List.mem_append_right _ (List.mem_append_right _ (List.mem_of_getElem? (i := 113) rfl)))))))))
theorem se_M_readSection : Cond.selects R_M n_M_readSection n_M_readSection ∈ gG.1 := List.mem_append_right _ (List.mem_append_left _ (by decide +kernel))
abbrev c_M_isDone : ByteArray := prog_14_method_64_code
def n_M_isDone : MethodName := ⟨R_M, "isDone", "()Z"⟩
set_option maxRecDepth 100000 in
theorem cd_M_isDone : Cond.code n_M_isDone c_M_isDone 3 (some .boolean) ∈ gG.1 := List.mem_append_right _ (List.mem_append_right _ (List.mem_append_right _ (List.mem_append_right _ (List.mem_append_right _ (List.mem_append_right _ (List.mem_append_right _ (List.mem_append_right _ (List.mem_append_right _ (List.mem_of_getElem? (i := 110) rfl)))))))))
theorem ln_M_isDone : (parseMethodDescriptor n_M_isDone.desc).map (fun d => d.parameters.length) = some 0 := by decide +kernel
set_option maxRecDepth 100000 in
theorem im_M_isDone : Cond.instanceMethod n_M_isDone ∈ gG.1 := List.mem_append_right _ (List.mem_append_right _ (List.mem_append_right _ (List.mem_append_right _ (List.mem_append_right _ (List.mem_append_right _ (List.mem_append_right _ (List.mem_append_right _ (List.mem_append_right _ (List.mem_of_getElem? (i := 109) rfl)))))))))
theorem se_M_isDone : Cond.selects R_M n_M_isDone n_M_isDone ∈ gG.1 := List.mem_append_right _ (List.mem_append_left _ (by decide +kernel))
abbrev c_M_mayCome : ByteArray := prog_14_method_65_code
def n_M_mayCome : MethodName := ⟨R_M, "mayCome", "(I)Z"⟩
set_option maxRecDepth 100000 in
theorem cd_M_mayCome : Cond.code n_M_mayCome c_M_mayCome 3 (some .boolean) ∈ gG.1 := List.mem_append_right _ (List.mem_append_right _ (List.mem_append_right _ (List.mem_append_right _ (List.mem_append_right _ (List.mem_append_right _ (List.mem_append_right _ (List.mem_append_right _ (List.mem_append_right _ (List.mem_of_getElem? (i := 106) rfl)))))))))
theorem ln_M_mayCome : (parseMethodDescriptor n_M_mayCome.desc).map (fun d => d.parameters.length) = some 1 := by decide +kernel
set_option maxRecDepth 100000 in
theorem im_M_mayCome : Cond.instanceMethod n_M_mayCome ∈ gG.1 := List.mem_append_right _ (List.mem_append_right _ (List.mem_append_right _ (List.mem_append_right _ (List.mem_append_right _ (List.mem_append_right _ (List.mem_append_right _ (List.mem_append_right _ (List.mem_append_right _ (List.mem_of_getElem? (i := 105) rfl)))))))))
theorem se_M_mayCome : Cond.selects R_M n_M_mayCome n_M_mayCome ∈ gG.1 := List.mem_append_right _ (List.mem_append_left _ (by decide +kernel))
abbrev c_M_begin : ByteArray := prog_14_method_66_code
def n_M_begin : MethodName := ⟨R_M, "begin", "()V"⟩
set_option maxRecDepth 100000 in
theorem cd_M_begin : Cond.code n_M_begin c_M_begin 2 (none) ∈ gG.1 := List.mem_append_right _ (List.mem_append_right _ (List.mem_append_right _ (List.mem_append_right _ (List.mem_append_right _ (List.mem_append_right _ (List.mem_append_right _ (List.mem_append_right _ (List.mem_append_right _ (List.mem_of_getElem? (i := 90) rfl)))))))))
theorem ln_M_begin : (parseMethodDescriptor n_M_begin.desc).map (fun d => d.parameters.length) = some 0 := by decide +kernel
set_option maxRecDepth 100000 in
theorem im_M_begin : Cond.instanceMethod n_M_begin ∈ gG.1 := List.mem_append_right _ (List.mem_append_right _ (List.mem_append_right _ (List.mem_append_right _ (List.mem_append_right _ (List.mem_append_right _ (List.mem_append_right _ (List.mem_append_right _ (List.mem_append_right _ (List.mem_of_getElem? (i := 89) rfl)))))))))
theorem se_M_begin : Cond.selects R_M n_M_begin n_M_begin ∈ gG.1 := List.mem_append_right _ (List.mem_append_left _ (by decide +kernel))
abbrev c_M_unpack : ByteArray := prog_14_method_67_code
def n_M_unpack : MethodName := ⟨R_M, "unpack", "()I"⟩
set_option maxRecDepth 100000 in
theorem cd_M_unpack : Cond.code n_M_unpack c_M_unpack 3 (some .int) ∈ gG.1 := List.mem_append_right _ (List.mem_append_right _ (List.mem_append_right _ (List.mem_append_right _ (List.mem_append_right _ (List.mem_append_right _ (List.mem_append_right _ (List.mem_append_right _ (List.mem_append_right _ (List.mem_of_getElem? (i := 86) rfl)))))))))
theorem ln_M_unpack : (parseMethodDescriptor n_M_unpack.desc).map (fun d => d.parameters.length) = some 0 := by decide +kernel
set_option maxRecDepth 100000 in
theorem im_M_unpack : Cond.instanceMethod n_M_unpack ∈ gG.1 := List.mem_append_right _ (List.mem_append_right _ (List.mem_append_right _ (List.mem_append_right _ (List.mem_append_right _ (List.mem_append_right _ (List.mem_append_right _ (List.mem_append_right _ (List.mem_append_right _ (List.mem_of_getElem? (i := 84) rfl)))))))))
set_option maxRecDepth 100000 in
theorem se_M_unpack : Cond.selects R_M n_M_unpack n_M_unpack ∈ gG.1 := List.mem_append_right _ (List.mem_append_right _ (List.mem_append_right _ (List.mem_append_right _ (List.mem_append_right _ (List.mem_append_right _ (List.mem_append_right _ (List.mem_append_right _ (List.mem_append_right _ (List.mem_of_getElem? (i := 85) rfl)))))))))
abbrev c_M_place : ByteArray := prog_14_method_68_code
def n_M_place : MethodName := ⟨R_M, "place", "()I"⟩
set_option maxRecDepth 100000 in
theorem cd_M_place : Cond.code n_M_place c_M_place 1 (some .int) ∈ gG.1 := List.mem_append_right _ (List.mem_append_right _ (List.mem_append_right _ (List.mem_append_right _ (List.mem_append_right _ (List.mem_append_right _ (List.mem_append_right _ (List.mem_append_right _ (List.mem_append_right _ (List.mem_of_getElem? (i := 189) rfl)))))))))
theorem ln_M_place : (parseMethodDescriptor n_M_place.desc).map (fun d => d.parameters.length) = some 0 := by decide +kernel
set_option maxRecDepth 100000 in
theorem im_M_place : Cond.instanceMethod n_M_place ∈ gG.1 := List.mem_append_right _ (List.mem_append_right _ (List.mem_append_right _ (List.mem_append_right _ (List.mem_append_right _ (List.mem_append_right _ (List.mem_append_right _ (List.mem_append_right _ (List.mem_append_right _ (List.mem_of_getElem? (i := 187) rfl)))))))))
set_option maxRecDepth 100000 in
theorem se_M_place : Cond.selects R_M n_M_place n_M_place ∈ gG.1 := List.mem_append_right _ (List.mem_append_right _ (List.mem_append_right _ (List.mem_append_right _ (List.mem_append_right _ (List.mem_append_right _ (List.mem_append_right _ (List.mem_append_right _ (List.mem_append_right _ (List.mem_of_getElem? (i := 188) rfl)))))))))
abbrev c_M_become : ByteArray := prog_14_method_69_code
def n_M_become : MethodName := ⟨R_M, "become", "()V"⟩
set_option maxRecDepth 100000 in
theorem cd_M_become : Cond.code n_M_become c_M_become 6 (none) ∈ gG.1 := List.mem_append_right _ (List.mem_append_right _ (List.mem_append_right _ (List.mem_append_right _ (List.mem_append_right _ (List.mem_append_right _ (List.mem_append_right _ (List.mem_append_right _ (List.mem_append_right _ (List.mem_of_getElem? (i := 179) rfl)))))))))
theorem ln_M_become : (parseMethodDescriptor n_M_become.desc).map (fun d => d.parameters.length) = some 0 := by decide +kernel
set_option maxRecDepth 100000 in
theorem im_M_become : Cond.instanceMethod n_M_become ∈ gG.1 := List.mem_append_right _ (List.mem_append_right _ (List.mem_append_right _ (List.mem_append_right _ (List.mem_append_right _ (List.mem_append_right _ (List.mem_append_right _ (List.mem_append_right _ (List.mem_append_right _ (List.mem_of_getElem? (i := 178) rfl)))))))))
theorem se_M_become : Cond.selects R_M n_M_become n_M_become ∈ gG.1 := List.mem_append_right _ (List.mem_append_left _ (by decide +kernel))
abbrev c_M_about : ByteArray := prog_14_method_70_code
def n_M_about : MethodName := ⟨R_M, "about", "(I)I"⟩
set_option maxRecDepth 100000 in
theorem cd_M_about : Cond.code n_M_about c_M_about 2 (some .int) ∈ gG.1 := List.mem_append_right _ (List.mem_append_right _ (List.mem_append_right _ (List.mem_append_right _ (List.mem_append_right _ (List.mem_append_right _ (List.mem_append_right _ (List.mem_append_right _ (List.mem_append_right _ (List.mem_of_getElem? (i := 193) rfl)))))))))
theorem ln_M_about : (parseMethodDescriptor n_M_about.desc).map (fun d => d.parameters.length) = some 1 := by decide +kernel
set_option maxRecDepth 100000 in
theorem im_M_about : Cond.instanceMethod n_M_about ∈ gG.1 := List.mem_append_right _ (List.mem_append_right _ (List.mem_append_right _ (List.mem_append_right _ (List.mem_append_right _ (List.mem_append_right _ (List.mem_append_right _ (List.mem_append_right _ (List.mem_append_right _ (List.mem_of_getElem? (i := 191) rfl)))))))))
set_option maxRecDepth 100000 in
theorem se_M_about : Cond.selects R_M n_M_about n_M_about ∈ gG.1 := List.mem_append_right _ (List.mem_append_right _ (List.mem_append_right _ (List.mem_append_right _ (List.mem_append_right _ (List.mem_append_right _ (List.mem_append_right _ (List.mem_append_right _ (List.mem_append_right _ (List.mem_of_getElem? (i := 192) rfl)))))))))
abbrev c_M_layerSample : ByteArray := prog_14_method_71_code
def n_M_layerSample : MethodName := ⟨R_M, "layerSample", "(III)I"⟩
set_option maxRecDepth 100000 in
theorem cd_M_layerSample : Cond.code n_M_layerSample c_M_layerSample 6 (some .int) ∈ gG.1 := List.mem_append_right _ (List.mem_append_right _ (List.mem_append_right _ (List.mem_append_right _ (List.mem_append_right _ (List.mem_append_right _ (List.mem_append_right _ (List.mem_append_right _ (List.mem_append_right _ (List.mem_of_getElem? (i := 205) rfl)))))))))
theorem ln_M_layerSample : (parseMethodDescriptor n_M_layerSample.desc).map (fun d => d.parameters.length) = some 3 := by decide +kernel
set_option maxRecDepth 100000 in
theorem im_M_layerSample : Cond.instanceMethod n_M_layerSample ∈ gG.1 := List.mem_append_right _ (List.mem_append_right _ (List.mem_append_right _ (List.mem_append_right _ (List.mem_append_right _ (List.mem_append_right _ (List.mem_append_right _ (List.mem_append_right _ (List.mem_append_right _ (List.mem_of_getElem? (i := 204) rfl)))))))))
theorem se_M_layerSample : Cond.selects R_M n_M_layerSample n_M_layerSample ∈ gG.1 := List.mem_append_right _ (List.mem_append_left _ (by decide +kernel))
abbrev c_M_sampleAt : ByteArray := prog_14_method_72_code
def n_M_sampleAt : MethodName := ⟨R_M, "sampleAt", "(III)I"⟩
set_option maxRecDepth 100000 in
theorem cd_M_sampleAt : Cond.code n_M_sampleAt c_M_sampleAt 8 (some .int) ∈ gG.1 := List.mem_append_right _ (List.mem_append_right _ (List.mem_append_right _ (List.mem_append_right _ (List.mem_append_right _ (List.mem_append_right _ (List.mem_append_right _ (List.mem_append_right _ (List.mem_append_right _ (List.mem_of_getElem? (i := 201) rfl)))))))))
theorem ln_M_sampleAt : (parseMethodDescriptor n_M_sampleAt.desc).map (fun d => d.parameters.length) = some 3 := by decide +kernel
set_option maxRecDepth 100000 in
theorem im_M_sampleAt : Cond.instanceMethod n_M_sampleAt ∈ gG.1 := List.mem_append_right _ (List.mem_append_right _ (List.mem_append_right _ (List.mem_append_right _ (List.mem_append_right _ (List.mem_append_right _ (List.mem_append_right _ (List.mem_append_right _ (List.mem_append_right _ (List.mem_of_getElem? (i := 200) rfl)))))))))
theorem se_M_sampleAt : Cond.selects R_M n_M_sampleAt n_M_sampleAt ∈ gG.1 := List.mem_append_right _ (List.mem_append_left _ (by decide +kernel))
abbrev c_M_sample : ByteArray := prog_14_method_73_code
def n_M_sample : MethodName := ⟨R_M, "sample", "(III)I"⟩
set_option maxRecDepth 100000 in
theorem cd_M_sample : Cond.code n_M_sample c_M_sample 5 (some .int) ∈ gG.1 := List.mem_append_right _ (List.mem_append_right _ (List.mem_append_right _ (List.mem_append_right _ (List.mem_append_right _ (List.mem_append_right _ (List.mem_append_right _ (List.mem_append_right _ (List.mem_append_right _ (List.mem_of_getElem? (i := 197) rfl)))))))))
theorem ln_M_sample : (parseMethodDescriptor n_M_sample.desc).map (fun d => d.parameters.length) = some 3 := by decide +kernel
set_option maxRecDepth 100000 in
theorem im_M_sample : Cond.instanceMethod n_M_sample ∈ gG.1 := List.mem_append_right _ (List.mem_append_right _ (List.mem_append_right _ (List.mem_append_right _ (List.mem_append_right _ (List.mem_append_right _ (List.mem_append_right _ (List.mem_append_right _ (List.mem_append_right _ (List.mem_of_getElem? (i := 195) rfl)))))))))
set_option maxRecDepth 100000 in
theorem se_M_sample : Cond.selects R_M n_M_sample n_M_sample ∈ gG.1 := List.mem_append_right _ (List.mem_append_right _ (List.mem_append_right _ (List.mem_append_right _ (List.mem_append_right _ (List.mem_append_right _ (List.mem_append_right _ (List.mem_append_right _ (List.mem_append_right _ (List.mem_of_getElem? (i := 196) rfl)))))))))
abbrev c_M_level : ByteArray := prog_14_method_74_code
def n_M_level : MethodName := ⟨R_M, "level", "(IIII)I"⟩
set_option maxRecDepth 100000 in
theorem cd_M_level : Cond.code n_M_level c_M_level 6 (some .int) ∈ gG.1 := List.mem_append_right _ (List.mem_append_right _ (List.mem_append_right _ (List.mem_append_right _ (List.mem_append_right _ (List.mem_append_right _ (List.mem_append_right _ (List.mem_append_right _ (List.mem_append_right _ (List.mem_of_getElem? (i := 212) rfl)))))))))
theorem ln_M_level : (parseMethodDescriptor n_M_level.desc).map (fun d => d.parameters.length) = some 4 := by decide +kernel
set_option maxRecDepth 100000 in
theorem im_M_level : Cond.instanceMethod n_M_level ∈ gG.1 := List.mem_append_right _ (List.mem_append_right _ (List.mem_append_right _ (List.mem_append_right _ (List.mem_append_right _ (List.mem_append_right _ (List.mem_append_right _ (List.mem_append_right _ (List.mem_append_right _ (List.mem_of_getElem? (i := 210) rfl)))))))))
set_option maxRecDepth 100000 in
theorem se_M_level : Cond.selects R_M n_M_level n_M_level ∈ gG.1 := List.mem_append_right _ (List.mem_append_right _ (List.mem_append_right _ (List.mem_append_right _ (List.mem_append_right _ (List.mem_append_right _ (List.mem_append_right _ (List.mem_append_right _ (List.mem_append_right _ (List.mem_of_getElem? (i := 211) rfl)))))))))
abbrev c_M_take : ByteArray := prog_14_method_75_code
def n_M_take : MethodName := ⟨R_M, "take", "()V"⟩
set_option maxRecDepth 100000 in
theorem cd_M_take : Cond.code n_M_take c_M_take 4 (none) ∈ gG.1 := List.mem_append_right _ (List.mem_append_right _ (List.mem_append_right _ (List.mem_append_right _ (List.mem_append_right _ (List.mem_append_right _ (List.mem_append_right _ (List.mem_append_right _ (List.mem_append_right _ (List.mem_of_getElem? (i := 216) rfl)))))))))
theorem ln_M_take : (parseMethodDescriptor n_M_take.desc).map (fun d => d.parameters.length) = some 0 := by decide +kernel
set_option maxRecDepth 100000 in
theorem im_M_take : Cond.instanceMethod n_M_take ∈ gG.1 := List.mem_append_right _ (List.mem_append_right _ (List.mem_append_right _ (List.mem_append_right _ (List.mem_append_right _ (List.mem_append_right _ (List.mem_append_right _ (List.mem_append_right _ (List.mem_append_right _ (List.mem_of_getElem? (i := 214) rfl)))))))))
set_option maxRecDepth 100000 in
theorem se_M_take : Cond.selects R_M n_M_take n_M_take ∈ gG.1 := List.mem_append_right _ (List.mem_append_right _ (List.mem_append_right _ (List.mem_append_right _ (List.mem_append_right _ (List.mem_append_right _ (List.mem_append_right _ (List.mem_append_right _ (List.mem_append_right _ (List.mem_of_getElem? (i := 215) rfl)))))))))
set_option maxRecDepth 100000 in
theorem l_M_142 : Cond.methodLink R_M 142 n_M_turn1 ∈ gG.1 := List.mem_append_right _ (List.mem_append_right _ (List.mem_append_right _ (List.mem_append_right _ (List.mem_append_right _ (List.mem_append_right _ (List.mem_append_right _ (List.mem_append_left _ (List.mem_of_getElem? (i := 220) rfl))))))))
set_option maxRecDepth 100000 in
theorem l_M_149 : Cond.methodLink R_M 149 n_M_slope ∈ gG.1 := List.mem_append_right _ (List.mem_append_right _ (List.mem_append_right _ (List.mem_append_right _ (List.mem_append_right _ (List.mem_append_right _ (List.mem_append_right _ (List.mem_append_right _ (List.mem_append_left _ (List.mem_of_getElem? (i := 170) rfl)))))))))
set_option maxRecDepth 100000 in
theorem l_M_153 : Cond.methodLink R_M 153 n_M_isOut ∈ gG.1 := List.mem_append_right _ (List.mem_append_right _ (List.mem_append_right _ (List.mem_append_right _ (List.mem_append_right _ (List.mem_append_right _ (List.mem_append_right _ (List.mem_append_right _ (List.mem_append_left _ (List.mem_of_getElem? (i := 174) rfl)))))))))
set_option maxRecDepth 100000 in
theorem l_M_157 : Cond.methodLink R_M 157 n_M_byteOf ∈ gG.1 := List.mem_append_right _ (List.mem_append_right _ (List.mem_append_right _ (List.mem_append_right _ (List.mem_append_right _ (List.mem_append_right _ (List.mem_append_right _ (List.mem_append_right _ (List.mem_append_left _ (List.mem_of_getElem? (i := 178) rfl)))))))))
set_option maxRecDepth 100000 in
theorem l_M_161 : Cond.methodLink R_M 161 n_M_cell ∈ gG.1 := List.mem_append_right _ (List.mem_append_right _ (List.mem_append_right _ (List.mem_append_right _ (List.mem_append_right _ (List.mem_append_right _ (List.mem_append_right _ (List.mem_append_right _ (List.mem_append_left _ (List.mem_of_getElem? (i := 182) rfl)))))))))
set_option maxRecDepth 100000 in
theorem l_M_173 : Cond.methodLink R_M 173 n_M_greatest ∈ gG.1 := List.mem_append_right _ (List.mem_append_right _ (List.mem_append_right _ (List.mem_append_right _ (List.mem_append_right _ (List.mem_append_right _ (List.mem_append_right _ (List.mem_append_right _ (List.mem_append_left _ (List.mem_of_getElem? (i := 207) rfl)))))))))
set_option maxRecDepth 100000 in
theorem l_M_177 : Cond.methodLink R_M 177 n_M_upward ∈ gG.1 := List.mem_append_right _ (List.mem_append_right _ (List.mem_append_right _ (List.mem_append_right _ (List.mem_append_right _ (List.mem_append_right _ (List.mem_append_right _ (List.mem_append_right _ (List.mem_append_left _ (List.mem_of_getElem? (i := 211) rfl)))))))))
set_option maxRecDepth 100000 in
theorem l_M_181 : Cond.methodLink R_M 181 n_M_layerHigh ∈ gG.1 := List.mem_append_right _ (List.mem_append_right _ (List.mem_append_right _ (List.mem_append_right _ (List.mem_append_right _ (List.mem_append_right _ (List.mem_append_right _ (List.mem_append_right _ (List.mem_append_left _ (List.mem_of_getElem? (i := 218) rfl)))))))))
set_option maxRecDepth 100000 in
theorem l_M_184 : Cond.methodLink R_M 184 n_M_layerWide ∈ gG.1 := List.mem_append_right _ (List.mem_append_right _ (List.mem_append_right _ (List.mem_append_right _ (List.mem_append_right _ (List.mem_append_right _ (List.mem_append_right _ (List.mem_append_right _ (List.mem_append_left _ (List.mem_of_getElem? (i := 222) rfl)))))))))
set_option maxRecDepth 100000 in
theorem l_M_187 : Cond.methodLink R_M 187 n_M_sampleOf ∈ gG.1 := List.mem_append_right _ (List.mem_append_right _ (List.mem_append_right _ (List.mem_append_right _ (List.mem_append_right _ (List.mem_append_right _ (List.mem_append_right _ (List.mem_append_right _ (List.mem_append_left _ (List.mem_of_getElem? (i := 226) rfl)))))))))
set_option maxRecDepth 100000 in
theorem l_M_190 : Cond.methodLink R_M 190 n_M_toWeights ∈ gG.1 := List.mem_append_right _ (List.mem_append_right _ (List.mem_append_right _ (List.mem_append_right _ (List.mem_append_right _ (List.mem_append_right _ (List.mem_append_right _ (List.mem_append_right _ (List.mem_append_left _ (List.mem_of_getElem? (i := 235) rfl)))))))))
set_option maxRecDepth 100000 in
theorem l_M_193 : Cond.methodLink R_M 193 n_M_levelCell ∈ gG.1 := List.mem_append_right _ (List.mem_append_right _ (List.mem_append_right _ (List.mem_append_right _ (List.mem_append_right _ (List.mem_append_right _ (List.mem_append_right _ (List.mem_append_right _ (List.mem_append_right _ (List.mem_of_getElem? (i := 1) rfl)))))))))
set_option maxRecDepth 100000 in
theorem l_M_200 : Cond.methodLink R_M 200 n_M_put ∈ gG.1 := List.mem_append_right _ (List.mem_append_right _ (List.mem_append_right _ (List.mem_append_right _ (List.mem_append_right _ (List.mem_append_right _ (List.mem_append_right _ (List.mem_append_right _ (List.mem_append_right _ (List.mem_of_getElem? (i := 16) rfl)))))))))
set_option maxRecDepth 100000 in
theorem l_M_210 : Cond.methodLink R_M 210 n_M_putBits ∈ gG.1 := List.mem_append_right _ (List.mem_append_right _ (List.mem_append_right _ (List.mem_append_right _ (List.mem_append_right _ (List.mem_append_right _ (List.mem_append_right _ (List.mem_append_right _ (List.mem_append_right _ (List.mem_of_getElem? (i := 12) rfl)))))))))
set_option maxRecDepth 100000 in
theorem l_M_214 : Cond.methodLink R_M 214 n_M_bitsOf ∈ gG.1 := List.mem_append_right _ (List.mem_append_right _ (List.mem_append_right _ (List.mem_append_right _ (List.mem_append_right _ (List.mem_append_right _ (List.mem_append_right _ (List.mem_append_right _ (List.mem_append_right _ (List.mem_of_getElem? (i := 28) rfl)))))))))
set_option maxRecDepth 100000 in
theorem l_M_217 : Cond.methodLink R_M 217 n_M_symbol ∈ gG.1 := List.mem_append_right _ (List.mem_append_right _ (List.mem_append_right _ (List.mem_append_right _ (List.mem_append_right _ (List.mem_append_right _ (List.mem_append_right _ (List.mem_append_right _ (List.mem_append_right _ (List.mem_of_getElem? (i := 31) rfl)))))))))
set_option maxRecDepth 100000 in
theorem l_M_221 : Cond.methodLink R_M 221 n_M_number ∈ gG.1 := List.mem_append_right _ (List.mem_append_right _ (List.mem_append_right _ (List.mem_append_right _ (List.mem_append_right _ (List.mem_append_right _ (List.mem_append_right _ (List.mem_append_right _ (List.mem_append_right _ (List.mem_of_getElem? (i := 35) rfl)))))))))
set_option maxRecDepth 100000 in
theorem l_M_224 : Cond.methodLink R_M 224 n_M_fillUp ∈ gG.1 := List.mem_append_right _ (List.mem_append_right _ (List.mem_append_right _ (List.mem_append_right _ (List.mem_append_right _ (List.mem_append_right _ (List.mem_append_right _ (List.mem_append_right _ (List.mem_append_right _ (List.mem_of_getElem? (i := 8) rfl)))))))))
set_option maxRecDepth 100000 in
theorem l_M_227 : Cond.methodLink R_M 227 n_M_mark ∈ gG.1 := List.mem_append_right _ (List.mem_append_right _ (List.mem_append_right _ (List.mem_append_right _ (List.mem_append_right _ (List.mem_append_right _ (List.mem_append_right _ (List.mem_append_right _ (List.mem_append_right _ (List.mem_of_getElem? (i := 20) rfl)))))))))
set_option maxRecDepth 100000 in
theorem l_M_230 : Cond.methodLink R_M 230 n_M_tell ∈ gG.1 := List.mem_append_right _ (List.mem_append_right _ (List.mem_append_right _ (List.mem_append_right _ (List.mem_append_right _ (List.mem_append_right _ (List.mem_append_right _ (List.mem_append_right _ (List.mem_append_right _ (List.mem_of_getElem? (i := 24) rfl)))))))))
set_option maxRecDepth 100000 in
theorem l_M_233 : Cond.methodLink R_M 233 n_M_putTwo ∈ gG.1 := List.mem_append_right _ (List.mem_append_right _ (List.mem_append_right _ (List.mem_append_right _ (List.mem_append_right _ (List.mem_append_right _ (List.mem_append_right _ (List.mem_append_right _ (List.mem_append_right _ (List.mem_of_getElem? (i := 47) rfl)))))))))
set_option maxRecDepth 100000 in
theorem l_M_236 : Cond.methodLink R_M 236 n_M_codeSize ∈ gG.1 := List.mem_append_right _ (List.mem_append_right _ (List.mem_append_right _ (List.mem_append_right _ (List.mem_append_right _ (List.mem_append_right _ (List.mem_append_right _ (List.mem_append_right _ (List.mem_append_right _ (List.mem_of_getElem? (i := 51) rfl)))))))))
set_option maxRecDepth 100000 in
theorem l_M_239 : Cond.methodLink R_M 239 n_M_putCode ∈ gG.1 := List.mem_append_right _ (List.mem_append_right _ (List.mem_append_right _ (List.mem_append_right _ (List.mem_append_right _ (List.mem_append_right _ (List.mem_append_right _ (List.mem_append_right _ (List.mem_append_right _ (List.mem_of_getElem? (i := 55) rfl)))))))))
set_option maxRecDepth 100000 in
theorem l_M_243 : Cond.methodLink R_M 243 n_M_makeGrids ∈ gG.1 := List.mem_append_right _ (List.mem_append_right _ (List.mem_append_right _ (List.mem_append_right _ (List.mem_append_right _ (List.mem_append_right _ (List.mem_append_right _ (List.mem_append_right _ (List.mem_append_left _ (List.mem_of_getElem? (i := 203) rfl)))))))))
set_option maxRecDepth 100000 in
theorem l_M_246 : Cond.methodLink R_M 246 n_M_makeRaster ∈ gG.1 := List.mem_append_right _ (List.mem_append_right _ (List.mem_append_right _ (List.mem_append_right _ (List.mem_append_right _ (List.mem_append_right _ (List.mem_append_right _ (List.mem_append_right _ (List.mem_append_left _ (List.mem_of_getElem? (i := 214) rfl)))))))))
set_option maxRecDepth 100000 in
theorem l_M_249 : Cond.methodLink R_M 249 n_M_makeLevels ∈ gG.1 := List.mem_append_right _ (List.mem_append_right _ (List.mem_append_right _ (List.mem_append_right _ (List.mem_append_right _ (List.mem_append_right _ (List.mem_append_right _ (List.mem_append_right _ (List.mem_append_left _ (List.mem_of_getElem? (i := 231) rfl)))))))))
set_option maxRecDepth 100000 in
theorem l_M_252 : Cond.methodLink R_M 252 n_M_units ∈ gG.1 := List.mem_append_right _ (List.mem_append_right _ (List.mem_append_right _ (List.mem_append_right _ (List.mem_append_right _ (List.mem_append_right _ (List.mem_append_right _ (List.mem_append_right _ (List.mem_append_right _ (List.mem_of_getElem? (i := 4) rfl)))))))))
set_option maxRecDepth 100000 in
theorem l_M_256 : Cond.methodLink R_M 256 n_M_makeCode ∈ gG.1 := List.mem_append_right _ (List.mem_append_right _ (List.mem_append_right _ (List.mem_append_right _ (List.mem_append_right _ (List.mem_append_right _ (List.mem_append_right _ (List.mem_append_right _ (List.mem_append_right _ (List.mem_of_getElem? (i := 39) rfl)))))))))
set_option maxRecDepth 100000 in
theorem l_M_259 : Cond.methodLink R_M 259 n_M_putSections ∈ gG.1 := List.mem_append_right _ (List.mem_append_right _ (List.mem_append_right _ (List.mem_append_right _ (List.mem_append_right _ (List.mem_append_right _ (List.mem_append_right _ (List.mem_append_right _ (List.mem_append_right _ (List.mem_of_getElem? (i := 43) rfl)))))))))
set_option maxRecDepth 100000 in
theorem l_M_271 : Cond.methodLink R_M 271 n_M_fail ∈ gG.1 := List.mem_append_right _ (List.mem_append_right _ (List.mem_append_right _ (List.mem_append_right _ (List.mem_append_right _ (List.mem_append_right _ (List.mem_append_right _ (List.mem_append_right _ (List.mem_append_right _ (List.mem_of_getElem? (i := 99) rfl)))))))))
set_option maxRecDepth 100000 in
theorem l_M_281 : Cond.methodLink R_M 281 n_M_next ∈ gG.1 := List.mem_append_right _ (List.mem_append_right _ (List.mem_append_right _ (List.mem_append_right _ (List.mem_append_right _ (List.mem_append_right _ (List.mem_append_right _ (List.mem_append_right _ (List.mem_append_right _ (List.mem_of_getElem? (i := 95) rfl)))))))))
set_option maxRecDepth 100000 in
theorem l_M_285 : Cond.methodLink R_M 285 n_M_nextTwo ∈ gG.1 := List.mem_append_right _ (List.mem_append_right _ (List.mem_append_right _ (List.mem_append_right _ (List.mem_append_right _ (List.mem_append_right _ (List.mem_append_right _ (List.mem_append_right _ (List.mem_append_right _ (List.mem_of_getElem? (i := 119) rfl)))))))))
set_option maxRecDepth 100000 in
theorem l_M_288 : Cond.methodLink R_M 288 n_M_nextWithin ∈ gG.1 := List.mem_append_right _ (List.mem_append_right _ (List.mem_append_right _ (List.mem_append_right _ (List.mem_append_right _ (List.mem_append_right _ (List.mem_append_right _ (List.mem_append_right _ (List.mem_append_right _ (List.mem_of_getElem? (i := 127) rfl)))))))))
set_option maxRecDepth 100000 in
theorem l_M_291 : Cond.methodLink R_M 291 n_M_must ∈ gG.1 := List.mem_append_right _ (List.mem_append_right _ (List.mem_append_right _ (List.mem_append_right _ (List.mem_append_right _ (List.mem_append_right _ (List.mem_append_right _ (List.mem_append_right _ (List.mem_append_right _ (List.mem_of_getElem? (i := 131) rfl)))))))))
set_option maxRecDepth 100000 in
theorem l_M_299 : Cond.methodLink R_M 299 n_M_layerNamed ∈ gG.1 := List.mem_append_right _ (List.mem_append_right _ (List.mem_append_right _ (List.mem_append_right _ (List.mem_append_right _ (List.mem_append_right _ (List.mem_append_right _ (List.mem_append_right _ (List.mem_append_right _ (List.mem_of_getElem? (i := 148) rfl)))))))))
set_option maxRecDepth 100000 in
theorem l_M_314 : Cond.methodLink R_M 314 n_M_readBit ∈ gG.1 := List.mem_append_right _ (List.mem_append_right _ (List.mem_append_right _ (List.mem_append_right _ (List.mem_append_right _ (List.mem_append_right _ (List.mem_append_right _ (List.mem_append_right _ (List.mem_append_right _ (List.mem_of_getElem? (i := 168) rfl)))))))))
set_option maxRecDepth 100000 in
theorem l_M_320 : Cond.methodLink R_M 320 n_M_readSymbol ∈ gG.1 := List.mem_append_right _ (List.mem_append_right _ (List.mem_append_right _ (List.mem_append_right _ (List.mem_append_right _ (List.mem_append_right _ (List.mem_append_right _ (List.mem_append_right _ (List.mem_append_right _ (List.mem_of_getElem? (i := 164) rfl)))))))))
set_option maxRecDepth 100000 in
theorem l_M_323 : Cond.methodLink R_M 323 n_M_readNumber ∈ gG.1 := List.mem_append_right _ (List.mem_append_right _ (List.mem_append_right _ (List.mem_append_right _ (List.mem_append_right _ (List.mem_append_right _ (List.mem_append_right _ (List.mem_append_right _ (List.mem_append_right _ (List.mem_of_getElem? (i := 172) rfl)))))))))
set_option maxRecDepth 100000 in
theorem l_M_326 : Cond.methodLink R_M 326 n_M_readBlock ∈ gG.1 := List.mem_append_right _ (List.mem_append_right _ (List.mem_append_right _ (List.mem_append_right _ (List.mem_append_right _ (List.mem_append_right _ (List.mem_append_right _ (List.mem_append_right _ (List.mem_append_right _ (List.mem_of_getElem? (i := 160) rfl)))))))))
set_option maxRecDepth 100000 in
theorem l_M_333 : Cond.methodLink R_M 333 n_M_readMark ∈ gG.1 := List.mem_append_right _ (List.mem_append_right _ (List.mem_append_right _ (List.mem_append_right _ (List.mem_append_right _ (List.mem_append_right _ (List.mem_append_right _ (List.mem_append_right _ (List.mem_append_right _ (List.mem_of_getElem? (i := 91) rfl)))))))))
set_option maxRecDepth 100000 in
theorem l_M_336 : Cond.methodLink R_M 336 n_M_readUnit ∈ gG.1 := List.mem_append_right _ (List.mem_append_right _ (List.mem_append_right _ (List.mem_append_right _ (List.mem_append_right _ (List.mem_append_right _ (List.mem_append_right _ (List.mem_append_right _ (List.mem_append_right _ (List.mem_of_getElem? (i := 156) rfl)))))))))
set_option maxRecDepth 100000 in
theorem l_M_339 : Cond.methodLink R_M 339 n_M_readLength ∈ gG.1 := List.mem_append_right _ (List.mem_append_right _ (List.mem_append_right _ (List.mem_append_right _ (List.mem_append_right _ (List.mem_append_right _ (List.mem_append_right _ (List.mem_append_right _ (List.mem_append_right _ (List.mem_of_getElem? (i := 115) rfl)))))))))
set_option maxRecDepth 100000 in
theorem l_M_342 : Cond.methodLink R_M 342 n_M_readTables ∈ gG.1 := List.mem_append_right _ (List.mem_append_right _ (List.mem_append_right _ (List.mem_append_right _ (List.mem_append_right _ (List.mem_append_right _ (List.mem_append_right _ (List.mem_append_right _ (List.mem_append_right _ (List.mem_of_getElem? (i := 123) rfl)))))))))
set_option maxRecDepth 100000 in
theorem l_M_345 : Cond.methodLink R_M 345 n_M_readCodes ∈ gG.1 := List.mem_append_right _ (List.mem_append_right _ (List.mem_append_right _ (List.mem_append_right _ (List.mem_append_right _ (List.mem_append_right _ (List.mem_append_right _ (List.mem_append_right _ (List.mem_append_right _ (List.mem_of_getElem? (i := 135) rfl)))))))))
set_option maxRecDepth 100000 in
theorem l_M_348 : Cond.methodLink R_M 348 n_M_readFrame ∈ gG.1 := List.mem_append_right _ (List.mem_append_right _ (List.mem_append_right _ (List.mem_append_right _ (List.mem_append_right _ (List.mem_append_right _ (List.mem_append_right _ (List.mem_append_right _ (List.mem_append_right _ (List.mem_of_getElem? (i := 140) rfl)))))))))
set_option maxRecDepth 100000 in
theorem l_M_351 : Cond.methodLink R_M 351 n_M_readScanHead ∈ gG.1 := List.mem_append_right _ (List.mem_append_right _ (List.mem_append_right _ (List.mem_append_right _ (List.mem_append_right _ (List.mem_append_right _ (List.mem_append_right _ (List.mem_append_right _ (List.mem_append_right _ (List.mem_of_getElem? (i := 144) rfl)))))))))
set_option maxRecDepth 100000 in
theorem l_M_354 : Cond.methodLink R_M 354 n_M_readData ∈ gG.1 := List.mem_append_right _ (List.mem_append_right _ (List.mem_append_right _ (List.mem_append_right _ (List.mem_append_right _ (List.mem_append_right _ (List.mem_append_right _ (List.mem_append_right _ (List.mem_append_right _ (List.mem_of_getElem? (i := 152) rfl)))))))))
set_option maxRecDepth 100000 in
theorem l_M_357 : Cond.methodLink R_M 357 n_M_isDone ∈ gG.1 := List.mem_append_right _ (List.mem_append_right _ (List.mem_append_right _ (List.mem_append_right _ (List.mem_append_right _ (List.mem_append_right _ (List.mem_append_right _ (List.mem_append_right _ (List.mem_append_right _ (List.mem_of_getElem? (i := 107) rfl)))))))))
set_option maxRecDepth 100000 in
theorem l_M_361 : Cond.methodLink R_M 361 n_M_begin ∈ gG.1 := List.mem_append_right _ (List.mem_append_right _ (List.mem_append_right _ (List.mem_append_right _ (List.mem_append_right _ (List.mem_append_right _ (List.mem_append_right _ (List.mem_append_right _ (List.mem_append_right _ (List.mem_of_getElem? (i := 87) rfl)))))))))
set_option maxRecDepth 100000 in
theorem l_M_364 : Cond.methodLink R_M 364 n_M_mayCome ∈ gG.1 := List.mem_append_right _ (List.mem_append_right _ (List.mem_append_right _ (List.mem_append_right _ (List.mem_append_right _ (List.mem_append_right _ (List.mem_append_right _ (List.mem_append_right _ (List.mem_append_right _ (List.mem_of_getElem? (i := 103) rfl)))))))))
set_option maxRecDepth 100000 in
theorem l_M_368 : Cond.methodLink R_M 368 n_M_readSection ∈ gG.1 := List.mem_append_right _ (List.mem_append_right _ (List.mem_append_right _ (List.mem_append_right _ (List.mem_append_right _ (List.mem_append_right _ (List.mem_append_right _ (List.mem_append_right _ (List.mem_append_right _ (List.mem_of_getElem? (i := 111) rfl)))))))))
set_option maxRecDepth 100000 in
theorem l_M_371 : Cond.methodLink R_M 371 n_M_become ∈ gG.1 := List.mem_append_right _ (List.mem_append_right _ (List.mem_append_right _ (List.mem_append_right _ (List.mem_append_right _ (List.mem_append_right _ (List.mem_append_right _ (List.mem_append_right _ (List.mem_append_right _ (List.mem_of_getElem? (i := 176) rfl)))))))))
set_option maxRecDepth 100000 in
theorem l_M_374 : Cond.methodLink R_M 374 n_M_toSamples ∈ gG.1 := List.mem_append_right _ (List.mem_append_right _ (List.mem_append_right _ (List.mem_append_right _ (List.mem_append_right _ (List.mem_append_right _ (List.mem_append_right _ (List.mem_append_right _ (List.mem_append_right _ (List.mem_of_getElem? (i := 180) rfl)))))))))
set_option maxRecDepth 100000 in
theorem l_M_377 : Cond.methodLink R_M 377 n_M_layerSample ∈ gG.1 := List.mem_append_right _ (List.mem_append_right _ (List.mem_append_right _ (List.mem_append_right _ (List.mem_append_right _ (List.mem_append_right _ (List.mem_append_right _ (List.mem_append_right _ (List.mem_append_right _ (List.mem_of_getElem? (i := 202) rfl)))))))))
set_option maxRecDepth 100000 in
theorem l_M_383 : Cond.methodLink R_M 383 n_M_sampleAt ∈ gG.1 := List.mem_append_right _ (List.mem_append_right _ (List.mem_append_right _ (List.mem_append_right _ (List.mem_append_right _ (List.mem_append_right _ (List.mem_append_right _ (List.mem_append_right _ (List.mem_append_right _ (List.mem_of_getElem? (i := 198) rfl)))))))))
set_option maxRecDepth 100000 in
theorem l_M_386 : Cond.methodLink R_M 386 n_M_canvas ∈ gG.1 := List.mem_append_right _ (List.mem_append_right _ (List.mem_append_right _ (List.mem_append_right _ (List.mem_append_right _ (List.mem_append_right _ (List.mem_append_right _ (List.mem_append_right _ (List.mem_append_right _ (List.mem_of_getElem? (i := 217) rfl)))))))))
