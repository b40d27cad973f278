def R_Lw : String := "BlockPictureLaw"
set_option maxRecDepth 100000 in
theorem i_Lw : Cond.initialized R_Lw ∈ gG.1 := List.mem_append_right _ (List.mem_append_right _ (List.mem_append_left _ (List.mem_of_getElem? (i := 0) rfl)))
theorem nt_13_14 : Cond.not (.castable "java/lang/IllegalStateException" "java/lang/IllegalArgumentException") ∈ gG.1 := List.mem_append_left _ (List.contains_iff_mem.mp (by decide +kernel))
theorem nt_13_15 : Cond.not (.castable "java/lang/IllegalStateException" "java/lang/IndexOutOfBoundsException") ∈ gG.1 := List.mem_append_left _ (List.contains_iff_mem.mp (by decide +kernel))
theorem nt_14_13 : Cond.not (.castable "java/lang/IllegalArgumentException" "java/lang/IllegalStateException") ∈ gG.1 := List.mem_append_left _ (List.contains_iff_mem.mp (by decide +kernel))
theorem nt_14_15 : Cond.not (.castable "java/lang/IllegalArgumentException" "java/lang/IndexOutOfBoundsException") ∈ gG.1 := List.mem_append_left _ (List.contains_iff_mem.mp (by decide +kernel))
theorem nt_15_13 : Cond.not (.castable "java/lang/IndexOutOfBoundsException" "java/lang/IllegalStateException") ∈ gG.1 := List.mem_append_left _ (List.contains_iff_mem.mp (by decide +kernel))
theorem nt_15_14 : Cond.not (.castable "java/lang/IndexOutOfBoundsException" "java/lang/IllegalArgumentException") ∈ gG.1 := List.mem_append_left _ (List.contains_iff_mem.mp (by decide +kernel))
abbrev c_C_Lw_canvas : ByteArray := method_3_code
def n_C_Lw_canvas : MethodName := ⟨R_Lw, "canvas", "(LBlockPicture;III)I"⟩
set_option maxRecDepth 100000 in
theorem cd_C_Lw_canvas : Cond.codeWith n_C_Lw_canvas c_C_Lw_canvas 5 (some .int) [(0, 7, 10, 13)] ∈ gG.1 := List.mem_append_right _ (List.mem_append_right _ (List.mem_append_right _ (List.mem_append_right _ (List.mem_append_right _ (List.mem_append_left _ (List.mem_of_getElem? (i := 58) rfl))))))
theorem ln_C_Lw_canvas : (parseMethodDescriptor n_C_Lw_canvas.desc).map (fun d => d.parameters.length) = some 4 := by decide +kernel
set_option maxRecDepth 100000 in
theorem st_C_Lw_canvas : Cond.static n_C_Lw_canvas ∈ gG.1 := List.mem_append_right _ (List.mem_append_right _ (List.mem_append_right _ (List.mem_append_right _ (List.mem_append_right _ (List.mem_append_left _ (List.mem_of_getElem? (i := 57) rfl))))))
set_option maxRecDepth 100000 in
theorem x_Lw_13 : Cond.classLink R_Lw 13 "java/lang/IllegalArgumentException" ∈ gG.1 := List.mem_append_right _ (List.mem_append_right _ (List.mem_append_right _ (List.mem_append_right _ (List.mem_append_right _ (List.mem_append_left _ (List.mem_of_getElem? (i := 59) rfl))))))
set_option maxRecDepth 100000 in
theorem l_Lw_7 : Cond.methodLink R_Lw 7 n_C_B_canvas ∈ gG.1 := List.mem_append_right _ (List.mem_append_right _ (List.mem_append_right _ (List.mem_append_right _ (List.mem_append_right _ (List.mem_append_left _ (List.mem_of_getElem? (i := 60) rfl))))))
abbrev c_C_Lw_fill : ByteArray := method_4_code
def n_C_Lw_fill : MethodName := ⟨R_Lw, "fill", "(LBlockPicture;IIIII)I"⟩
set_option maxRecDepth 100000 in
theorem cd_C_Lw_fill : Cond.codeWith n_C_Lw_fill c_C_Lw_fill 7 (some .int) [(0, 11, 14, 19)] ∈ gG.1 := List.mem_append_right _ (List.mem_append_right _ (List.mem_append_right _ (List.mem_append_right _ (List.mem_append_right _ (List.mem_append_left _ (List.mem_of_getElem? (i := 88) rfl))))))
theorem ln_C_Lw_fill : (parseMethodDescriptor n_C_Lw_fill.desc).map (fun d => d.parameters.length) = some 6 := by decide +kernel
set_option maxRecDepth 100000 in
theorem st_C_Lw_fill : Cond.static n_C_Lw_fill ∈ gG.1 := List.mem_append_right _ (List.mem_append_right _ (List.mem_append_right _ (List.mem_append_right _ (List.mem_append_right _ (List.mem_append_left _ (List.mem_of_getElem? (i := 87) rfl))))))
set_option maxRecDepth 100000 in
theorem x_Lw_19 : Cond.classLink R_Lw 19 "java/lang/IndexOutOfBoundsException" ∈ gG.1 := List.mem_append_right _ (List.mem_append_right _ (List.mem_append_right _ (List.mem_append_right _ (List.mem_append_right _ (List.mem_append_left _ (List.mem_of_getElem? (i := 89) rfl))))))
set_option maxRecDepth 100000 in
theorem l_Lw_15 : Cond.methodLink R_Lw 15 n_C_B_fill ∈ gG.1 := List.mem_append_right _ (List.mem_append_right _ (List.mem_append_right _ (List.mem_append_right _ (List.mem_append_right _ (List.mem_append_left _ (List.mem_of_getElem? (i := 90) rfl))))))
abbrev c_C_Lw_slope : ByteArray := method_5_code
def n_C_Lw_slope : MethodName := ⟨R_Lw, "slope", "(LBlockPicture;IIIIII)I"⟩
set_option maxRecDepth 100000 in
theorem cd_C_Lw_slope : Cond.codeWith n_C_Lw_slope c_C_Lw_slope 8 (some .int) [(0, 13, 16, 19)] ∈ gG.1 := List.mem_append_right _ (List.mem_append_right _ (List.mem_append_right _ (List.mem_append_right _ (List.mem_append_right _ (List.mem_append_left _ (List.mem_of_getElem? (i := 123) rfl))))))
theorem ln_C_Lw_slope : (parseMethodDescriptor n_C_Lw_slope.desc).map (fun d => d.parameters.length) = some 7 := by decide +kernel
set_option maxRecDepth 100000 in
theorem st_C_Lw_slope : Cond.static n_C_Lw_slope ∈ gG.1 := List.mem_append_right _ (List.mem_append_right _ (List.mem_append_right _ (List.mem_append_right _ (List.mem_append_right _ (List.mem_append_left _ (List.mem_of_getElem? (i := 122) rfl))))))
set_option maxRecDepth 100000 in
theorem l_Lw_21 : Cond.methodLink R_Lw 21 n_C_B_slope ∈ gG.1 := List.mem_append_right _ (List.mem_append_right _ (List.mem_append_right _ (List.mem_append_right _ (List.mem_append_right _ (List.mem_append_left _ (List.mem_of_getElem? (i := 124) rfl))))))
abbrev c_C_Lw_at : ByteArray := method_6_code
def n_C_Lw_at : MethodName := ⟨R_Lw, "at", "(LBlockPicture;III[J)I"⟩
set_option maxRecDepth 100000 in
theorem cd_C_Lw_at : Cond.codeWith n_C_Lw_at c_C_Lw_at 6 (some .int) [(0, 12, 15, 19)] ∈ gG.1 := List.mem_append_right _ (List.mem_append_right _ (List.mem_append_right _ (List.mem_append_right _ (List.mem_append_right _ (List.mem_append_left _ (List.mem_of_getElem? (i := 130) rfl))))))
theorem ln_C_Lw_at : (parseMethodDescriptor n_C_Lw_at.desc).map (fun d => d.parameters.length) = some 5 := by decide +kernel
set_option maxRecDepth 100000 in
theorem st_C_Lw_at : Cond.static n_C_Lw_at ∈ gG.1 := List.mem_append_right _ (List.mem_append_right _ (List.mem_append_right _ (List.mem_append_right _ (List.mem_append_right _ (List.mem_append_left _ (List.mem_of_getElem? (i := 129) rfl))))))
set_option maxRecDepth 100000 in
theorem l_Lw_25 : Cond.methodLink R_Lw 25 n_C_B_at ∈ gG.1 := List.mem_append_right _ (List.mem_append_right _ (List.mem_append_right _ (List.mem_append_right _ (List.mem_append_right _ (List.mem_append_left _ (List.mem_of_getElem? (i := 131) rfl))))))
abbrev c_C_Lw_scale : ByteArray := method_7_code
def n_C_Lw_scale : MethodName := ⟨R_Lw, "scale", "(LBlockPicture;III)I"⟩
set_option maxRecDepth 100000 in
theorem cd_C_Lw_scale : Cond.codeWith n_C_Lw_scale c_C_Lw_scale 5 (some .int) [(0, 7, 10, 13)] ∈ gG.1 := List.mem_append_right _ (List.mem_append_right _ (List.mem_append_right _ (List.mem_append_right _ (List.mem_append_right _ (List.mem_append_left _ (List.mem_of_getElem? (i := 139) rfl))))))
theorem ln_C_Lw_scale : (parseMethodDescriptor n_C_Lw_scale.desc).map (fun d => d.parameters.length) = some 4 := by decide +kernel
set_option maxRecDepth 100000 in
theorem st_C_Lw_scale : Cond.static n_C_Lw_scale ∈ gG.1 := List.mem_append_right _ (List.mem_append_right _ (List.mem_append_right _ (List.mem_append_right _ (List.mem_append_right _ (List.mem_append_left _ (List.mem_of_getElem? (i := 138) rfl))))))
set_option maxRecDepth 100000 in
theorem l_Lw_29 : Cond.methodLink R_Lw 29 n_C_B_scale ∈ gG.1 := List.mem_append_right _ (List.mem_append_right _ (List.mem_append_right _ (List.mem_append_right _ (List.mem_append_right _ (List.mem_append_left _ (List.mem_of_getElem? (i := 140) rfl))))))
abbrev c_C_Lw_entry : ByteArray := method_8_code
def n_C_Lw_entry : MethodName := ⟨R_Lw, "entry", "(LBlockPicture;IIII)I"⟩
set_option maxRecDepth 100000 in
theorem cd_C_Lw_entry : Cond.codeWith n_C_Lw_entry c_C_Lw_entry 6 (some .int) [(0, 9, 12, 19), (0, 9, 16, 13)] ∈ gG.1 := List.mem_append_right _ (List.mem_append_right _ (List.mem_append_right _ (List.mem_append_right _ (List.mem_append_right _ (List.mem_append_left _ (List.mem_of_getElem? (i := 150) rfl))))))
theorem ln_C_Lw_entry : (parseMethodDescriptor n_C_Lw_entry.desc).map (fun d => d.parameters.length) = some 5 := by decide +kernel
set_option maxRecDepth 100000 in
theorem st_C_Lw_entry : Cond.static n_C_Lw_entry ∈ gG.1 := List.mem_append_right _ (List.mem_append_right _ (List.mem_append_right _ (List.mem_append_right _ (List.mem_append_right _ (List.mem_append_left _ (List.mem_of_getElem? (i := 149) rfl))))))
set_option maxRecDepth 100000 in
theorem l_Lw_32 : Cond.methodLink R_Lw 32 n_C_B_entry ∈ gG.1 := List.mem_append_right _ (List.mem_append_right _ (List.mem_append_right _ (List.mem_append_right _ (List.mem_append_right _ (List.mem_append_left _ (List.mem_of_getElem? (i := 151) rfl))))))
abbrev c_C_Lw_pack : ByteArray := method_9_code
def n_C_Lw_pack : MethodName := ⟨R_Lw, "pack", "(LBlockPicture;III[J)I"⟩
set_option maxRecDepth 100000 in
theorem cd_C_Lw_pack : Cond.codeWith n_C_Lw_pack c_C_Lw_pack 6 (some .int) [(0, 12, 15, 13)] ∈ gG.1 := List.mem_append_right _ (List.mem_append_right _ (List.mem_append_right _ (List.mem_append_right _ (List.mem_append_right _ (List.mem_append_left _ (List.mem_of_getElem? (i := 159) rfl))))))
theorem ln_C_Lw_pack : (parseMethodDescriptor n_C_Lw_pack.desc).map (fun d => d.parameters.length) = some 5 := by decide +kernel
set_option maxRecDepth 100000 in
theorem st_C_Lw_pack : Cond.static n_C_Lw_pack ∈ gG.1 := List.mem_append_right _ (List.mem_append_right _ (List.mem_append_right _ (List.mem_append_right _ (List.mem_append_right _ (List.mem_append_left _ (List.mem_of_getElem? (i := 158) rfl))))))
set_option maxRecDepth 100000 in
theorem l_Lw_36 : Cond.methodLink R_Lw 36 n_C_B_pack ∈ gG.1 := List.mem_append_right _ (List.mem_append_right _ (List.mem_append_right _ (List.mem_append_right _ (List.mem_append_right _ (List.mem_append_left _ (List.mem_of_getElem? (i := 160) rfl))))))
abbrev c_C_Lw_out : ByteArray := method_10_code
def n_C_Lw_out : MethodName := ⟨R_Lw, "out", "(LBlockPicture;I[J)I"⟩
set_option maxRecDepth 100000 in
theorem cd_C_Lw_out : Cond.codeWith n_C_Lw_out c_C_Lw_out 4 (some .int) [(0, 9, 12, 19)] ∈ gG.1 := List.mem_append_right _ (List.mem_append_right _ (List.mem_append_right _ (List.mem_append_right _ (List.mem_append_right _ (List.mem_append_right _ (List.mem_append_left _ (List.mem_of_getElem? (i := 65) rfl)))))))
theorem ln_C_Lw_out : (parseMethodDescriptor n_C_Lw_out.desc).map (fun d => d.parameters.length) = some 3 := by decide +kernel
set_option maxRecDepth 100000 in
theorem st_C_Lw_out : Cond.static n_C_Lw_out ∈ gG.1 := List.mem_append_right _ (List.mem_append_right _ (List.mem_append_right _ (List.mem_append_right _ (List.mem_append_right _ (List.mem_append_right _ (List.mem_append_left _ (List.mem_of_getElem? (i := 64) rfl)))))))
set_option maxRecDepth 100000 in
theorem l_Lw_39 : Cond.methodLink R_Lw 39 n_C_B_out ∈ gG.1 := List.mem_append_right _ (List.mem_append_right _ (List.mem_append_right _ (List.mem_append_right _ (List.mem_append_right _ (List.mem_append_right _ (List.mem_append_left _ (List.mem_of_getElem? (i := 66) rfl)))))))
abbrev c_C_Lw_feed : ByteArray := method_11_code
def n_C_Lw_feed : MethodName := ⟨R_Lw, "feed", "(LBlockPicture;IIIII[J)I"⟩
set_option maxRecDepth 100000 in
theorem cd_C_Lw_feed : Cond.codeWith n_C_Lw_feed c_C_Lw_feed 8 (some .int) [(0, 16, 19, 47)] ∈ gG.1 := List.mem_append_right _ (List.mem_append_right _ (List.mem_append_right _ (List.mem_append_right _ (List.mem_append_right _ (List.mem_append_right _ (List.mem_append_left _ (List.mem_of_getElem? (i := 74) rfl)))))))
theorem ln_C_Lw_feed : (parseMethodDescriptor n_C_Lw_feed.desc).map (fun d => d.parameters.length) = some 7 := by decide +kernel
set_option maxRecDepth 100000 in
theorem st_C_Lw_feed : Cond.static n_C_Lw_feed ∈ gG.1 := List.mem_append_right _ (List.mem_append_right _ (List.mem_append_right _ (List.mem_append_right _ (List.mem_append_right _ (List.mem_append_right _ (List.mem_append_left _ (List.mem_of_getElem? (i := 73) rfl)))))))
set_option maxRecDepth 100000 in
theorem x_Lw_47 : Cond.classLink R_Lw 47 "java/lang/IllegalStateException" ∈ gG.1 := List.mem_append_right _ (List.mem_append_right _ (List.mem_append_right _ (List.mem_append_right _ (List.mem_append_right _ (List.mem_append_right _ (List.mem_append_left _ (List.mem_of_getElem? (i := 75) rfl)))))))
set_option maxRecDepth 100000 in
theorem l_Lw_43 : Cond.methodLink R_Lw 43 n_C_B_feed ∈ gG.1 := List.mem_append_right _ (List.mem_append_right _ (List.mem_append_right _ (List.mem_append_right _ (List.mem_append_right _ (List.mem_append_right _ (List.mem_append_left _ (List.mem_of_getElem? (i := 76) rfl)))))))
abbrev c_C_Lw_end : ByteArray := method_12_code
def n_C_Lw_end : MethodName := ⟨R_Lw, "end", "(LBlockPicture;I)I"⟩
set_option maxRecDepth 100000 in
theorem cd_C_Lw_end : Cond.codeWith n_C_Lw_end c_C_Lw_end 3 (some .int) [(0, 5, 8, 13)] ∈ gG.1 := List.mem_append_right _ (List.mem_append_right _ (List.mem_append_right _ (List.mem_append_right _ (List.mem_append_right _ (List.mem_append_right _ (List.mem_append_left _ (List.mem_of_getElem? (i := 90) rfl)))))))
theorem ln_C_Lw_end : (parseMethodDescriptor n_C_Lw_end.desc).map (fun d => d.parameters.length) = some 2 := by decide +kernel
set_option maxRecDepth 100000 in
theorem st_C_Lw_end : Cond.static n_C_Lw_end ∈ gG.1 := List.mem_append_right _ (List.mem_append_right _ (List.mem_append_right _ (List.mem_append_right _ (List.mem_append_right _ (List.mem_append_right _ (List.mem_append_left _ (List.mem_of_getElem? (i := 89) rfl)))))))
set_option maxRecDepth 100000 in
theorem l_Lw_49 : Cond.methodLink R_Lw 49 n_C_B_end ∈ gG.1 := List.mem_append_right _ (List.mem_append_right _ (List.mem_append_right _ (List.mem_append_right _ (List.mem_append_right _ (List.mem_append_right _ (List.mem_append_left _ (List.mem_of_getElem? (i := 91) rfl)))))))
abbrev c_C_Lw_change : ByteArray := method_13_code
def n_C_Lw_change : MethodName := ⟨R_Lw, "change", "(LBlockPicture;II[J)I"⟩
set_option maxRecDepth 100000 in
theorem cd_C_Lw_change : Cond.codeWith n_C_Lw_change c_C_Lw_change 5 (some .int) [(0, 10, 13, 19), (0, 10, 17, 13)] ∈ gG.1 := List.mem_append_right _ (List.mem_append_right _ (List.mem_append_right _ (List.mem_append_right _ (List.mem_append_right _ (List.mem_append_right _ (List.mem_append_left _ (List.mem_of_getElem? (i := 98) rfl)))))))
theorem ln_C_Lw_change : (parseMethodDescriptor n_C_Lw_change.desc).map (fun d => d.parameters.length) = some 4 := by decide +kernel
set_option maxRecDepth 100000 in
theorem st_C_Lw_change : Cond.static n_C_Lw_change ∈ gG.1 := List.mem_append_right _ (List.mem_append_right _ (List.mem_append_right _ (List.mem_append_right _ (List.mem_append_right _ (List.mem_append_right _ (List.mem_append_left _ (List.mem_of_getElem? (i := 97) rfl)))))))
set_option maxRecDepth 100000 in
theorem l_Lw_53 : Cond.methodLink R_Lw 53 n_C_B_change ∈ gG.1 := List.mem_append_right _ (List.mem_append_right _ (List.mem_append_right _ (List.mem_append_right _ (List.mem_append_right _ (List.mem_append_right _ (List.mem_append_left _ (List.mem_of_getElem? (i := 99) rfl)))))))
abbrev c_C_Lw_turn : ByteArray := method_14_code
def n_C_Lw_turn : MethodName := ⟨R_Lw, "turn", "(LBlockPicture;[J)I"⟩
set_option maxRecDepth 100000 in
theorem cd_C_Lw_turn : Cond.codeWith n_C_Lw_turn c_C_Lw_turn 3 (some .int) [(0, 8, 11, 47)] ∈ gG.1 := List.mem_append_right _ (List.mem_append_right _ (List.mem_append_right _ (List.mem_append_right _ (List.mem_append_right _ (List.mem_append_right _ (List.mem_append_left _ (List.mem_of_getElem? (i := 107) rfl)))))))
theorem ln_C_Lw_turn : (parseMethodDescriptor n_C_Lw_turn.desc).map (fun d => d.parameters.length) = some 2 := by decide +kernel
set_option maxRecDepth 100000 in
theorem st_C_Lw_turn : Cond.static n_C_Lw_turn ∈ gG.1 := List.mem_append_right _ (List.mem_append_right _ (List.mem_append_right _ (List.mem_append_right _ (List.mem_append_right _ (List.mem_append_right _ (List.mem_append_left _ (List.mem_of_getElem? (i := 106) rfl)))))))
set_option maxRecDepth 100000 in
theorem l_Lw_57 : Cond.methodLink R_Lw 57 n_C_B_turn ∈ gG.1 := List.mem_append_right _ (List.mem_append_right _ (List.mem_append_right _ (List.mem_append_right _ (List.mem_append_right _ (List.mem_append_right _ (List.mem_append_left _ (List.mem_of_getElem? (i := 108) rfl)))))))
abbrev c_C_Lw_about : ByteArray := method_15_code
def n_C_Lw_about : MethodName := ⟨R_Lw, "about", "(LBlockPicture;I[J)I"⟩
set_option maxRecDepth 100000 in
theorem cd_C_Lw_about : Cond.codeWith n_C_Lw_about c_C_Lw_about 4 (some .int) [(0, 9, 12, 13), (0, 9, 15, 47)] ∈ gG.1 := List.mem_append_right _ (List.mem_append_right _ (List.mem_append_right _ (List.mem_append_right _ (List.mem_append_right _ (List.mem_append_right _ (List.mem_append_left _ (List.mem_of_getElem? (i := 116) rfl)))))))
theorem ln_C_Lw_about : (parseMethodDescriptor n_C_Lw_about.desc).map (fun d => d.parameters.length) = some 3 := by decide +kernel
set_option maxRecDepth 100000 in
theorem st_C_Lw_about : Cond.static n_C_Lw_about ∈ gG.1 := List.mem_append_right _ (List.mem_append_right _ (List.mem_append_right _ (List.mem_append_right _ (List.mem_append_right _ (List.mem_append_right _ (List.mem_append_left _ (List.mem_of_getElem? (i := 115) rfl)))))))
set_option maxRecDepth 100000 in
theorem l_Lw_61 : Cond.methodLink R_Lw 61 n_C_B_about ∈ gG.1 := List.mem_append_right _ (List.mem_append_right _ (List.mem_append_right _ (List.mem_append_right _ (List.mem_append_right _ (List.mem_append_right _ (List.mem_append_left _ (List.mem_of_getElem? (i := 117) rfl)))))))
abbrev c_C_Lw_sample : ByteArray := method_16_code
def n_C_Lw_sample : MethodName := ⟨R_Lw, "sample", "(LBlockPicture;III[J)I"⟩
set_option maxRecDepth 100000 in
theorem cd_C_Lw_sample : Cond.codeWith n_C_Lw_sample c_C_Lw_sample 6 (some .int) [(0, 12, 15, 47), (0, 12, 19, 19)] ∈ gG.1 := List.mem_append_right _ (List.mem_append_right _ (List.mem_append_right _ (List.mem_append_right _ (List.mem_append_right _ (List.mem_append_right _ (List.mem_append_left _ (List.mem_of_getElem? (i := 125) rfl)))))))
theorem ln_C_Lw_sample : (parseMethodDescriptor n_C_Lw_sample.desc).map (fun d => d.parameters.length) = some 5 := by decide +kernel
set_option maxRecDepth 100000 in
theorem st_C_Lw_sample : Cond.static n_C_Lw_sample ∈ gG.1 := List.mem_append_right _ (List.mem_append_right _ (List.mem_append_right _ (List.mem_append_right _ (List.mem_append_right _ (List.mem_append_right _ (List.mem_append_left _ (List.mem_of_getElem? (i := 124) rfl)))))))
set_option maxRecDepth 100000 in
theorem l_Lw_64 : Cond.methodLink R_Lw 64 n_C_B_sample ∈ gG.1 := List.mem_append_right _ (List.mem_append_right _ (List.mem_append_right _ (List.mem_append_right _ (List.mem_append_right _ (List.mem_append_right _ (List.mem_append_left _ (List.mem_of_getElem? (i := 126) rfl)))))))
abbrev c_C_Lw_level : ByteArray := method_17_code
def n_C_Lw_level : MethodName := ⟨R_Lw, "level", "(LBlockPicture;IIII[J)I"⟩
set_option maxRecDepth 100000 in
theorem cd_C_Lw_level : Cond.codeWith n_C_Lw_level c_C_Lw_level 7 (some .int) [(0, 14, 17, 13), (0, 14, 21, 47), (0, 14, 25, 19)] ∈ gG.1 := List.mem_append_right _ (List.mem_append_right _ (List.mem_append_right _ (List.mem_append_right _ (List.mem_append_right _ (List.mem_append_right _ (List.mem_append_right _ (List.mem_append_left _ (List.mem_of_getElem? (i := 191) rfl))))))))
theorem ln_C_Lw_level : (parseMethodDescriptor n_C_Lw_level.desc).map (fun d => d.parameters.length) = some 6 := by decide +kernel
set_option maxRecDepth 100000 in
theorem st_C_Lw_level : Cond.static n_C_Lw_level ∈ gG.1 := List.mem_append_right _ (List.mem_append_right _ (List.mem_append_right _ (List.mem_append_right _ (List.mem_append_right _ (List.mem_append_right _ (List.mem_append_right _ (List.mem_append_left _ (List.mem_of_getElem? (i := 190) rfl))))))))
set_option maxRecDepth 100000 in
theorem l_Lw_67 : Cond.methodLink R_Lw 67 n_C_B_level ∈ gG.1 := List.mem_append_right _ (List.mem_append_right _ (List.mem_append_right _ (List.mem_append_right _ (List.mem_append_right _ (List.mem_append_right _ (List.mem_append_right _ (List.mem_append_left _ (List.mem_of_getElem? (i := 192) rfl))))))))
abbrev c_C_Lw_take : ByteArray := method_18_code
def n_C_Lw_take : MethodName := ⟨R_Lw, "take", "(LBlockPicture;)I"⟩
set_option maxRecDepth 100000 in
theorem cd_C_Lw_take : Cond.codeWith n_C_Lw_take c_C_Lw_take 2 (some .int) [(0, 4, 7, 47)] ∈ gG.1 := List.mem_append_right _ (List.mem_append_right _ (List.mem_append_right _ (List.mem_append_right _ (List.mem_append_right _ (List.mem_append_right _ (List.mem_append_right _ (List.mem_append_left _ (List.mem_of_getElem? (i := 206) rfl))))))))
theorem ln_C_Lw_take : (parseMethodDescriptor n_C_Lw_take.desc).map (fun d => d.parameters.length) = some 1 := by decide +kernel
set_option maxRecDepth 100000 in
theorem st_C_Lw_take : Cond.static n_C_Lw_take ∈ gG.1 := List.mem_append_right _ (List.mem_append_right _ (List.mem_append_right _ (List.mem_append_right _ (List.mem_append_right _ (List.mem_append_right _ (List.mem_append_right _ (List.mem_append_left _ (List.mem_of_getElem? (i := 205) rfl))))))))
set_option maxRecDepth 100000 in
theorem l_Lw_71 : Cond.methodLink R_Lw 71 n_C_B_take ∈ gG.1 := List.mem_append_right _ (List.mem_append_right _ (List.mem_append_right _ (List.mem_append_right _ (List.mem_append_right _ (List.mem_append_right _ (List.mem_append_right _ (List.mem_append_left _ (List.mem_of_getElem? (i := 207) rfl))))))))
theorem dc_Lw_canvas_0 : decode c_C_Lw_canvas 0 = .ok (.aload_n 0, 1) := by decide +kernel
theorem dc_Lw_canvas_1 : decode c_C_Lw_canvas 1 = .ok (.iload_n 1, 1) := by decide +kernel
theorem dc_Lw_canvas_2 : decode c_C_Lw_canvas 2 = .ok (.iload_n 2, 1) := by decide +kernel
theorem dc_Lw_canvas_3 : decode c_C_Lw_canvas 3 = .ok (.iload_n 3, 1) := by decide +kernel
theorem dc_Lw_canvas_4 : decode c_C_Lw_canvas 4 = .ok (.invokevirtual 7, 3) := by decide +kernel
theorem dc_Lw_canvas_7 : decode c_C_Lw_canvas 7 = .ok (.goto 7, 3) := by decide +kernel
theorem dc_Lw_canvas_10 : decode c_C_Lw_canvas 10 = .ok (.astore 4, 2) := by decide +kernel
theorem dc_Lw_canvas_12 : decode c_C_Lw_canvas 12 = .ok (.iconst 1, 1) := by decide +kernel
theorem dc_Lw_canvas_13 : decode c_C_Lw_canvas 13 = .ok (.ireturn, 1) := by decide +kernel
theorem dc_Lw_canvas_14 : decode c_C_Lw_canvas 14 = .ok (.iconst 0, 1) := by decide +kernel
theorem dc_Lw_canvas_15 : decode c_C_Lw_canvas 15 = .ok (.ireturn, 1) := by decide +kernel
theorem dc_Lw_fill_0 : decode c_C_Lw_fill 0 = .ok (.aload_n 0, 1) := by decide +kernel
theorem dc_Lw_fill_1 : decode c_C_Lw_fill 1 = .ok (.iload_n 1, 1) := by decide +kernel
theorem dc_Lw_fill_2 : decode c_C_Lw_fill 2 = .ok (.iload_n 2, 1) := by decide +kernel
theorem dc_Lw_fill_3 : decode c_C_Lw_fill 3 = .ok (.iload_n 3, 1) := by decide +kernel
theorem dc_Lw_fill_4 : decode c_C_Lw_fill 4 = .ok (.iload 4, 2) := by decide +kernel
theorem dc_Lw_fill_6 : decode c_C_Lw_fill 6 = .ok (.iload 5, 2) := by decide +kernel
theorem dc_Lw_fill_8 : decode c_C_Lw_fill 8 = .ok (.invokevirtual 15, 3) := by decide +kernel
theorem dc_Lw_fill_11 : decode c_C_Lw_fill 11 = .ok (.goto 7, 3) := by decide +kernel
theorem dc_Lw_fill_14 : decode c_C_Lw_fill 14 = .ok (.astore 6, 2) := by decide +kernel
theorem dc_Lw_fill_16 : decode c_C_Lw_fill 16 = .ok (.iconst 1, 1) := by decide +kernel
theorem dc_Lw_fill_17 : decode c_C_Lw_fill 17 = .ok (.ireturn, 1) := by decide +kernel
theorem dc_Lw_fill_18 : decode c_C_Lw_fill 18 = .ok (.iconst 0, 1) := by decide +kernel
theorem dc_Lw_fill_19 : decode c_C_Lw_fill 19 = .ok (.ireturn, 1) := by decide +kernel
theorem dc_Lw_slope_0 : decode c_C_Lw_slope 0 = .ok (.aload_n 0, 1) := by decide +kernel
theorem dc_Lw_slope_1 : decode c_C_Lw_slope 1 = .ok (.iload_n 1, 1) := by decide +kernel
theorem dc_Lw_slope_2 : decode c_C_Lw_slope 2 = .ok (.iload_n 2, 1) := by decide +kernel
theorem dc_Lw_slope_3 : decode c_C_Lw_slope 3 = .ok (.iload_n 3, 1) := by decide +kernel
theorem dc_Lw_slope_4 : decode c_C_Lw_slope 4 = .ok (.iload 4, 2) := by decide +kernel
theorem dc_Lw_slope_6 : decode c_C_Lw_slope 6 = .ok (.iload 5, 2) := by decide +kernel
theorem dc_Lw_slope_8 : decode c_C_Lw_slope 8 = .ok (.iload 6, 2) := by decide +kernel
theorem dc_Lw_slope_10 : decode c_C_Lw_slope 10 = .ok (.invokevirtual 21, 3) := by decide +kernel
theorem dc_Lw_slope_13 : decode c_C_Lw_slope 13 = .ok (.goto 7, 3) := by decide +kernel
theorem dc_Lw_slope_16 : decode c_C_Lw_slope 16 = .ok (.astore 7, 2) := by decide +kernel
theorem dc_Lw_slope_18 : decode c_C_Lw_slope 18 = .ok (.iconst 1, 1) := by decide +kernel
theorem dc_Lw_slope_19 : decode c_C_Lw_slope 19 = .ok (.ireturn, 1) := by decide +kernel
theorem dc_Lw_slope_20 : decode c_C_Lw_slope 20 = .ok (.iconst 0, 1) := by decide +kernel
theorem dc_Lw_slope_21 : decode c_C_Lw_slope 21 = .ok (.ireturn, 1) := by decide +kernel
theorem dc_Lw_at_0 : decode c_C_Lw_at 0 = .ok (.aload 4, 2) := by decide +kernel
theorem dc_Lw_at_2 : decode c_C_Lw_at 2 = .ok (.iconst 0, 1) := by decide +kernel
theorem dc_Lw_at_3 : decode c_C_Lw_at 3 = .ok (.aload_n 0, 1) := by decide +kernel
theorem dc_Lw_at_4 : decode c_C_Lw_at 4 = .ok (.iload_n 1, 1) := by decide +kernel
theorem dc_Lw_at_5 : decode c_C_Lw_at 5 = .ok (.iload_n 2, 1) := by decide +kernel
theorem dc_Lw_at_6 : decode c_C_Lw_at 6 = .ok (.iload_n 3, 1) := by decide +kernel
theorem dc_Lw_at_7 : decode c_C_Lw_at 7 = .ok (.invokevirtual 25, 3) := by decide +kernel
theorem dc_Lw_at_10 : decode c_C_Lw_at 10 = .ok (.i2l, 1) := by decide +kernel
theorem dc_Lw_at_11 : decode c_C_Lw_at 11 = .ok (.lastore, 1) := by decide +kernel
theorem dc_Lw_at_12 : decode c_C_Lw_at 12 = .ok (.goto 7, 3) := by decide +kernel
theorem dc_Lw_at_15 : decode c_C_Lw_at 15 = .ok (.astore 5, 2) := by decide +kernel
theorem dc_Lw_at_17 : decode c_C_Lw_at 17 = .ok (.iconst 1, 1) := by decide +kernel
theorem dc_Lw_at_18 : decode c_C_Lw_at 18 = .ok (.ireturn, 1) := by decide +kernel
theorem dc_Lw_at_19 : decode c_C_Lw_at 19 = .ok (.iconst 0, 1) := by decide +kernel
theorem dc_Lw_at_20 : decode c_C_Lw_at 20 = .ok (.ireturn, 1) := by decide +kernel
theorem dc_Lw_scale_0 : decode c_C_Lw_scale 0 = .ok (.aload_n 0, 1) := by decide +kernel
theorem dc_Lw_scale_1 : decode c_C_Lw_scale 1 = .ok (.iload_n 1, 1) := by decide +kernel
theorem dc_Lw_scale_2 : decode c_C_Lw_scale 2 = .ok (.iload_n 2, 1) := by decide +kernel
theorem dc_Lw_scale_3 : decode c_C_Lw_scale 3 = .ok (.iload_n 3, 1) := by decide +kernel
theorem dc_Lw_scale_4 : decode c_C_Lw_scale 4 = .ok (.invokevirtual 29, 3) := by decide +kernel
theorem dc_Lw_scale_7 : decode c_C_Lw_scale 7 = .ok (.goto 7, 3) := by decide +kernel
theorem dc_Lw_scale_10 : decode c_C_Lw_scale 10 = .ok (.astore 4, 2) := by decide +kernel
theorem dc_Lw_scale_12 : decode c_C_Lw_scale 12 = .ok (.iconst 1, 1) := by decide +kernel
theorem dc_Lw_scale_13 : decode c_C_Lw_scale 13 = .ok (.ireturn, 1) := by decide +kernel
theorem dc_Lw_scale_14 : decode c_C_Lw_scale 14 = .ok (.iconst 0, 1) := by decide +kernel
theorem dc_Lw_scale_15 : decode c_C_Lw_scale 15 = .ok (.ireturn, 1) := by decide +kernel
theorem dc_Lw_entry_0 : decode c_C_Lw_entry 0 = .ok (.aload_n 0, 1) := by decide +kernel
theorem dc_Lw_entry_1 : decode c_C_Lw_entry 1 = .ok (.iload_n 1, 1) := by decide +kernel
theorem dc_Lw_entry_2 : decode c_C_Lw_entry 2 = .ok (.iload_n 2, 1) := by decide +kernel
theorem dc_Lw_entry_3 : decode c_C_Lw_entry 3 = .ok (.iload_n 3, 1) := by decide +kernel
theorem dc_Lw_entry_4 : decode c_C_Lw_entry 4 = .ok (.iload 4, 2) := by decide +kernel
theorem dc_Lw_entry_6 : decode c_C_Lw_entry 6 = .ok (.invokevirtual 32, 3) := by decide +kernel
theorem dc_Lw_entry_9 : decode c_C_Lw_entry 9 = .ok (.goto 11, 3) := by decide +kernel
theorem dc_Lw_entry_12 : decode c_C_Lw_entry 12 = .ok (.astore 5, 2) := by decide +kernel
theorem dc_Lw_entry_14 : decode c_C_Lw_entry 14 = .ok (.iconst 1, 1) := by decide +kernel
theorem dc_Lw_entry_15 : decode c_C_Lw_entry 15 = .ok (.ireturn, 1) := by decide +kernel
theorem dc_Lw_entry_16 : decode c_C_Lw_entry 16 = .ok (.astore 5, 2) := by decide +kernel
theorem dc_Lw_entry_18 : decode c_C_Lw_entry 18 = .ok (.iconst 2, 1) := by decide +kernel
theorem dc_Lw_entry_19 : decode c_C_Lw_entry 19 = .ok (.ireturn, 1) := by decide +kernel
theorem dc_Lw_entry_20 : decode c_C_Lw_entry 20 = .ok (.iconst 0, 1) := by decide +kernel
theorem dc_Lw_entry_21 : decode c_C_Lw_entry 21 = .ok (.ireturn, 1) := by decide +kernel
theorem dc_Lw_pack_0 : decode c_C_Lw_pack 0 = .ok (.aload 4, 2) := by decide +kernel
theorem dc_Lw_pack_2 : decode c_C_Lw_pack 2 = .ok (.iconst 0, 1) := by decide +kernel
theorem dc_Lw_pack_3 : decode c_C_Lw_pack 3 = .ok (.aload_n 0, 1) := by decide +kernel
theorem dc_Lw_pack_4 : decode c_C_Lw_pack 4 = .ok (.iload_n 1, 1) := by decide +kernel
theorem dc_Lw_pack_5 : decode c_C_Lw_pack 5 = .ok (.iload_n 2, 1) := by decide +kernel
theorem dc_Lw_pack_6 : decode c_C_Lw_pack 6 = .ok (.iload_n 3, 1) := by decide +kernel
theorem dc_Lw_pack_7 : decode c_C_Lw_pack 7 = .ok (.invokevirtual 36, 3) := by decide +kernel
theorem dc_Lw_pack_10 : decode c_C_Lw_pack 10 = .ok (.i2l, 1) := by decide +kernel
theorem dc_Lw_pack_11 : decode c_C_Lw_pack 11 = .ok (.lastore, 1) := by decide +kernel
theorem dc_Lw_pack_12 : decode c_C_Lw_pack 12 = .ok (.goto 7, 3) := by decide +kernel
theorem dc_Lw_pack_15 : decode c_C_Lw_pack 15 = .ok (.astore 5, 2) := by decide +kernel
theorem dc_Lw_pack_17 : decode c_C_Lw_pack 17 = .ok (.iconst 1, 1) := by decide +kernel
theorem dc_Lw_pack_18 : decode c_C_Lw_pack 18 = .ok (.ireturn, 1) := by decide +kernel
theorem dc_Lw_pack_19 : decode c_C_Lw_pack 19 = .ok (.iconst 0, 1) := by decide +kernel
theorem dc_Lw_pack_20 : decode c_C_Lw_pack 20 = .ok (.ireturn, 1) := by decide +kernel
theorem dc_Lw_out_0 : decode c_C_Lw_out 0 = .ok (.aload_n 2, 1) := by decide +kernel
theorem dc_Lw_out_1 : decode c_C_Lw_out 1 = .ok (.iconst 0, 1) := by decide +kernel
theorem dc_Lw_out_2 : decode c_C_Lw_out 2 = .ok (.aload_n 0, 1) := by decide +kernel
theorem dc_Lw_out_3 : decode c_C_Lw_out 3 = .ok (.iload_n 1, 1) := by decide +kernel
theorem dc_Lw_out_4 : decode c_C_Lw_out 4 = .ok (.invokevirtual 39, 3) := by decide +kernel
theorem dc_Lw_out_7 : decode c_C_Lw_out 7 = .ok (.i2l, 1) := by decide +kernel
theorem dc_Lw_out_8 : decode c_C_Lw_out 8 = .ok (.lastore, 1) := by decide +kernel
theorem dc_Lw_out_9 : decode c_C_Lw_out 9 = .ok (.goto 6, 3) := by decide +kernel
theorem dc_Lw_out_12 : decode c_C_Lw_out 12 = .ok (.astore_n 3, 1) := by decide +kernel
theorem dc_Lw_out_13 : decode c_C_Lw_out 13 = .ok (.iconst 1, 1) := by decide +kernel
theorem dc_Lw_out_14 : decode c_C_Lw_out 14 = .ok (.ireturn, 1) := by decide +kernel
theorem dc_Lw_out_15 : decode c_C_Lw_out 15 = .ok (.iconst 0, 1) := by decide +kernel
theorem dc_Lw_out_16 : decode c_C_Lw_out 16 = .ok (.ireturn, 1) := by decide +kernel
theorem dc_Lw_feed_0 : decode c_C_Lw_feed 0 = .ok (.aload 6, 2) := by decide +kernel
theorem dc_Lw_feed_2 : decode c_C_Lw_feed 2 = .ok (.iconst 0, 1) := by decide +kernel
theorem dc_Lw_feed_3 : decode c_C_Lw_feed 3 = .ok (.aload_n 0, 1) := by decide +kernel
theorem dc_Lw_feed_4 : decode c_C_Lw_feed 4 = .ok (.iload_n 1, 1) := by decide +kernel
theorem dc_Lw_feed_5 : decode c_C_Lw_feed 5 = .ok (.iload_n 2, 1) := by decide +kernel
theorem dc_Lw_feed_6 : decode c_C_Lw_feed 6 = .ok (.iload_n 3, 1) := by decide +kernel
theorem dc_Lw_feed_7 : decode c_C_Lw_feed 7 = .ok (.iload 4, 2) := by decide +kernel
theorem dc_Lw_feed_9 : decode c_C_Lw_feed 9 = .ok (.iload 5, 2) := by decide +kernel
theorem dc_Lw_feed_11 : decode c_C_Lw_feed 11 = .ok (.invokevirtual 43, 3) := by decide +kernel
theorem dc_Lw_feed_14 : decode c_C_Lw_feed 14 = .ok (.i2l, 1) := by decide +kernel
theorem dc_Lw_feed_15 : decode c_C_Lw_feed 15 = .ok (.lastore, 1) := by decide +kernel
theorem dc_Lw_feed_16 : decode c_C_Lw_feed 16 = .ok (.goto 7, 3) := by decide +kernel
theorem dc_Lw_feed_19 : decode c_C_Lw_feed 19 = .ok (.astore 7, 2) := by decide +kernel
theorem dc_Lw_feed_21 : decode c_C_Lw_feed 21 = .ok (.iconst 1, 1) := by decide +kernel
theorem dc_Lw_feed_22 : decode c_C_Lw_feed 22 = .ok (.ireturn, 1) := by decide +kernel
theorem dc_Lw_feed_23 : decode c_C_Lw_feed 23 = .ok (.iconst 0, 1) := by decide +kernel
theorem dc_Lw_feed_24 : decode c_C_Lw_feed 24 = .ok (.ireturn, 1) := by decide +kernel
theorem dc_Lw_end_0 : decode c_C_Lw_end 0 = .ok (.aload_n 0, 1) := by decide +kernel
theorem dc_Lw_end_1 : decode c_C_Lw_end 1 = .ok (.iload_n 1, 1) := by decide +kernel
theorem dc_Lw_end_2 : decode c_C_Lw_end 2 = .ok (.invokevirtual 49, 3) := by decide +kernel
theorem dc_Lw_end_5 : decode c_C_Lw_end 5 = .ok (.goto 6, 3) := by decide +kernel
theorem dc_Lw_end_8 : decode c_C_Lw_end 8 = .ok (.astore_n 2, 1) := by decide +kernel
theorem dc_Lw_end_9 : decode c_C_Lw_end 9 = .ok (.iconst 1, 1) := by decide +kernel
theorem dc_Lw_end_10 : decode c_C_Lw_end 10 = .ok (.ireturn, 1) := by decide +kernel
theorem dc_Lw_end_11 : decode c_C_Lw_end 11 = .ok (.iconst 0, 1) := by decide +kernel
theorem dc_Lw_end_12 : decode c_C_Lw_end 12 = .ok (.ireturn, 1) := by decide +kernel
theorem dc_Lw_change_0 : decode c_C_Lw_change 0 = .ok (.aload_n 3, 1) := by decide +kernel
theorem dc_Lw_change_1 : decode c_C_Lw_change 1 = .ok (.iconst 0, 1) := by decide +kernel
theorem dc_Lw_change_2 : decode c_C_Lw_change 2 = .ok (.aload_n 0, 1) := by decide +kernel
theorem dc_Lw_change_3 : decode c_C_Lw_change 3 = .ok (.iload_n 1, 1) := by decide +kernel
theorem dc_Lw_change_4 : decode c_C_Lw_change 4 = .ok (.iload_n 2, 1) := by decide +kernel
theorem dc_Lw_change_5 : decode c_C_Lw_change 5 = .ok (.invokevirtual 53, 3) := by decide +kernel
theorem dc_Lw_change_8 : decode c_C_Lw_change 8 = .ok (.i2l, 1) := by decide +kernel
theorem dc_Lw_change_9 : decode c_C_Lw_change 9 = .ok (.lastore, 1) := by decide +kernel
theorem dc_Lw_change_10 : decode c_C_Lw_change 10 = .ok (.goto 11, 3) := by decide +kernel
theorem dc_Lw_change_13 : decode c_C_Lw_change 13 = .ok (.astore 4, 2) := by decide +kernel
theorem dc_Lw_change_15 : decode c_C_Lw_change 15 = .ok (.iconst 1, 1) := by decide +kernel
theorem dc_Lw_change_16 : decode c_C_Lw_change 16 = .ok (.ireturn, 1) := by decide +kernel
theorem dc_Lw_change_17 : decode c_C_Lw_change 17 = .ok (.astore 4, 2) := by decide +kernel
theorem dc_Lw_change_19 : decode c_C_Lw_change 19 = .ok (.iconst 2, 1) := by decide +kernel
theorem dc_Lw_change_20 : decode c_C_Lw_change 20 = .ok (.ireturn, 1) := by decide +kernel
theorem dc_Lw_change_21 : decode c_C_Lw_change 21 = .ok (.iconst 0, 1) := by decide +kernel
theorem dc_Lw_change_22 : decode c_C_Lw_change 22 = .ok (.ireturn, 1) := by decide +kernel
theorem dc_Lw_turn_0 : decode c_C_Lw_turn 0 = .ok (.aload_n 1, 1) := by decide +kernel
theorem dc_Lw_turn_1 : decode c_C_Lw_turn 1 = .ok (.iconst 0, 1) := by decide +kernel
theorem dc_Lw_turn_2 : decode c_C_Lw_turn 2 = .ok (.aload_n 0, 1) := by decide +kernel
theorem dc_Lw_turn_3 : decode c_C_Lw_turn 3 = .ok (.invokevirtual 57, 3) := by decide +kernel
theorem dc_Lw_turn_6 : decode c_C_Lw_turn 6 = .ok (.i2l, 1) := by decide +kernel
theorem dc_Lw_turn_7 : decode c_C_Lw_turn 7 = .ok (.lastore, 1) := by decide +kernel
theorem dc_Lw_turn_8 : decode c_C_Lw_turn 8 = .ok (.goto 6, 3) := by decide +kernel
theorem dc_Lw_turn_11 : decode c_C_Lw_turn 11 = .ok (.astore_n 2, 1) := by decide +kernel
theorem dc_Lw_turn_12 : decode c_C_Lw_turn 12 = .ok (.iconst 1, 1) := by decide +kernel
theorem dc_Lw_turn_13 : decode c_C_Lw_turn 13 = .ok (.ireturn, 1) := by decide +kernel
theorem dc_Lw_turn_14 : decode c_C_Lw_turn 14 = .ok (.iconst 0, 1) := by decide +kernel
theorem dc_Lw_turn_15 : decode c_C_Lw_turn 15 = .ok (.ireturn, 1) := by decide +kernel
theorem dc_Lw_about_0 : decode c_C_Lw_about 0 = .ok (.aload_n 2, 1) := by decide +kernel
theorem dc_Lw_about_1 : decode c_C_Lw_about 1 = .ok (.iconst 0, 1) := by decide +kernel
theorem dc_Lw_about_2 : decode c_C_Lw_about 2 = .ok (.aload_n 0, 1) := by decide +kernel
theorem dc_Lw_about_3 : decode c_C_Lw_about 3 = .ok (.iload_n 1, 1) := by decide +kernel
theorem dc_Lw_about_4 : decode c_C_Lw_about 4 = .ok (.invokevirtual 61, 3) := by decide +kernel
theorem dc_Lw_about_7 : decode c_C_Lw_about 7 = .ok (.i2l, 1) := by decide +kernel
theorem dc_Lw_about_8 : decode c_C_Lw_about 8 = .ok (.lastore, 1) := by decide +kernel
theorem dc_Lw_about_9 : decode c_C_Lw_about 9 = .ok (.goto 9, 3) := by decide +kernel
theorem dc_Lw_about_12 : decode c_C_Lw_about 12 = .ok (.astore_n 3, 1) := by decide +kernel
theorem dc_Lw_about_13 : decode c_C_Lw_about 13 = .ok (.iconst 1, 1) := by decide +kernel
theorem dc_Lw_about_14 : decode c_C_Lw_about 14 = .ok (.ireturn, 1) := by decide +kernel
theorem dc_Lw_about_15 : decode c_C_Lw_about 15 = .ok (.astore_n 3, 1) := by decide +kernel
theorem dc_Lw_about_16 : decode c_C_Lw_about 16 = .ok (.iconst 2, 1) := by decide +kernel
theorem dc_Lw_about_17 : decode c_C_Lw_about 17 = .ok (.ireturn, 1) := by decide +kernel
theorem dc_Lw_about_18 : decode c_C_Lw_about 18 = .ok (.iconst 0, 1) := by decide +kernel
theorem dc_Lw_about_19 : decode c_C_Lw_about 19 = .ok (.ireturn, 1) := by decide +kernel
theorem dc_Lw_sample_0 : decode c_C_Lw_sample 0 = .ok (.aload 4, 2) := by decide +kernel
theorem dc_Lw_sample_2 : decode c_C_Lw_sample 2 = .ok (.iconst 0, 1) := by decide +kernel
theorem dc_Lw_sample_3 : decode c_C_Lw_sample 3 = .ok (.aload_n 0, 1) := by decide +kernel
theorem dc_Lw_sample_4 : decode c_C_Lw_sample 4 = .ok (.iload_n 1, 1) := by decide +kernel
theorem dc_Lw_sample_5 : decode c_C_Lw_sample 5 = .ok (.iload_n 2, 1) := by decide +kernel
theorem dc_Lw_sample_6 : decode c_C_Lw_sample 6 = .ok (.iload_n 3, 1) := by decide +kernel
theorem dc_Lw_sample_7 : decode c_C_Lw_sample 7 = .ok (.invokevirtual 64, 3) := by decide +kernel
theorem dc_Lw_sample_10 : decode c_C_Lw_sample 10 = .ok (.i2l, 1) := by decide +kernel
theorem dc_Lw_sample_11 : decode c_C_Lw_sample 11 = .ok (.lastore, 1) := by decide +kernel
theorem dc_Lw_sample_12 : decode c_C_Lw_sample 12 = .ok (.goto 11, 3) := by decide +kernel
theorem dc_Lw_sample_15 : decode c_C_Lw_sample 15 = .ok (.astore 5, 2) := by decide +kernel
theorem dc_Lw_sample_17 : decode c_C_Lw_sample 17 = .ok (.iconst 1, 1) := by decide +kernel
theorem dc_Lw_sample_18 : decode c_C_Lw_sample 18 = .ok (.ireturn, 1) := by decide +kernel
theorem dc_Lw_sample_19 : decode c_C_Lw_sample 19 = .ok (.astore 5, 2) := by decide +kernel
theorem dc_Lw_sample_21 : decode c_C_Lw_sample 21 = .ok (.iconst 2, 1) := by decide +kernel
theorem dc_Lw_sample_22 : decode c_C_Lw_sample 22 = .ok (.ireturn, 1) := by decide +kernel
theorem dc_Lw_sample_23 : decode c_C_Lw_sample 23 = .ok (.iconst 0, 1) := by decide +kernel
theorem dc_Lw_sample_24 : decode c_C_Lw_sample 24 = .ok (.ireturn, 1) := by decide +kernel
theorem dc_Lw_level_0 : decode c_C_Lw_level 0 = .ok (.aload 5, 2) := by decide +kernel
theorem dc_Lw_level_2 : decode c_C_Lw_level 2 = .ok (.iconst 0, 1) := by decide +kernel
theorem dc_Lw_level_3 : decode c_C_Lw_level 3 = .ok (.aload_n 0, 1) := by decide +kernel
theorem dc_Lw_level_4 : decode c_C_Lw_level 4 = .ok (.iload_n 1, 1) := by decide +kernel
theorem dc_Lw_level_5 : decode c_C_Lw_level 5 = .ok (.iload_n 2, 1) := by decide +kernel
theorem dc_Lw_level_6 : decode c_C_Lw_level 6 = .ok (.iload_n 3, 1) := by decide +kernel
theorem dc_Lw_level_7 : decode c_C_Lw_level 7 = .ok (.iload 4, 2) := by decide +kernel
theorem dc_Lw_level_9 : decode c_C_Lw_level 9 = .ok (.invokevirtual 67, 3) := by decide +kernel
theorem dc_Lw_level_12 : decode c_C_Lw_level 12 = .ok (.i2l, 1) := by decide +kernel
theorem dc_Lw_level_13 : decode c_C_Lw_level 13 = .ok (.lastore, 1) := by decide +kernel
theorem dc_Lw_level_14 : decode c_C_Lw_level 14 = .ok (.goto 15, 3) := by decide +kernel
theorem dc_Lw_level_17 : decode c_C_Lw_level 17 = .ok (.astore 6, 2) := by decide +kernel
theorem dc_Lw_level_19 : decode c_C_Lw_level 19 = .ok (.iconst 1, 1) := by decide +kernel
theorem dc_Lw_level_20 : decode c_C_Lw_level 20 = .ok (.ireturn, 1) := by decide +kernel
theorem dc_Lw_level_21 : decode c_C_Lw_level 21 = .ok (.astore 6, 2) := by decide +kernel
theorem dc_Lw_level_23 : decode c_C_Lw_level 23 = .ok (.iconst 2, 1) := by decide +kernel
theorem dc_Lw_level_24 : decode c_C_Lw_level 24 = .ok (.ireturn, 1) := by decide +kernel
theorem dc_Lw_level_25 : decode c_C_Lw_level 25 = .ok (.astore 6, 2) := by decide +kernel
theorem dc_Lw_level_27 : decode c_C_Lw_level 27 = .ok (.iconst 3, 1) := by decide +kernel
theorem dc_Lw_level_28 : decode c_C_Lw_level 28 = .ok (.ireturn, 1) := by decide +kernel
theorem dc_Lw_level_29 : decode c_C_Lw_level 29 = .ok (.iconst 0, 1) := by decide +kernel
theorem dc_Lw_level_30 : decode c_C_Lw_level 30 = .ok (.ireturn, 1) := by decide +kernel
theorem dc_Lw_take_0 : decode c_C_Lw_take 0 = .ok (.aload_n 0, 1) := by decide +kernel
theorem dc_Lw_take_1 : decode c_C_Lw_take 1 = .ok (.invokevirtual 71, 3) := by decide +kernel
theorem dc_Lw_take_4 : decode c_C_Lw_take 4 = .ok (.goto 6, 3) := by decide +kernel
theorem dc_Lw_take_7 : decode c_C_Lw_take 7 = .ok (.astore_n 1, 1) := by decide +kernel
theorem dc_Lw_take_8 : decode c_C_Lw_take 8 = .ok (.iconst 1, 1) := by decide +kernel
theorem dc_Lw_take_9 : decode c_C_Lw_take 9 = .ok (.ireturn, 1) := by decide +kernel
theorem dc_Lw_take_10 : decode c_C_Lw_take 10 = .ok (.iconst 0, 1) := by decide +kernel
theorem dc_Lw_take_11 : decode c_C_Lw_take 11 = .ok (.ireturn, 1) := by decide +kernel
def p_Lw_canvas (U : ut) (x0 : Nat) (x1 : Int32) (x2 : Int32) (x3 : Int32) (S : cs) (K : Int32 → cs → Prop) : Prop :=
  c_cl U x0 = 1 ∧ (p_B_canvas U x0 x1 x2 x3 S (fun S4 => K 0 S4) (fun c9 S9 => (c9 = 14 ∧ (K 1 S9))))
section C_Lw_canvas
variable {D : va_G} {z : Nat → ClassId} {A : Nat → Prop} {X : cx} {L0 : fw} {U : ut} {oa : Nat → Nat} {K : Int32 → cs → Prop}
set_option maxRecDepth 100000 in
set_option maxHeartbeats 1000000 in
theorem s_Lw_canvas_0 (C : fcx gG D z A X R_Lw c_C_Lw_canvas 5 (some .int)) (hQ : X.2.2.2.2.2.2.2.2.2.2 = eQ gG D z X.2.2.2.2.2.2.2.1 X.2.2.2.2.1 L0 1 6 (pC_i lt_C U oa K (fun _ _ => False))) (hA : A = owA gG L0 X.2.2.2.2.1.heap.size) (hR : X.2.2.2.1 = { frames := 10, cells := 2, slots := 12, locals := 1000 }) (htab : X.2.2.2.2.2.2.2.2.2.1.exceptionTable.toList.map (fun h : ExceptionTableEntry => (h.startPc, h.endPc, h.handlerPc, h.catchType)) = [(0, 7, 10, 13)]) (hfl : X.2.1.flags = pinnedFlags ++ [noTraceFlag]) (x0 : Nat) (x1 : Int32) (x2 : Int32) (x3 : Int32) (S : cs) (hp : p_Lw_canvas U x0 x1 x2 x3 S K) : aw gG D z A X 5 0 [some (.ref (oa x0)), some (.int x1), some (.int x2), some (.int x3), none] [] (cw lt_C U oa S) 0 0 := by
  unfold p_Lw_canvas at hp
  refine a_aload_n C dc_Lw_canvas_0 rfl rfl ?_
  refine a_iload_n C dc_Lw_canvas_1 rfl rfl ?_
  refine a_iload_n C dc_Lw_canvas_2 rfl rfl ?_
  refine a_iload_n C dc_Lw_canvas_3 rfl rfl ?_
  have hc1 := hp.1
  have hp := hp.2
  refine c_callT (rest := []) (av := .ref (oa x0) :: [.int x1, .int x2, .int x3]) C dc_Lw_canvas_4 (ct_B_canvas x0 x1 x2 x3 S hfl hc1 hp) cd_C_B_canvas i_B (Nat.le_of_ble_eq_true rfl) (by rw [hR]; exact Nat.le_of_ble_eq_true rfl) (by rw [hR]; exact Nat.le_of_ble_eq_true rfl) (by rw [hR]; exact Nat.le_of_ble_eq_true rfl) (by rw [hR]; exact Nat.le_of_ble_eq_true rfl) (inv_V C x0 dc_Lw_canvas_4 l_Lw_7 im_C_B_canvas se_C_B_canvas cd_C_B_canvas ⟨by decide, by decide⟩ ln_C_B_canvas rfl rfl (cw_obj hc1 rfl) rfl rfl) (fun oc L1 hL => ?_)
  rcases hL with ⟨S4, hp, rfl, rfl⟩ | ⟨c9, a9, S9, hp, rfl, rfl⟩
  rotate_left
  · rcases hp with ⟨rfl, hp⟩
    · refine Or.inr ⟨a9, rfl, t_hit (ci := 14) (ly := []) (R := (a9, fun _ => 0, fun _ => 0, z_r, z_l)) U.length C htab  (by decide) (by decide) (by decide) x_Lw_13 rfl (by rw [List.getElem?_append_right (by rw [cw_len]; exact Nat.le_refl _), cw_len]; simp) rfl rfl ca_14 ?_⟩
      refine aw_drop ?_
      refine a_astore (lo' := [some (.ref (oa x0)), some (.int x1), some (.int x2), some (.int x3), some (.ref a9)]) C dc_Lw_canvas_10 (by decide) rfl ?_
      refine a_iconst (v := 1) C dc_Lw_canvas_12 (by decide) ?_
      refine aw_widen (nc' := 1) (ns' := 6) (Nat.le_of_ble_eq_true rfl) (Nat.le_of_ble_eq_true rfl) ?_
      exact a_iret (ty := .int) C hQ hA dc_Lw_canvas_13 rfl rfl (Or.inl ⟨_, S9, hp, rfl, rfl⟩)
  refine Or.inl ⟨_, rfl, ?_⟩
  refine aw_eq (lo' := _) (st' := []) (L' := (cw lt_C U oa S4)) rfl rfl rfl ?_
  refine a_goto (tgt := 14) C dc_Lw_canvas_7 (by decide) ?_
  refine a_iconst (v := 0) C dc_Lw_canvas_14 (by decide) ?_
  refine aw_widen (nc' := 1) (ns' := 6) (Nat.le_of_ble_eq_true rfl) (Nat.le_of_ble_eq_true rfl) ?_
  exact a_iret (ty := .int) C hQ hA dc_Lw_canvas_15 rfl rfl (Or.inl ⟨_, S4, hp, rfl, rfl⟩)
end C_Lw_canvas
section C_Lw_canvasc
variable {D : va_G} {z : Nat → ClassId} {U : ut} {oa : Nat → Nat}
set_option maxRecDepth 100000 in
theorem ct_Lw_canvas {l : Launch} (x0 : Nat) (x1 : Int32) (x2 : Int32) (x3 : Int32) (S : cs) {K : Int32 → cs → Prop} (hfl : l.flags = pinnedFlags ++ [noTraceFlag]) (hp : p_Lw_canvas U x0 x1 x2 x3 S K) : ctW gG D z l n_C_Lw_canvas c_C_Lw_canvas 5 (some .int) [(0, 7, 10, 13)] 10 1000 [.ref (oa x0), .int x1, .int x2, .int x3] (cw lt_C U oa S) 1 6 (pC_i lt_C U oa K (fun _ _ => False)) := by
  refine ct_ofW (lo := [some (.ref (oa x0)), some (.int x1), some (.int x2), some (.int x3), none]) (by decide) g_ok (Nat.le_of_ble_eq_true rfl) rfl ?_
  intro X A hl C hR hQ hA htab
  exact s_Lw_canvas_0 C hQ hA hR htab (by rw [hl]; exact hfl) x0 x1 x2 x3 S hp
end C_Lw_canvasc
def p_Lw_fill (U : ut) (x0 : Nat) (x1 : Int32) (x2 : Int32) (x3 : Int32) (x4 : Int32) (x5 : Int32) (S : cs) (K : Int32 → cs → Prop) : Prop :=
  c_cl U x0 = 1 ∧ (p_B_fill U x0 x1 x2 x3 x4 x5 S (fun S8 => K 0 S8) (fun c9 S9 => (c9 = 15 ∧ (K 1 S9))))
section C_Lw_fill
variable {D : va_G} {z : Nat → ClassId} {A : Nat → Prop} {X : cx} {L0 : fw} {U : ut} {oa : Nat → Nat} {K : Int32 → cs → Prop}
set_option maxRecDepth 100000 in
set_option maxHeartbeats 1000000 in
theorem s_Lw_fill_0 (C : fcx gG D z A X R_Lw c_C_Lw_fill 7 (some .int)) (hQ : X.2.2.2.2.2.2.2.2.2.2 = eQ gG D z X.2.2.2.2.2.2.2.1 X.2.2.2.2.1 L0 1 6 (pC_i lt_C U oa K (fun _ _ => False))) (hA : A = owA gG L0 X.2.2.2.2.1.heap.size) (hR : X.2.2.2.1 = { frames := 10, cells := 2, slots := 12, locals := 1000 }) (htab : X.2.2.2.2.2.2.2.2.2.1.exceptionTable.toList.map (fun h : ExceptionTableEntry => (h.startPc, h.endPc, h.handlerPc, h.catchType)) = [(0, 11, 14, 19)]) (hfl : X.2.1.flags = pinnedFlags ++ [noTraceFlag]) (x0 : Nat) (x1 : Int32) (x2 : Int32) (x3 : Int32) (x4 : Int32) (x5 : Int32) (S : cs) (hp : p_Lw_fill U x0 x1 x2 x3 x4 x5 S K) : aw gG D z A X 7 0 [some (.ref (oa x0)), some (.int x1), some (.int x2), some (.int x3), some (.int x4), some (.int x5), none] [] (cw lt_C U oa S) 0 0 := by
  unfold p_Lw_fill at hp
  refine a_aload_n C dc_Lw_fill_0 rfl rfl ?_
  refine a_iload_n C dc_Lw_fill_1 rfl rfl ?_
  refine a_iload_n C dc_Lw_fill_2 rfl rfl ?_
  refine a_iload_n C dc_Lw_fill_3 rfl rfl ?_
  refine a_iload C dc_Lw_fill_4 rfl ?_
  refine a_iload C dc_Lw_fill_6 rfl ?_
  have hc1 := hp.1
  have hp := hp.2
  refine c_callT (rest := []) (av := .ref (oa x0) :: [.int x1, .int x2, .int x3, .int x4, .int x5]) C dc_Lw_fill_8 (ct_B_fill x0 x1 x2 x3 x4 x5 S hfl hc1 hp) cd_C_B_fill i_B (Nat.le_of_ble_eq_true rfl) (by rw [hR]; exact Nat.le_of_ble_eq_true rfl) (by rw [hR]; exact Nat.le_of_ble_eq_true rfl) (by rw [hR]; exact Nat.le_of_ble_eq_true rfl) (by rw [hR]; exact Nat.le_of_ble_eq_true rfl) (inv_V C x0 dc_Lw_fill_8 l_Lw_15 im_C_B_fill se_C_B_fill cd_C_B_fill ⟨by decide, by decide⟩ ln_C_B_fill rfl rfl (cw_obj hc1 rfl) rfl rfl) (fun oc L1 hL => ?_)
  rcases hL with ⟨S8, hp, rfl, rfl⟩ | ⟨c9, a9, S9, hp, rfl, rfl⟩
  rotate_left
  · rcases hp with ⟨rfl, hp⟩
    · refine Or.inr ⟨a9, rfl, t_hit (ci := 15) (ly := []) (R := (a9, fun _ => 0, fun _ => 0, z_r, z_l)) U.length C htab  (by decide) (by decide) (by decide) x_Lw_19 rfl (by rw [List.getElem?_append_right (by rw [cw_len]; exact Nat.le_refl _), cw_len]; simp) rfl rfl ca_15 ?_⟩
      refine aw_drop ?_
      refine a_astore (lo' := [some (.ref (oa x0)), some (.int x1), some (.int x2), some (.int x3), some (.int x4), some (.int x5), some (.ref a9)]) C dc_Lw_fill_14 (by decide) rfl ?_
      refine a_iconst (v := 1) C dc_Lw_fill_16 (by decide) ?_
      refine aw_widen (nc' := 1) (ns' := 6) (Nat.le_of_ble_eq_true rfl) (Nat.le_of_ble_eq_true rfl) ?_
      exact a_iret (ty := .int) C hQ hA dc_Lw_fill_17 rfl rfl (Or.inl ⟨_, S9, hp, rfl, rfl⟩)
  refine Or.inl ⟨_, rfl, ?_⟩
  refine aw_eq (lo' := _) (st' := []) (L' := (cw lt_C U oa S8)) rfl rfl rfl ?_
  refine a_goto (tgt := 18) C dc_Lw_fill_11 (by decide) ?_
  refine a_iconst (v := 0) C dc_Lw_fill_18 (by decide) ?_
  refine aw_widen (nc' := 1) (ns' := 6) (Nat.le_of_ble_eq_true rfl) (Nat.le_of_ble_eq_true rfl) ?_
  exact a_iret (ty := .int) C hQ hA dc_Lw_fill_19 rfl rfl (Or.inl ⟨_, S8, hp, rfl, rfl⟩)
end C_Lw_fill
section C_Lw_fillc
variable {D : va_G} {z : Nat → ClassId} {U : ut} {oa : Nat → Nat}
set_option maxRecDepth 100000 in
theorem ct_Lw_fill {l : Launch} (x0 : Nat) (x1 : Int32) (x2 : Int32) (x3 : Int32) (x4 : Int32) (x5 : Int32) (S : cs) {K : Int32 → cs → Prop} (hfl : l.flags = pinnedFlags ++ [noTraceFlag]) (hp : p_Lw_fill U x0 x1 x2 x3 x4 x5 S K) : ctW gG D z l n_C_Lw_fill c_C_Lw_fill 7 (some .int) [(0, 11, 14, 19)] 10 1000 [.ref (oa x0), .int x1, .int x2, .int x3, .int x4, .int x5] (cw lt_C U oa S) 1 6 (pC_i lt_C U oa K (fun _ _ => False)) := by
  refine ct_ofW (lo := [some (.ref (oa x0)), some (.int x1), some (.int x2), some (.int x3), some (.int x4), some (.int x5), none]) (by decide) g_ok (Nat.le_of_ble_eq_true rfl) rfl ?_
  intro X A hl C hR hQ hA htab
  exact s_Lw_fill_0 C hQ hA hR htab (by rw [hl]; exact hfl) x0 x1 x2 x3 x4 x5 S hp
end C_Lw_fillc
def p_Lw_slope (U : ut) (x0 : Nat) (x1 : Int32) (x2 : Int32) (x3 : Int32) (x4 : Int32) (x5 : Int32) (x6 : Int32) (S : cs) (K : Int32 → cs → Prop) : Prop :=
  c_cl U x0 = 1 ∧ (p_B_slope U x0 x1 x2 x3 x4 x5 x6 S (fun S10 => K 0 S10) (fun c9 S9 => (c9 = 15 ∧ (K 1 S9))))
section C_Lw_slope
variable {D : va_G} {z : Nat → ClassId} {A : Nat → Prop} {X : cx} {L0 : fw} {U : ut} {oa : Nat → Nat} {K : Int32 → cs → Prop}
set_option maxRecDepth 100000 in
set_option maxHeartbeats 1000000 in
theorem s_Lw_slope_0 (C : fcx gG D z A X R_Lw c_C_Lw_slope 8 (some .int)) (hQ : X.2.2.2.2.2.2.2.2.2.2 = eQ gG D z X.2.2.2.2.2.2.2.1 X.2.2.2.2.1 L0 1 6 (pC_i lt_C U oa K (fun _ _ => False))) (hA : A = owA gG L0 X.2.2.2.2.1.heap.size) (hR : X.2.2.2.1 = { frames := 10, cells := 2, slots := 12, locals := 1000 }) (htab : X.2.2.2.2.2.2.2.2.2.1.exceptionTable.toList.map (fun h : ExceptionTableEntry => (h.startPc, h.endPc, h.handlerPc, h.catchType)) = [(0, 13, 16, 19)]) (hfl : X.2.1.flags = pinnedFlags ++ [noTraceFlag]) (x0 : Nat) (x1 : Int32) (x2 : Int32) (x3 : Int32) (x4 : Int32) (x5 : Int32) (x6 : Int32) (S : cs) (hp : p_Lw_slope U x0 x1 x2 x3 x4 x5 x6 S K) : aw gG D z A X 8 0 [some (.ref (oa x0)), some (.int x1), some (.int x2), some (.int x3), some (.int x4), some (.int x5), some (.int x6), none] [] (cw lt_C U oa S) 0 0 := by
  unfold p_Lw_slope at hp
  refine a_aload_n C dc_Lw_slope_0 rfl rfl ?_
  refine a_iload_n C dc_Lw_slope_1 rfl rfl ?_
  refine a_iload_n C dc_Lw_slope_2 rfl rfl ?_
  refine a_iload_n C dc_Lw_slope_3 rfl rfl ?_
  refine a_iload C dc_Lw_slope_4 rfl ?_
  refine a_iload C dc_Lw_slope_6 rfl ?_
  refine a_iload C dc_Lw_slope_8 rfl ?_
  have hc1 := hp.1
  have hp := hp.2
  refine c_callT (rest := []) (av := .ref (oa x0) :: [.int x1, .int x2, .int x3, .int x4, .int x5, .int x6]) C dc_Lw_slope_10 (ct_B_slope x0 x1 x2 x3 x4 x5 x6 S hfl hc1 hp) cd_C_B_slope i_B (Nat.le_of_ble_eq_true rfl) (by rw [hR]; exact Nat.le_of_ble_eq_true rfl) (by rw [hR]; exact Nat.le_of_ble_eq_true rfl) (by rw [hR]; exact Nat.le_of_ble_eq_true rfl) (by rw [hR]; exact Nat.le_of_ble_eq_true rfl) (inv_V C x0 dc_Lw_slope_10 l_Lw_21 im_C_B_slope se_C_B_slope cd_C_B_slope ⟨by decide, by decide⟩ ln_C_B_slope rfl rfl (cw_obj hc1 rfl) rfl rfl) (fun oc L1 hL => ?_)
  rcases hL with ⟨S10, hp, rfl, rfl⟩ | ⟨c9, a9, S9, hp, rfl, rfl⟩
  rotate_left
  · rcases hp with ⟨rfl, hp⟩
    · refine Or.inr ⟨a9, rfl, t_hit (ci := 15) (ly := []) (R := (a9, fun _ => 0, fun _ => 0, z_r, z_l)) U.length C htab  (by decide) (by decide) (by decide) x_Lw_19 rfl (by rw [List.getElem?_append_right (by rw [cw_len]; exact Nat.le_refl _), cw_len]; simp) rfl rfl ca_15 ?_⟩
      refine aw_drop ?_
      refine a_astore (lo' := [some (.ref (oa x0)), some (.int x1), some (.int x2), some (.int x3), some (.int x4), some (.int x5), some (.int x6), some (.ref a9)]) C dc_Lw_slope_16 (by decide) rfl ?_
      refine a_iconst (v := 1) C dc_Lw_slope_18 (by decide) ?_
      refine aw_widen (nc' := 1) (ns' := 6) (Nat.le_of_ble_eq_true rfl) (Nat.le_of_ble_eq_true rfl) ?_
      exact a_iret (ty := .int) C hQ hA dc_Lw_slope_19 rfl rfl (Or.inl ⟨_, S9, hp, rfl, rfl⟩)
  refine Or.inl ⟨_, rfl, ?_⟩
  refine aw_eq (lo' := _) (st' := []) (L' := (cw lt_C U oa S10)) rfl rfl rfl ?_
  refine a_goto (tgt := 20) C dc_Lw_slope_13 (by decide) ?_
  refine a_iconst (v := 0) C dc_Lw_slope_20 (by decide) ?_
  refine aw_widen (nc' := 1) (ns' := 6) (Nat.le_of_ble_eq_true rfl) (Nat.le_of_ble_eq_true rfl) ?_
  exact a_iret (ty := .int) C hQ hA dc_Lw_slope_21 rfl rfl (Or.inl ⟨_, S10, hp, rfl, rfl⟩)
end C_Lw_slope
section C_Lw_slopec
variable {D : va_G} {z : Nat → ClassId} {U : ut} {oa : Nat → Nat}
set_option maxRecDepth 100000 in
theorem ct_Lw_slope {l : Launch} (x0 : Nat) (x1 : Int32) (x2 : Int32) (x3 : Int32) (x4 : Int32) (x5 : Int32) (x6 : Int32) (S : cs) {K : Int32 → cs → Prop} (hfl : l.flags = pinnedFlags ++ [noTraceFlag]) (hp : p_Lw_slope U x0 x1 x2 x3 x4 x5 x6 S K) : ctW gG D z l n_C_Lw_slope c_C_Lw_slope 8 (some .int) [(0, 13, 16, 19)] 10 1000 [.ref (oa x0), .int x1, .int x2, .int x3, .int x4, .int x5, .int x6] (cw lt_C U oa S) 1 6 (pC_i lt_C U oa K (fun _ _ => False)) := by
  refine ct_ofW (lo := [some (.ref (oa x0)), some (.int x1), some (.int x2), some (.int x3), some (.int x4), some (.int x5), some (.int x6), none]) (by decide) g_ok (Nat.le_of_ble_eq_true rfl) rfl ?_
  intro X A hl C hR hQ hA htab
  exact s_Lw_slope_0 C hQ hA hR htab (by rw [hl]; exact hfl) x0 x1 x2 x3 x4 x5 x6 S hp
end C_Lw_slopec
def p_Lw_at (U : ut) (x0 : Nat) (x1 : Int32) (x2 : Int32) (x3 : Int32) (x4 : Nat) (S : cs) (K : Int32 → cs → Prop) : Prop :=
  c_cl U x0 = 1 ∧ (p_B_at U x0 x1 x2 x3 S (fun v7 S7 => c_cl U x4 = 904 ∧ (vp_in 0 (c_ln U x4) ∧ (K 0 (S7.1, va_up S7.2.1 x4 (vp_updL (S7.2.1 x4) (0 : Int32).toNatClampNeg v7.toInt64), S7.2.2)))) (fun c9 S9 => (c9 = 15 ∧ (K 1 S9))))
section C_Lw_at
variable {D : va_G} {z : Nat → ClassId} {A : Nat → Prop} {X : cx} {L0 : fw} {U : ut} {oa : Nat → Nat} {K : Int32 → cs → Prop}
set_option maxRecDepth 100000 in
set_option maxHeartbeats 1000000 in
theorem s_Lw_at_0 (C : fcx gG D z A X R_Lw c_C_Lw_at 6 (some .int)) (hQ : X.2.2.2.2.2.2.2.2.2.2 = eQ gG D z X.2.2.2.2.2.2.2.1 X.2.2.2.2.1 L0 1 6 (pC_i lt_C U oa K (fun _ _ => False))) (hA : A = owA gG L0 X.2.2.2.2.1.heap.size) (hR : X.2.2.2.1 = { frames := 10, cells := 2, slots := 12, locals := 1000 }) (htab : X.2.2.2.2.2.2.2.2.2.1.exceptionTable.toList.map (fun h : ExceptionTableEntry => (h.startPc, h.endPc, h.handlerPc, h.catchType)) = [(0, 12, 15, 19)]) (hfl : X.2.1.flags = pinnedFlags ++ [noTraceFlag]) (x0 : Nat) (x1 : Int32) (x2 : Int32) (x3 : Int32) (x4 : Nat) (S : cs) (hp : p_Lw_at U x0 x1 x2 x3 x4 S K) : aw gG D z A X 6 0 [some (.ref (oa x0)), some (.int x1), some (.int x2), some (.int x3), some (.ref (oa x4)), none] [] (cw lt_C U oa S) 0 0 := by
  unfold p_Lw_at at hp
  refine a_aload C dc_Lw_at_0 rfl ?_
  refine a_iconst (v := 0) C dc_Lw_at_2 (by decide) ?_
  refine a_aload_n C dc_Lw_at_3 rfl rfl ?_
  refine a_iload_n C dc_Lw_at_4 rfl rfl ?_
  refine a_iload_n C dc_Lw_at_5 rfl rfl ?_
  refine a_iload_n C dc_Lw_at_6 rfl rfl ?_
  have hc1 := hp.1
  have hp := hp.2
  refine c_callT (rest := [.int 0, .ref (oa x4)]) (av := .ref (oa x0) :: [.int x1, .int x2, .int x3]) C dc_Lw_at_7 (ct_B_at x0 x1 x2 x3 S hfl hc1 hp) cd_C_B_at i_B (Nat.le_of_ble_eq_true rfl) (by rw [hR]; exact Nat.le_of_ble_eq_true rfl) (by rw [hR]; exact Nat.le_of_ble_eq_true rfl) (by rw [hR]; exact Nat.le_of_ble_eq_true rfl) (by rw [hR]; exact Nat.le_of_ble_eq_true rfl) (inv_V C x0 dc_Lw_at_7 l_Lw_25 im_C_B_at se_C_B_at cd_C_B_at ⟨by decide, by decide⟩ ln_C_B_at rfl rfl (cw_obj hc1 rfl) rfl rfl) (fun oc L1 hL => ?_)
  rcases hL with ⟨v7, S7, hp, rfl, rfl⟩ | ⟨c9, a9, S9, hp, rfl, rfl⟩
  rotate_left
  · rcases hp with ⟨rfl, hp⟩
    · refine Or.inr ⟨a9, rfl, t_hit (ci := 15) (ly := []) (R := (a9, fun _ => 0, fun _ => 0, z_r, z_l)) U.length C htab  (by decide) (by decide) (by decide) x_Lw_19 rfl (by rw [List.getElem?_append_right (by rw [cw_len]; exact Nat.le_refl _), cw_len]; simp) rfl rfl ca_15 ?_⟩
      refine aw_drop ?_
      refine a_astore (lo' := [some (.ref (oa x0)), some (.int x1), some (.int x2), some (.int x3), some (.ref (oa x4)), some (.ref a9)]) C dc_Lw_at_15 (by decide) rfl ?_
      refine a_iconst (v := 1) C dc_Lw_at_17 (by decide) ?_
      refine aw_widen (nc' := 1) (ns' := 6) (Nat.le_of_ble_eq_true rfl) (Nat.le_of_ble_eq_true rfl) ?_
      exact a_iret (ty := .int) C hQ hA dc_Lw_at_18 rfl rfl (Or.inl ⟨_, S9, hp, rfl, rfl⟩)
  refine Or.inl ⟨_, rfl, ?_⟩
  refine aw_eq (lo' := _) (st' := [.int v7, .int 0, .ref (oa x4)]) (L' := (cw lt_C U oa S7)) rfl rfl rfl ?_
  refine a_i2l C dc_Lw_at_10 ?_
  have hc2 := hp.1
  have hp := hp.2
  refine c_last C x4 dc_Lw_at_11 hc2 hp.1 ?_
  have hp := hp.2
  refine aw_eq (lo' := _) (st' := _) (L' := (cw lt_C U oa (S7.1, va_up S7.2.1 x4 (vp_updL (S7.2.1 x4) (0 : Int32).toNatClampNeg v7.toInt64), S7.2.2))) rfl rfl rfl ?_
  refine a_goto (tgt := 19) C dc_Lw_at_12 (by decide) ?_
  refine a_iconst (v := 0) C dc_Lw_at_19 (by decide) ?_
  refine aw_widen (nc' := 1) (ns' := 6) (Nat.le_of_ble_eq_true rfl) (Nat.le_of_ble_eq_true rfl) ?_
  exact a_iret (ty := .int) C hQ hA dc_Lw_at_20 rfl rfl (Or.inl ⟨_, (S7.1, va_up S7.2.1 x4 (vp_updL (S7.2.1 x4) (0 : Int32).toNatClampNeg v7.toInt64), S7.2.2), hp, rfl, rfl⟩)
end C_Lw_at
section C_Lw_atc
variable {D : va_G} {z : Nat → ClassId} {U : ut} {oa : Nat → Nat}
set_option maxRecDepth 100000 in
theorem ct_Lw_at {l : Launch} (x0 : Nat) (x1 : Int32) (x2 : Int32) (x3 : Int32) (x4 : Nat) (S : cs) {K : Int32 → cs → Prop} (hfl : l.flags = pinnedFlags ++ [noTraceFlag]) (hp : p_Lw_at U x0 x1 x2 x3 x4 S K) : ctW gG D z l n_C_Lw_at c_C_Lw_at 6 (some .int) [(0, 12, 15, 19)] 10 1000 [.ref (oa x0), .int x1, .int x2, .int x3, .ref (oa x4)] (cw lt_C U oa S) 1 6 (pC_i lt_C U oa K (fun _ _ => False)) := by
  refine ct_ofW (lo := [some (.ref (oa x0)), some (.int x1), some (.int x2), some (.int x3), some (.ref (oa x4)), none]) (by decide) g_ok (Nat.le_of_ble_eq_true rfl) rfl ?_
  intro X A hl C hR hQ hA htab
  exact s_Lw_at_0 C hQ hA hR htab (by rw [hl]; exact hfl) x0 x1 x2 x3 x4 S hp
end C_Lw_atc
def p_Lw_scale (U : ut) (x0 : Nat) (x1 : Int32) (x2 : Int32) (x3 : Int32) (S : cs) (K : Int32 → cs → Prop) : Prop :=
  c_cl U x0 = 1 ∧ (p_B_scale U x0 x1 x2 x3 S (fun S4 => K 0 S4) (fun c9 S9 => (c9 = 14 ∧ (K 1 S9))))
section C_Lw_scale
variable {D : va_G} {z : Nat → ClassId} {A : Nat → Prop} {X : cx} {L0 : fw} {U : ut} {oa : Nat → Nat} {K : Int32 → cs → Prop}
set_option maxRecDepth 100000 in
set_option maxHeartbeats 1000000 in
theorem s_Lw_scale_0 (C : fcx gG D z A X R_Lw c_C_Lw_scale 5 (some .int)) (hQ : X.2.2.2.2.2.2.2.2.2.2 = eQ gG D z X.2.2.2.2.2.2.2.1 X.2.2.2.2.1 L0 1 6 (pC_i lt_C U oa K (fun _ _ => False))) (hA : A = owA gG L0 X.2.2.2.2.1.heap.size) (hR : X.2.2.2.1 = { frames := 10, cells := 2, slots := 12, locals := 1000 }) (htab : X.2.2.2.2.2.2.2.2.2.1.exceptionTable.toList.map (fun h : ExceptionTableEntry => (h.startPc, h.endPc, h.handlerPc, h.catchType)) = [(0, 7, 10, 13)]) (hfl : X.2.1.flags = pinnedFlags ++ [noTraceFlag]) (x0 : Nat) (x1 : Int32) (x2 : Int32) (x3 : Int32) (S : cs) (hp : p_Lw_scale U x0 x1 x2 x3 S K) : aw gG D z A X 5 0 [some (.ref (oa x0)), some (.int x1), some (.int x2), some (.int x3), none] [] (cw lt_C U oa S) 0 0 := by
  unfold p_Lw_scale at hp
  refine a_aload_n C dc_Lw_scale_0 rfl rfl ?_
  refine a_iload_n C dc_Lw_scale_1 rfl rfl ?_
  refine a_iload_n C dc_Lw_scale_2 rfl rfl ?_
  refine a_iload_n C dc_Lw_scale_3 rfl rfl ?_
  have hc1 := hp.1
  have hp := hp.2
  refine c_callT (rest := []) (av := .ref (oa x0) :: [.int x1, .int x2, .int x3]) C dc_Lw_scale_4 (ct_B_scale x0 x1 x2 x3 S hfl hc1 hp) cd_C_B_scale i_B (Nat.le_of_ble_eq_true rfl) (by rw [hR]; exact Nat.le_of_ble_eq_true rfl) (by rw [hR]; exact Nat.le_of_ble_eq_true rfl) (by rw [hR]; exact Nat.le_of_ble_eq_true rfl) (by rw [hR]; exact Nat.le_of_ble_eq_true rfl) (inv_V C x0 dc_Lw_scale_4 l_Lw_29 im_C_B_scale se_C_B_scale cd_C_B_scale ⟨by decide, by decide⟩ ln_C_B_scale rfl rfl (cw_obj hc1 rfl) rfl rfl) (fun oc L1 hL => ?_)
  rcases hL with ⟨S4, hp, rfl, rfl⟩ | ⟨c9, a9, S9, hp, rfl, rfl⟩
  rotate_left
  · rcases hp with ⟨rfl, hp⟩
    · refine Or.inr ⟨a9, rfl, t_hit (ci := 14) (ly := []) (R := (a9, fun _ => 0, fun _ => 0, z_r, z_l)) U.length C htab  (by decide) (by decide) (by decide) x_Lw_13 rfl (by rw [List.getElem?_append_right (by rw [cw_len]; exact Nat.le_refl _), cw_len]; simp) rfl rfl ca_14 ?_⟩
      refine aw_drop ?_
      refine a_astore (lo' := [some (.ref (oa x0)), some (.int x1), some (.int x2), some (.int x3), some (.ref a9)]) C dc_Lw_scale_10 (by decide) rfl ?_
      refine a_iconst (v := 1) C dc_Lw_scale_12 (by decide) ?_
      refine aw_widen (nc' := 1) (ns' := 6) (Nat.le_of_ble_eq_true rfl) (Nat.le_of_ble_eq_true rfl) ?_
      exact a_iret (ty := .int) C hQ hA dc_Lw_scale_13 rfl rfl (Or.inl ⟨_, S9, hp, rfl, rfl⟩)
  refine Or.inl ⟨_, rfl, ?_⟩
  refine aw_eq (lo' := _) (st' := []) (L' := (cw lt_C U oa S4)) rfl rfl rfl ?_
  refine a_goto (tgt := 14) C dc_Lw_scale_7 (by decide) ?_
  refine a_iconst (v := 0) C dc_Lw_scale_14 (by decide) ?_
  refine aw_widen (nc' := 1) (ns' := 6) (Nat.le_of_ble_eq_true rfl) (Nat.le_of_ble_eq_true rfl) ?_
  exact a_iret (ty := .int) C hQ hA dc_Lw_scale_15 rfl rfl (Or.inl ⟨_, S4, hp, rfl, rfl⟩)
end C_Lw_scale
section C_Lw_scalec
variable {D : va_G} {z : Nat → ClassId} {U : ut} {oa : Nat → Nat}
set_option maxRecDepth 100000 in
theorem ct_Lw_scale {l : Launch} (x0 : Nat) (x1 : Int32) (x2 : Int32) (x3 : Int32) (S : cs) {K : Int32 → cs → Prop} (hfl : l.flags = pinnedFlags ++ [noTraceFlag]) (hp : p_Lw_scale U x0 x1 x2 x3 S K) : ctW gG D z l n_C_Lw_scale c_C_Lw_scale 5 (some .int) [(0, 7, 10, 13)] 10 1000 [.ref (oa x0), .int x1, .int x2, .int x3] (cw lt_C U oa S) 1 6 (pC_i lt_C U oa K (fun _ _ => False)) := by
  refine ct_ofW (lo := [some (.ref (oa x0)), some (.int x1), some (.int x2), some (.int x3), none]) (by decide) g_ok (Nat.le_of_ble_eq_true rfl) rfl ?_
  intro X A hl C hR hQ hA htab
  exact s_Lw_scale_0 C hQ hA hR htab (by rw [hl]; exact hfl) x0 x1 x2 x3 S hp
end C_Lw_scalec
def p_Lw_entry (U : ut) (x0 : Nat) (x1 : Int32) (x2 : Int32) (x3 : Int32) (x4 : Int32) (S : cs) (K : Int32 → cs → Prop) : Prop :=
  c_cl U x0 = 1 ∧ (p_B_entry U x0 x1 x2 x3 x4 S (fun S6 => K 0 S6) (fun c9 S9 => (c9 = 15 ∧ (K 1 S9)) ∨ (c9 = 14 ∧ (K 2 S9))))
section C_Lw_entry
variable {D : va_G} {z : Nat → ClassId} {A : Nat → Prop} {X : cx} {L0 : fw} {U : ut} {oa : Nat → Nat} {K : Int32 → cs → Prop}
set_option maxRecDepth 100000 in
set_option maxHeartbeats 1000000 in
theorem s_Lw_entry_0 (C : fcx gG D z A X R_Lw c_C_Lw_entry 6 (some .int)) (hQ : X.2.2.2.2.2.2.2.2.2.2 = eQ gG D z X.2.2.2.2.2.2.2.1 X.2.2.2.2.1 L0 1 6 (pC_i lt_C U oa K (fun _ _ => False))) (hA : A = owA gG L0 X.2.2.2.2.1.heap.size) (hR : X.2.2.2.1 = { frames := 10, cells := 2, slots := 12, locals := 1000 }) (htab : X.2.2.2.2.2.2.2.2.2.1.exceptionTable.toList.map (fun h : ExceptionTableEntry => (h.startPc, h.endPc, h.handlerPc, h.catchType)) = [(0, 9, 12, 19), (0, 9, 16, 13)]) (hfl : X.2.1.flags = pinnedFlags ++ [noTraceFlag]) (x0 : Nat) (x1 : Int32) (x2 : Int32) (x3 : Int32) (x4 : Int32) (S : cs) (hp : p_Lw_entry U x0 x1 x2 x3 x4 S K) : aw gG D z A X 6 0 [some (.ref (oa x0)), some (.int x1), some (.int x2), some (.int x3), some (.int x4), none] [] (cw lt_C U oa S) 0 0 := by
  unfold p_Lw_entry at hp
  refine a_aload_n C dc_Lw_entry_0 rfl rfl ?_
  refine a_iload_n C dc_Lw_entry_1 rfl rfl ?_
  refine a_iload_n C dc_Lw_entry_2 rfl rfl ?_
  refine a_iload_n C dc_Lw_entry_3 rfl rfl ?_
  refine a_iload C dc_Lw_entry_4 rfl ?_
  have hc1 := hp.1
  have hp := hp.2
  refine c_callT (rest := []) (av := .ref (oa x0) :: [.int x1, .int x2, .int x3, .int x4]) C dc_Lw_entry_6 (ct_B_entry x0 x1 x2 x3 x4 S hfl hc1 hp) cd_C_B_entry i_B (Nat.le_of_ble_eq_true rfl) (by rw [hR]; exact Nat.le_of_ble_eq_true rfl) (by rw [hR]; exact Nat.le_of_ble_eq_true rfl) (by rw [hR]; exact Nat.le_of_ble_eq_true rfl) (by rw [hR]; exact Nat.le_of_ble_eq_true rfl) (inv_V C x0 dc_Lw_entry_6 l_Lw_32 im_C_B_entry se_C_B_entry cd_C_B_entry ⟨by decide, by decide⟩ ln_C_B_entry rfl rfl (cw_obj hc1 rfl) rfl rfl) (fun oc L1 hL => ?_)
  rcases hL with ⟨S6, hp, rfl, rfl⟩ | ⟨c9, a9, S9, hp, rfl, rfl⟩
  rotate_left
  · rcases hp with ⟨rfl, hp⟩ | ⟨rfl, hp⟩
    · refine Or.inr ⟨a9, rfl, t_hit (ci := 15) (ly := []) (R := (a9, fun _ => 0, fun _ => 0, z_r, z_l)) U.length C htab  (by decide) (by decide) (by decide) x_Lw_19 rfl (by rw [List.getElem?_append_right (by rw [cw_len]; exact Nat.le_refl _), cw_len]; simp) rfl rfl ca_15 ?_⟩
      refine aw_drop ?_
      refine a_astore (lo' := [some (.ref (oa x0)), some (.int x1), some (.int x2), some (.int x3), some (.int x4), some (.ref a9)]) C dc_Lw_entry_12 (by decide) rfl ?_
      refine a_iconst (v := 1) C dc_Lw_entry_14 (by decide) ?_
      refine aw_widen (nc' := 1) (ns' := 6) (Nat.le_of_ble_eq_true rfl) (Nat.le_of_ble_eq_true rfl) ?_
      exact a_iret (ty := .int) C hQ hA dc_Lw_entry_15 rfl rfl (Or.inl ⟨_, S9, hp, rfl, rfl⟩)
    · refine Or.inr ⟨a9, rfl, t_hit2 (ci := 14) (ly := []) (R := (a9, fun _ => 0, fun _ => 0, z_r, z_l)) U.length C htab (by decide) (by decide) (by decide) x_Lw_19 nt_14_15 (by decide) (by decide) (by decide) x_Lw_13 rfl (by rw [List.getElem?_append_right (by rw [cw_len]; exact Nat.le_refl _), cw_len]; simp) rfl rfl ca_14 ?_⟩
      refine aw_drop ?_
      refine a_astore (lo' := [some (.ref (oa x0)), some (.int x1), some (.int x2), some (.int x3), some (.int x4), some (.ref a9)]) C dc_Lw_entry_16 (by decide) rfl ?_
      refine a_iconst (v := 2) C dc_Lw_entry_18 (by decide) ?_
      refine aw_widen (nc' := 1) (ns' := 6) (Nat.le_of_ble_eq_true rfl) (Nat.le_of_ble_eq_true rfl) ?_
      exact a_iret (ty := .int) C hQ hA dc_Lw_entry_19 rfl rfl (Or.inl ⟨_, S9, hp, rfl, rfl⟩)
  refine Or.inl ⟨_, rfl, ?_⟩
  refine aw_eq (lo' := _) (st' := []) (L' := (cw lt_C U oa S6)) rfl rfl rfl ?_
  refine a_goto (tgt := 20) C dc_Lw_entry_9 (by decide) ?_
  refine a_iconst (v := 0) C dc_Lw_entry_20 (by decide) ?_
  refine aw_widen (nc' := 1) (ns' := 6) (Nat.le_of_ble_eq_true rfl) (Nat.le_of_ble_eq_true rfl) ?_
  exact a_iret (ty := .int) C hQ hA dc_Lw_entry_21 rfl rfl (Or.inl ⟨_, S6, hp, rfl, rfl⟩)
end C_Lw_entry
section C_Lw_entryc
variable {D : va_G} {z : Nat → ClassId} {U : ut} {oa : Nat → Nat}
set_option maxRecDepth 100000 in
theorem ct_Lw_entry {l : Launch} (x0 : Nat) (x1 : Int32) (x2 : Int32) (x3 : Int32) (x4 : Int32) (S : cs) {K : Int32 → cs → Prop} (hfl : l.flags = pinnedFlags ++ [noTraceFlag]) (hp : p_Lw_entry U x0 x1 x2 x3 x4 S K) : ctW gG D z l n_C_Lw_entry c_C_Lw_entry 6 (some .int) [(0, 9, 12, 19), (0, 9, 16, 13)] 10 1000 [.ref (oa x0), .int x1, .int x2, .int x3, .int x4] (cw lt_C U oa S) 1 6 (pC_i lt_C U oa K (fun _ _ => False)) := by
  refine ct_ofW (lo := [some (.ref (oa x0)), some (.int x1), some (.int x2), some (.int x3), some (.int x4), none]) (by decide) g_ok (Nat.le_of_ble_eq_true rfl) rfl ?_
  intro X A hl C hR hQ hA htab
  exact s_Lw_entry_0 C hQ hA hR htab (by rw [hl]; exact hfl) x0 x1 x2 x3 x4 S hp
end C_Lw_entryc
def p_Lw_pack (U : ut) (x0 : Nat) (x1 : Int32) (x2 : Int32) (x3 : Int32) (x4 : Nat) (S : cs) (K : Int32 → cs → Prop) : Prop :=
  c_cl U x0 = 1 ∧ (p_B_pack U x0 x1 x2 x3 S (fun v7 S7 => c_cl U x4 = 904 ∧ (vp_in 0 (c_ln U x4) ∧ (K 0 (S7.1, va_up S7.2.1 x4 (vp_updL (S7.2.1 x4) (0 : Int32).toNatClampNeg v7.toInt64), S7.2.2)))) (fun c9 S9 => (c9 = 14 ∧ (K 1 S9))))
section C_Lw_pack
variable {D : va_G} {z : Nat → ClassId} {A : Nat → Prop} {X : cx} {L0 : fw} {U : ut} {oa : Nat → Nat} {K : Int32 → cs → Prop}
set_option maxRecDepth 100000 in
set_option maxHeartbeats 1000000 in
theorem s_Lw_pack_0 (C : fcx gG D z A X R_Lw c_C_Lw_pack 6 (some .int)) (hQ : X.2.2.2.2.2.2.2.2.2.2 = eQ gG D z X.2.2.2.2.2.2.2.1 X.2.2.2.2.1 L0 1 6 (pC_i lt_C U oa K (fun _ _ => False))) (hA : A = owA gG L0 X.2.2.2.2.1.heap.size) (hR : X.2.2.2.1 = { frames := 10, cells := 2, slots := 12, locals := 1000 }) (htab : X.2.2.2.2.2.2.2.2.2.1.exceptionTable.toList.map (fun h : ExceptionTableEntry => (h.startPc, h.endPc, h.handlerPc, h.catchType)) = [(0, 12, 15, 13)]) (hfl : X.2.1.flags = pinnedFlags ++ [noTraceFlag]) (x0 : Nat) (x1 : Int32) (x2 : Int32) (x3 : Int32) (x4 : Nat) (S : cs) (hp : p_Lw_pack U x0 x1 x2 x3 x4 S K) : aw gG D z A X 6 0 [some (.ref (oa x0)), some (.int x1), some (.int x2), some (.int x3), some (.ref (oa x4)), none] [] (cw lt_C U oa S) 0 0 := by
  unfold p_Lw_pack at hp
  refine a_aload C dc_Lw_pack_0 rfl ?_
  refine a_iconst (v := 0) C dc_Lw_pack_2 (by decide) ?_
  refine a_aload_n C dc_Lw_pack_3 rfl rfl ?_
  refine a_iload_n C dc_Lw_pack_4 rfl rfl ?_
  refine a_iload_n C dc_Lw_pack_5 rfl rfl ?_
  refine a_iload_n C dc_Lw_pack_6 rfl rfl ?_
  have hc1 := hp.1
  have hp := hp.2
  refine c_callT (rest := [.int 0, .ref (oa x4)]) (av := .ref (oa x0) :: [.int x1, .int x2, .int x3]) C dc_Lw_pack_7 (ct_B_pack x0 x1 x2 x3 S hfl hc1 hp) cd_C_B_pack i_B (Nat.le_of_ble_eq_true rfl) (by rw [hR]; exact Nat.le_of_ble_eq_true rfl) (by rw [hR]; exact Nat.le_of_ble_eq_true rfl) (by rw [hR]; exact Nat.le_of_ble_eq_true rfl) (by rw [hR]; exact Nat.le_of_ble_eq_true rfl) (inv_V C x0 dc_Lw_pack_7 l_Lw_36 im_C_B_pack se_C_B_pack cd_C_B_pack ⟨by decide, by decide⟩ ln_C_B_pack rfl rfl (cw_obj hc1 rfl) rfl rfl) (fun oc L1 hL => ?_)
  rcases hL with ⟨v7, S7, hp, rfl, rfl⟩ | ⟨c9, a9, S9, hp, rfl, rfl⟩
  rotate_left
  · rcases hp with ⟨rfl, hp⟩
    · refine Or.inr ⟨a9, rfl, t_hit (ci := 14) (ly := []) (R := (a9, fun _ => 0, fun _ => 0, z_r, z_l)) U.length C htab  (by decide) (by decide) (by decide) x_Lw_13 rfl (by rw [List.getElem?_append_right (by rw [cw_len]; exact Nat.le_refl _), cw_len]; simp) rfl rfl ca_14 ?_⟩
      refine aw_drop ?_
      refine a_astore (lo' := [some (.ref (oa x0)), some (.int x1), some (.int x2), some (.int x3), some (.ref (oa x4)), some (.ref a9)]) C dc_Lw_pack_15 (by decide) rfl ?_
      refine a_iconst (v := 1) C dc_Lw_pack_17 (by decide) ?_
      refine aw_widen (nc' := 1) (ns' := 6) (Nat.le_of_ble_eq_true rfl) (Nat.le_of_ble_eq_true rfl) ?_
      exact a_iret (ty := .int) C hQ hA dc_Lw_pack_18 rfl rfl (Or.inl ⟨_, S9, hp, rfl, rfl⟩)
  refine Or.inl ⟨_, rfl, ?_⟩
  refine aw_eq (lo' := _) (st' := [.int v7, .int 0, .ref (oa x4)]) (L' := (cw lt_C U oa S7)) rfl rfl rfl ?_
  refine a_i2l C dc_Lw_pack_10 ?_
  have hc2 := hp.1
  have hp := hp.2
  refine c_last C x4 dc_Lw_pack_11 hc2 hp.1 ?_
  have hp := hp.2
  refine aw_eq (lo' := _) (st' := _) (L' := (cw lt_C U oa (S7.1, va_up S7.2.1 x4 (vp_updL (S7.2.1 x4) (0 : Int32).toNatClampNeg v7.toInt64), S7.2.2))) rfl rfl rfl ?_
  refine a_goto (tgt := 19) C dc_Lw_pack_12 (by decide) ?_
  refine a_iconst (v := 0) C dc_Lw_pack_19 (by decide) ?_
  refine aw_widen (nc' := 1) (ns' := 6) (Nat.le_of_ble_eq_true rfl) (Nat.le_of_ble_eq_true rfl) ?_
  exact a_iret (ty := .int) C hQ hA dc_Lw_pack_20 rfl rfl (Or.inl ⟨_, (S7.1, va_up S7.2.1 x4 (vp_updL (S7.2.1 x4) (0 : Int32).toNatClampNeg v7.toInt64), S7.2.2), hp, rfl, rfl⟩)
end C_Lw_pack
section C_Lw_packc
variable {D : va_G} {z : Nat → ClassId} {U : ut} {oa : Nat → Nat}
set_option maxRecDepth 100000 in
theorem ct_Lw_pack {l : Launch} (x0 : Nat) (x1 : Int32) (x2 : Int32) (x3 : Int32) (x4 : Nat) (S : cs) {K : Int32 → cs → Prop} (hfl : l.flags = pinnedFlags ++ [noTraceFlag]) (hp : p_Lw_pack U x0 x1 x2 x3 x4 S K) : ctW gG D z l n_C_Lw_pack c_C_Lw_pack 6 (some .int) [(0, 12, 15, 13)] 10 1000 [.ref (oa x0), .int x1, .int x2, .int x3, .ref (oa x4)] (cw lt_C U oa S) 1 6 (pC_i lt_C U oa K (fun _ _ => False)) := by
  refine ct_ofW (lo := [some (.ref (oa x0)), some (.int x1), some (.int x2), some (.int x3), some (.ref (oa x4)), none]) (by decide) g_ok (Nat.le_of_ble_eq_true rfl) rfl ?_
  intro X A hl C hR hQ hA htab
  exact s_Lw_pack_0 C hQ hA hR htab (by rw [hl]; exact hfl) x0 x1 x2 x3 x4 S hp
end C_Lw_packc
def p_Lw_out (U : ut) (x0 : Nat) (x1 : Int32) (x2 : Nat) (S : cs) (K : Int32 → cs → Prop) : Prop :=
  c_cl U x0 = 1 ∧ (p_B_out U x0 x1 S (fun v4 S4 => c_cl U x2 = 904 ∧ (vp_in 0 (c_ln U x2) ∧ (K 0 (S4.1, va_up S4.2.1 x2 (vp_updL (S4.2.1 x2) (0 : Int32).toNatClampNeg v4.toInt64), S4.2.2)))) (fun c9 S9 => (c9 = 15 ∧ (K 1 S9))))
section C_Lw_out
variable {D : va_G} {z : Nat → ClassId} {A : Nat → Prop} {X : cx} {L0 : fw} {U : ut} {oa : Nat → Nat} {K : Int32 → cs → Prop}
set_option maxRecDepth 100000 in
set_option maxHeartbeats 1000000 in
theorem s_Lw_out_0 (C : fcx gG D z A X R_Lw c_C_Lw_out 4 (some .int)) (hQ : X.2.2.2.2.2.2.2.2.2.2 = eQ gG D z X.2.2.2.2.2.2.2.1 X.2.2.2.2.1 L0 1 6 (pC_i lt_C U oa K (fun _ _ => False))) (hA : A = owA gG L0 X.2.2.2.2.1.heap.size) (hR : X.2.2.2.1 = { frames := 10, cells := 2, slots := 12, locals := 1000 }) (htab : X.2.2.2.2.2.2.2.2.2.1.exceptionTable.toList.map (fun h : ExceptionTableEntry => (h.startPc, h.endPc, h.handlerPc, h.catchType)) = [(0, 9, 12, 19)]) (hfl : X.2.1.flags = pinnedFlags ++ [noTraceFlag]) (x0 : Nat) (x1 : Int32) (x2 : Nat) (S : cs) (hp : p_Lw_out U x0 x1 x2 S K) : aw gG D z A X 4 0 [some (.ref (oa x0)), some (.int x1), some (.ref (oa x2)), none] [] (cw lt_C U oa S) 0 0 := by
  unfold p_Lw_out at hp
  refine a_aload_n C dc_Lw_out_0 rfl rfl ?_
  refine a_iconst (v := 0) C dc_Lw_out_1 (by decide) ?_
  refine a_aload_n C dc_Lw_out_2 rfl rfl ?_
  refine a_iload_n C dc_Lw_out_3 rfl rfl ?_
  have hc1 := hp.1
  have hp := hp.2
  refine c_callT (rest := [.int 0, .ref (oa x2)]) (av := .ref (oa x0) :: [.int x1]) C dc_Lw_out_4 (ct_B_out x0 x1 S hfl hc1 hp) cd_C_B_out i_B (Nat.le_of_ble_eq_true rfl) (by rw [hR]; exact Nat.le_of_ble_eq_true rfl) (by rw [hR]; exact Nat.le_of_ble_eq_true rfl) (by rw [hR]; exact Nat.le_of_ble_eq_true rfl) (by rw [hR]; exact Nat.le_of_ble_eq_true rfl) (inv_V C x0 dc_Lw_out_4 l_Lw_39 im_C_B_out se_C_B_out cd_C_B_out ⟨by decide, by decide⟩ ln_C_B_out rfl rfl (cw_obj hc1 rfl) rfl rfl) (fun oc L1 hL => ?_)
  rcases hL with ⟨v4, S4, hp, rfl, rfl⟩ | ⟨c9, a9, S9, hp, rfl, rfl⟩
  rotate_left
  · rcases hp with ⟨rfl, hp⟩
    · refine Or.inr ⟨a9, rfl, t_hit (ci := 15) (ly := []) (R := (a9, fun _ => 0, fun _ => 0, z_r, z_l)) U.length C htab  (by decide) (by decide) (by decide) x_Lw_19 rfl (by rw [List.getElem?_append_right (by rw [cw_len]; exact Nat.le_refl _), cw_len]; simp) rfl rfl ca_15 ?_⟩
      refine aw_drop ?_
      refine a_astore_n (lo' := [some (.ref (oa x0)), some (.int x1), some (.ref (oa x2)), some (.ref a9)]) C dc_Lw_out_12 rfl (by decide) rfl ?_
      refine a_iconst (v := 1) C dc_Lw_out_13 (by decide) ?_
      refine aw_widen (nc' := 1) (ns' := 6) (Nat.le_of_ble_eq_true rfl) (Nat.le_of_ble_eq_true rfl) ?_
      exact a_iret (ty := .int) C hQ hA dc_Lw_out_14 rfl rfl (Or.inl ⟨_, S9, hp, rfl, rfl⟩)
  refine Or.inl ⟨_, rfl, ?_⟩
  refine aw_eq (lo' := _) (st' := [.int v4, .int 0, .ref (oa x2)]) (L' := (cw lt_C U oa S4)) rfl rfl rfl ?_
  refine a_i2l C dc_Lw_out_7 ?_
  have hc2 := hp.1
  have hp := hp.2
  refine c_last C x2 dc_Lw_out_8 hc2 hp.1 ?_
  have hp := hp.2
  refine aw_eq (lo' := _) (st' := _) (L' := (cw lt_C U oa (S4.1, va_up S4.2.1 x2 (vp_updL (S4.2.1 x2) (0 : Int32).toNatClampNeg v4.toInt64), S4.2.2))) rfl rfl rfl ?_
  refine a_goto (tgt := 15) C dc_Lw_out_9 (by decide) ?_
  refine a_iconst (v := 0) C dc_Lw_out_15 (by decide) ?_
  refine aw_widen (nc' := 1) (ns' := 6) (Nat.le_of_ble_eq_true rfl) (Nat.le_of_ble_eq_true rfl) ?_
  exact a_iret (ty := .int) C hQ hA dc_Lw_out_16 rfl rfl (Or.inl ⟨_, (S4.1, va_up S4.2.1 x2 (vp_updL (S4.2.1 x2) (0 : Int32).toNatClampNeg v4.toInt64), S4.2.2), hp, rfl, rfl⟩)
end C_Lw_out
section C_Lw_outc
variable {D : va_G} {z : Nat → ClassId} {U : ut} {oa : Nat → Nat}
set_option maxRecDepth 100000 in
theorem ct_Lw_out {l : Launch} (x0 : Nat) (x1 : Int32) (x2 : Nat) (S : cs) {K : Int32 → cs → Prop} (hfl : l.flags = pinnedFlags ++ [noTraceFlag]) (hp : p_Lw_out U x0 x1 x2 S K) : ctW gG D z l n_C_Lw_out c_C_Lw_out 4 (some .int) [(0, 9, 12, 19)] 10 1000 [.ref (oa x0), .int x1, .ref (oa x2)] (cw lt_C U oa S) 1 6 (pC_i lt_C U oa K (fun _ _ => False)) := by
  refine ct_ofW (lo := [some (.ref (oa x0)), some (.int x1), some (.ref (oa x2)), none]) (by decide) g_ok (Nat.le_of_ble_eq_true rfl) rfl ?_
  intro X A hl C hR hQ hA htab
  exact s_Lw_out_0 C hQ hA hR htab (by rw [hl]; exact hfl) x0 x1 x2 S hp
end C_Lw_outc
def p_Lw_feed (U : ut) (x0 : Nat) (x1 : Int32) (x2 : Int32) (x3 : Int32) (x4 : Int32) (x5 : Int32) (x6 : Nat) (S : cs) (K : Int32 → cs → Prop) : Prop :=
  c_cl U x0 = 1 ∧ (p_B_feed U x0 x1 x2 x3 x4 x5 S (fun v11 S11 => c_cl U x6 = 904 ∧ (vp_in 0 (c_ln U x6) ∧ (K 0 (S11.1, va_up S11.2.1 x6 (vp_updL (S11.2.1 x6) (0 : Int32).toNatClampNeg v11.toInt64), S11.2.2)))) (fun c9 S9 => (c9 = 13 ∧ (K 1 S9))))
section C_Lw_feed
variable {D : va_G} {z : Nat → ClassId} {A : Nat → Prop} {X : cx} {L0 : fw} {U : ut} {oa : Nat → Nat} {K : Int32 → cs → Prop}
set_option maxRecDepth 100000 in
set_option maxHeartbeats 1000000 in
theorem s_Lw_feed_0 (C : fcx gG D z A X R_Lw c_C_Lw_feed 8 (some .int)) (hQ : X.2.2.2.2.2.2.2.2.2.2 = eQ gG D z X.2.2.2.2.2.2.2.1 X.2.2.2.2.1 L0 1 6 (pC_i lt_C U oa K (fun _ _ => False))) (hA : A = owA gG L0 X.2.2.2.2.1.heap.size) (hR : X.2.2.2.1 = { frames := 10, cells := 2, slots := 12, locals := 1000 }) (htab : X.2.2.2.2.2.2.2.2.2.1.exceptionTable.toList.map (fun h : ExceptionTableEntry => (h.startPc, h.endPc, h.handlerPc, h.catchType)) = [(0, 16, 19, 47)]) (hfl : X.2.1.flags = pinnedFlags ++ [noTraceFlag]) (x0 : Nat) (x1 : Int32) (x2 : Int32) (x3 : Int32) (x4 : Int32) (x5 : Int32) (x6 : Nat) (S : cs) (hp : p_Lw_feed U x0 x1 x2 x3 x4 x5 x6 S K) : aw gG D z A X 8 0 [some (.ref (oa x0)), some (.int x1), some (.int x2), some (.int x3), some (.int x4), some (.int x5), some (.ref (oa x6)), none] [] (cw lt_C U oa S) 0 0 := by
  unfold p_Lw_feed at hp
  refine a_aload C dc_Lw_feed_0 rfl ?_
  refine a_iconst (v := 0) C dc_Lw_feed_2 (by decide) ?_
  refine a_aload_n C dc_Lw_feed_3 rfl rfl ?_
  refine a_iload_n C dc_Lw_feed_4 rfl rfl ?_
  refine a_iload_n C dc_Lw_feed_5 rfl rfl ?_
  refine a_iload_n C dc_Lw_feed_6 rfl rfl ?_
  refine a_iload C dc_Lw_feed_7 rfl ?_
  refine a_iload C dc_Lw_feed_9 rfl ?_
  have hc1 := hp.1
  have hp := hp.2
  refine c_callT (rest := [.int 0, .ref (oa x6)]) (av := .ref (oa x0) :: [.int x1, .int x2, .int x3, .int x4, .int x5]) C dc_Lw_feed_11 (ct_B_feed x0 x1 x2 x3 x4 x5 S hfl hc1 hp) cd_C_B_feed i_B (Nat.le_of_ble_eq_true rfl) (by rw [hR]; exact Nat.le_of_ble_eq_true rfl) (by rw [hR]; exact Nat.le_of_ble_eq_true rfl) (by rw [hR]; exact Nat.le_of_ble_eq_true rfl) (by rw [hR]; exact Nat.le_of_ble_eq_true rfl) (inv_V C x0 dc_Lw_feed_11 l_Lw_43 im_C_B_feed se_C_B_feed cd_C_B_feed ⟨by decide, by decide⟩ ln_C_B_feed rfl rfl (cw_obj hc1 rfl) rfl rfl) (fun oc L1 hL => ?_)
  rcases hL with ⟨v11, S11, hp, rfl, rfl⟩ | ⟨c9, a9, S9, hp, rfl, rfl⟩
  rotate_left
  · rcases hp with ⟨rfl, hp⟩
    · refine Or.inr ⟨a9, rfl, t_hit (ci := 13) (ly := []) (R := (a9, fun _ => 0, fun _ => 0, z_r, z_l)) U.length C htab  (by decide) (by decide) (by decide) x_Lw_47 rfl (by rw [List.getElem?_append_right (by rw [cw_len]; exact Nat.le_refl _), cw_len]; simp) rfl rfl ca_13 ?_⟩
      refine aw_drop ?_
      refine a_astore (lo' := [some (.ref (oa x0)), some (.int x1), some (.int x2), some (.int x3), some (.int x4), some (.int x5), some (.ref (oa x6)), some (.ref a9)]) C dc_Lw_feed_19 (by decide) rfl ?_
      refine a_iconst (v := 1) C dc_Lw_feed_21 (by decide) ?_
      refine aw_widen (nc' := 1) (ns' := 6) (Nat.le_of_ble_eq_true rfl) (Nat.le_of_ble_eq_true rfl) ?_
      exact a_iret (ty := .int) C hQ hA dc_Lw_feed_22 rfl rfl (Or.inl ⟨_, S9, hp, rfl, rfl⟩)
  refine Or.inl ⟨_, rfl, ?_⟩
  refine aw_eq (lo' := _) (st' := [.int v11, .int 0, .ref (oa x6)]) (L' := (cw lt_C U oa S11)) rfl rfl rfl ?_
  refine a_i2l C dc_Lw_feed_14 ?_
  have hc2 := hp.1
  have hp := hp.2
  refine c_last C x6 dc_Lw_feed_15 hc2 hp.1 ?_
  have hp := hp.2
  refine aw_eq (lo' := _) (st' := _) (L' := (cw lt_C U oa (S11.1, va_up S11.2.1 x6 (vp_updL (S11.2.1 x6) (0 : Int32).toNatClampNeg v11.toInt64), S11.2.2))) rfl rfl rfl ?_
  refine a_goto (tgt := 23) C dc_Lw_feed_16 (by decide) ?_
  refine a_iconst (v := 0) C dc_Lw_feed_23 (by decide) ?_
  refine aw_widen (nc' := 1) (ns' := 6) (Nat.le_of_ble_eq_true rfl) (Nat.le_of_ble_eq_true rfl) ?_
  exact a_iret (ty := .int) C hQ hA dc_Lw_feed_24 rfl rfl (Or.inl ⟨_, (S11.1, va_up S11.2.1 x6 (vp_updL (S11.2.1 x6) (0 : Int32).toNatClampNeg v11.toInt64), S11.2.2), hp, rfl, rfl⟩)
end C_Lw_feed
section C_Lw_feedc
variable {D : va_G} {z : Nat → ClassId} {U : ut} {oa : Nat → Nat}
set_option maxRecDepth 100000 in
theorem ct_Lw_feed {l : Launch} (x0 : Nat) (x1 : Int32) (x2 : Int32) (x3 : Int32) (x4 : Int32) (x5 : Int32) (x6 : Nat) (S : cs) {K : Int32 → cs → Prop} (hfl : l.flags = pinnedFlags ++ [noTraceFlag]) (hp : p_Lw_feed U x0 x1 x2 x3 x4 x5 x6 S K) : ctW gG D z l n_C_Lw_feed c_C_Lw_feed 8 (some .int) [(0, 16, 19, 47)] 10 1000 [.ref (oa x0), .int x1, .int x2, .int x3, .int x4, .int x5, .ref (oa x6)] (cw lt_C U oa S) 1 6 (pC_i lt_C U oa K (fun _ _ => False)) := by
  refine ct_ofW (lo := [some (.ref (oa x0)), some (.int x1), some (.int x2), some (.int x3), some (.int x4), some (.int x5), some (.ref (oa x6)), none]) (by decide) g_ok (Nat.le_of_ble_eq_true rfl) rfl ?_
  intro X A hl C hR hQ hA htab
  exact s_Lw_feed_0 C hQ hA hR htab (by rw [hl]; exact hfl) x0 x1 x2 x3 x4 x5 x6 S hp
end C_Lw_feedc
def p_Lw_end (U : ut) (x0 : Nat) (x1 : Int32) (S : cs) (K : Int32 → cs → Prop) : Prop :=
  c_cl U x0 = 1 ∧ (p_B_end U x0 x1 S (fun S2 => K 0 S2) (fun c9 S9 => (c9 = 14 ∧ (K 1 S9))))
section C_Lw_end
variable {D : va_G} {z : Nat → ClassId} {A : Nat → Prop} {X : cx} {L0 : fw} {U : ut} {oa : Nat → Nat} {K : Int32 → cs → Prop}
set_option maxRecDepth 100000 in
set_option maxHeartbeats 1000000 in
theorem s_Lw_end_0 (C : fcx gG D z A X R_Lw c_C_Lw_end 3 (some .int)) (hQ : X.2.2.2.2.2.2.2.2.2.2 = eQ gG D z X.2.2.2.2.2.2.2.1 X.2.2.2.2.1 L0 1 6 (pC_i lt_C U oa K (fun _ _ => False))) (hA : A = owA gG L0 X.2.2.2.2.1.heap.size) (hR : X.2.2.2.1 = { frames := 10, cells := 2, slots := 12, locals := 1000 }) (htab : X.2.2.2.2.2.2.2.2.2.1.exceptionTable.toList.map (fun h : ExceptionTableEntry => (h.startPc, h.endPc, h.handlerPc, h.catchType)) = [(0, 5, 8, 13)]) (hfl : X.2.1.flags = pinnedFlags ++ [noTraceFlag]) (x0 : Nat) (x1 : Int32) (S : cs) (hp : p_Lw_end U x0 x1 S K) : aw gG D z A X 3 0 [some (.ref (oa x0)), some (.int x1), none] [] (cw lt_C U oa S) 0 0 := by
  unfold p_Lw_end at hp
  refine a_aload_n C dc_Lw_end_0 rfl rfl ?_
  refine a_iload_n C dc_Lw_end_1 rfl rfl ?_
  have hc1 := hp.1
  have hp := hp.2
  refine c_callT (rest := []) (av := .ref (oa x0) :: [.int x1]) C dc_Lw_end_2 (ct_B_end x0 x1 S hfl hc1 hp) cd_C_B_end i_B (Nat.le_of_ble_eq_true rfl) (by rw [hR]; exact Nat.le_of_ble_eq_true rfl) (by rw [hR]; exact Nat.le_of_ble_eq_true rfl) (by rw [hR]; exact Nat.le_of_ble_eq_true rfl) (by rw [hR]; exact Nat.le_of_ble_eq_true rfl) (inv_V C x0 dc_Lw_end_2 l_Lw_49 im_C_B_end se_C_B_end cd_C_B_end ⟨by decide, by decide⟩ ln_C_B_end rfl rfl (cw_obj hc1 rfl) rfl rfl) (fun oc L1 hL => ?_)
  rcases hL with ⟨S2, hp, rfl, rfl⟩ | ⟨c9, a9, S9, hp, rfl, rfl⟩
  rotate_left
  · rcases hp with ⟨rfl, hp⟩
    · refine Or.inr ⟨a9, rfl, t_hit (ci := 14) (ly := []) (R := (a9, fun _ => 0, fun _ => 0, z_r, z_l)) U.length C htab  (by decide) (by decide) (by decide) x_Lw_13 rfl (by rw [List.getElem?_append_right (by rw [cw_len]; exact Nat.le_refl _), cw_len]; simp) rfl rfl ca_14 ?_⟩
      refine aw_drop ?_
      refine a_astore_n (lo' := [some (.ref (oa x0)), some (.int x1), some (.ref a9)]) C dc_Lw_end_8 rfl (by decide) rfl ?_
      refine a_iconst (v := 1) C dc_Lw_end_9 (by decide) ?_
      refine aw_widen (nc' := 1) (ns' := 6) (Nat.le_of_ble_eq_true rfl) (Nat.le_of_ble_eq_true rfl) ?_
      exact a_iret (ty := .int) C hQ hA dc_Lw_end_10 rfl rfl (Or.inl ⟨_, S9, hp, rfl, rfl⟩)
  refine Or.inl ⟨_, rfl, ?_⟩
  refine aw_eq (lo' := _) (st' := []) (L' := (cw lt_C U oa S2)) rfl rfl rfl ?_
  refine a_goto (tgt := 11) C dc_Lw_end_5 (by decide) ?_
  refine a_iconst (v := 0) C dc_Lw_end_11 (by decide) ?_
  refine aw_widen (nc' := 1) (ns' := 6) (Nat.le_of_ble_eq_true rfl) (Nat.le_of_ble_eq_true rfl) ?_
  exact a_iret (ty := .int) C hQ hA dc_Lw_end_12 rfl rfl (Or.inl ⟨_, S2, hp, rfl, rfl⟩)
end C_Lw_end
section C_Lw_endc
variable {D : va_G} {z : Nat → ClassId} {U : ut} {oa : Nat → Nat}
set_option maxRecDepth 100000 in
theorem ct_Lw_end {l : Launch} (x0 : Nat) (x1 : Int32) (S : cs) {K : Int32 → cs → Prop} (hfl : l.flags = pinnedFlags ++ [noTraceFlag]) (hp : p_Lw_end U x0 x1 S K) : ctW gG D z l n_C_Lw_end c_C_Lw_end 3 (some .int) [(0, 5, 8, 13)] 10 1000 [.ref (oa x0), .int x1] (cw lt_C U oa S) 1 6 (pC_i lt_C U oa K (fun _ _ => False)) := by
  refine ct_ofW (lo := [some (.ref (oa x0)), some (.int x1), none]) (by decide) g_ok (Nat.le_of_ble_eq_true rfl) rfl ?_
  intro X A hl C hR hQ hA htab
  exact s_Lw_end_0 C hQ hA hR htab (by rw [hl]; exact hfl) x0 x1 S hp
end C_Lw_endc
def p_Lw_change (U : ut) (x0 : Nat) (x1 : Int32) (x2 : Int32) (x3 : Nat) (S : cs) (K : Int32 → cs → Prop) : Prop :=
  c_cl U x0 = 1 ∧ (p_B_change U x0 x1 x2 S (fun v5 S5 => c_cl U x3 = 904 ∧ (vp_in 0 (c_ln U x3) ∧ (K 0 (S5.1, va_up S5.2.1 x3 (vp_updL (S5.2.1 x3) (0 : Int32).toNatClampNeg v5.toInt64), S5.2.2)))) (fun c9 S9 => (c9 = 15 ∧ (K 1 S9)) ∨ (c9 = 14 ∧ (K 2 S9))))
section C_Lw_change
variable {D : va_G} {z : Nat → ClassId} {A : Nat → Prop} {X : cx} {L0 : fw} {U : ut} {oa : Nat → Nat} {K : Int32 → cs → Prop}
set_option maxRecDepth 100000 in
set_option maxHeartbeats 1000000 in
theorem s_Lw_change_0 (C : fcx gG D z A X R_Lw c_C_Lw_change 5 (some .int)) (hQ : X.2.2.2.2.2.2.2.2.2.2 = eQ gG D z X.2.2.2.2.2.2.2.1 X.2.2.2.2.1 L0 1 6 (pC_i lt_C U oa K (fun _ _ => False))) (hA : A = owA gG L0 X.2.2.2.2.1.heap.size) (hR : X.2.2.2.1 = { frames := 10, cells := 2, slots := 12, locals := 1000 }) (htab : X.2.2.2.2.2.2.2.2.2.1.exceptionTable.toList.map (fun h : ExceptionTableEntry => (h.startPc, h.endPc, h.handlerPc, h.catchType)) = [(0, 10, 13, 19), (0, 10, 17, 13)]) (hfl : X.2.1.flags = pinnedFlags ++ [noTraceFlag]) (x0 : Nat) (x1 : Int32) (x2 : Int32) (x3 : Nat) (S : cs) (hp : p_Lw_change U x0 x1 x2 x3 S K) : aw gG D z A X 5 0 [some (.ref (oa x0)), some (.int x1), some (.int x2), some (.ref (oa x3)), none] [] (cw lt_C U oa S) 0 0 := by
  unfold p_Lw_change at hp
  refine a_aload_n C dc_Lw_change_0 rfl rfl ?_
  refine a_iconst (v := 0) C dc_Lw_change_1 (by decide) ?_
  refine a_aload_n C dc_Lw_change_2 rfl rfl ?_
  refine a_iload_n C dc_Lw_change_3 rfl rfl ?_
  refine a_iload_n C dc_Lw_change_4 rfl rfl ?_
  have hc1 := hp.1
  have hp := hp.2
  refine c_callT (rest := [.int 0, .ref (oa x3)]) (av := .ref (oa x0) :: [.int x1, .int x2]) C dc_Lw_change_5 (ct_B_change x0 x1 x2 S hfl hc1 hp) cd_C_B_change i_B (Nat.le_of_ble_eq_true rfl) (by rw [hR]; exact Nat.le_of_ble_eq_true rfl) (by rw [hR]; exact Nat.le_of_ble_eq_true rfl) (by rw [hR]; exact Nat.le_of_ble_eq_true rfl) (by rw [hR]; exact Nat.le_of_ble_eq_true rfl) (inv_V C x0 dc_Lw_change_5 l_Lw_53 im_C_B_change se_C_B_change cd_C_B_change ⟨by decide, by decide⟩ ln_C_B_change rfl rfl (cw_obj hc1 rfl) rfl rfl) (fun oc L1 hL => ?_)
  rcases hL with ⟨v5, S5, hp, rfl, rfl⟩ | ⟨c9, a9, S9, hp, rfl, rfl⟩
  rotate_left
  · rcases hp with ⟨rfl, hp⟩ | ⟨rfl, hp⟩
    · refine Or.inr ⟨a9, rfl, t_hit (ci := 15) (ly := []) (R := (a9, fun _ => 0, fun _ => 0, z_r, z_l)) U.length C htab  (by decide) (by decide) (by decide) x_Lw_19 rfl (by rw [List.getElem?_append_right (by rw [cw_len]; exact Nat.le_refl _), cw_len]; simp) rfl rfl ca_15 ?_⟩
      refine aw_drop ?_
      refine a_astore (lo' := [some (.ref (oa x0)), some (.int x1), some (.int x2), some (.ref (oa x3)), some (.ref a9)]) C dc_Lw_change_13 (by decide) rfl ?_
      refine a_iconst (v := 1) C dc_Lw_change_15 (by decide) ?_
      refine aw_widen (nc' := 1) (ns' := 6) (Nat.le_of_ble_eq_true rfl) (Nat.le_of_ble_eq_true rfl) ?_
      exact a_iret (ty := .int) C hQ hA dc_Lw_change_16 rfl rfl (Or.inl ⟨_, S9, hp, rfl, rfl⟩)
    · refine Or.inr ⟨a9, rfl, t_hit2 (ci := 14) (ly := []) (R := (a9, fun _ => 0, fun _ => 0, z_r, z_l)) U.length C htab (by decide) (by decide) (by decide) x_Lw_19 nt_14_15 (by decide) (by decide) (by decide) x_Lw_13 rfl (by rw [List.getElem?_append_right (by rw [cw_len]; exact Nat.le_refl _), cw_len]; simp) rfl rfl ca_14 ?_⟩
      refine aw_drop ?_
      refine a_astore (lo' := [some (.ref (oa x0)), some (.int x1), some (.int x2), some (.ref (oa x3)), some (.ref a9)]) C dc_Lw_change_17 (by decide) rfl ?_
      refine a_iconst (v := 2) C dc_Lw_change_19 (by decide) ?_
      refine aw_widen (nc' := 1) (ns' := 6) (Nat.le_of_ble_eq_true rfl) (Nat.le_of_ble_eq_true rfl) ?_
      exact a_iret (ty := .int) C hQ hA dc_Lw_change_20 rfl rfl (Or.inl ⟨_, S9, hp, rfl, rfl⟩)
  refine Or.inl ⟨_, rfl, ?_⟩
  refine aw_eq (lo' := _) (st' := [.int v5, .int 0, .ref (oa x3)]) (L' := (cw lt_C U oa S5)) rfl rfl rfl ?_
  refine a_i2l C dc_Lw_change_8 ?_
  have hc2 := hp.1
  have hp := hp.2
  refine c_last C x3 dc_Lw_change_9 hc2 hp.1 ?_
  have hp := hp.2
  refine aw_eq (lo' := _) (st' := _) (L' := (cw lt_C U oa (S5.1, va_up S5.2.1 x3 (vp_updL (S5.2.1 x3) (0 : Int32).toNatClampNeg v5.toInt64), S5.2.2))) rfl rfl rfl ?_
  refine a_goto (tgt := 21) C dc_Lw_change_10 (by decide) ?_
  refine a_iconst (v := 0) C dc_Lw_change_21 (by decide) ?_
  refine aw_widen (nc' := 1) (ns' := 6) (Nat.le_of_ble_eq_true rfl) (Nat.le_of_ble_eq_true rfl) ?_
  exact a_iret (ty := .int) C hQ hA dc_Lw_change_22 rfl rfl (Or.inl ⟨_, (S5.1, va_up S5.2.1 x3 (vp_updL (S5.2.1 x3) (0 : Int32).toNatClampNeg v5.toInt64), S5.2.2), hp, rfl, rfl⟩)
end C_Lw_change
section C_Lw_changec
variable {D : va_G} {z : Nat → ClassId} {U : ut} {oa : Nat → Nat}
set_option maxRecDepth 100000 in
theorem ct_Lw_change {l : Launch} (x0 : Nat) (x1 : Int32) (x2 : Int32) (x3 : Nat) (S : cs) {K : Int32 → cs → Prop} (hfl : l.flags = pinnedFlags ++ [noTraceFlag]) (hp : p_Lw_change U x0 x1 x2 x3 S K) : ctW gG D z l n_C_Lw_change c_C_Lw_change 5 (some .int) [(0, 10, 13, 19), (0, 10, 17, 13)] 10 1000 [.ref (oa x0), .int x1, .int x2, .ref (oa x3)] (cw lt_C U oa S) 1 6 (pC_i lt_C U oa K (fun _ _ => False)) := by
  refine ct_ofW (lo := [some (.ref (oa x0)), some (.int x1), some (.int x2), some (.ref (oa x3)), none]) (by decide) g_ok (Nat.le_of_ble_eq_true rfl) rfl ?_
  intro X A hl C hR hQ hA htab
  exact s_Lw_change_0 C hQ hA hR htab (by rw [hl]; exact hfl) x0 x1 x2 x3 S hp
end C_Lw_changec
def p_Lw_turn (U : ut) (x0 : Nat) (x1 : Nat) (S : cs) (K : Int32 → cs → Prop) : Prop :=
  c_cl U x0 = 1 ∧ (p_B_turn U x0 S (fun v3 S3 => c_cl U x1 = 904 ∧ (vp_in 0 (c_ln U x1) ∧ (K 0 (S3.1, va_up S3.2.1 x1 (vp_updL (S3.2.1 x1) (0 : Int32).toNatClampNeg v3.toInt64), S3.2.2)))) (fun c9 S9 => (c9 = 13 ∧ (K 1 S9))))
section C_Lw_turn
variable {D : va_G} {z : Nat → ClassId} {A : Nat → Prop} {X : cx} {L0 : fw} {U : ut} {oa : Nat → Nat} {K : Int32 → cs → Prop}
set_option maxRecDepth 100000 in
set_option maxHeartbeats 1000000 in
theorem s_Lw_turn_0 (C : fcx gG D z A X R_Lw c_C_Lw_turn 3 (some .int)) (hQ : X.2.2.2.2.2.2.2.2.2.2 = eQ gG D z X.2.2.2.2.2.2.2.1 X.2.2.2.2.1 L0 1 6 (pC_i lt_C U oa K (fun _ _ => False))) (hA : A = owA gG L0 X.2.2.2.2.1.heap.size) (hR : X.2.2.2.1 = { frames := 10, cells := 2, slots := 12, locals := 1000 }) (htab : X.2.2.2.2.2.2.2.2.2.1.exceptionTable.toList.map (fun h : ExceptionTableEntry => (h.startPc, h.endPc, h.handlerPc, h.catchType)) = [(0, 8, 11, 47)]) (hfl : X.2.1.flags = pinnedFlags ++ [noTraceFlag]) (x0 : Nat) (x1 : Nat) (S : cs) (hp : p_Lw_turn U x0 x1 S K) : aw gG D z A X 3 0 [some (.ref (oa x0)), some (.ref (oa x1)), none] [] (cw lt_C U oa S) 0 0 := by
  unfold p_Lw_turn at hp
  refine a_aload_n C dc_Lw_turn_0 rfl rfl ?_
  refine a_iconst (v := 0) C dc_Lw_turn_1 (by decide) ?_
  refine a_aload_n C dc_Lw_turn_2 rfl rfl ?_
  have hc1 := hp.1
  have hp := hp.2
  refine c_callT (rest := [.int 0, .ref (oa x1)]) (av := .ref (oa x0) :: []) C dc_Lw_turn_3 (ct_B_turn x0 S hfl hc1 hp) cd_C_B_turn i_B (Nat.le_of_ble_eq_true rfl) (by rw [hR]; exact Nat.le_of_ble_eq_true rfl) (by rw [hR]; exact Nat.le_of_ble_eq_true rfl) (by rw [hR]; exact Nat.le_of_ble_eq_true rfl) (by rw [hR]; exact Nat.le_of_ble_eq_true rfl) (inv_V C x0 dc_Lw_turn_3 l_Lw_57 im_C_B_turn se_C_B_turn cd_C_B_turn ⟨by decide, by decide⟩ ln_C_B_turn rfl rfl (cw_obj hc1 rfl) rfl rfl) (fun oc L1 hL => ?_)
  rcases hL with ⟨v3, S3, hp, rfl, rfl⟩ | ⟨c9, a9, S9, hp, rfl, rfl⟩
  rotate_left
  · rcases hp with ⟨rfl, hp⟩
    · refine Or.inr ⟨a9, rfl, t_hit (ci := 13) (ly := []) (R := (a9, fun _ => 0, fun _ => 0, z_r, z_l)) U.length C htab  (by decide) (by decide) (by decide) x_Lw_47 rfl (by rw [List.getElem?_append_right (by rw [cw_len]; exact Nat.le_refl _), cw_len]; simp) rfl rfl ca_13 ?_⟩
      refine aw_drop ?_
      refine a_astore_n (lo' := [some (.ref (oa x0)), some (.ref (oa x1)), some (.ref a9)]) C dc_Lw_turn_11 rfl (by decide) rfl ?_
      refine a_iconst (v := 1) C dc_Lw_turn_12 (by decide) ?_
      refine aw_widen (nc' := 1) (ns' := 6) (Nat.le_of_ble_eq_true rfl) (Nat.le_of_ble_eq_true rfl) ?_
      exact a_iret (ty := .int) C hQ hA dc_Lw_turn_13 rfl rfl (Or.inl ⟨_, S9, hp, rfl, rfl⟩)
  refine Or.inl ⟨_, rfl, ?_⟩
  refine aw_eq (lo' := _) (st' := [.int v3, .int 0, .ref (oa x1)]) (L' := (cw lt_C U oa S3)) rfl rfl rfl ?_
  refine a_i2l C dc_Lw_turn_6 ?_
  have hc2 := hp.1
  have hp := hp.2
  refine c_last C x1 dc_Lw_turn_7 hc2 hp.1 ?_
  have hp := hp.2
  refine aw_eq (lo' := _) (st' := _) (L' := (cw lt_C U oa (S3.1, va_up S3.2.1 x1 (vp_updL (S3.2.1 x1) (0 : Int32).toNatClampNeg v3.toInt64), S3.2.2))) rfl rfl rfl ?_
  refine a_goto (tgt := 14) C dc_Lw_turn_8 (by decide) ?_
  refine a_iconst (v := 0) C dc_Lw_turn_14 (by decide) ?_
  refine aw_widen (nc' := 1) (ns' := 6) (Nat.le_of_ble_eq_true rfl) (Nat.le_of_ble_eq_true rfl) ?_
  exact a_iret (ty := .int) C hQ hA dc_Lw_turn_15 rfl rfl (Or.inl ⟨_, (S3.1, va_up S3.2.1 x1 (vp_updL (S3.2.1 x1) (0 : Int32).toNatClampNeg v3.toInt64), S3.2.2), hp, rfl, rfl⟩)
end C_Lw_turn
section C_Lw_turnc
variable {D : va_G} {z : Nat → ClassId} {U : ut} {oa : Nat → Nat}
set_option maxRecDepth 100000 in
theorem ct_Lw_turn {l : Launch} (x0 : Nat) (x1 : Nat) (S : cs) {K : Int32 → cs → Prop} (hfl : l.flags = pinnedFlags ++ [noTraceFlag]) (hp : p_Lw_turn U x0 x1 S K) : ctW gG D z l n_C_Lw_turn c_C_Lw_turn 3 (some .int) [(0, 8, 11, 47)] 10 1000 [.ref (oa x0), .ref (oa x1)] (cw lt_C U oa S) 1 6 (pC_i lt_C U oa K (fun _ _ => False)) := by
  refine ct_ofW (lo := [some (.ref (oa x0)), some (.ref (oa x1)), none]) (by decide) g_ok (Nat.le_of_ble_eq_true rfl) rfl ?_
  intro X A hl C hR hQ hA htab
  exact s_Lw_turn_0 C hQ hA hR htab (by rw [hl]; exact hfl) x0 x1 S hp
end C_Lw_turnc
def p_Lw_about (U : ut) (x0 : Nat) (x1 : Int32) (x2 : Nat) (S : cs) (K : Int32 → cs → Prop) : Prop :=
  c_cl U x0 = 1 ∧ (p_B_about U x0 x1 S (fun v4 S4 => c_cl U x2 = 904 ∧ (vp_in 0 (c_ln U x2) ∧ (K 0 (S4.1, va_up S4.2.1 x2 (vp_updL (S4.2.1 x2) (0 : Int32).toNatClampNeg v4.toInt64), S4.2.2)))) (fun c9 S9 => (c9 = 14 ∧ (K 1 S9)) ∨ (c9 = 13 ∧ (K 2 S9))))
section C_Lw_about
variable {D : va_G} {z : Nat → ClassId} {A : Nat → Prop} {X : cx} {L0 : fw} {U : ut} {oa : Nat → Nat} {K : Int32 → cs → Prop}
set_option maxRecDepth 100000 in
set_option maxHeartbeats 1000000 in
theorem s_Lw_about_0 (C : fcx gG D z A X R_Lw c_C_Lw_about 4 (some .int)) (hQ : X.2.2.2.2.2.2.2.2.2.2 = eQ gG D z X.2.2.2.2.2.2.2.1 X.2.2.2.2.1 L0 1 6 (pC_i lt_C U oa K (fun _ _ => False))) (hA : A = owA gG L0 X.2.2.2.2.1.heap.size) (hR : X.2.2.2.1 = { frames := 10, cells := 2, slots := 12, locals := 1000 }) (htab : X.2.2.2.2.2.2.2.2.2.1.exceptionTable.toList.map (fun h : ExceptionTableEntry => (h.startPc, h.endPc, h.handlerPc, h.catchType)) = [(0, 9, 12, 13), (0, 9, 15, 47)]) (hfl : X.2.1.flags = pinnedFlags ++ [noTraceFlag]) (x0 : Nat) (x1 : Int32) (x2 : Nat) (S : cs) (hp : p_Lw_about U x0 x1 x2 S K) : aw gG D z A X 4 0 [some (.ref (oa x0)), some (.int x1), some (.ref (oa x2)), none] [] (cw lt_C U oa S) 0 0 := by
  unfold p_Lw_about at hp
  refine a_aload_n C dc_Lw_about_0 rfl rfl ?_
  refine a_iconst (v := 0) C dc_Lw_about_1 (by decide) ?_
  refine a_aload_n C dc_Lw_about_2 rfl rfl ?_
  refine a_iload_n C dc_Lw_about_3 rfl rfl ?_
  have hc1 := hp.1
  have hp := hp.2
  refine c_callT (rest := [.int 0, .ref (oa x2)]) (av := .ref (oa x0) :: [.int x1]) C dc_Lw_about_4 (ct_B_about x0 x1 S hfl hc1 hp) cd_C_B_about i_B (Nat.le_of_ble_eq_true rfl) (by rw [hR]; exact Nat.le_of_ble_eq_true rfl) (by rw [hR]; exact Nat.le_of_ble_eq_true rfl) (by rw [hR]; exact Nat.le_of_ble_eq_true rfl) (by rw [hR]; exact Nat.le_of_ble_eq_true rfl) (inv_V C x0 dc_Lw_about_4 l_Lw_61 im_C_B_about se_C_B_about cd_C_B_about ⟨by decide, by decide⟩ ln_C_B_about rfl rfl (cw_obj hc1 rfl) rfl rfl) (fun oc L1 hL => ?_)
  rcases hL with ⟨v4, S4, hp, rfl, rfl⟩ | ⟨c9, a9, S9, hp, rfl, rfl⟩
  rotate_left
  · rcases hp with ⟨rfl, hp⟩ | ⟨rfl, hp⟩
    · refine Or.inr ⟨a9, rfl, t_hit (ci := 14) (ly := []) (R := (a9, fun _ => 0, fun _ => 0, z_r, z_l)) U.length C htab  (by decide) (by decide) (by decide) x_Lw_13 rfl (by rw [List.getElem?_append_right (by rw [cw_len]; exact Nat.le_refl _), cw_len]; simp) rfl rfl ca_14 ?_⟩
      refine aw_drop ?_
      refine a_astore_n (lo' := [some (.ref (oa x0)), some (.int x1), some (.ref (oa x2)), some (.ref a9)]) C dc_Lw_about_12 rfl (by decide) rfl ?_
      refine a_iconst (v := 1) C dc_Lw_about_13 (by decide) ?_
      refine aw_widen (nc' := 1) (ns' := 6) (Nat.le_of_ble_eq_true rfl) (Nat.le_of_ble_eq_true rfl) ?_
      exact a_iret (ty := .int) C hQ hA dc_Lw_about_14 rfl rfl (Or.inl ⟨_, S9, hp, rfl, rfl⟩)
    · refine Or.inr ⟨a9, rfl, t_hit2 (ci := 13) (ly := []) (R := (a9, fun _ => 0, fun _ => 0, z_r, z_l)) U.length C htab (by decide) (by decide) (by decide) x_Lw_13 nt_13_14 (by decide) (by decide) (by decide) x_Lw_47 rfl (by rw [List.getElem?_append_right (by rw [cw_len]; exact Nat.le_refl _), cw_len]; simp) rfl rfl ca_13 ?_⟩
      refine aw_drop ?_
      refine a_astore_n (lo' := [some (.ref (oa x0)), some (.int x1), some (.ref (oa x2)), some (.ref a9)]) C dc_Lw_about_15 rfl (by decide) rfl ?_
      refine a_iconst (v := 2) C dc_Lw_about_16 (by decide) ?_
      refine aw_widen (nc' := 1) (ns' := 6) (Nat.le_of_ble_eq_true rfl) (Nat.le_of_ble_eq_true rfl) ?_
      exact a_iret (ty := .int) C hQ hA dc_Lw_about_17 rfl rfl (Or.inl ⟨_, S9, hp, rfl, rfl⟩)
  refine Or.inl ⟨_, rfl, ?_⟩
  refine aw_eq (lo' := _) (st' := [.int v4, .int 0, .ref (oa x2)]) (L' := (cw lt_C U oa S4)) rfl rfl rfl ?_
  refine a_i2l C dc_Lw_about_7 ?_
  have hc2 := hp.1
  have hp := hp.2
  refine c_last C x2 dc_Lw_about_8 hc2 hp.1 ?_
  have hp := hp.2
  refine aw_eq (lo' := _) (st' := _) (L' := (cw lt_C U oa (S4.1, va_up S4.2.1 x2 (vp_updL (S4.2.1 x2) (0 : Int32).toNatClampNeg v4.toInt64), S4.2.2))) rfl rfl rfl ?_
  refine a_goto (tgt := 18) C dc_Lw_about_9 (by decide) ?_
  refine a_iconst (v := 0) C dc_Lw_about_18 (by decide) ?_
  refine aw_widen (nc' := 1) (ns' := 6) (Nat.le_of_ble_eq_true rfl) (Nat.le_of_ble_eq_true rfl) ?_
  exact a_iret (ty := .int) C hQ hA dc_Lw_about_19 rfl rfl (Or.inl ⟨_, (S4.1, va_up S4.2.1 x2 (vp_updL (S4.2.1 x2) (0 : Int32).toNatClampNeg v4.toInt64), S4.2.2), hp, rfl, rfl⟩)
end C_Lw_about
section C_Lw_aboutc
variable {D : va_G} {z : Nat → ClassId} {U : ut} {oa : Nat → Nat}
set_option maxRecDepth 100000 in
theorem ct_Lw_about {l : Launch} (x0 : Nat) (x1 : Int32) (x2 : Nat) (S : cs) {K : Int32 → cs → Prop} (hfl : l.flags = pinnedFlags ++ [noTraceFlag]) (hp : p_Lw_about U x0 x1 x2 S K) : ctW gG D z l n_C_Lw_about c_C_Lw_about 4 (some .int) [(0, 9, 12, 13), (0, 9, 15, 47)] 10 1000 [.ref (oa x0), .int x1, .ref (oa x2)] (cw lt_C U oa S) 1 6 (pC_i lt_C U oa K (fun _ _ => False)) := by
  refine ct_ofW (lo := [some (.ref (oa x0)), some (.int x1), some (.ref (oa x2)), none]) (by decide) g_ok (Nat.le_of_ble_eq_true rfl) rfl ?_
  intro X A hl C hR hQ hA htab
  exact s_Lw_about_0 C hQ hA hR htab (by rw [hl]; exact hfl) x0 x1 x2 S hp
end C_Lw_aboutc
def p_Lw_sample (U : ut) (x0 : Nat) (x1 : Int32) (x2 : Int32) (x3 : Int32) (x4 : Nat) (S : cs) (K : Int32 → cs → Prop) : Prop :=
  c_cl U x0 = 1 ∧ (p_B_sample U x0 x1 x2 x3 S (fun v7 S7 => c_cl U x4 = 904 ∧ (vp_in 0 (c_ln U x4) ∧ (K 0 (S7.1, va_up S7.2.1 x4 (vp_updL (S7.2.1 x4) (0 : Int32).toNatClampNeg v7.toInt64), S7.2.2)))) (fun c9 S9 => (c9 = 13 ∧ (K 1 S9)) ∨ (c9 = 15 ∧ (K 2 S9))))
section C_Lw_sample
variable {D : va_G} {z : Nat → ClassId} {A : Nat → Prop} {X : cx} {L0 : fw} {U : ut} {oa : Nat → Nat} {K : Int32 → cs → Prop}
set_option maxRecDepth 100000 in
set_option maxHeartbeats 1000000 in
theorem s_Lw_sample_0 (C : fcx gG D z A X R_Lw c_C_Lw_sample 6 (some .int)) (hQ : X.2.2.2.2.2.2.2.2.2.2 = eQ gG D z X.2.2.2.2.2.2.2.1 X.2.2.2.2.1 L0 1 6 (pC_i lt_C U oa K (fun _ _ => False))) (hA : A = owA gG L0 X.2.2.2.2.1.heap.size) (hR : X.2.2.2.1 = { frames := 10, cells := 2, slots := 12, locals := 1000 }) (htab : X.2.2.2.2.2.2.2.2.2.1.exceptionTable.toList.map (fun h : ExceptionTableEntry => (h.startPc, h.endPc, h.handlerPc, h.catchType)) = [(0, 12, 15, 47), (0, 12, 19, 19)]) (hfl : X.2.1.flags = pinnedFlags ++ [noTraceFlag]) (x0 : Nat) (x1 : Int32) (x2 : Int32) (x3 : Int32) (x4 : Nat) (S : cs) (hp : p_Lw_sample U x0 x1 x2 x3 x4 S K) : aw gG D z A X 6 0 [some (.ref (oa x0)), some (.int x1), some (.int x2), some (.int x3), some (.ref (oa x4)), none] [] (cw lt_C U oa S) 0 0 := by
  unfold p_Lw_sample at hp
  refine a_aload C dc_Lw_sample_0 rfl ?_
  refine a_iconst (v := 0) C dc_Lw_sample_2 (by decide) ?_
  refine a_aload_n C dc_Lw_sample_3 rfl rfl ?_
  refine a_iload_n C dc_Lw_sample_4 rfl rfl ?_
  refine a_iload_n C dc_Lw_sample_5 rfl rfl ?_
  refine a_iload_n C dc_Lw_sample_6 rfl rfl ?_
  have hc1 := hp.1
  have hp := hp.2
  refine c_callT (rest := [.int 0, .ref (oa x4)]) (av := .ref (oa x0) :: [.int x1, .int x2, .int x3]) C dc_Lw_sample_7 (ct_B_sample x0 x1 x2 x3 S hfl hc1 hp) cd_C_B_sample i_B (Nat.le_of_ble_eq_true rfl) (by rw [hR]; exact Nat.le_of_ble_eq_true rfl) (by rw [hR]; exact Nat.le_of_ble_eq_true rfl) (by rw [hR]; exact Nat.le_of_ble_eq_true rfl) (by rw [hR]; exact Nat.le_of_ble_eq_true rfl) (inv_V C x0 dc_Lw_sample_7 l_Lw_64 im_C_B_sample se_C_B_sample cd_C_B_sample ⟨by decide, by decide⟩ ln_C_B_sample rfl rfl (cw_obj hc1 rfl) rfl rfl) (fun oc L1 hL => ?_)
  rcases hL with ⟨v7, S7, hp, rfl, rfl⟩ | ⟨c9, a9, S9, hp, rfl, rfl⟩
  rotate_left
  · rcases hp with ⟨rfl, hp⟩ | ⟨rfl, hp⟩
    · refine Or.inr ⟨a9, rfl, t_hit (ci := 13) (ly := []) (R := (a9, fun _ => 0, fun _ => 0, z_r, z_l)) U.length C htab  (by decide) (by decide) (by decide) x_Lw_47 rfl (by rw [List.getElem?_append_right (by rw [cw_len]; exact Nat.le_refl _), cw_len]; simp) rfl rfl ca_13 ?_⟩
      refine aw_drop ?_
      refine a_astore (lo' := [some (.ref (oa x0)), some (.int x1), some (.int x2), some (.int x3), some (.ref (oa x4)), some (.ref a9)]) C dc_Lw_sample_15 (by decide) rfl ?_
      refine a_iconst (v := 1) C dc_Lw_sample_17 (by decide) ?_
      refine aw_widen (nc' := 1) (ns' := 6) (Nat.le_of_ble_eq_true rfl) (Nat.le_of_ble_eq_true rfl) ?_
      exact a_iret (ty := .int) C hQ hA dc_Lw_sample_18 rfl rfl (Or.inl ⟨_, S9, hp, rfl, rfl⟩)
    · refine Or.inr ⟨a9, rfl, t_hit2 (ci := 15) (ly := []) (R := (a9, fun _ => 0, fun _ => 0, z_r, z_l)) U.length C htab (by decide) (by decide) (by decide) x_Lw_47 nt_15_13 (by decide) (by decide) (by decide) x_Lw_19 rfl (by rw [List.getElem?_append_right (by rw [cw_len]; exact Nat.le_refl _), cw_len]; simp) rfl rfl ca_15 ?_⟩
      refine aw_drop ?_
      refine a_astore (lo' := [some (.ref (oa x0)), some (.int x1), some (.int x2), some (.int x3), some (.ref (oa x4)), some (.ref a9)]) C dc_Lw_sample_19 (by decide) rfl ?_
      refine a_iconst (v := 2) C dc_Lw_sample_21 (by decide) ?_
      refine aw_widen (nc' := 1) (ns' := 6) (Nat.le_of_ble_eq_true rfl) (Nat.le_of_ble_eq_true rfl) ?_
      exact a_iret (ty := .int) C hQ hA dc_Lw_sample_22 rfl rfl (Or.inl ⟨_, S9, hp, rfl, rfl⟩)
  refine Or.inl ⟨_, rfl, ?_⟩
  refine aw_eq (lo' := _) (st' := [.int v7, .int 0, .ref (oa x4)]) (L' := (cw lt_C U oa S7)) rfl rfl rfl ?_
  refine a_i2l C dc_Lw_sample_10 ?_
  have hc2 := hp.1
  have hp := hp.2
  refine c_last C x4 dc_Lw_sample_11 hc2 hp.1 ?_
  have hp := hp.2
  refine aw_eq (lo' := _) (st' := _) (L' := (cw lt_C U oa (S7.1, va_up S7.2.1 x4 (vp_updL (S7.2.1 x4) (0 : Int32).toNatClampNeg v7.toInt64), S7.2.2))) rfl rfl rfl ?_
  refine a_goto (tgt := 23) C dc_Lw_sample_12 (by decide) ?_
  refine a_iconst (v := 0) C dc_Lw_sample_23 (by decide) ?_
  refine aw_widen (nc' := 1) (ns' := 6) (Nat.le_of_ble_eq_true rfl) (Nat.le_of_ble_eq_true rfl) ?_
  exact a_iret (ty := .int) C hQ hA dc_Lw_sample_24 rfl rfl (Or.inl ⟨_, (S7.1, va_up S7.2.1 x4 (vp_updL (S7.2.1 x4) (0 : Int32).toNatClampNeg v7.toInt64), S7.2.2), hp, rfl, rfl⟩)
end C_Lw_sample
section C_Lw_samplec
variable {D : va_G} {z : Nat → ClassId} {U : ut} {oa : Nat → Nat}
set_option maxRecDepth 100000 in
theorem ct_Lw_sample {l : Launch} (x0 : Nat) (x1 : Int32) (x2 : Int32) (x3 : Int32) (x4 : Nat) (S : cs) {K : Int32 → cs → Prop} (hfl : l.flags = pinnedFlags ++ [noTraceFlag]) (hp : p_Lw_sample U x0 x1 x2 x3 x4 S K) : ctW gG D z l n_C_Lw_sample c_C_Lw_sample 6 (some .int) [(0, 12, 15, 47), (0, 12, 19, 19)] 10 1000 [.ref (oa x0), .int x1, .int x2, .int x3, .ref (oa x4)] (cw lt_C U oa S) 1 6 (pC_i lt_C U oa K (fun _ _ => False)) := by
  refine ct_ofW (lo := [some (.ref (oa x0)), some (.int x1), some (.int x2), some (.int x3), some (.ref (oa x4)), none]) (by decide) g_ok (Nat.le_of_ble_eq_true rfl) rfl ?_
  intro X A hl C hR hQ hA htab
  exact s_Lw_sample_0 C hQ hA hR htab (by rw [hl]; exact hfl) x0 x1 x2 x3 x4 S hp
end C_Lw_samplec
def p_Lw_level (U : ut) (x0 : Nat) (x1 : Int32) (x2 : Int32) (x3 : Int32) (x4 : Int32) (x5 : Nat) (S : cs) (K : Int32 → cs → Prop) : Prop :=
  c_cl U x0 = 1 ∧ (p_B_level U x0 x1 x2 x3 x4 S (fun v9 S9 => c_cl U x5 = 904 ∧ (vp_in 0 (c_ln U x5) ∧ (K 0 (S9.1, va_up S9.2.1 x5 (vp_updL (S9.2.1 x5) (0 : Int32).toNatClampNeg v9.toInt64), S9.2.2)))) (fun c9 S9 => (c9 = 14 ∧ (K 1 S9)) ∨ (c9 = 13 ∧ (K 2 S9)) ∨ (c9 = 15 ∧ (K 3 S9))))
section C_Lw_level
variable {D : va_G} {z : Nat → ClassId} {A : Nat → Prop} {X : cx} {L0 : fw} {U : ut} {oa : Nat → Nat} {K : Int32 → cs → Prop}
set_option maxRecDepth 100000 in
set_option maxHeartbeats 1000000 in
theorem s_Lw_level_0 (C : fcx gG D z A X R_Lw c_C_Lw_level 7 (some .int)) (hQ : X.2.2.2.2.2.2.2.2.2.2 = eQ gG D z X.2.2.2.2.2.2.2.1 X.2.2.2.2.1 L0 1 6 (pC_i lt_C U oa K (fun _ _ => False))) (hA : A = owA gG L0 X.2.2.2.2.1.heap.size) (hR : X.2.2.2.1 = { frames := 10, cells := 2, slots := 12, locals := 1000 }) (htab : X.2.2.2.2.2.2.2.2.2.1.exceptionTable.toList.map (fun h : ExceptionTableEntry => (h.startPc, h.endPc, h.handlerPc, h.catchType)) = [(0, 14, 17, 13), (0, 14, 21, 47), (0, 14, 25, 19)]) (hfl : X.2.1.flags = pinnedFlags ++ [noTraceFlag]) (x0 : Nat) (x1 : Int32) (x2 : Int32) (x3 : Int32) (x4 : Int32) (x5 : Nat) (S : cs) (hp : p_Lw_level U x0 x1 x2 x3 x4 x5 S K) : aw gG D z A X 7 0 [some (.ref (oa x0)), some (.int x1), some (.int x2), some (.int x3), some (.int x4), some (.ref (oa x5)), none] [] (cw lt_C U oa S) 0 0 := by
  unfold p_Lw_level at hp
  refine a_aload C dc_Lw_level_0 rfl ?_
  refine a_iconst (v := 0) C dc_Lw_level_2 (by decide) ?_
  refine a_aload_n C dc_Lw_level_3 rfl rfl ?_
  refine a_iload_n C dc_Lw_level_4 rfl rfl ?_
  refine a_iload_n C dc_Lw_level_5 rfl rfl ?_
  refine a_iload_n C dc_Lw_level_6 rfl rfl ?_
  refine a_iload C dc_Lw_level_7 rfl ?_
  have hc1 := hp.1
  have hp := hp.2
  refine c_callT (rest := [.int 0, .ref (oa x5)]) (av := .ref (oa x0) :: [.int x1, .int x2, .int x3, .int x4]) C dc_Lw_level_9 (ct_B_level x0 x1 x2 x3 x4 S hfl hc1 hp) cd_C_B_level i_B (Nat.le_of_ble_eq_true rfl) (by rw [hR]; exact Nat.le_of_ble_eq_true rfl) (by rw [hR]; exact Nat.le_of_ble_eq_true rfl) (by rw [hR]; exact Nat.le_of_ble_eq_true rfl) (by rw [hR]; exact Nat.le_of_ble_eq_true rfl) (inv_V C x0 dc_Lw_level_9 l_Lw_67 im_C_B_level se_C_B_level cd_C_B_level ⟨by decide, by decide⟩ ln_C_B_level rfl rfl (cw_obj hc1 rfl) rfl rfl) (fun oc L1 hL => ?_)
  rcases hL with ⟨v9, S9, hp, rfl, rfl⟩ | ⟨c9, a9, S9, hp, rfl, rfl⟩
  rotate_left
  · rcases hp with ⟨rfl, hp⟩ | ⟨rfl, hp⟩ | ⟨rfl, hp⟩
    · refine Or.inr ⟨a9, rfl, t_hit (ci := 14) (ly := []) (R := (a9, fun _ => 0, fun _ => 0, z_r, z_l)) U.length C htab  (by decide) (by decide) (by decide) x_Lw_13 rfl (by rw [List.getElem?_append_right (by rw [cw_len]; exact Nat.le_refl _), cw_len]; simp) rfl rfl ca_14 ?_⟩
      refine aw_drop ?_
      refine a_astore (lo' := [some (.ref (oa x0)), some (.int x1), some (.int x2), some (.int x3), some (.int x4), some (.ref (oa x5)), some (.ref a9)]) C dc_Lw_level_17 (by decide) rfl ?_
      refine a_iconst (v := 1) C dc_Lw_level_19 (by decide) ?_
      refine aw_widen (nc' := 1) (ns' := 6) (Nat.le_of_ble_eq_true rfl) (Nat.le_of_ble_eq_true rfl) ?_
      exact a_iret (ty := .int) C hQ hA dc_Lw_level_20 rfl rfl (Or.inl ⟨_, S9, hp, rfl, rfl⟩)
    · refine Or.inr ⟨a9, rfl, t_hit2 (ci := 13) (ly := []) (R := (a9, fun _ => 0, fun _ => 0, z_r, z_l)) U.length C htab (by decide) (by decide) (by decide) x_Lw_13 nt_13_14 (by decide) (by decide) (by decide) x_Lw_47 rfl (by rw [List.getElem?_append_right (by rw [cw_len]; exact Nat.le_refl _), cw_len]; simp) rfl rfl ca_13 ?_⟩
      refine aw_drop ?_
      refine a_astore (lo' := [some (.ref (oa x0)), some (.int x1), some (.int x2), some (.int x3), some (.int x4), some (.ref (oa x5)), some (.ref a9)]) C dc_Lw_level_21 (by decide) rfl ?_
      refine a_iconst (v := 2) C dc_Lw_level_23 (by decide) ?_
      refine aw_widen (nc' := 1) (ns' := 6) (Nat.le_of_ble_eq_true rfl) (Nat.le_of_ble_eq_true rfl) ?_
      exact a_iret (ty := .int) C hQ hA dc_Lw_level_24 rfl rfl (Or.inl ⟨_, S9, hp, rfl, rfl⟩)
    · refine Or.inr ⟨a9, rfl, t_hit3 (ci := 15) (ly := []) (R := (a9, fun _ => 0, fun _ => 0, z_r, z_l)) U.length C htab (by decide) (by decide) (by decide) x_Lw_13 nt_15_14 (by decide) (by decide) (by decide) x_Lw_47 nt_15_13 (by decide) (by decide) (by decide) x_Lw_19 rfl (by rw [List.getElem?_append_right (by rw [cw_len]; exact Nat.le_refl _), cw_len]; simp) rfl rfl ca_15 ?_⟩
      refine aw_drop ?_
      refine a_astore (lo' := [some (.ref (oa x0)), some (.int x1), some (.int x2), some (.int x3), some (.int x4), some (.ref (oa x5)), some (.ref a9)]) C dc_Lw_level_25 (by decide) rfl ?_
      refine a_iconst (v := 3) C dc_Lw_level_27 (by decide) ?_
      refine aw_widen (nc' := 1) (ns' := 6) (Nat.le_of_ble_eq_true rfl) (Nat.le_of_ble_eq_true rfl) ?_
      exact a_iret (ty := .int) C hQ hA dc_Lw_level_28 rfl rfl (Or.inl ⟨_, S9, hp, rfl, rfl⟩)
  refine Or.inl ⟨_, rfl, ?_⟩
  refine aw_eq (lo' := _) (st' := [.int v9, .int 0, .ref (oa x5)]) (L' := (cw lt_C U oa S9)) rfl rfl rfl ?_
  refine a_i2l C dc_Lw_level_12 ?_
  have hc2 := hp.1
  have hp := hp.2
  refine c_last C x5 dc_Lw_level_13 hc2 hp.1 ?_
  have hp := hp.2
  refine aw_eq (lo' := _) (st' := _) (L' := (cw lt_C U oa (S9.1, va_up S9.2.1 x5 (vp_updL (S9.2.1 x5) (0 : Int32).toNatClampNeg v9.toInt64), S9.2.2))) rfl rfl rfl ?_
  refine a_goto (tgt := 29) C dc_Lw_level_14 (by decide) ?_
  refine a_iconst (v := 0) C dc_Lw_level_29 (by decide) ?_
  refine aw_widen (nc' := 1) (ns' := 6) (Nat.le_of_ble_eq_true rfl) (Nat.le_of_ble_eq_true rfl) ?_
  exact a_iret (ty := .int) C hQ hA dc_Lw_level_30 rfl rfl (Or.inl ⟨_, (S9.1, va_up S9.2.1 x5 (vp_updL (S9.2.1 x5) (0 : Int32).toNatClampNeg v9.toInt64), S9.2.2), hp, rfl, rfl⟩)
end C_Lw_level
section C_Lw_levelc
variable {D : va_G} {z : Nat → ClassId} {U : ut} {oa : Nat → Nat}
set_option maxRecDepth 100000 in
theorem ct_Lw_level {l : Launch} (x0 : Nat) (x1 : Int32) (x2 : Int32) (x3 : Int32) (x4 : Int32) (x5 : Nat) (S : cs) {K : Int32 → cs → Prop} (hfl : l.flags = pinnedFlags ++ [noTraceFlag]) (hp : p_Lw_level U x0 x1 x2 x3 x4 x5 S K) : ctW gG D z l n_C_Lw_level c_C_Lw_level 7 (some .int) [(0, 14, 17, 13), (0, 14, 21, 47), (0, 14, 25, 19)] 10 1000 [.ref (oa x0), .int x1, .int x2, .int x3, .int x4, .ref (oa x5)] (cw lt_C U oa S) 1 6 (pC_i lt_C U oa K (fun _ _ => False)) := by
  refine ct_ofW (lo := [some (.ref (oa x0)), some (.int x1), some (.int x2), some (.int x3), some (.int x4), some (.ref (oa x5)), none]) (by decide) g_ok (Nat.le_of_ble_eq_true rfl) rfl ?_
  intro X A hl C hR hQ hA htab
  exact s_Lw_level_0 C hQ hA hR htab (by rw [hl]; exact hfl) x0 x1 x2 x3 x4 x5 S hp
end C_Lw_levelc
def p_Lw_take (U : ut) (x0 : Nat) (S : cs) (K : Int32 → cs → Prop) : Prop :=
  c_cl U x0 = 1 ∧ (p_B_take U x0 S (fun S1 => K 0 S1) (fun c9 S9 => (c9 = 13 ∧ (K 1 S9))))
section C_Lw_take
variable {D : va_G} {z : Nat → ClassId} {A : Nat → Prop} {X : cx} {L0 : fw} {U : ut} {oa : Nat → Nat} {K : Int32 → cs → Prop}
set_option maxRecDepth 100000 in
set_option maxHeartbeats 1000000 in
theorem s_Lw_take_0 (C : fcx gG D z A X R_Lw c_C_Lw_take 2 (some .int)) (hQ : X.2.2.2.2.2.2.2.2.2.2 = eQ gG D z X.2.2.2.2.2.2.2.1 X.2.2.2.2.1 L0 1 6 (pC_i lt_C U oa K (fun _ _ => False))) (hA : A = owA gG L0 X.2.2.2.2.1.heap.size) (hR : X.2.2.2.1 = { frames := 10, cells := 2, slots := 12, locals := 1000 }) (htab : X.2.2.2.2.2.2.2.2.2.1.exceptionTable.toList.map (fun h : ExceptionTableEntry => (h.startPc, h.endPc, h.handlerPc, h.catchType)) = [(0, 4, 7, 47)]) (hfl : X.2.1.flags = pinnedFlags ++ [noTraceFlag]) (x0 : Nat) (S : cs) (hp : p_Lw_take U x0 S K) : aw gG D z A X 2 0 [some (.ref (oa x0)), none] [] (cw lt_C U oa S) 0 0 := by
  unfold p_Lw_take at hp
  refine a_aload_n C dc_Lw_take_0 rfl rfl ?_
  have hc1 := hp.1
  have hp := hp.2
  refine c_callT (rest := []) (av := .ref (oa x0) :: []) C dc_Lw_take_1 (ct_B_take x0 S hfl hc1 hp) cd_C_B_take i_B (Nat.le_of_ble_eq_true rfl) (by rw [hR]; exact Nat.le_of_ble_eq_true rfl) (by rw [hR]; exact Nat.le_of_ble_eq_true rfl) (by rw [hR]; exact Nat.le_of_ble_eq_true rfl) (by rw [hR]; exact Nat.le_of_ble_eq_true rfl) (inv_V C x0 dc_Lw_take_1 l_Lw_71 im_C_B_take se_C_B_take cd_C_B_take ⟨by decide, by decide⟩ ln_C_B_take rfl rfl (cw_obj hc1 rfl) rfl rfl) (fun oc L1 hL => ?_)
  rcases hL with ⟨S1, hp, rfl, rfl⟩ | ⟨c9, a9, S9, hp, rfl, rfl⟩
  rotate_left
  · rcases hp with ⟨rfl, hp⟩
    · refine Or.inr ⟨a9, rfl, t_hit (ci := 13) (ly := []) (R := (a9, fun _ => 0, fun _ => 0, z_r, z_l)) U.length C htab  (by decide) (by decide) (by decide) x_Lw_47 rfl (by rw [List.getElem?_append_right (by rw [cw_len]; exact Nat.le_refl _), cw_len]; simp) rfl rfl ca_13 ?_⟩
      refine aw_drop ?_
      refine a_astore_n (lo' := [some (.ref (oa x0)), some (.ref a9)]) C dc_Lw_take_7 rfl (by decide) rfl ?_
      refine a_iconst (v := 1) C dc_Lw_take_8 (by decide) ?_
      refine aw_widen (nc' := 1) (ns' := 6) (Nat.le_of_ble_eq_true rfl) (Nat.le_of_ble_eq_true rfl) ?_
      exact a_iret (ty := .int) C hQ hA dc_Lw_take_9 rfl rfl (Or.inl ⟨_, S9, hp, rfl, rfl⟩)
  refine Or.inl ⟨_, rfl, ?_⟩
  refine aw_eq (lo' := _) (st' := []) (L' := (cw lt_C U oa S1)) rfl rfl rfl ?_
  refine a_goto (tgt := 10) C dc_Lw_take_4 (by decide) ?_
  refine a_iconst (v := 0) C dc_Lw_take_10 (by decide) ?_
  refine aw_widen (nc' := 1) (ns' := 6) (Nat.le_of_ble_eq_true rfl) (Nat.le_of_ble_eq_true rfl) ?_
  exact a_iret (ty := .int) C hQ hA dc_Lw_take_11 rfl rfl (Or.inl ⟨_, S1, hp, rfl, rfl⟩)
end C_Lw_take
section C_Lw_takec
variable {D : va_G} {z : Nat → ClassId} {U : ut} {oa : Nat → Nat}
set_option maxRecDepth 100000 in
theorem ct_Lw_take {l : Launch} (x0 : Nat) (S : cs) {K : Int32 → cs → Prop} (hfl : l.flags = pinnedFlags ++ [noTraceFlag]) (hp : p_Lw_take U x0 S K) : ctW gG D z l n_C_Lw_take c_C_Lw_take 2 (some .int) [(0, 4, 7, 47)] 10 1000 [.ref (oa x0)] (cw lt_C U oa S) 1 6 (pC_i lt_C U oa K (fun _ _ => False)) := by
  refine ct_ofW (lo := [some (.ref (oa x0)), none]) (by decide) g_ok (Nat.le_of_ble_eq_true rfl) rfl ?_
  intro X A hl C hR hQ hA htab
  exact s_Lw_take_0 C hQ hA hR htab (by rw [hl]; exact hfl) x0 S hp
end C_Lw_takec
