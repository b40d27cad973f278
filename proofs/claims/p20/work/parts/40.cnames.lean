/-! names and words of the class: printed by my program -/
set_option maxRecDepth 100000 in
theorem i_B : Cond.initialized R_B ∈ gG.1 := List.mem_append_right _ (List.mem_append_right _ (List.mem_append_left _ (List.mem_of_getElem? (i := 1) rfl)))
set_option maxRecDepth 100000 in
theorem i_Ca : Cond.initialized R_Ca ∈ gG.1 := List.mem_append_right _ (List.mem_append_right _ (List.mem_append_left _ (List.mem_of_getElem? (i := 2) rfl)))
set_option maxRecDepth 100000 in
theorem i_Co : Cond.initialized R_Co ∈ gG.1 := List.mem_append_right _ (List.mem_append_right _ (List.mem_append_left _ (List.mem_of_getElem? (i := 13) rfl)))
set_option maxRecDepth 100000 in
theorem i_Li : Cond.initialized R_Li ∈ gG.1 := List.mem_append_right _ (List.mem_append_right _ (List.mem_append_left _ (List.mem_of_getElem? (i := 9) rfl)))
set_option maxRecDepth 100000 in
theorem i_Oc : Cond.initialized R_Oc ∈ gG.1 := List.mem_append_right _ (List.mem_append_right _ (List.mem_append_left _ (List.mem_of_getElem? (i := 10) rfl)))
set_option maxRecDepth 100000 in
theorem i_Pa : Cond.initialized R_Pa ∈ gG.1 := List.mem_append_right _ (List.mem_append_right _ (List.mem_append_left _ (List.mem_of_getElem? (i := 3) rfl)))
set_option maxRecDepth 100000 in
theorem i_Pi : Cond.initialized R_Pi ∈ gG.1 := List.mem_append_right _ (List.mem_append_right _ (List.mem_append_left _ (List.mem_of_getElem? (i := 7) rfl)))
set_option maxRecDepth 100000 in
theorem i_Re : Cond.initialized R_Re ∈ gG.1 := List.mem_append_right _ (List.mem_append_right _ (List.mem_append_left _ (List.mem_of_getElem? (i := 12) rfl)))
set_option maxRecDepth 100000 in
theorem i_Ro : Cond.initialized R_Ro ∈ gG.1 := List.mem_append_right _ (List.mem_append_right _ (List.mem_append_left _ (List.mem_of_getElem? (i := 4) rfl)))
set_option maxRecDepth 100000 in
theorem i_Sc : Cond.initialized R_Sc ∈ gG.1 := List.mem_append_right _ (List.mem_append_right _ (List.mem_append_left _ (List.mem_of_getElem? (i := 8) rfl)))
set_option maxRecDepth 100000 in
theorem i_Un : Cond.initialized R_Un ∈ gG.1 := List.mem_append_right _ (List.mem_append_right _ (List.mem_append_left _ (List.mem_of_getElem? (i := 11) rfl)))
set_option maxRecDepth 100000 in
theorem i_Wa : Cond.initialized R_Wa ∈ gG.1 := List.mem_append_right _ (List.mem_append_right _ (List.mem_append_left _ (List.mem_of_getElem? (i := 6) rfl)))
def R_Ma : String := "java/lang/Math"
set_option maxRecDepth 100000 in
theorem i_Ma : Cond.initialized R_Ma ∈ gG.1 := List.mem_append_right _ (List.mem_append_right _ (List.mem_append_left _ (List.mem_of_getElem? (i := 5) rfl)))
def R_Ar : String := "java/util/Arrays"
set_option maxRecDepth 100000 in
theorem i_Ar : Cond.initialized R_Ar ∈ gG.1 := List.mem_append_right _ (List.mem_append_right _ (List.mem_append_left _ (List.mem_of_getElem? (i := 14) rfl)))
abbrev c_C_Ar_fillI : ByteArray := prog_31_method_103_code
def n_C_Ar_fillI : MethodName := ⟨R_Ar, "fill", "([II)V"⟩
set_option maxRecDepth 100000 in
theorem cd_C_Ar_fillI : Cond.code n_C_Ar_fillI c_C_Ar_fillI 4 (none) ∈ gG.1 := List.mem_append_right _ (List.mem_append_right _ (List.mem_append_right _ (List.mem_append_left _ (List.mem_of_getElem? (i := 237) rfl))))
theorem ln_C_Ar_fillI : (parseMethodDescriptor n_C_Ar_fillI.desc).map (fun d => d.parameters.length) = some 2 := by decide +kernel
set_option maxRecDepth 100000 in
theorem st_C_Ar_fillI : Cond.static n_C_Ar_fillI ∈ gG.1 := List.mem_append_right _ (List.mem_append_right _ (List.mem_append_right _ (List.mem_append_left _ (List.mem_of_getElem? (i := 236) rfl))))
abbrev c_C_B_isWithin : ByteArray := prog_1_method_21_code
def n_C_B_isWithin : MethodName := ⟨R_B, "isWithin", "(III)Z"⟩
set_option maxRecDepth 100000 in
theorem cd_C_B_isWithin : Cond.code n_C_B_isWithin c_C_B_isWithin 3 (some .boolean) ∈ gG.1 := List.mem_append_right _ (List.mem_append_right _ (List.mem_append_right _ (List.mem_append_right _ (List.mem_append_left _ (List.mem_of_getElem? (i := 154) rfl)))))
theorem ln_C_B_isWithin : (parseMethodDescriptor n_C_B_isWithin.desc).map (fun d => d.parameters.length) = some 3 := by decide +kernel
set_option maxRecDepth 100000 in
theorem st_C_B_isWithin : Cond.static n_C_B_isWithin ∈ gG.1 := List.mem_append_right _ (List.mem_append_right _ (List.mem_append_right _ (List.mem_append_right _ (List.mem_append_left _ (List.mem_of_getElem? (i := 153) rfl)))))
abbrev c_C_Ca_begin : ByteArray := prog_2_method_2_code
def n_C_Ca_begin : MethodName := ⟨R_Ca, "begin", "(III)V"⟩
set_option maxRecDepth 100000 in
theorem cd_C_Ca_begin : Cond.code n_C_Ca_begin c_C_Ca_begin 4 (none) ∈ gG.1 := List.mem_append_right _ (List.mem_append_right _ (List.mem_append_right _ (List.mem_append_right _ (List.mem_append_right _ (List.mem_append_left _ (List.mem_of_getElem? (i := 84) rfl))))))
theorem ln_C_Ca_begin : (parseMethodDescriptor n_C_Ca_begin.desc).map (fun d => d.parameters.length) = some 3 := by decide +kernel
set_option maxRecDepth 100000 in
theorem im_C_Ca_begin : Cond.instanceMethod n_C_Ca_begin ∈ gG.1 := List.mem_append_right _ (List.mem_append_right _ (List.mem_append_right _ (List.mem_append_right _ (List.mem_append_right _ (List.mem_append_left _ (List.mem_of_getElem? (i := 82) rfl))))))
set_option maxRecDepth 100000 in
theorem se_C_Ca_begin : Cond.selects R_Ca n_C_Ca_begin n_C_Ca_begin ∈ gG.1 := List.mem_append_right _ (List.mem_append_right _ (List.mem_append_right _ (List.mem_append_right _ (List.mem_append_right _ (List.mem_append_left _ (List.mem_of_getElem? (i := 83) rfl))))))
abbrev c_C_B_canvas : ByteArray := prog_1_method_2_code
def n_C_B_canvas : MethodName := ⟨R_B, "canvas", "(III)V"⟩
set_option maxRecDepth 100000 in
theorem cd_C_B_canvas : Cond.code n_C_B_canvas c_C_B_canvas 4 (none) ∈ gG.1 := List.mem_append_right _ (List.mem_append_right _ (List.mem_append_right _ (List.mem_append_right _ (List.mem_append_right _ (List.mem_append_left _ (List.mem_of_getElem? (i := 63) rfl))))))
theorem ln_C_B_canvas : (parseMethodDescriptor n_C_B_canvas.desc).map (fun d => d.parameters.length) = some 3 := by decide +kernel
set_option maxRecDepth 100000 in
theorem im_C_B_canvas : Cond.instanceMethod n_C_B_canvas ∈ gG.1 := List.mem_append_right _ (List.mem_append_right _ (List.mem_append_right _ (List.mem_append_right _ (List.mem_append_right _ (List.mem_append_left _ (List.mem_of_getElem? (i := 61) rfl))))))
set_option maxRecDepth 100000 in
theorem se_C_B_canvas : Cond.selects R_B n_C_B_canvas n_C_B_canvas ∈ gG.1 := List.mem_append_right _ (List.mem_append_right _ (List.mem_append_right _ (List.mem_append_right _ (List.mem_append_right _ (List.mem_append_left _ (List.mem_of_getElem? (i := 62) rfl))))))
abbrev c_C_Ca_holds : ByteArray := prog_2_method_3_code
def n_C_Ca_holds : MethodName := ⟨R_Ca, "holds", "(IIII)Z"⟩
set_option maxRecDepth 100000 in
theorem cd_C_Ca_holds : Cond.code n_C_Ca_holds c_C_Ca_holds 5 (some .boolean) ∈ gG.1 := List.mem_append_right _ (List.mem_append_right _ (List.mem_append_right _ (List.mem_append_right _ (List.mem_append_right _ (List.mem_append_left _ (List.mem_of_getElem? (i := 97) rfl))))))
theorem ln_C_Ca_holds : (parseMethodDescriptor n_C_Ca_holds.desc).map (fun d => d.parameters.length) = some 4 := by decide +kernel
set_option maxRecDepth 100000 in
theorem im_C_Ca_holds : Cond.instanceMethod n_C_Ca_holds ∈ gG.1 := List.mem_append_right _ (List.mem_append_right _ (List.mem_append_right _ (List.mem_append_right _ (List.mem_append_right _ (List.mem_append_left _ (List.mem_of_getElem? (i := 95) rfl))))))
set_option maxRecDepth 100000 in
theorem se_C_Ca_holds : Cond.selects R_Ca n_C_Ca_holds n_C_Ca_holds ∈ gG.1 := List.mem_append_right _ (List.mem_append_right _ (List.mem_append_right _ (List.mem_append_right _ (List.mem_append_right _ (List.mem_append_left _ (List.mem_of_getElem? (i := 96) rfl))))))
abbrev c_C_B_spot : ByteArray := prog_1_method_23_code
def n_C_B_spot : MethodName := ⟨R_B, "spot", "(III)I"⟩
set_option maxRecDepth 100000 in
theorem cd_C_B_spot : Cond.code n_C_B_spot c_C_B_spot 3 (some .int) ∈ gG.1 := List.mem_append_right _ (List.mem_append_right _ (List.mem_append_right _ (List.mem_append_right _ (List.mem_append_right _ (List.mem_append_left _ (List.mem_of_getElem? (i := 120) rfl))))))
theorem ln_C_B_spot : (parseMethodDescriptor n_C_B_spot.desc).map (fun d => d.parameters.length) = some 3 := by decide +kernel
set_option maxRecDepth 100000 in
theorem st_C_B_spot : Cond.static n_C_B_spot ∈ gG.1 := List.mem_append_right _ (List.mem_append_right _ (List.mem_append_right _ (List.mem_append_right _ (List.mem_append_right _ (List.mem_append_left _ (List.mem_of_getElem? (i := 119) rfl))))))
abbrev c_C_Ca_paint : ByteArray := prog_2_method_4_code
def n_C_Ca_paint : MethodName := ⟨R_Ca, "paint", "(IIIIII)V"⟩
set_option maxRecDepth 100000 in
theorem cd_C_Ca_paint : Cond.code n_C_Ca_paint c_C_Ca_paint 14 (none) ∈ gG.1 := List.mem_append_right _ (List.mem_append_right _ (List.mem_append_right _ (List.mem_append_right _ (List.mem_append_right _ (List.mem_append_left _ (List.mem_of_getElem? (i := 117) rfl))))))
theorem ln_C_Ca_paint : (parseMethodDescriptor n_C_Ca_paint.desc).map (fun d => d.parameters.length) = some 6 := by decide +kernel
set_option maxRecDepth 100000 in
theorem im_C_Ca_paint : Cond.instanceMethod n_C_Ca_paint ∈ gG.1 := List.mem_append_right _ (List.mem_append_right _ (List.mem_append_right _ (List.mem_append_right _ (List.mem_append_right _ (List.mem_append_left _ (List.mem_of_getElem? (i := 115) rfl))))))
set_option maxRecDepth 100000 in
theorem se_C_Ca_paint : Cond.selects R_Ca n_C_Ca_paint n_C_Ca_paint ∈ gG.1 := List.mem_append_right _ (List.mem_append_right _ (List.mem_append_right _ (List.mem_append_right _ (List.mem_append_right _ (List.mem_append_left _ (List.mem_of_getElem? (i := 116) rfl))))))
abbrev c_C_B_fill : ByteArray := prog_1_method_3_code
def n_C_B_fill : MethodName := ⟨R_B, "fill", "(IIIII)V"⟩
set_option maxRecDepth 100000 in
theorem cd_C_B_fill : Cond.code n_C_B_fill c_C_B_fill 6 (none) ∈ gG.1 := List.mem_append_right _ (List.mem_append_right _ (List.mem_append_right _ (List.mem_append_right _ (List.mem_append_right _ (List.mem_append_left _ (List.mem_of_getElem? (i := 93) rfl))))))
theorem ln_C_B_fill : (parseMethodDescriptor n_C_B_fill.desc).map (fun d => d.parameters.length) = some 5 := by decide +kernel
set_option maxRecDepth 100000 in
theorem im_C_B_fill : Cond.instanceMethod n_C_B_fill ∈ gG.1 := List.mem_append_right _ (List.mem_append_right _ (List.mem_append_right _ (List.mem_append_right _ (List.mem_append_right _ (List.mem_append_left _ (List.mem_of_getElem? (i := 91) rfl))))))
set_option maxRecDepth 100000 in
theorem se_C_B_fill : Cond.selects R_B n_C_B_fill n_C_B_fill ∈ gG.1 := List.mem_append_right _ (List.mem_append_right _ (List.mem_append_right _ (List.mem_append_right _ (List.mem_append_right _ (List.mem_append_left _ (List.mem_of_getElem? (i := 92) rfl))))))
abbrev c_C_B_slope : ByteArray := prog_1_method_4_code
def n_C_B_slope : MethodName := ⟨R_B, "slope", "(IIIIII)V"⟩
set_option maxRecDepth 100000 in
theorem cd_C_B_slope : Cond.code n_C_B_slope c_C_B_slope 7 (none) ∈ gG.1 := List.mem_append_right _ (List.mem_append_right _ (List.mem_append_right _ (List.mem_append_right _ (List.mem_append_right _ (List.mem_append_left _ (List.mem_of_getElem? (i := 127) rfl))))))
theorem ln_C_B_slope : (parseMethodDescriptor n_C_B_slope.desc).map (fun d => d.parameters.length) = some 6 := by decide +kernel
set_option maxRecDepth 100000 in
theorem im_C_B_slope : Cond.instanceMethod n_C_B_slope ∈ gG.1 := List.mem_append_right _ (List.mem_append_right _ (List.mem_append_right _ (List.mem_append_right _ (List.mem_append_right _ (List.mem_append_left _ (List.mem_of_getElem? (i := 125) rfl))))))
set_option maxRecDepth 100000 in
theorem se_C_B_slope : Cond.selects R_B n_C_B_slope n_C_B_slope ∈ gG.1 := List.mem_append_right _ (List.mem_append_right _ (List.mem_append_right _ (List.mem_append_right _ (List.mem_append_right _ (List.mem_append_left _ (List.mem_of_getElem? (i := 126) rfl))))))
abbrev c_C_B_at : ByteArray := prog_1_method_5_code
def n_C_B_at : MethodName := ⟨R_B, "at", "(III)I"⟩
set_option maxRecDepth 100000 in
theorem cd_C_B_at : Cond.code n_C_B_at c_C_B_at 4 (some .int) ∈ gG.1 := List.mem_append_right _ (List.mem_append_right _ (List.mem_append_right _ (List.mem_append_right _ (List.mem_append_right _ (List.mem_append_left _ (List.mem_of_getElem? (i := 134) rfl))))))
theorem ln_C_B_at : (parseMethodDescriptor n_C_B_at.desc).map (fun d => d.parameters.length) = some 3 := by decide +kernel
set_option maxRecDepth 100000 in
theorem im_C_B_at : Cond.instanceMethod n_C_B_at ∈ gG.1 := List.mem_append_right _ (List.mem_append_right _ (List.mem_append_right _ (List.mem_append_right _ (List.mem_append_right _ (List.mem_append_left _ (List.mem_of_getElem? (i := 132) rfl))))))
set_option maxRecDepth 100000 in
theorem se_C_B_at : Cond.selects R_B n_C_B_at n_C_B_at ∈ gG.1 := List.mem_append_right _ (List.mem_append_right _ (List.mem_append_right _ (List.mem_append_right _ (List.mem_append_right _ (List.mem_append_left _ (List.mem_of_getElem? (i := 133) rfl))))))
abbrev c_C_B_clamp : ByteArray := prog_1_method_22_code
def n_C_B_clamp : MethodName := ⟨R_B, "clamp", "(III)I"⟩
set_option maxRecDepth 100000 in
theorem cd_C_B_clamp : Cond.code n_C_B_clamp c_C_B_clamp 3 (some .int) ∈ gG.1 := List.mem_append_right _ (List.mem_append_right _ (List.mem_append_right _ (List.mem_append_right _ (List.mem_append_right _ (List.mem_append_left _ (List.mem_of_getElem? (i := 147) rfl))))))
theorem ln_C_B_clamp : (parseMethodDescriptor n_C_B_clamp.desc).map (fun d => d.parameters.length) = some 3 := by decide +kernel
set_option maxRecDepth 100000 in
theorem st_C_B_clamp : Cond.static n_C_B_clamp ∈ gG.1 := List.mem_append_right _ (List.mem_append_right _ (List.mem_append_right _ (List.mem_append_right _ (List.mem_append_right _ (List.mem_append_left _ (List.mem_of_getElem? (i := 146) rfl))))))
abbrev c_C_B_scale : ByteArray := prog_1_method_6_code
def n_C_B_scale : MethodName := ⟨R_B, "scale", "(III)V"⟩
set_option maxRecDepth 100000 in
theorem cd_C_B_scale : Cond.code n_C_B_scale c_C_B_scale 5 (none) ∈ gG.1 := List.mem_append_right _ (List.mem_append_right _ (List.mem_append_right _ (List.mem_append_right _ (List.mem_append_right _ (List.mem_append_left _ (List.mem_of_getElem? (i := 143) rfl))))))
theorem ln_C_B_scale : (parseMethodDescriptor n_C_B_scale.desc).map (fun d => d.parameters.length) = some 3 := by decide +kernel
set_option maxRecDepth 100000 in
theorem im_C_B_scale : Cond.instanceMethod n_C_B_scale ∈ gG.1 := List.mem_append_right _ (List.mem_append_right _ (List.mem_append_right _ (List.mem_append_right _ (List.mem_append_right _ (List.mem_append_left _ (List.mem_of_getElem? (i := 141) rfl))))))
set_option maxRecDepth 100000 in
theorem se_C_B_scale : Cond.selects R_B n_C_B_scale n_C_B_scale ∈ gG.1 := List.mem_append_right _ (List.mem_append_right _ (List.mem_append_right _ (List.mem_append_right _ (List.mem_append_right _ (List.mem_append_left _ (List.mem_of_getElem? (i := 142) rfl))))))
abbrev c_C_B_entry : ByteArray := prog_1_method_7_code
def n_C_B_entry : MethodName := ⟨R_B, "entry", "(IIII)V"⟩
set_option maxRecDepth 100000 in
theorem cd_C_B_entry : Cond.code n_C_B_entry c_C_B_entry 5 (none) ∈ gG.1 := List.mem_append_right _ (List.mem_append_right _ (List.mem_append_right _ (List.mem_append_right _ (List.mem_append_right _ (List.mem_append_left _ (List.mem_of_getElem? (i := 154) rfl))))))
theorem ln_C_B_entry : (parseMethodDescriptor n_C_B_entry.desc).map (fun d => d.parameters.length) = some 4 := by decide +kernel
set_option maxRecDepth 100000 in
theorem im_C_B_entry : Cond.instanceMethod n_C_B_entry ∈ gG.1 := List.mem_append_right _ (List.mem_append_right _ (List.mem_append_right _ (List.mem_append_right _ (List.mem_append_right _ (List.mem_append_left _ (List.mem_of_getElem? (i := 152) rfl))))))
set_option maxRecDepth 100000 in
theorem se_C_B_entry : Cond.selects R_B n_C_B_entry n_C_B_entry ∈ gG.1 := List.mem_append_right _ (List.mem_append_right _ (List.mem_append_right _ (List.mem_append_right _ (List.mem_append_right _ (List.mem_append_left _ (List.mem_of_getElem? (i := 153) rfl))))))
abbrev c_C_Pi_begin : ByteArray := prog_7_method_2_code
def n_C_Pi_begin : MethodName := ⟨R_Pi, "begin", "(III)V"⟩
set_option maxRecDepth 100000 in
theorem cd_C_Pi_begin : Cond.code n_C_Pi_begin c_C_Pi_begin 4 (none) ∈ gG.1 := List.mem_append_right _ (List.mem_append_right _ (List.mem_append_right _ (List.mem_append_right _ (List.mem_append_left _ (List.mem_of_getElem? (i := 166) rfl)))))
theorem ln_C_Pi_begin : (parseMethodDescriptor n_C_Pi_begin.desc).map (fun d => d.parameters.length) = some 3 := by decide +kernel
set_option maxRecDepth 100000 in
theorem im_C_Pi_begin : Cond.instanceMethod n_C_Pi_begin ∈ gG.1 := List.mem_append_right _ (List.mem_append_right _ (List.mem_append_right _ (List.mem_append_right _ (List.mem_append_left _ (List.mem_of_getElem? (i := 164) rfl)))))
set_option maxRecDepth 100000 in
theorem se_C_Pi_begin : Cond.selects R_Pi n_C_Pi_begin n_C_Pi_begin ∈ gG.1 := List.mem_append_right _ (List.mem_append_right _ (List.mem_append_right _ (List.mem_append_right _ (List.mem_append_left _ (List.mem_of_getElem? (i := 165) rfl)))))
abbrev c_C_Pi_setFactors : ByteArray := prog_7_method_3_code
def n_C_Pi_setFactors : MethodName := ⟨R_Pi, "setFactors", "(III)V"⟩
set_option maxRecDepth 100000 in
theorem cd_C_Pi_setFactors : Cond.code n_C_Pi_setFactors c_C_Pi_setFactors 4 (none) ∈ gG.1 := List.mem_append_right _ (List.mem_append_right _ (List.mem_append_right _ (List.mem_append_right _ (List.mem_append_left _ (List.mem_of_getElem? (i := 175) rfl)))))
theorem ln_C_Pi_setFactors : (parseMethodDescriptor n_C_Pi_setFactors.desc).map (fun d => d.parameters.length) = some 3 := by decide +kernel
set_option maxRecDepth 100000 in
theorem im_C_Pi_setFactors : Cond.instanceMethod n_C_Pi_setFactors ∈ gG.1 := List.mem_append_right _ (List.mem_append_right _ (List.mem_append_right _ (List.mem_append_right _ (List.mem_append_left _ (List.mem_of_getElem? (i := 173) rfl)))))
set_option maxRecDepth 100000 in
theorem se_C_Pi_setFactors : Cond.selects R_Pi n_C_Pi_setFactors n_C_Pi_setFactors ∈ gG.1 := List.mem_append_right _ (List.mem_append_right _ (List.mem_append_right _ (List.mem_append_right _ (List.mem_append_left _ (List.mem_of_getElem? (i := 174) rfl)))))
abbrev c_C_Pa_kindOf : ByteArray := prog_6_method_3_code
def n_C_Pa_kindOf : MethodName := ⟨R_Pa, "kindOf", "(I)I"⟩
set_option maxRecDepth 100000 in
theorem cd_C_Pa_kindOf : Cond.code n_C_Pa_kindOf c_C_Pa_kindOf 1 (some .int) ∈ gG.1 := List.mem_append_right _ (List.mem_append_right _ (List.mem_append_right _ (List.mem_append_right _ (List.mem_append_right _ (List.mem_append_left _ (List.mem_of_getElem? (i := 174) rfl))))))
theorem ln_C_Pa_kindOf : (parseMethodDescriptor n_C_Pa_kindOf.desc).map (fun d => d.parameters.length) = some 1 := by decide +kernel
set_option maxRecDepth 100000 in
theorem st_C_Pa_kindOf : Cond.static n_C_Pa_kindOf ∈ gG.1 := List.mem_append_right _ (List.mem_append_right _ (List.mem_append_right _ (List.mem_append_right _ (List.mem_append_right _ (List.mem_append_left _ (List.mem_of_getElem? (i := 173) rfl))))))
abbrev c_C_Sc_addLayer : ByteArray := prog_10_method_2_code
def n_C_Sc_addLayer : MethodName := ⟨R_Sc, "addLayer", "(III)V"⟩
set_option maxRecDepth 100000 in
theorem cd_C_Sc_addLayer : Cond.code n_C_Sc_addLayer c_C_Sc_addLayer 4 (none) ∈ gG.1 := List.mem_append_right _ (List.mem_append_right _ (List.mem_append_right _ (List.mem_append_right _ (List.mem_append_left _ (List.mem_of_getElem? (i := 198) rfl)))))
theorem ln_C_Sc_addLayer : (parseMethodDescriptor n_C_Sc_addLayer.desc).map (fun d => d.parameters.length) = some 3 := by decide +kernel
set_option maxRecDepth 100000 in
theorem im_C_Sc_addLayer : Cond.instanceMethod n_C_Sc_addLayer ∈ gG.1 := List.mem_append_right _ (List.mem_append_right _ (List.mem_append_right _ (List.mem_append_right _ (List.mem_append_left _ (List.mem_of_getElem? (i := 196) rfl)))))
set_option maxRecDepth 100000 in
theorem se_C_Sc_addLayer : Cond.selects R_Sc n_C_Sc_addLayer n_C_Sc_addLayer ∈ gG.1 := List.mem_append_right _ (List.mem_append_right _ (List.mem_append_right _ (List.mem_append_right _ (List.mem_append_left _ (List.mem_of_getElem? (i := 197) rfl)))))
abbrev c_C_Pi_upward : ByteArray := prog_7_method_5_code
def n_C_Pi_upward : MethodName := ⟨R_Pi, "upward", "(II)I"⟩
set_option maxRecDepth 100000 in
theorem cd_C_Pi_upward : Cond.code n_C_Pi_upward c_C_Pi_upward 2 (some .int) ∈ gG.1 := List.mem_append_right _ (List.mem_append_right _ (List.mem_append_right _ (List.mem_append_right _ (List.mem_append_left _ (List.mem_of_getElem? (i := 183) rfl)))))
theorem ln_C_Pi_upward : (parseMethodDescriptor n_C_Pi_upward.desc).map (fun d => d.parameters.length) = some 2 := by decide +kernel
set_option maxRecDepth 100000 in
theorem st_C_Pi_upward : Cond.static n_C_Pi_upward ∈ gG.1 := List.mem_append_right _ (List.mem_append_right _ (List.mem_append_right _ (List.mem_append_right _ (List.mem_append_left _ (List.mem_of_getElem? (i := 182) rfl)))))
abbrev c_C_Pi_measure : ByteArray := prog_7_method_4_code
def n_C_Pi_measure : MethodName := ⟨R_Pi, "measure", "()V"⟩
set_option maxRecDepth 100000 in
theorem cd_C_Pi_measure : Cond.code n_C_Pi_measure c_C_Pi_measure 2 (none) ∈ gG.1 := List.mem_append_right _ (List.mem_append_right _ (List.mem_append_right _ (List.mem_append_right _ (List.mem_append_left _ (List.mem_of_getElem? (i := 180) rfl)))))
theorem ln_C_Pi_measure : (parseMethodDescriptor n_C_Pi_measure.desc).map (fun d => d.parameters.length) = some 0 := by decide +kernel
set_option maxRecDepth 100000 in
theorem im_C_Pi_measure : Cond.instanceMethod n_C_Pi_measure ∈ gG.1 := List.mem_append_right _ (List.mem_append_right _ (List.mem_append_right _ (List.mem_append_right _ (List.mem_append_left _ (List.mem_of_getElem? (i := 178) rfl)))))
set_option maxRecDepth 100000 in
theorem se_C_Pi_measure : Cond.selects R_Pi n_C_Pi_measure n_C_Pi_measure ∈ gG.1 := List.mem_append_right _ (List.mem_append_right _ (List.mem_append_right _ (List.mem_append_right _ (List.mem_append_left _ (List.mem_of_getElem? (i := 179) rfl)))))
abbrev c_C_Sc_addBlock : ByteArray := prog_10_method_8_code
def n_C_Sc_addBlock : MethodName := ⟨R_Sc, "addBlock", "(II)V"⟩
set_option maxRecDepth 100000 in
theorem cd_C_Sc_addBlock : Cond.code n_C_Sc_addBlock c_C_Sc_addBlock 3 (none) ∈ gG.1 := List.mem_append_right _ (List.mem_append_right _ (List.mem_append_right _ (List.mem_append_right _ (List.mem_append_left _ (List.mem_of_getElem? (i := 214) rfl)))))
theorem ln_C_Sc_addBlock : (parseMethodDescriptor n_C_Sc_addBlock.desc).map (fun d => d.parameters.length) = some 2 := by decide +kernel
set_option maxRecDepth 100000 in
theorem im_C_Sc_addBlock : Cond.instanceMethod n_C_Sc_addBlock ∈ gG.1 := List.mem_append_right _ (List.mem_append_right _ (List.mem_append_right _ (List.mem_append_right _ (List.mem_append_left _ (List.mem_of_getElem? (i := 213) rfl)))))
theorem se_C_Sc_addBlock : Cond.selects R_Sc n_C_Sc_addBlock n_C_Sc_addBlock ∈ gG.1 := List.mem_append_right _ (List.mem_append_left _ (by decide +kernel))
abbrev c_C_Sc_arrangeAlone : ByteArray := prog_10_method_5_code
def n_C_Sc_arrangeAlone : MethodName := ⟨R_Sc, "arrangeAlone", "(LBlockPicture$Picture;I)V"⟩
set_option maxRecDepth 100000 in
theorem cd_C_Sc_arrangeAlone : Cond.code n_C_Sc_arrangeAlone c_C_Sc_arrangeAlone 5 (none) ∈ gG.1 := List.mem_append_right _ (List.mem_append_right _ (List.mem_append_right _ (List.mem_append_right _ (List.mem_append_left _ (List.mem_of_getElem? (i := 210) rfl)))))
theorem ln_C_Sc_arrangeAlone : (parseMethodDescriptor n_C_Sc_arrangeAlone.desc).map (fun d => d.parameters.length) = some 2 := by decide +kernel
set_option maxRecDepth 100000 in
theorem im_C_Sc_arrangeAlone : Cond.instanceMethod n_C_Sc_arrangeAlone ∈ gG.1 := List.mem_append_right _ (List.mem_append_right _ (List.mem_append_right _ (List.mem_append_right _ (List.mem_append_left _ (List.mem_of_getElem? (i := 209) rfl)))))
theorem se_C_Sc_arrangeAlone : Cond.selects R_Sc n_C_Sc_arrangeAlone n_C_Sc_arrangeAlone ∈ gG.1 := List.mem_append_right _ (List.mem_append_left _ (by decide +kernel))
abbrev c_C_Sc_blocksTogether : ByteArray := prog_10_method_3_code
def n_C_Sc_blocksTogether : MethodName := ⟨R_Sc, "blocksTogether", "(LBlockPicture$Picture;)I"⟩
set_option maxRecDepth 100000 in
theorem cd_C_Sc_blocksTogether : Cond.code n_C_Sc_blocksTogether c_C_Sc_blocksTogether 4 (some .int) ∈ gG.1 := List.mem_append_right _ (List.mem_append_right _ (List.mem_append_right _ (List.mem_append_right _ (List.mem_append_left _ (List.mem_of_getElem? (i := 202) rfl)))))
theorem ln_C_Sc_blocksTogether : (parseMethodDescriptor n_C_Sc_blocksTogether.desc).map (fun d => d.parameters.length) = some 1 := by decide +kernel
set_option maxRecDepth 100000 in
theorem im_C_Sc_blocksTogether : Cond.instanceMethod n_C_Sc_blocksTogether ∈ gG.1 := List.mem_append_right _ (List.mem_append_right _ (List.mem_append_right _ (List.mem_append_right _ (List.mem_append_left _ (List.mem_of_getElem? (i := 200) rfl)))))
set_option maxRecDepth 100000 in
theorem se_C_Sc_blocksTogether : Cond.selects R_Sc n_C_Sc_blocksTogether n_C_Sc_blocksTogether ∈ gG.1 := List.mem_append_right _ (List.mem_append_right _ (List.mem_append_right _ (List.mem_append_right _ (List.mem_append_left _ (List.mem_of_getElem? (i := 201) rfl)))))
abbrev c_C_Sc_addStretch : ByteArray := prog_10_method_7_code
def n_C_Sc_addStretch : MethodName := ⟨R_Sc, "addStretch", "(LBlockPicture$Picture;III)V"⟩
set_option maxRecDepth 100000 in
theorem cd_C_Sc_addStretch : Cond.code n_C_Sc_addStretch c_C_Sc_addStretch 9 (none) ∈ gG.1 := List.mem_append_right _ (List.mem_append_right _ (List.mem_append_right _ (List.mem_append_right _ (List.mem_append_left _ (List.mem_of_getElem? (i := 223) rfl)))))
theorem ln_C_Sc_addStretch : (parseMethodDescriptor n_C_Sc_addStretch.desc).map (fun d => d.parameters.length) = some 4 := by decide +kernel
set_option maxRecDepth 100000 in
theorem im_C_Sc_addStretch : Cond.instanceMethod n_C_Sc_addStretch ∈ gG.1 := List.mem_append_right _ (List.mem_append_right _ (List.mem_append_right _ (List.mem_append_right _ (List.mem_append_left _ (List.mem_of_getElem? (i := 222) rfl)))))
theorem se_C_Sc_addStretch : Cond.selects R_Sc n_C_Sc_addStretch n_C_Sc_addStretch ∈ gG.1 := List.mem_append_right _ (List.mem_append_left _ (by decide +kernel))
abbrev c_C_Sc_arrangeTogether : ByteArray := prog_10_method_6_code
def n_C_Sc_arrangeTogether : MethodName := ⟨R_Sc, "arrangeTogether", "(LBlockPicture$Picture;)V"⟩
set_option maxRecDepth 100000 in
theorem cd_C_Sc_arrangeTogether : Cond.code n_C_Sc_arrangeTogether c_C_Sc_arrangeTogether 5 (none) ∈ gG.1 := List.mem_append_right _ (List.mem_append_right _ (List.mem_append_right _ (List.mem_append_right _ (List.mem_append_left _ (List.mem_of_getElem? (i := 219) rfl)))))
theorem ln_C_Sc_arrangeTogether : (parseMethodDescriptor n_C_Sc_arrangeTogether.desc).map (fun d => d.parameters.length) = some 1 := by decide +kernel
set_option maxRecDepth 100000 in
theorem im_C_Sc_arrangeTogether : Cond.instanceMethod n_C_Sc_arrangeTogether ∈ gG.1 := List.mem_append_right _ (List.mem_append_right _ (List.mem_append_right _ (List.mem_append_right _ (List.mem_append_left _ (List.mem_of_getElem? (i := 218) rfl)))))
theorem se_C_Sc_arrangeTogether : Cond.selects R_Sc n_C_Sc_arrangeTogether n_C_Sc_arrangeTogether ∈ gG.1 := List.mem_append_right _ (List.mem_append_left _ (by decide +kernel))
abbrev c_C_Sc_arrange : ByteArray := prog_10_method_4_code
def n_C_Sc_arrange : MethodName := ⟨R_Sc, "arrange", "(LBlockPicture$Picture;)V"⟩
set_option maxRecDepth 100000 in
theorem cd_C_Sc_arrange : Cond.code n_C_Sc_arrange c_C_Sc_arrange 2 (none) ∈ gG.1 := List.mem_append_right _ (List.mem_append_right _ (List.mem_append_right _ (List.mem_append_right _ (List.mem_append_left _ (List.mem_of_getElem? (i := 206) rfl)))))
theorem ln_C_Sc_arrange : (parseMethodDescriptor n_C_Sc_arrange.desc).map (fun d => d.parameters.length) = some 1 := by decide +kernel
set_option maxRecDepth 100000 in
theorem im_C_Sc_arrange : Cond.instanceMethod n_C_Sc_arrange ∈ gG.1 := List.mem_append_right _ (List.mem_append_right _ (List.mem_append_right _ (List.mem_append_right _ (List.mem_append_left _ (List.mem_of_getElem? (i := 204) rfl)))))
set_option maxRecDepth 100000 in
theorem se_C_Sc_arrange : Cond.selects R_Sc n_C_Sc_arrange n_C_Sc_arrange ∈ gG.1 := List.mem_append_right _ (List.mem_append_right _ (List.mem_append_right _ (List.mem_append_right _ (List.mem_append_left _ (List.mem_of_getElem? (i := 205) rfl)))))
abbrev c_C_Ca_kind : ByteArray := prog_2_method_5_code
def n_C_Ca_kind : MethodName := ⟨R_Ca, "kind", "(III)I"⟩
set_option maxRecDepth 100000 in
theorem cd_C_Ca_kind : Cond.code n_C_Ca_kind c_C_Ca_kind 8 (some .int) ∈ gG.1 := List.mem_append_right _ (List.mem_append_right _ (List.mem_append_right _ (List.mem_append_right _ (List.mem_append_right _ (List.mem_append_left _ (List.mem_of_getElem? (i := 188) rfl))))))
theorem ln_C_Ca_kind : (parseMethodDescriptor n_C_Ca_kind.desc).map (fun d => d.parameters.length) = some 3 := by decide +kernel
set_option maxRecDepth 100000 in
theorem im_C_Ca_kind : Cond.instanceMethod n_C_Ca_kind ∈ gG.1 := List.mem_append_right _ (List.mem_append_right _ (List.mem_append_right _ (List.mem_append_right _ (List.mem_append_right _ (List.mem_append_left _ (List.mem_of_getElem? (i := 186) rfl))))))
set_option maxRecDepth 100000 in
theorem se_C_Ca_kind : Cond.selects R_Ca n_C_Ca_kind n_C_Ca_kind ∈ gG.1 := List.mem_append_right _ (List.mem_append_right _ (List.mem_append_right _ (List.mem_append_right _ (List.mem_append_right _ (List.mem_append_left _ (List.mem_of_getElem? (i := 187) rfl))))))
abbrev c_C_Pa_makeLayer : ByteArray := prog_6_method_4_code
def n_C_Pa_makeLayer : MethodName := ⟨R_Pa, "makeLayer", "(LBlockPicture$Canvas;I)V"⟩
set_option maxRecDepth 100000 in
theorem cd_C_Pa_makeLayer : Cond.code n_C_Pa_makeLayer c_C_Pa_makeLayer 9 (none) ∈ gG.1 := List.mem_append_right _ (List.mem_append_right _ (List.mem_append_right _ (List.mem_append_right _ (List.mem_append_right _ (List.mem_append_left _ (List.mem_of_getElem? (i := 181) rfl))))))
theorem ln_C_Pa_makeLayer : (parseMethodDescriptor n_C_Pa_makeLayer.desc).map (fun d => d.parameters.length) = some 2 := by decide +kernel
set_option maxRecDepth 100000 in
theorem im_C_Pa_makeLayer : Cond.instanceMethod n_C_Pa_makeLayer ∈ gG.1 := List.mem_append_right _ (List.mem_append_right _ (List.mem_append_right _ (List.mem_append_right _ (List.mem_append_right _ (List.mem_append_left _ (List.mem_of_getElem? (i := 180) rfl))))))
theorem se_C_Pa_makeLayer : Cond.selects R_Pa n_C_Pa_makeLayer n_C_Pa_makeLayer ∈ gG.1 := List.mem_append_right _ (List.mem_append_left _ (by decide +kernel))
abbrev c_C_Wa_makeWeights : ByteArray := prog_12_method_3_code
def n_C_Wa_makeWeights : MethodName := ⟨R_Wa, "makeWeights", "()V"⟩
set_option maxRecDepth 100000 in
theorem cd_C_Wa_makeWeights : Cond.code n_C_Wa_makeWeights c_C_Wa_makeWeights 6 (none) ∈ gG.1 := List.mem_append_right _ (List.mem_append_right _ (List.mem_append_right _ (List.mem_append_right _ (List.mem_append_right _ (List.mem_append_left _ (List.mem_of_getElem? (i := 201) rfl))))))
theorem ln_C_Wa_makeWeights : (parseMethodDescriptor n_C_Wa_makeWeights.desc).map (fun d => d.parameters.length) = some 0 := by decide +kernel
set_option maxRecDepth 100000 in
theorem im_C_Wa_makeWeights : Cond.instanceMethod n_C_Wa_makeWeights ∈ gG.1 := List.mem_append_right _ (List.mem_append_right _ (List.mem_append_right _ (List.mem_append_right _ (List.mem_append_right _ (List.mem_append_left _ (List.mem_of_getElem? (i := 199) rfl))))))
set_option maxRecDepth 100000 in
theorem se_C_Wa_makeWeights : Cond.selects R_Wa n_C_Wa_makeWeights n_C_Wa_makeWeights ∈ gG.1 := List.mem_append_right _ (List.mem_append_right _ (List.mem_append_right _ (List.mem_append_right _ (List.mem_append_right _ (List.mem_append_left _ (List.mem_of_getElem? (i := 200) rfl))))))
abbrev c_C_Pa_makeBlock : ByteArray := prog_6_method_5_code
def n_C_Pa_makeBlock : MethodName := ⟨R_Pa, "makeBlock", "(I[I)V"⟩
set_option maxRecDepth 100000 in
theorem cd_C_Pa_makeBlock : Cond.code n_C_Pa_makeBlock c_C_Pa_makeBlock 13 (none) ∈ gG.1 := List.mem_append_right _ (List.mem_append_right _ (List.mem_append_right _ (List.mem_append_right _ (List.mem_append_right _ (List.mem_append_left _ (List.mem_of_getElem? (i := 196) rfl))))))
theorem ln_C_Pa_makeBlock : (parseMethodDescriptor n_C_Pa_makeBlock.desc).map (fun d => d.parameters.length) = some 2 := by decide +kernel
set_option maxRecDepth 100000 in
theorem im_C_Pa_makeBlock : Cond.instanceMethod n_C_Pa_makeBlock ∈ gG.1 := List.mem_append_right _ (List.mem_append_right _ (List.mem_append_right _ (List.mem_append_right _ (List.mem_append_right _ (List.mem_append_left _ (List.mem_of_getElem? (i := 195) rfl))))))
theorem se_C_Pa_makeBlock : Cond.selects R_Pa n_C_Pa_makeBlock n_C_Pa_makeBlock ∈ gG.1 := List.mem_append_right _ (List.mem_append_left _ (by decide +kernel))
abbrev c_C_Pa_makeLevels : ByteArray := prog_6_method_2_code
def n_C_Pa_makeLevels : MethodName := ⟨R_Pa, "makeLevels", "(LBlockPicture$Canvas;[III)V"⟩
set_option maxRecDepth 100000 in
theorem cd_C_Pa_makeLevels : Cond.code n_C_Pa_makeLevels c_C_Pa_makeLevels 7 (none) ∈ gG.1 := List.mem_append_right _ (List.mem_append_right _ (List.mem_append_right _ (List.mem_append_right _ (List.mem_append_right _ (List.mem_append_left _ (List.mem_of_getElem? (i := 169) rfl))))))
theorem ln_C_Pa_makeLevels : (parseMethodDescriptor n_C_Pa_makeLevels.desc).map (fun d => d.parameters.length) = some 4 := by decide +kernel
set_option maxRecDepth 100000 in
theorem im_C_Pa_makeLevels : Cond.instanceMethod n_C_Pa_makeLevels ∈ gG.1 := List.mem_append_right _ (List.mem_append_right _ (List.mem_append_right _ (List.mem_append_right _ (List.mem_append_right _ (List.mem_append_left _ (List.mem_of_getElem? (i := 167) rfl))))))
set_option maxRecDepth 100000 in
theorem se_C_Pa_makeLevels : Cond.selects R_Pa n_C_Pa_makeLevels n_C_Pa_makeLevels ∈ gG.1 := List.mem_append_right _ (List.mem_append_right _ (List.mem_append_right _ (List.mem_append_right _ (List.mem_append_right _ (List.mem_append_left _ (List.mem_of_getElem? (i := 168) rfl))))))
abbrev c_C_Oc_begin : ByteArray := prog_5_method_2_code
def n_C_Oc_begin : MethodName := ⟨R_Oc, "begin", "()V"⟩
set_option maxRecDepth 100000 in
theorem cd_C_Oc_begin : Cond.code n_C_Oc_begin c_C_Oc_begin 1 (none) ∈ gG.1 := List.mem_append_right _ (List.mem_append_right _ (List.mem_append_right _ (List.mem_append_right _ (List.mem_append_right _ (List.mem_append_left _ (List.mem_of_getElem? (i := 215) rfl))))))
theorem ln_C_Oc_begin : (parseMethodDescriptor n_C_Oc_begin.desc).map (fun d => d.parameters.length) = some 0 := by decide +kernel
set_option maxRecDepth 100000 in
theorem im_C_Oc_begin : Cond.instanceMethod n_C_Oc_begin ∈ gG.1 := List.mem_append_right _ (List.mem_append_right _ (List.mem_append_right _ (List.mem_append_right _ (List.mem_append_right _ (List.mem_append_left _ (List.mem_of_getElem? (i := 213) rfl))))))
set_option maxRecDepth 100000 in
theorem se_C_Oc_begin : Cond.selects R_Oc n_C_Oc_begin n_C_Oc_begin ∈ gG.1 := List.mem_append_right _ (List.mem_append_right _ (List.mem_append_right _ (List.mem_append_right _ (List.mem_append_right _ (List.mem_append_left _ (List.mem_of_getElem? (i := 214) rfl))))))
abbrev c_C_Ro_add : ByteArray := prog_9_method_3_code
def n_C_Ro_add : MethodName := ⟨R_Ro, "add", "(I)V"⟩
set_option maxRecDepth 100000 in
theorem cd_C_Ro_add : Cond.code n_C_Ro_add c_C_Ro_add 2 (none) ∈ gG.1 := List.mem_append_right _ (List.mem_append_right _ (List.mem_append_right _ (List.mem_append_right _ (List.mem_append_right _ (List.mem_append_left _ (List.mem_of_getElem? (i := 237) rfl))))))
theorem ln_C_Ro_add : (parseMethodDescriptor n_C_Ro_add.desc).map (fun d => d.parameters.length) = some 1 := by decide +kernel
set_option maxRecDepth 100000 in
theorem im_C_Ro_add : Cond.instanceMethod n_C_Ro_add ∈ gG.1 := List.mem_append_right _ (List.mem_append_right _ (List.mem_append_right _ (List.mem_append_right _ (List.mem_append_right _ (List.mem_append_left _ (List.mem_of_getElem? (i := 235) rfl))))))
set_option maxRecDepth 100000 in
theorem se_C_Ro_add : Cond.selects R_Ro n_C_Ro_add n_C_Ro_add ∈ gG.1 := List.mem_append_right _ (List.mem_append_right _ (List.mem_append_right _ (List.mem_append_right _ (List.mem_append_right _ (List.mem_append_left _ (List.mem_of_getElem? (i := 236) rfl))))))
abbrev c_C_Pa_writeBits : ByteArray := prog_6_method_19_code
def n_C_Pa_writeBits : MethodName := ⟨R_Pa, "writeBits", "(II)V"⟩
set_option maxRecDepth 100000 in
theorem cd_C_Pa_writeBits : Cond.code n_C_Pa_writeBits c_C_Pa_writeBits 4 (none) ∈ gG.1 := List.mem_append_right _ (List.mem_append_right _ (List.mem_append_right _ (List.mem_append_right _ (List.mem_append_right _ (List.mem_append_left _ (List.mem_of_getElem? (i := 233) rfl))))))
theorem ln_C_Pa_writeBits : (parseMethodDescriptor n_C_Pa_writeBits.desc).map (fun d => d.parameters.length) = some 2 := by decide +kernel
set_option maxRecDepth 100000 in
theorem im_C_Pa_writeBits : Cond.instanceMethod n_C_Pa_writeBits ∈ gG.1 := List.mem_append_right _ (List.mem_append_right _ (List.mem_append_right _ (List.mem_append_right _ (List.mem_append_right _ (List.mem_append_left _ (List.mem_of_getElem? (i := 232) rfl))))))
theorem se_C_Pa_writeBits : Cond.selects R_Pa n_C_Pa_writeBits n_C_Pa_writeBits ∈ gG.1 := List.mem_append_right _ (List.mem_append_left _ (by decide +kernel))
abbrev c_C_Pa_fillByte : ByteArray := prog_6_method_20_code
def n_C_Pa_fillByte : MethodName := ⟨R_Pa, "fillByte", "()V"⟩
set_option maxRecDepth 100000 in
theorem cd_C_Pa_fillByte : Cond.code n_C_Pa_fillByte c_C_Pa_fillByte 1 (none) ∈ gG.1 := List.mem_append_right _ (List.mem_append_right _ (List.mem_append_right _ (List.mem_append_right _ (List.mem_append_right _ (List.mem_append_left _ (List.mem_of_getElem? (i := 229) rfl))))))
theorem ln_C_Pa_fillByte : (parseMethodDescriptor n_C_Pa_fillByte.desc).map (fun d => d.parameters.length) = some 0 := by decide +kernel
set_option maxRecDepth 100000 in
theorem im_C_Pa_fillByte : Cond.instanceMethod n_C_Pa_fillByte ∈ gG.1 := List.mem_append_right _ (List.mem_append_right _ (List.mem_append_right _ (List.mem_append_right _ (List.mem_append_right _ (List.mem_append_left _ (List.mem_of_getElem? (i := 228) rfl))))))
theorem se_C_Pa_fillByte : Cond.selects R_Pa n_C_Pa_fillByte n_C_Pa_fillByte ∈ gG.1 := List.mem_append_right _ (List.mem_append_left _ (by decide +kernel))
abbrev c_C_Pa_addMark : ByteArray := prog_6_method_8_code
def n_C_Pa_addMark : MethodName := ⟨R_Pa, "addMark", "(I)V"⟩
set_option maxRecDepth 100000 in
theorem cd_C_Pa_addMark : Cond.code n_C_Pa_addMark c_C_Pa_addMark 2 (none) ∈ gG.1 := List.mem_append_right _ (List.mem_append_right _ (List.mem_append_right _ (List.mem_append_right _ (List.mem_append_right _ (List.mem_append_right _ (List.mem_append_left _ (List.mem_of_getElem? (i := 1) rfl)))))))
theorem ln_C_Pa_addMark : (parseMethodDescriptor n_C_Pa_addMark.desc).map (fun d => d.parameters.length) = some 1 := by decide +kernel
set_option maxRecDepth 100000 in
theorem im_C_Pa_addMark : Cond.instanceMethod n_C_Pa_addMark ∈ gG.1 := List.mem_append_right _ (List.mem_append_right _ (List.mem_append_right _ (List.mem_append_right _ (List.mem_append_right _ (List.mem_append_right _ (List.mem_append_left _ (List.mem_of_getElem? (i := 0) rfl)))))))
theorem se_C_Pa_addMark : Cond.selects R_Pa n_C_Pa_addMark n_C_Pa_addMark ∈ gG.1 := List.mem_append_right _ (List.mem_append_left _ (by decide +kernel))
abbrev c_C_Pa_writeAgain : ByteArray := prog_6_method_15_code
def n_C_Pa_writeAgain : MethodName := ⟨R_Pa, "writeAgain", "(I)V"⟩
set_option maxRecDepth 100000 in
theorem cd_C_Pa_writeAgain : Cond.code n_C_Pa_writeAgain c_C_Pa_writeAgain 2 (none) ∈ gG.1 := List.mem_append_right _ (List.mem_append_right _ (List.mem_append_right _ (List.mem_append_right _ (List.mem_append_right _ (List.mem_append_left _ (List.mem_of_getElem? (i := 225) rfl))))))
theorem ln_C_Pa_writeAgain : (parseMethodDescriptor n_C_Pa_writeAgain.desc).map (fun d => d.parameters.length) = some 1 := by decide +kernel
set_option maxRecDepth 100000 in
theorem im_C_Pa_writeAgain : Cond.instanceMethod n_C_Pa_writeAgain ∈ gG.1 := List.mem_append_right _ (List.mem_append_right _ (List.mem_append_right _ (List.mem_append_right _ (List.mem_append_right _ (List.mem_append_left _ (List.mem_of_getElem? (i := 224) rfl))))))
theorem se_C_Pa_writeAgain : Cond.selects R_Pa n_C_Pa_writeAgain n_C_Pa_writeAgain ∈ gG.1 := List.mem_append_right _ (List.mem_append_left _ (by decide +kernel))
abbrev c_C_Pa_bitsOf : ByteArray := prog_6_method_17_code
def n_C_Pa_bitsOf : MethodName := ⟨R_Pa, "bitsOf", "(I)I"⟩
set_option maxRecDepth 100000 in
theorem cd_C_Pa_bitsOf : Cond.code n_C_Pa_bitsOf c_C_Pa_bitsOf 3 (some .int) ∈ gG.1 := List.mem_append_right _ (List.mem_append_right _ (List.mem_append_right _ (List.mem_append_right _ (List.mem_append_right _ (List.mem_append_right _ (List.mem_append_left _ (List.mem_of_getElem? (i := 8) rfl)))))))
theorem ln_C_Pa_bitsOf : (parseMethodDescriptor n_C_Pa_bitsOf.desc).map (fun d => d.parameters.length) = some 1 := by decide +kernel
set_option maxRecDepth 100000 in
theorem st_C_Pa_bitsOf : Cond.static n_C_Pa_bitsOf ∈ gG.1 := List.mem_append_right _ (List.mem_append_right _ (List.mem_append_right _ (List.mem_append_right _ (List.mem_append_right _ (List.mem_append_right _ (List.mem_append_left _ (List.mem_of_getElem? (i := 7) rfl)))))))
abbrev c_C_Pa_writeSymbol : ByteArray := prog_6_method_18_code
def n_C_Pa_writeSymbol : MethodName := ⟨R_Pa, "writeSymbol", "(LBlockPicture$OwnCodes;II)V"⟩
set_option maxRecDepth 100000 in
theorem cd_C_Pa_writeSymbol : Cond.code n_C_Pa_writeSymbol c_C_Pa_writeSymbol 5 (none) ∈ gG.1 := List.mem_append_right _ (List.mem_append_right _ (List.mem_append_right _ (List.mem_append_right _ (List.mem_append_right _ (List.mem_append_right _ (List.mem_append_left _ (List.mem_of_getElem? (i := 12) rfl)))))))
theorem ln_C_Pa_writeSymbol : (parseMethodDescriptor n_C_Pa_writeSymbol.desc).map (fun d => d.parameters.length) = some 3 := by decide +kernel
set_option maxRecDepth 100000 in
theorem im_C_Pa_writeSymbol : Cond.instanceMethod n_C_Pa_writeSymbol ∈ gG.1 := List.mem_append_right _ (List.mem_append_right _ (List.mem_append_right _ (List.mem_append_right _ (List.mem_append_right _ (List.mem_append_right _ (List.mem_append_left _ (List.mem_of_getElem? (i := 11) rfl)))))))
theorem se_C_Pa_writeSymbol : Cond.selects R_Pa n_C_Pa_writeSymbol n_C_Pa_writeSymbol ∈ gG.1 := List.mem_append_right _ (List.mem_append_left _ (by decide +kernel))
abbrev c_C_Pa_writeBlock : ByteArray := prog_6_method_16_code
def n_C_Pa_writeBlock : MethodName := ⟨R_Pa, "writeBlock", "(I)V"⟩
set_option maxRecDepth 100000 in
theorem cd_C_Pa_writeBlock : Cond.code n_C_Pa_writeBlock c_C_Pa_writeBlock 9 (none) ∈ gG.1 := List.mem_append_right _ (List.mem_append_right _ (List.mem_append_right _ (List.mem_append_right _ (List.mem_append_right _ (List.mem_append_right _ (List.mem_append_left _ (List.mem_of_getElem? (i := 5) rfl)))))))
theorem ln_C_Pa_writeBlock : (parseMethodDescriptor n_C_Pa_writeBlock.desc).map (fun d => d.parameters.length) = some 1 := by decide +kernel
set_option maxRecDepth 100000 in
theorem im_C_Pa_writeBlock : Cond.instanceMethod n_C_Pa_writeBlock ∈ gG.1 := List.mem_append_right _ (List.mem_append_right _ (List.mem_append_right _ (List.mem_append_right _ (List.mem_append_right _ (List.mem_append_right _ (List.mem_append_left _ (List.mem_of_getElem? (i := 4) rfl)))))))
theorem se_C_Pa_writeBlock : Cond.selects R_Pa n_C_Pa_writeBlock n_C_Pa_writeBlock ∈ gG.1 := List.mem_append_right _ (List.mem_append_left _ (by decide +kernel))
abbrev c_C_Pa_writeData : ByteArray := prog_6_method_14_code
def n_C_Pa_writeData : MethodName := ⟨R_Pa, "writeData", "(I)V"⟩
set_option maxRecDepth 100000 in
theorem cd_C_Pa_writeData : Cond.code n_C_Pa_writeData c_C_Pa_writeData 5 (none) ∈ gG.1 := List.mem_append_right _ (List.mem_append_right _ (List.mem_append_right _ (List.mem_append_right _ (List.mem_append_right _ (List.mem_append_left _ (List.mem_of_getElem? (i := 220) rfl))))))
theorem ln_C_Pa_writeData : (parseMethodDescriptor n_C_Pa_writeData.desc).map (fun d => d.parameters.length) = some 1 := by decide +kernel
set_option maxRecDepth 100000 in
theorem im_C_Pa_writeData : Cond.instanceMethod n_C_Pa_writeData ∈ gG.1 := List.mem_append_right _ (List.mem_append_right _ (List.mem_append_right _ (List.mem_append_right _ (List.mem_append_right _ (List.mem_append_left _ (List.mem_of_getElem? (i := 219) rfl))))))
theorem se_C_Pa_writeData : Cond.selects R_Pa n_C_Pa_writeData n_C_Pa_writeData ∈ gG.1 := List.mem_append_right _ (List.mem_append_left _ (by decide +kernel))
abbrev c_C_Li_sortSymbols : ByteArray := prog_4_method_3_code
def n_C_Li_sortSymbols : MethodName := ⟨R_Li, "sortSymbols", "([I)V"⟩
set_option maxRecDepth 100000 in
theorem cd_C_Li_sortSymbols : Cond.code n_C_Li_sortSymbols c_C_Li_sortSymbols 4 (none) ∈ gG.1 := List.mem_append_right _ (List.mem_append_right _ (List.mem_append_right _ (List.mem_append_right _ (List.mem_append_right _ (List.mem_append_right _ (List.mem_append_left _ (List.mem_of_getElem? (i := 21) rfl)))))))
theorem ln_C_Li_sortSymbols : (parseMethodDescriptor n_C_Li_sortSymbols.desc).map (fun d => d.parameters.length) = some 1 := by decide +kernel
set_option maxRecDepth 100000 in
theorem im_C_Li_sortSymbols : Cond.instanceMethod n_C_Li_sortSymbols ∈ gG.1 := List.mem_append_right _ (List.mem_append_right _ (List.mem_append_right _ (List.mem_append_right _ (List.mem_append_right _ (List.mem_append_right _ (List.mem_append_left _ (List.mem_of_getElem? (i := 20) rfl)))))))
theorem se_C_Li_sortSymbols : Cond.selects R_Li n_C_Li_sortSymbols n_C_Li_sortSymbols ∈ gG.1 := List.mem_append_right _ (List.mem_append_left _ (by decide +kernel))
abbrev c_C_Li_makeLine : ByteArray := prog_4_method_4_code
def n_C_Li_makeLine : MethodName := ⟨R_Li, "makeLine", "(II[I)I"⟩
set_option maxRecDepth 100000 in
theorem cd_C_Li_makeLine : Cond.code n_C_Li_makeLine c_C_Li_makeLine 9 (some .int) ∈ gG.1 := List.mem_append_right _ (List.mem_append_right _ (List.mem_append_right _ (List.mem_append_right _ (List.mem_append_right _ (List.mem_append_right _ (List.mem_append_left _ (List.mem_of_getElem? (i := 25) rfl)))))))
theorem ln_C_Li_makeLine : (parseMethodDescriptor n_C_Li_makeLine.desc).map (fun d => d.parameters.length) = some 3 := by decide +kernel
set_option maxRecDepth 100000 in
theorem im_C_Li_makeLine : Cond.instanceMethod n_C_Li_makeLine ∈ gG.1 := List.mem_append_right _ (List.mem_append_right _ (List.mem_append_right _ (List.mem_append_right _ (List.mem_append_right _ (List.mem_append_right _ (List.mem_append_left _ (List.mem_of_getElem? (i := 24) rfl)))))))
theorem se_C_Li_makeLine : Cond.selects R_Li n_C_Li_makeLine n_C_Li_makeLine ∈ gG.1 := List.mem_append_right _ (List.mem_append_left _ (by decide +kernel))
abbrev c_C_Li_takeThings : ByteArray := prog_4_method_5_code
def n_C_Li_takeThings : MethodName := ⟨R_Li, "takeThings", "(II[I)I"⟩
set_option maxRecDepth 100000 in
theorem cd_C_Li_takeThings : Cond.code n_C_Li_takeThings c_C_Li_takeThings 6 (some .int) ∈ gG.1 := List.mem_append_right _ (List.mem_append_right _ (List.mem_append_right _ (List.mem_append_right _ (List.mem_append_right _ (List.mem_append_right _ (List.mem_append_left _ (List.mem_of_getElem? (i := 29) rfl)))))))
theorem ln_C_Li_takeThings : (parseMethodDescriptor n_C_Li_takeThings.desc).map (fun d => d.parameters.length) = some 3 := by decide +kernel
set_option maxRecDepth 100000 in
theorem im_C_Li_takeThings : Cond.instanceMethod n_C_Li_takeThings ∈ gG.1 := List.mem_append_right _ (List.mem_append_right _ (List.mem_append_right _ (List.mem_append_right _ (List.mem_append_right _ (List.mem_append_right _ (List.mem_append_left _ (List.mem_of_getElem? (i := 28) rfl)))))))
theorem se_C_Li_takeThings : Cond.selects R_Li n_C_Li_takeThings n_C_Li_takeThings ∈ gG.1 := List.mem_append_right _ (List.mem_append_left _ (by decide +kernel))
abbrev c_C_Li_setLengths : ByteArray := prog_4_method_2_code
def n_C_Li_setLengths : MethodName := ⟨R_Li, "setLengths", "(LBlockPicture$OwnCodes;)V"⟩
set_option maxRecDepth 100000 in
theorem cd_C_Li_setLengths : Cond.code n_C_Li_setLengths c_C_Li_setLengths 5 (none) ∈ gG.1 := List.mem_append_right _ (List.mem_append_right _ (List.mem_append_right _ (List.mem_append_right _ (List.mem_append_right _ (List.mem_append_right _ (List.mem_append_left _ (List.mem_of_getElem? (i := 17) rfl)))))))
theorem ln_C_Li_setLengths : (parseMethodDescriptor n_C_Li_setLengths.desc).map (fun d => d.parameters.length) = some 1 := by decide +kernel
set_option maxRecDepth 100000 in
theorem im_C_Li_setLengths : Cond.instanceMethod n_C_Li_setLengths ∈ gG.1 := List.mem_append_right _ (List.mem_append_right _ (List.mem_append_right _ (List.mem_append_right _ (List.mem_append_right _ (List.mem_append_right _ (List.mem_append_left _ (List.mem_of_getElem? (i := 15) rfl)))))))
set_option maxRecDepth 100000 in
theorem se_C_Li_setLengths : Cond.selects R_Li n_C_Li_setLengths n_C_Li_setLengths ∈ gG.1 := List.mem_append_right _ (List.mem_append_right _ (List.mem_append_right _ (List.mem_append_right _ (List.mem_append_right _ (List.mem_append_right _ (List.mem_append_left _ (List.mem_of_getElem? (i := 16) rfl)))))))
abbrev c_C_Oc_giveOut : ByteArray := prog_5_method_3_code
def n_C_Oc_giveOut : MethodName := ⟨R_Oc, "giveOut", "()V"⟩
set_option maxRecDepth 100000 in
theorem cd_C_Oc_giveOut : Cond.code n_C_Oc_giveOut c_C_Oc_giveOut 5 (none) ∈ gG.1 := List.mem_append_right _ (List.mem_append_right _ (List.mem_append_right _ (List.mem_append_right _ (List.mem_append_right _ (List.mem_append_right _ (List.mem_append_left _ (List.mem_of_getElem? (i := 33) rfl)))))))
theorem ln_C_Oc_giveOut : (parseMethodDescriptor n_C_Oc_giveOut.desc).map (fun d => d.parameters.length) = some 0 := by decide +kernel
set_option maxRecDepth 100000 in
theorem im_C_Oc_giveOut : Cond.instanceMethod n_C_Oc_giveOut ∈ gG.1 := List.mem_append_right _ (List.mem_append_right _ (List.mem_append_right _ (List.mem_append_right _ (List.mem_append_right _ (List.mem_append_right _ (List.mem_append_left _ (List.mem_of_getElem? (i := 31) rfl)))))))
set_option maxRecDepth 100000 in
theorem se_C_Oc_giveOut : Cond.selects R_Oc n_C_Oc_giveOut n_C_Oc_giveOut ∈ gG.1 := List.mem_append_right _ (List.mem_append_right _ (List.mem_append_right _ (List.mem_append_right _ (List.mem_append_right _ (List.mem_append_right _ (List.mem_append_left _ (List.mem_of_getElem? (i := 32) rfl)))))))
abbrev c_C_Pa_makeCodes : ByteArray := prog_6_method_6_code
def n_C_Pa_makeCodes : MethodName := ⟨R_Pa, "makeCodes", "(I)V"⟩
set_option maxRecDepth 100000 in
theorem cd_C_Pa_makeCodes : Cond.code n_C_Pa_makeCodes c_C_Pa_makeCodes 3 (none) ∈ gG.1 := List.mem_append_right _ (List.mem_append_right _ (List.mem_append_right _ (List.mem_append_right _ (List.mem_append_right _ (List.mem_append_left _ (List.mem_of_getElem? (i := 211) rfl))))))
theorem ln_C_Pa_makeCodes : (parseMethodDescriptor n_C_Pa_makeCodes.desc).map (fun d => d.parameters.length) = some 1 := by decide +kernel
set_option maxRecDepth 100000 in
theorem im_C_Pa_makeCodes : Cond.instanceMethod n_C_Pa_makeCodes ∈ gG.1 := List.mem_append_right _ (List.mem_append_right _ (List.mem_append_right _ (List.mem_append_right _ (List.mem_append_right _ (List.mem_append_left _ (List.mem_of_getElem? (i := 209) rfl))))))
set_option maxRecDepth 100000 in
theorem se_C_Pa_makeCodes : Cond.selects R_Pa n_C_Pa_makeCodes n_C_Pa_makeCodes ∈ gG.1 := List.mem_append_right _ (List.mem_append_right _ (List.mem_append_right _ (List.mem_append_right _ (List.mem_append_right _ (List.mem_append_left _ (List.mem_of_getElem? (i := 210) rfl))))))
abbrev c_C_Ro_addTwo : ByteArray := prog_9_method_4_code
def n_C_Ro_addTwo : MethodName := ⟨R_Ro, "addTwo", "(I)V"⟩
set_option maxRecDepth 100000 in
theorem cd_C_Ro_addTwo : Cond.code n_C_Ro_addTwo c_C_Ro_addTwo 2 (none) ∈ gG.1 := List.mem_append_right _ (List.mem_append_right _ (List.mem_append_right _ (List.mem_append_right _ (List.mem_append_right _ (List.mem_append_right _ (List.mem_append_left _ (List.mem_of_getElem? (i := 45) rfl)))))))
theorem ln_C_Ro_addTwo : (parseMethodDescriptor n_C_Ro_addTwo.desc).map (fun d => d.parameters.length) = some 1 := by decide +kernel
set_option maxRecDepth 100000 in
theorem im_C_Ro_addTwo : Cond.instanceMethod n_C_Ro_addTwo ∈ gG.1 := List.mem_append_right _ (List.mem_append_right _ (List.mem_append_right _ (List.mem_append_right _ (List.mem_append_right _ (List.mem_append_right _ (List.mem_append_left _ (List.mem_of_getElem? (i := 43) rfl)))))))
set_option maxRecDepth 100000 in
theorem se_C_Ro_addTwo : Cond.selects R_Ro n_C_Ro_addTwo n_C_Ro_addTwo ∈ gG.1 := List.mem_append_right _ (List.mem_append_right _ (List.mem_append_right _ (List.mem_append_right _ (List.mem_append_right _ (List.mem_append_right _ (List.mem_append_left _ (List.mem_of_getElem? (i := 44) rfl)))))))
abbrev c_C_Pa_writeTables : ByteArray := prog_6_method_9_code
def n_C_Pa_writeTables : MethodName := ⟨R_Pa, "writeTables", "([I)V"⟩
set_option maxRecDepth 100000 in
theorem cd_C_Pa_writeTables : Cond.code n_C_Pa_writeTables c_C_Pa_writeTables 4 (none) ∈ gG.1 := List.mem_append_right _ (List.mem_append_right _ (List.mem_append_right _ (List.mem_append_right _ (List.mem_append_right _ (List.mem_append_right _ (List.mem_append_left _ (List.mem_of_getElem? (i := 41) rfl)))))))
theorem ln_C_Pa_writeTables : (parseMethodDescriptor n_C_Pa_writeTables.desc).map (fun d => d.parameters.length) = some 1 := by decide +kernel
set_option maxRecDepth 100000 in
theorem im_C_Pa_writeTables : Cond.instanceMethod n_C_Pa_writeTables ∈ gG.1 := List.mem_append_right _ (List.mem_append_right _ (List.mem_append_right _ (List.mem_append_right _ (List.mem_append_right _ (List.mem_append_right _ (List.mem_append_left _ (List.mem_of_getElem? (i := 40) rfl)))))))
theorem se_C_Pa_writeTables : Cond.selects R_Pa n_C_Pa_writeTables n_C_Pa_writeTables ∈ gG.1 := List.mem_append_right _ (List.mem_append_left _ (by decide +kernel))
abbrev c_C_Pa_writeFrame : ByteArray := prog_6_method_10_code
def n_C_Pa_writeFrame : MethodName := ⟨R_Pa, "writeFrame", "()V"⟩
set_option maxRecDepth 100000 in
theorem cd_C_Pa_writeFrame : Cond.code n_C_Pa_writeFrame c_C_Pa_writeFrame 2 (none) ∈ gG.1 := List.mem_append_right _ (List.mem_append_right _ (List.mem_append_right _ (List.mem_append_right _ (List.mem_append_right _ (List.mem_append_right _ (List.mem_append_left _ (List.mem_of_getElem? (i := 50) rfl)))))))
theorem ln_C_Pa_writeFrame : (parseMethodDescriptor n_C_Pa_writeFrame.desc).map (fun d => d.parameters.length) = some 0 := by decide +kernel
set_option maxRecDepth 100000 in
theorem im_C_Pa_writeFrame : Cond.instanceMethod n_C_Pa_writeFrame ∈ gG.1 := List.mem_append_right _ (List.mem_append_right _ (List.mem_append_right _ (List.mem_append_right _ (List.mem_append_right _ (List.mem_append_right _ (List.mem_append_left _ (List.mem_of_getElem? (i := 49) rfl)))))))
theorem se_C_Pa_writeFrame : Cond.selects R_Pa n_C_Pa_writeFrame n_C_Pa_writeFrame ∈ gG.1 := List.mem_append_right _ (List.mem_append_left _ (by decide +kernel))
abbrev c_C_Pa_writeOwnCodes : ByteArray := prog_6_method_12_code
def n_C_Pa_writeOwnCodes : MethodName := ⟨R_Pa, "writeOwnCodes", "(ILBlockPicture$OwnCodes;)V"⟩
set_option maxRecDepth 100000 in
theorem cd_C_Pa_writeOwnCodes : Cond.code n_C_Pa_writeOwnCodes c_C_Pa_writeOwnCodes 4 (none) ∈ gG.1 := List.mem_append_right _ (List.mem_append_right _ (List.mem_append_right _ (List.mem_append_right _ (List.mem_append_right _ (List.mem_append_right _ (List.mem_append_left _ (List.mem_of_getElem? (i := 58) rfl)))))))
theorem ln_C_Pa_writeOwnCodes : (parseMethodDescriptor n_C_Pa_writeOwnCodes.desc).map (fun d => d.parameters.length) = some 2 := by decide +kernel
set_option maxRecDepth 100000 in
theorem im_C_Pa_writeOwnCodes : Cond.instanceMethod n_C_Pa_writeOwnCodes ∈ gG.1 := List.mem_append_right _ (List.mem_append_right _ (List.mem_append_right _ (List.mem_append_right _ (List.mem_append_right _ (List.mem_append_right _ (List.mem_append_left _ (List.mem_of_getElem? (i := 57) rfl)))))))
theorem se_C_Pa_writeOwnCodes : Cond.selects R_Pa n_C_Pa_writeOwnCodes n_C_Pa_writeOwnCodes ∈ gG.1 := List.mem_append_right _ (List.mem_append_left _ (by decide +kernel))
abbrev c_C_Pa_writeCodes : ByteArray := prog_6_method_11_code
def n_C_Pa_writeCodes : MethodName := ⟨R_Pa, "writeCodes", "()V"⟩
set_option maxRecDepth 100000 in
theorem cd_C_Pa_writeCodes : Cond.code n_C_Pa_writeCodes c_C_Pa_writeCodes 3 (none) ∈ gG.1 := List.mem_append_right _ (List.mem_append_right _ (List.mem_append_right _ (List.mem_append_right _ (List.mem_append_right _ (List.mem_append_right _ (List.mem_append_left _ (List.mem_of_getElem? (i := 54) rfl)))))))
theorem ln_C_Pa_writeCodes : (parseMethodDescriptor n_C_Pa_writeCodes.desc).map (fun d => d.parameters.length) = some 0 := by decide +kernel
set_option maxRecDepth 100000 in
theorem im_C_Pa_writeCodes : Cond.instanceMethod n_C_Pa_writeCodes ∈ gG.1 := List.mem_append_right _ (List.mem_append_right _ (List.mem_append_right _ (List.mem_append_right _ (List.mem_append_right _ (List.mem_append_right _ (List.mem_append_left _ (List.mem_of_getElem? (i := 53) rfl)))))))
theorem se_C_Pa_writeCodes : Cond.selects R_Pa n_C_Pa_writeCodes n_C_Pa_writeCodes ∈ gG.1 := List.mem_append_right _ (List.mem_append_left _ (by decide +kernel))
abbrev c_C_Pa_writeScan : ByteArray := prog_6_method_13_code
def n_C_Pa_writeScan : MethodName := ⟨R_Pa, "writeScan", "()V"⟩
set_option maxRecDepth 100000 in
theorem cd_C_Pa_writeScan : Cond.code n_C_Pa_writeScan c_C_Pa_writeScan 2 (none) ∈ gG.1 := List.mem_append_right _ (List.mem_append_right _ (List.mem_append_right _ (List.mem_append_right _ (List.mem_append_right _ (List.mem_append_right _ (List.mem_append_left _ (List.mem_of_getElem? (i := 62) rfl)))))))
theorem ln_C_Pa_writeScan : (parseMethodDescriptor n_C_Pa_writeScan.desc).map (fun d => d.parameters.length) = some 0 := by decide +kernel
set_option maxRecDepth 100000 in
theorem im_C_Pa_writeScan : Cond.instanceMethod n_C_Pa_writeScan ∈ gG.1 := List.mem_append_right _ (List.mem_append_right _ (List.mem_append_right _ (List.mem_append_right _ (List.mem_append_right _ (List.mem_append_right _ (List.mem_append_left _ (List.mem_of_getElem? (i := 61) rfl)))))))
theorem se_C_Pa_writeScan : Cond.selects R_Pa n_C_Pa_writeScan n_C_Pa_writeScan ∈ gG.1 := List.mem_append_right _ (List.mem_append_left _ (by decide +kernel))
abbrev c_C_Pa_write : ByteArray := prog_6_method_7_code
def n_C_Pa_write : MethodName := ⟨R_Pa, "write", "([II)V"⟩
set_option maxRecDepth 100000 in
theorem cd_C_Pa_write : Cond.code n_C_Pa_write c_C_Pa_write 3 (none) ∈ gG.1 := List.mem_append_right _ (List.mem_append_right _ (List.mem_append_right _ (List.mem_append_right _ (List.mem_append_right _ (List.mem_append_right _ (List.mem_append_left _ (List.mem_of_getElem? (i := 37) rfl)))))))
theorem ln_C_Pa_write : (parseMethodDescriptor n_C_Pa_write.desc).map (fun d => d.parameters.length) = some 2 := by decide +kernel
set_option maxRecDepth 100000 in
theorem im_C_Pa_write : Cond.instanceMethod n_C_Pa_write ∈ gG.1 := List.mem_append_right _ (List.mem_append_right _ (List.mem_append_right _ (List.mem_append_right _ (List.mem_append_right _ (List.mem_append_right _ (List.mem_append_left _ (List.mem_of_getElem? (i := 35) rfl)))))))
set_option maxRecDepth 100000 in
theorem se_C_Pa_write : Cond.selects R_Pa n_C_Pa_write n_C_Pa_write ∈ gG.1 := List.mem_append_right _ (List.mem_append_right _ (List.mem_append_right _ (List.mem_append_right _ (List.mem_append_right _ (List.mem_append_right _ (List.mem_append_left _ (List.mem_of_getElem? (i := 36) rfl)))))))
abbrev c_C_B_pack : ByteArray := prog_1_method_8_code
def n_C_B_pack : MethodName := ⟨R_B, "pack", "(III)I"⟩
set_option maxRecDepth 100000 in
theorem cd_C_B_pack : Cond.code n_C_B_pack c_C_B_pack 4 (some .int) ∈ gG.1 := List.mem_append_right _ (List.mem_append_right _ (List.mem_append_right _ (List.mem_append_right _ (List.mem_append_right _ (List.mem_append_left _ (List.mem_of_getElem? (i := 163) rfl))))))
theorem ln_C_B_pack : (parseMethodDescriptor n_C_B_pack.desc).map (fun d => d.parameters.length) = some 3 := by decide +kernel
set_option maxRecDepth 100000 in
theorem im_C_B_pack : Cond.instanceMethod n_C_B_pack ∈ gG.1 := List.mem_append_right _ (List.mem_append_right _ (List.mem_append_right _ (List.mem_append_right _ (List.mem_append_right _ (List.mem_append_left _ (List.mem_of_getElem? (i := 161) rfl))))))
set_option maxRecDepth 100000 in
theorem se_C_B_pack : Cond.selects R_B n_C_B_pack n_C_B_pack ∈ gG.1 := List.mem_append_right _ (List.mem_append_right _ (List.mem_append_right _ (List.mem_append_right _ (List.mem_append_right _ (List.mem_append_left _ (List.mem_of_getElem? (i := 162) rfl))))))
abbrev c_C_B_size : ByteArray := prog_1_method_9_code
def n_C_B_size : MethodName := ⟨R_B, "size", "()I"⟩
set_option maxRecDepth 100000 in
theorem cd_C_B_size : Cond.code n_C_B_size c_C_B_size 1 (some .int) ∈ gG.1 := List.mem_append_right _ (List.mem_append_right _ (List.mem_append_right _ (List.mem_append_right _ (List.mem_append_left _ (List.mem_of_getElem? (i := 29) rfl)))))
theorem ln_C_B_size : (parseMethodDescriptor n_C_B_size.desc).map (fun d => d.parameters.length) = some 0 := by decide +kernel
set_option maxRecDepth 100000 in
theorem im_C_B_size : Cond.instanceMethod n_C_B_size ∈ gG.1 := List.mem_append_right _ (List.mem_append_right _ (List.mem_append_right _ (List.mem_append_right _ (List.mem_append_left _ (List.mem_of_getElem? (i := 27) rfl)))))
set_option maxRecDepth 100000 in
theorem se_C_B_size : Cond.selects R_B n_C_B_size n_C_B_size ∈ gG.1 := List.mem_append_right _ (List.mem_append_right _ (List.mem_append_right _ (List.mem_append_right _ (List.mem_append_left _ (List.mem_of_getElem? (i := 28) rfl)))))
abbrev c_C_Ro_has : ByteArray := prog_9_method_2_code
def n_C_Ro_has : MethodName := ⟨R_Ro, "has", "(I)Z"⟩
set_option maxRecDepth 100000 in
theorem cd_C_Ro_has : Cond.code n_C_Ro_has c_C_Ro_has 2 (some .boolean) ∈ gG.1 := List.mem_append_right _ (List.mem_append_right _ (List.mem_append_right _ (List.mem_append_right _ (List.mem_append_right _ (List.mem_append_left _ (List.mem_of_getElem? (i := 47) rfl))))))
theorem ln_C_Ro_has : (parseMethodDescriptor n_C_Ro_has.desc).map (fun d => d.parameters.length) = some 1 := by decide +kernel
set_option maxRecDepth 100000 in
theorem im_C_Ro_has : Cond.instanceMethod n_C_Ro_has ∈ gG.1 := List.mem_append_right _ (List.mem_append_right _ (List.mem_append_right _ (List.mem_append_right _ (List.mem_append_right _ (List.mem_append_left _ (List.mem_of_getElem? (i := 45) rfl))))))
set_option maxRecDepth 100000 in
theorem se_C_Ro_has : Cond.selects R_Ro n_C_Ro_has n_C_Ro_has ∈ gG.1 := List.mem_append_right _ (List.mem_append_right _ (List.mem_append_right _ (List.mem_append_right _ (List.mem_append_right _ (List.mem_append_left _ (List.mem_of_getElem? (i := 46) rfl))))))
abbrev c_C_B_out : ByteArray := prog_1_method_10_code
def n_C_B_out : MethodName := ⟨R_B, "out", "(I)I"⟩
set_option maxRecDepth 100000 in
theorem cd_C_B_out : Cond.code n_C_B_out c_C_B_out 2 (some .int) ∈ gG.1 := List.mem_append_right _ (List.mem_append_right _ (List.mem_append_right _ (List.mem_append_right _ (List.mem_append_right _ (List.mem_append_right _ (List.mem_append_left _ (List.mem_of_getElem? (i := 69) rfl)))))))
theorem ln_C_B_out : (parseMethodDescriptor n_C_B_out.desc).map (fun d => d.parameters.length) = some 1 := by decide +kernel
set_option maxRecDepth 100000 in
theorem im_C_B_out : Cond.instanceMethod n_C_B_out ∈ gG.1 := List.mem_append_right _ (List.mem_append_right _ (List.mem_append_right _ (List.mem_append_right _ (List.mem_append_right _ (List.mem_append_right _ (List.mem_append_left _ (List.mem_of_getElem? (i := 67) rfl)))))))
set_option maxRecDepth 100000 in
theorem se_C_B_out : Cond.selects R_B n_C_B_out n_C_B_out ∈ gG.1 := List.mem_append_right _ (List.mem_append_right _ (List.mem_append_right _ (List.mem_append_right _ (List.mem_append_right _ (List.mem_append_right _ (List.mem_append_left _ (List.mem_of_getElem? (i := 68) rfl)))))))
abbrev c_C_Ro_addFour : ByteArray := prog_9_method_5_code
def n_C_Ro_addFour : MethodName := ⟨R_Ro, "addFour", "(I)V"⟩
set_option maxRecDepth 100000 in
theorem cd_C_Ro_addFour : Cond.code n_C_Ro_addFour c_C_Ro_addFour 2 (none) ∈ gG.1 := List.mem_append_right _ (List.mem_append_right _ (List.mem_append_right _ (List.mem_append_right _ (List.mem_append_right _ (List.mem_append_right _ (List.mem_append_left _ (List.mem_of_getElem? (i := 86) rfl)))))))
theorem ln_C_Ro_addFour : (parseMethodDescriptor n_C_Ro_addFour.desc).map (fun d => d.parameters.length) = some 1 := by decide +kernel
set_option maxRecDepth 100000 in
theorem im_C_Ro_addFour : Cond.instanceMethod n_C_Ro_addFour ∈ gG.1 := List.mem_append_right _ (List.mem_append_right _ (List.mem_append_right _ (List.mem_append_right _ (List.mem_append_right _ (List.mem_append_right _ (List.mem_append_left _ (List.mem_of_getElem? (i := 84) rfl)))))))
set_option maxRecDepth 100000 in
theorem se_C_Ro_addFour : Cond.selects R_Ro n_C_Ro_addFour n_C_Ro_addFour ∈ gG.1 := List.mem_append_right _ (List.mem_append_right _ (List.mem_append_right _ (List.mem_append_right _ (List.mem_append_right _ (List.mem_append_right _ (List.mem_append_left _ (List.mem_of_getElem? (i := 85) rfl)))))))
abbrev c_C_B_feed : ByteArray := prog_1_method_11_code
def n_C_B_feed : MethodName := ⟨R_B, "feed", "(IIIII)I"⟩
set_option maxRecDepth 100000 in
theorem cd_C_B_feed : Cond.code n_C_B_feed c_C_B_feed 6 (some .int) ∈ gG.1 := List.mem_append_right _ (List.mem_append_right _ (List.mem_append_right _ (List.mem_append_right _ (List.mem_append_right _ (List.mem_append_right _ (List.mem_append_left _ (List.mem_of_getElem? (i := 79) rfl)))))))
theorem ln_C_B_feed : (parseMethodDescriptor n_C_B_feed.desc).map (fun d => d.parameters.length) = some 5 := by decide +kernel
set_option maxRecDepth 100000 in
theorem im_C_B_feed : Cond.instanceMethod n_C_B_feed ∈ gG.1 := List.mem_append_right _ (List.mem_append_right _ (List.mem_append_right _ (List.mem_append_right _ (List.mem_append_right _ (List.mem_append_right _ (List.mem_append_left _ (List.mem_of_getElem? (i := 77) rfl)))))))
set_option maxRecDepth 100000 in
theorem se_C_B_feed : Cond.selects R_B n_C_B_feed n_C_B_feed ∈ gG.1 := List.mem_append_right _ (List.mem_append_right _ (List.mem_append_right _ (List.mem_append_right _ (List.mem_append_right _ (List.mem_append_right _ (List.mem_append_left _ (List.mem_of_getElem? (i := 78) rfl)))))))
abbrev c_C_B_end : ByteArray := prog_1_method_12_code
def n_C_B_end : MethodName := ⟨R_B, "end", "(I)V"⟩
set_option maxRecDepth 100000 in
theorem cd_C_B_end : Cond.code n_C_B_end c_C_B_end 2 (none) ∈ gG.1 := List.mem_append_right _ (List.mem_append_right _ (List.mem_append_right _ (List.mem_append_right _ (List.mem_append_right _ (List.mem_append_right _ (List.mem_append_left _ (List.mem_of_getElem? (i := 94) rfl)))))))
theorem ln_C_B_end : (parseMethodDescriptor n_C_B_end.desc).map (fun d => d.parameters.length) = some 1 := by decide +kernel
set_option maxRecDepth 100000 in
theorem im_C_B_end : Cond.instanceMethod n_C_B_end ∈ gG.1 := List.mem_append_right _ (List.mem_append_right _ (List.mem_append_right _ (List.mem_append_right _ (List.mem_append_right _ (List.mem_append_right _ (List.mem_append_left _ (List.mem_of_getElem? (i := 92) rfl)))))))
set_option maxRecDepth 100000 in
theorem se_C_B_end : Cond.selects R_B n_C_B_end n_C_B_end ∈ gG.1 := List.mem_append_right _ (List.mem_append_right _ (List.mem_append_right _ (List.mem_append_right _ (List.mem_append_right _ (List.mem_append_right _ (List.mem_append_left _ (List.mem_of_getElem? (i := 93) rfl)))))))
abbrev c_C_B_change : ByteArray := prog_1_method_13_code
def n_C_B_change : MethodName := ⟨R_B, "change", "(II)I"⟩
set_option maxRecDepth 100000 in
theorem cd_C_B_change : Cond.code n_C_B_change c_C_B_change 3 (some .int) ∈ gG.1 := List.mem_append_right _ (List.mem_append_right _ (List.mem_append_right _ (List.mem_append_right _ (List.mem_append_right _ (List.mem_append_right _ (List.mem_append_left _ (List.mem_of_getElem? (i := 102) rfl)))))))
theorem ln_C_B_change : (parseMethodDescriptor n_C_B_change.desc).map (fun d => d.parameters.length) = some 2 := by decide +kernel
set_option maxRecDepth 100000 in
theorem im_C_B_change : Cond.instanceMethod n_C_B_change ∈ gG.1 := List.mem_append_right _ (List.mem_append_right _ (List.mem_append_right _ (List.mem_append_right _ (List.mem_append_right _ (List.mem_append_right _ (List.mem_append_left _ (List.mem_of_getElem? (i := 100) rfl)))))))
set_option maxRecDepth 100000 in
theorem se_C_B_change : Cond.selects R_B n_C_B_change n_C_B_change ∈ gG.1 := List.mem_append_right _ (List.mem_append_right _ (List.mem_append_right _ (List.mem_append_right _ (List.mem_append_right _ (List.mem_append_right _ (List.mem_append_left _ (List.mem_of_getElem? (i := 101) rfl)))))))
abbrev c_C_B_turn : ByteArray := prog_1_method_14_code
def n_C_B_turn : MethodName := ⟨R_B, "turn", "()I"⟩
set_option maxRecDepth 100000 in
theorem cd_C_B_turn : Cond.code n_C_B_turn c_C_B_turn 2 (some .int) ∈ gG.1 := List.mem_append_right _ (List.mem_append_right _ (List.mem_append_right _ (List.mem_append_right _ (List.mem_append_right _ (List.mem_append_right _ (List.mem_append_left _ (List.mem_of_getElem? (i := 111) rfl)))))))
theorem ln_C_B_turn : (parseMethodDescriptor n_C_B_turn.desc).map (fun d => d.parameters.length) = some 0 := by decide +kernel
set_option maxRecDepth 100000 in
theorem im_C_B_turn : Cond.instanceMethod n_C_B_turn ∈ gG.1 := List.mem_append_right _ (List.mem_append_right _ (List.mem_append_right _ (List.mem_append_right _ (List.mem_append_right _ (List.mem_append_right _ (List.mem_append_left _ (List.mem_of_getElem? (i := 109) rfl)))))))
set_option maxRecDepth 100000 in
theorem se_C_B_turn : Cond.selects R_B n_C_B_turn n_C_B_turn ∈ gG.1 := List.mem_append_right _ (List.mem_append_right _ (List.mem_append_right _ (List.mem_append_right _ (List.mem_append_right _ (List.mem_append_right _ (List.mem_append_left _ (List.mem_of_getElem? (i := 110) rfl)))))))
abbrev c_C_Un_begin : ByteArray := prog_11_method_4_code
def n_C_Un_begin : MethodName := ⟨R_Un, "begin", "()V"⟩
set_option maxRecDepth 100000 in
theorem cd_C_Un_begin : Cond.code n_C_Un_begin c_C_Un_begin 2 (none) ∈ gG.1 := List.mem_append_right _ (List.mem_append_right _ (List.mem_append_right _ (List.mem_append_right _ (List.mem_append_left _ (List.mem_of_getElem? (i := 42) rfl)))))
theorem ln_C_Un_begin : (parseMethodDescriptor n_C_Un_begin.desc).map (fun d => d.parameters.length) = some 0 := by decide +kernel
set_option maxRecDepth 100000 in
theorem im_C_Un_begin : Cond.instanceMethod n_C_Un_begin ∈ gG.1 := List.mem_append_right _ (List.mem_append_right _ (List.mem_append_right _ (List.mem_append_right _ (List.mem_append_left _ (List.mem_of_getElem? (i := 41) rfl)))))
theorem se_C_Un_begin : Cond.selects R_Un n_C_Un_begin n_C_Un_begin ∈ gG.1 := List.mem_append_right _ (List.mem_append_left _ (by decide +kernel))
abbrev c_C_Re_read : ByteArray := prog_8_method_3_code
def n_C_Re_read : MethodName := ⟨R_Re, "read", "()I"⟩
set_option maxRecDepth 100000 in
theorem cd_C_Re_read : Cond.code n_C_Re_read c_C_Re_read 2 (some .int) ∈ gG.1 := List.mem_append_right _ (List.mem_append_right _ (List.mem_append_right _ (List.mem_append_right _ (List.mem_append_left _ (List.mem_of_getElem? (i := 50) rfl)))))
theorem ln_C_Re_read : (parseMethodDescriptor n_C_Re_read.desc).map (fun d => d.parameters.length) = some 0 := by decide +kernel
set_option maxRecDepth 100000 in
theorem im_C_Re_read : Cond.instanceMethod n_C_Re_read ∈ gG.1 := List.mem_append_right _ (List.mem_append_right _ (List.mem_append_right _ (List.mem_append_right _ (List.mem_append_left _ (List.mem_of_getElem? (i := 48) rfl)))))
set_option maxRecDepth 100000 in
theorem se_C_Re_read : Cond.selects R_Re n_C_Re_read n_C_Re_read ∈ gG.1 := List.mem_append_right _ (List.mem_append_right _ (List.mem_append_right _ (List.mem_append_right _ (List.mem_append_left _ (List.mem_of_getElem? (i := 49) rfl)))))
abbrev c_C_Re_fail : ByteArray := prog_8_method_2_code
def n_C_Re_fail : MethodName := ⟨R_Re, "fail", "(II)V"⟩
set_option maxRecDepth 100000 in
theorem cd_C_Re_fail : Cond.code n_C_Re_fail c_C_Re_fail 3 (none) ∈ gG.1 := List.mem_append_right _ (List.mem_append_right _ (List.mem_append_right _ (List.mem_append_right _ (List.mem_append_left _ (List.mem_of_getElem? (i := 123) rfl)))))
theorem ln_C_Re_fail : (parseMethodDescriptor n_C_Re_fail.desc).map (fun d => d.parameters.length) = some 2 := by decide +kernel
set_option maxRecDepth 100000 in
theorem im_C_Re_fail : Cond.instanceMethod n_C_Re_fail ∈ gG.1 := List.mem_append_right _ (List.mem_append_right _ (List.mem_append_right _ (List.mem_append_right _ (List.mem_append_left _ (List.mem_of_getElem? (i := 121) rfl)))))
set_option maxRecDepth 100000 in
theorem se_C_Re_fail : Cond.selects R_Re n_C_Re_fail n_C_Re_fail ∈ gG.1 := List.mem_append_right _ (List.mem_append_right _ (List.mem_append_right _ (List.mem_append_right _ (List.mem_append_left _ (List.mem_of_getElem? (i := 122) rfl)))))
abbrev c_C_Re_readMark : ByteArray := prog_8_method_6_code
def n_C_Re_readMark : MethodName := ⟨R_Re, "readMark", "()I"⟩
set_option maxRecDepth 100000 in
theorem cd_C_Re_readMark : Cond.code n_C_Re_readMark c_C_Re_readMark 3 (some .int) ∈ gG.1 := List.mem_append_right _ (List.mem_append_right _ (List.mem_append_right _ (List.mem_append_right _ (List.mem_append_left _ (List.mem_of_getElem? (i := 46) rfl)))))
theorem ln_C_Re_readMark : (parseMethodDescriptor n_C_Re_readMark.desc).map (fun d => d.parameters.length) = some 0 := by decide +kernel
set_option maxRecDepth 100000 in
theorem im_C_Re_readMark : Cond.instanceMethod n_C_Re_readMark ∈ gG.1 := List.mem_append_right _ (List.mem_append_right _ (List.mem_append_right _ (List.mem_append_right _ (List.mem_append_left _ (List.mem_of_getElem? (i := 44) rfl)))))
set_option maxRecDepth 100000 in
theorem se_C_Re_readMark : Cond.selects R_Re n_C_Re_readMark n_C_Re_readMark ∈ gG.1 := List.mem_append_right _ (List.mem_append_right _ (List.mem_append_right _ (List.mem_append_right _ (List.mem_append_left _ (List.mem_of_getElem? (i := 45) rfl)))))
abbrev c_C_Un_allScanned : ByteArray := prog_11_method_6_code
def n_C_Un_allScanned : MethodName := ⟨R_Un, "allScanned", "()Z"⟩
set_option maxRecDepth 100000 in
theorem cd_C_Un_allScanned : Cond.code n_C_Un_allScanned c_C_Un_allScanned 3 (some .boolean) ∈ gG.1 := List.mem_append_right _ (List.mem_append_right _ (List.mem_append_right _ (List.mem_append_right _ (List.mem_append_left _ (List.mem_of_getElem? (i := 134) rfl)))))
theorem ln_C_Un_allScanned : (parseMethodDescriptor n_C_Un_allScanned.desc).map (fun d => d.parameters.length) = some 0 := by decide +kernel
set_option maxRecDepth 100000 in
theorem im_C_Un_allScanned : Cond.instanceMethod n_C_Un_allScanned ∈ gG.1 := List.mem_append_right _ (List.mem_append_right _ (List.mem_append_right _ (List.mem_append_right _ (List.mem_append_left _ (List.mem_of_getElem? (i := 133) rfl)))))
theorem se_C_Un_allScanned : Cond.selects R_Un n_C_Un_allScanned n_C_Un_allScanned ∈ gG.1 := List.mem_append_right _ (List.mem_append_left _ (by decide +kernel))
abbrev c_C_Un_canCome : ByteArray := prog_11_method_5_code
def n_C_Un_canCome : MethodName := ⟨R_Un, "canCome", "(I)Z"⟩
set_option maxRecDepth 100000 in
theorem cd_C_Un_canCome : Cond.code n_C_Un_canCome c_C_Un_canCome 2 (some .boolean) ∈ gG.1 := List.mem_append_right _ (List.mem_append_right _ (List.mem_append_right _ (List.mem_append_right _ (List.mem_append_left _ (List.mem_of_getElem? (i := 130) rfl)))))
theorem ln_C_Un_canCome : (parseMethodDescriptor n_C_Un_canCome.desc).map (fun d => d.parameters.length) = some 1 := by decide +kernel
set_option maxRecDepth 100000 in
theorem im_C_Un_canCome : Cond.instanceMethod n_C_Un_canCome ∈ gG.1 := List.mem_append_right _ (List.mem_append_right _ (List.mem_append_right _ (List.mem_append_right _ (List.mem_append_left _ (List.mem_of_getElem? (i := 129) rfl)))))
theorem se_C_Un_canCome : Cond.selects R_Un n_C_Un_canCome n_C_Un_canCome ∈ gG.1 := List.mem_append_right _ (List.mem_append_left _ (by decide +kernel))
abbrev c_C_Re_readTwo : ByteArray := prog_8_method_4_code
def n_C_Re_readTwo : MethodName := ⟨R_Re, "readTwo", "()I"⟩
set_option maxRecDepth 100000 in
theorem cd_C_Re_readTwo : Cond.code n_C_Re_readTwo c_C_Re_readTwo 2 (some .int) ∈ gG.1 := List.mem_append_right _ (List.mem_append_right _ (List.mem_append_right _ (List.mem_append_right _ (List.mem_append_left _ (List.mem_of_getElem? (i := 142) rfl)))))
theorem ln_C_Re_readTwo : (parseMethodDescriptor n_C_Re_readTwo.desc).map (fun d => d.parameters.length) = some 0 := by decide +kernel
set_option maxRecDepth 100000 in
theorem im_C_Re_readTwo : Cond.instanceMethod n_C_Re_readTwo ∈ gG.1 := List.mem_append_right _ (List.mem_append_right _ (List.mem_append_right _ (List.mem_append_right _ (List.mem_append_left _ (List.mem_of_getElem? (i := 140) rfl)))))
set_option maxRecDepth 100000 in
theorem se_C_Re_readTwo : Cond.selects R_Re n_C_Re_readTwo n_C_Re_readTwo ∈ gG.1 := List.mem_append_right _ (List.mem_append_right _ (List.mem_append_right _ (List.mem_append_right _ (List.mem_append_left _ (List.mem_of_getElem? (i := 141) rfl)))))
abbrev c_C_Un_readWithin : ByteArray := prog_11_method_9_code
def n_C_Un_readWithin : MethodName := ⟨R_Un, "readWithin", "(II)I"⟩
set_option maxRecDepth 100000 in
theorem cd_C_Un_readWithin : Cond.code n_C_Un_readWithin c_C_Un_readWithin 4 (some .int) ∈ gG.1 := List.mem_append_right _ (List.mem_append_right _ (List.mem_append_right _ (List.mem_append_right _ (List.mem_append_left _ (List.mem_of_getElem? (i := 150) rfl)))))
theorem ln_C_Un_readWithin : (parseMethodDescriptor n_C_Un_readWithin.desc).map (fun d => d.parameters.length) = some 2 := by decide +kernel
set_option maxRecDepth 100000 in
theorem im_C_Un_readWithin : Cond.instanceMethod n_C_Un_readWithin ∈ gG.1 := List.mem_append_right _ (List.mem_append_right _ (List.mem_append_right _ (List.mem_append_right _ (List.mem_append_left _ (List.mem_of_getElem? (i := 149) rfl)))))
theorem se_C_Un_readWithin : Cond.selects R_Un n_C_Un_readWithin n_C_Un_readWithin ∈ gG.1 := List.mem_append_right _ (List.mem_append_left _ (by decide +kernel))
abbrev c_C_Un_readSide : ByteArray := prog_11_method_16_code
def n_C_Un_readSide : MethodName := ⟨R_Un, "readSide", "()I"⟩
set_option maxRecDepth 100000 in
theorem cd_C_Un_readSide : Cond.code n_C_Un_readSide c_C_Un_readSide 2 (some .int) ∈ gG.1 := List.mem_append_right _ (List.mem_append_right _ (List.mem_append_right _ (List.mem_append_right _ (List.mem_append_left _ (List.mem_of_getElem? (i := 158) rfl)))))
theorem ln_C_Un_readSide : (parseMethodDescriptor n_C_Un_readSide.desc).map (fun d => d.parameters.length) = some 0 := by decide +kernel
set_option maxRecDepth 100000 in
theorem im_C_Un_readSide : Cond.instanceMethod n_C_Un_readSide ∈ gG.1 := List.mem_append_right _ (List.mem_append_right _ (List.mem_append_right _ (List.mem_append_right _ (List.mem_append_left _ (List.mem_of_getElem? (i := 157) rfl)))))
theorem se_C_Un_readSide : Cond.selects R_Un n_C_Un_readSide n_C_Un_readSide ∈ gG.1 := List.mem_append_right _ (List.mem_append_left _ (by decide +kernel))
abbrev c_C_Un_wantLength : ByteArray := prog_11_method_8_code
def n_C_Un_wantLength : MethodName := ⟨R_Un, "wantLength", "(Z)V"⟩
set_option maxRecDepth 100000 in
theorem cd_C_Un_wantLength : Cond.code n_C_Un_wantLength c_C_Un_wantLength 2 (none) ∈ gG.1 := List.mem_append_right _ (List.mem_append_right _ (List.mem_append_right _ (List.mem_append_right _ (List.mem_append_left _ (List.mem_of_getElem? (i := 162) rfl)))))
theorem ln_C_Un_wantLength : (parseMethodDescriptor n_C_Un_wantLength.desc).map (fun d => d.parameters.length) = some 1 := by decide +kernel
set_option maxRecDepth 100000 in
theorem im_C_Un_wantLength : Cond.instanceMethod n_C_Un_wantLength ∈ gG.1 := List.mem_append_right _ (List.mem_append_right _ (List.mem_append_right _ (List.mem_append_right _ (List.mem_append_left _ (List.mem_of_getElem? (i := 161) rfl)))))
theorem se_C_Un_wantLength : Cond.selects R_Un n_C_Un_wantLength n_C_Un_wantLength ∈ gG.1 := List.mem_append_right _ (List.mem_append_left _ (by decide +kernel))
abbrev c_C_Un_readFrameLayer : ByteArray := prog_11_method_17_code
def n_C_Un_readFrameLayer : MethodName := ⟨R_Un, "readFrameLayer", "(I)V"⟩
set_option maxRecDepth 100000 in
theorem cd_C_Un_readFrameLayer : Cond.code n_C_Un_readFrameLayer c_C_Un_readFrameLayer 4 (none) ∈ gG.1 := List.mem_append_right _ (List.mem_append_right _ (List.mem_append_right _ (List.mem_append_right _ (List.mem_append_left _ (List.mem_of_getElem? (i := 171) rfl)))))
theorem ln_C_Un_readFrameLayer : (parseMethodDescriptor n_C_Un_readFrameLayer.desc).map (fun d => d.parameters.length) = some 1 := by decide +kernel
set_option maxRecDepth 100000 in
theorem im_C_Un_readFrameLayer : Cond.instanceMethod n_C_Un_readFrameLayer ∈ gG.1 := List.mem_append_right _ (List.mem_append_right _ (List.mem_append_right _ (List.mem_append_right _ (List.mem_append_left _ (List.mem_of_getElem? (i := 170) rfl)))))
theorem se_C_Un_readFrameLayer : Cond.selects R_Un n_C_Un_readFrameLayer n_C_Un_readFrameLayer ∈ gG.1 := List.mem_append_right _ (List.mem_append_left _ (by decide +kernel))
abbrev c_C_Un_readFrame : ByteArray := prog_11_method_15_code
def n_C_Un_readFrame : MethodName := ⟨R_Un, "readFrame", "()V"⟩
set_option maxRecDepth 100000 in
theorem cd_C_Un_readFrame : Cond.code n_C_Un_readFrame c_C_Un_readFrame 5 (none) ∈ gG.1 := List.mem_append_right _ (List.mem_append_right _ (List.mem_append_right _ (List.mem_append_right _ (List.mem_append_left _ (List.mem_of_getElem? (i := 146) rfl)))))
theorem ln_C_Un_readFrame : (parseMethodDescriptor n_C_Un_readFrame.desc).map (fun d => d.parameters.length) = some 0 := by decide +kernel
set_option maxRecDepth 100000 in
theorem im_C_Un_readFrame : Cond.instanceMethod n_C_Un_readFrame ∈ gG.1 := List.mem_append_right _ (List.mem_append_right _ (List.mem_append_right _ (List.mem_append_right _ (List.mem_append_left _ (List.mem_of_getElem? (i := 145) rfl)))))
theorem se_C_Un_readFrame : Cond.selects R_Un n_C_Un_readFrame n_C_Un_readFrame ∈ gG.1 := List.mem_append_right _ (List.mem_append_left _ (by decide +kernel))
abbrev c_C_Un_readScanLayer : ByteArray := prog_11_method_19_code
def n_C_Un_readScanLayer : MethodName := ⟨R_Un, "readScanLayer", "(I)I"⟩
set_option maxRecDepth 100000 in
theorem cd_C_Un_readScanLayer : Cond.code n_C_Un_readScanLayer c_C_Un_readScanLayer 6 (some .int) ∈ gG.1 := List.mem_append_right _ (List.mem_append_right _ (List.mem_append_right _ (List.mem_append_right _ (List.mem_append_left _ (List.mem_of_getElem? (i := 191) rfl)))))
theorem ln_C_Un_readScanLayer : (parseMethodDescriptor n_C_Un_readScanLayer.desc).map (fun d => d.parameters.length) = some 1 := by decide +kernel
set_option maxRecDepth 100000 in
theorem im_C_Un_readScanLayer : Cond.instanceMethod n_C_Un_readScanLayer ∈ gG.1 := List.mem_append_right _ (List.mem_append_right _ (List.mem_append_right _ (List.mem_append_right _ (List.mem_append_left _ (List.mem_of_getElem? (i := 190) rfl)))))
theorem se_C_Un_readScanLayer : Cond.selects R_Un n_C_Un_readScanLayer n_C_Un_readScanLayer ∈ gG.1 := List.mem_append_right _ (List.mem_append_left _ (by decide +kernel))
abbrev c_C_Un_readScan : ByteArray := prog_11_method_18_code
def n_C_Un_readScan : MethodName := ⟨R_Un, "readScan", "()V"⟩
set_option maxRecDepth 100000 in
theorem cd_C_Un_readScan : Cond.code n_C_Un_readScan c_C_Un_readScan 5 (none) ∈ gG.1 := List.mem_append_right _ (List.mem_append_right _ (List.mem_append_right _ (List.mem_append_right _ (List.mem_append_left _ (List.mem_of_getElem? (i := 187) rfl)))))
theorem ln_C_Un_readScan : (parseMethodDescriptor n_C_Un_readScan.desc).map (fun d => d.parameters.length) = some 0 := by decide +kernel
set_option maxRecDepth 100000 in
theorem im_C_Un_readScan : Cond.instanceMethod n_C_Un_readScan ∈ gG.1 := List.mem_append_right _ (List.mem_append_right _ (List.mem_append_right _ (List.mem_append_right _ (List.mem_append_left _ (List.mem_of_getElem? (i := 186) rfl)))))
theorem se_C_Un_readScan : Cond.selects R_Un n_C_Un_readScan n_C_Un_readScan ∈ gG.1 := List.mem_append_right _ (List.mem_append_left _ (by decide +kernel))
abbrev c_C_Un_wantMore : ByteArray := prog_11_method_11_code
def n_C_Un_wantMore : MethodName := ⟨R_Un, "wantMore", "()V"⟩
set_option maxRecDepth 100000 in
theorem cd_C_Un_wantMore : Cond.code n_C_Un_wantMore c_C_Un_wantMore 1 (none) ∈ gG.1 := List.mem_append_right _ (List.mem_append_right _ (List.mem_append_right _ (List.mem_append_right _ (List.mem_append_left _ (List.mem_of_getElem? (i := 235) rfl)))))
theorem ln_C_Un_wantMore : (parseMethodDescriptor n_C_Un_wantMore.desc).map (fun d => d.parameters.length) = some 0 := by decide +kernel
set_option maxRecDepth 100000 in
theorem im_C_Un_wantMore : Cond.instanceMethod n_C_Un_wantMore ∈ gG.1 := List.mem_append_right _ (List.mem_append_right _ (List.mem_append_right _ (List.mem_append_right _ (List.mem_append_left _ (List.mem_of_getElem? (i := 234) rfl)))))
theorem se_C_Un_wantMore : Cond.selects R_Un n_C_Un_wantMore n_C_Un_wantMore ∈ gG.1 := List.mem_append_right _ (List.mem_append_left _ (by decide +kernel))
abbrev c_C_Un_readTable : ByteArray := prog_11_method_12_code
def n_C_Un_readTable : MethodName := ⟨R_Un, "readTable", "()V"⟩
set_option maxRecDepth 100000 in
theorem cd_C_Un_readTable : Cond.code n_C_Un_readTable c_C_Un_readTable 3 (none) ∈ gG.1 := List.mem_append_right _ (List.mem_append_right _ (List.mem_append_right _ (List.mem_append_right _ (List.mem_append_left _ (List.mem_of_getElem? (i := 231) rfl)))))
theorem ln_C_Un_readTable : (parseMethodDescriptor n_C_Un_readTable.desc).map (fun d => d.parameters.length) = some 0 := by decide +kernel
set_option maxRecDepth 100000 in
theorem im_C_Un_readTable : Cond.instanceMethod n_C_Un_readTable ∈ gG.1 := List.mem_append_right _ (List.mem_append_right _ (List.mem_append_right _ (List.mem_append_right _ (List.mem_append_left _ (List.mem_of_getElem? (i := 230) rfl)))))
theorem se_C_Un_readTable : Cond.selects R_Un n_C_Un_readTable n_C_Un_readTable ∈ gG.1 := List.mem_append_right _ (List.mem_append_left _ (by decide +kernel))
abbrev c_C_Co_giveOut : ByteArray := prog_3_method_2_code
def n_C_Co_giveOut : MethodName := ⟨R_Co, "giveOut", "()Z"⟩
set_option maxRecDepth 100000 in
theorem cd_C_Co_giveOut : Cond.code n_C_Co_giveOut c_C_Co_giveOut 4 (some .boolean) ∈ gG.1 := List.mem_append_right _ (List.mem_append_right _ (List.mem_append_right _ (List.mem_append_right _ (List.mem_append_right _ (List.mem_append_left _ (List.mem_of_getElem? (i := 3) rfl))))))
theorem ln_C_Co_giveOut : (parseMethodDescriptor n_C_Co_giveOut.desc).map (fun d => d.parameters.length) = some 0 := by decide +kernel
set_option maxRecDepth 100000 in
theorem im_C_Co_giveOut : Cond.instanceMethod n_C_Co_giveOut ∈ gG.1 := List.mem_append_right _ (List.mem_append_right _ (List.mem_append_right _ (List.mem_append_right _ (List.mem_append_right _ (List.mem_append_left _ (List.mem_of_getElem? (i := 1) rfl))))))
set_option maxRecDepth 100000 in
theorem se_C_Co_giveOut : Cond.selects R_Co n_C_Co_giveOut n_C_Co_giveOut ∈ gG.1 := List.mem_append_right _ (List.mem_append_right _ (List.mem_append_right _ (List.mem_append_right _ (List.mem_append_right _ (List.mem_append_left _ (List.mem_of_getElem? (i := 2) rfl))))))
abbrev c_C_Un_isForRests : ByteArray := prog_11_method_14_code
def n_C_Un_isForRests : MethodName := ⟨R_Un, "isForRests", "(I)Z"⟩
set_option maxRecDepth 100000 in
theorem cd_C_Un_isForRests : Cond.code n_C_Un_isForRests c_C_Un_isForRests 1 (some .boolean) ∈ gG.1 := List.mem_append_right _ (List.mem_append_right _ (List.mem_append_right _ (List.mem_append_right _ (List.mem_append_right _ (List.mem_append_left _ (List.mem_of_getElem? (i := 6) rfl))))))
theorem ln_C_Un_isForRests : (parseMethodDescriptor n_C_Un_isForRests.desc).map (fun d => d.parameters.length) = some 1 := by decide +kernel
set_option maxRecDepth 100000 in
theorem st_C_Un_isForRests : Cond.static n_C_Un_isForRests ∈ gG.1 := List.mem_append_right _ (List.mem_append_right _ (List.mem_append_right _ (List.mem_append_right _ (List.mem_append_right _ (List.mem_append_left _ (List.mem_of_getElem? (i := 5) rfl))))))
abbrev c_C_Un_readCodes : ByteArray := prog_11_method_13_code
def n_C_Un_readCodes : MethodName := ⟨R_Un, "readCodes", "()V"⟩
set_option maxRecDepth 100000 in
theorem cd_C_Un_readCodes : Cond.code n_C_Un_readCodes c_C_Un_readCodes 6 (none) ∈ gG.1 := List.mem_append_right _ (List.mem_append_right _ (List.mem_append_right _ (List.mem_append_right _ (List.mem_append_left _ (List.mem_of_getElem? (i := 239) rfl)))))
theorem ln_C_Un_readCodes : (parseMethodDescriptor n_C_Un_readCodes.desc).map (fun d => d.parameters.length) = some 0 := by decide +kernel
set_option maxRecDepth 100000 in
theorem im_C_Un_readCodes : Cond.instanceMethod n_C_Un_readCodes ∈ gG.1 := List.mem_append_right _ (List.mem_append_right _ (List.mem_append_right _ (List.mem_append_right _ (List.mem_append_left _ (List.mem_of_getElem? (i := 238) rfl)))))
theorem se_C_Un_readCodes : Cond.selects R_Un n_C_Un_readCodes n_C_Un_readCodes ∈ gG.1 := List.mem_append_right _ (List.mem_append_left _ (by decide +kernel))
abbrev c_C_Un_readParts : ByteArray := prog_11_method_10_code
def n_C_Un_readParts : MethodName := ⟨R_Un, "readParts", "(I)V"⟩
set_option maxRecDepth 100000 in
theorem cd_C_Un_readParts : Cond.code n_C_Un_readParts c_C_Un_readParts 3 (none) ∈ gG.1 := List.mem_append_right _ (List.mem_append_right _ (List.mem_append_right _ (List.mem_append_right _ (List.mem_append_left _ (List.mem_of_getElem? (i := 227) rfl)))))
theorem ln_C_Un_readParts : (parseMethodDescriptor n_C_Un_readParts.desc).map (fun d => d.parameters.length) = some 1 := by decide +kernel
set_option maxRecDepth 100000 in
theorem im_C_Un_readParts : Cond.instanceMethod n_C_Un_readParts ∈ gG.1 := List.mem_append_right _ (List.mem_append_right _ (List.mem_append_right _ (List.mem_append_right _ (List.mem_append_left _ (List.mem_of_getElem? (i := 226) rfl)))))
theorem se_C_Un_readParts : Cond.selects R_Un n_C_Un_readParts n_C_Un_readParts ∈ gG.1 := List.mem_append_right _ (List.mem_append_left _ (by decide +kernel))
abbrev c_C_Re_skip : ByteArray := prog_8_method_5_code
def n_C_Re_skip : MethodName := ⟨R_Re, "skip", "(I)V"⟩
set_option maxRecDepth 100000 in
theorem cd_C_Re_skip : Cond.code n_C_Re_skip c_C_Re_skip 2 (none) ∈ gG.1 := List.mem_append_right _ (List.mem_append_right _ (List.mem_append_right _ (List.mem_append_right _ (List.mem_append_right _ (List.mem_append_left _ (List.mem_of_getElem? (i := 10) rfl))))))
theorem ln_C_Re_skip : (parseMethodDescriptor n_C_Re_skip.desc).map (fun d => d.parameters.length) = some 1 := by decide +kernel
set_option maxRecDepth 100000 in
theorem im_C_Re_skip : Cond.instanceMethod n_C_Re_skip ∈ gG.1 := List.mem_append_right _ (List.mem_append_right _ (List.mem_append_right _ (List.mem_append_right _ (List.mem_append_right _ (List.mem_append_left _ (List.mem_of_getElem? (i := 8) rfl))))))
set_option maxRecDepth 100000 in
theorem se_C_Re_skip : Cond.selects R_Re n_C_Re_skip n_C_Re_skip ∈ gG.1 := List.mem_append_right _ (List.mem_append_right _ (List.mem_append_right _ (List.mem_append_right _ (List.mem_append_right _ (List.mem_append_left _ (List.mem_of_getElem? (i := 9) rfl))))))
abbrev c_C_Un_readSection : ByteArray := prog_11_method_7_code
def n_C_Un_readSection : MethodName := ⟨R_Un, "readSection", "(I)V"⟩
set_option maxRecDepth 100000 in
theorem cd_C_Un_readSection : Cond.code n_C_Un_readSection c_C_Un_readSection 2 (none) ∈ gG.1 := List.mem_append_right _ (List.mem_append_right _ (List.mem_append_right _ (List.mem_append_right _ (List.mem_append_left _ (List.mem_of_getElem? (i := 138) rfl)))))
theorem ln_C_Un_readSection : (parseMethodDescriptor n_C_Un_readSection.desc).map (fun d => d.parameters.length) = some 1 := by decide +kernel
set_option maxRecDepth 100000 in
theorem im_C_Un_readSection : Cond.instanceMethod n_C_Un_readSection ∈ gG.1 := List.mem_append_right _ (List.mem_append_right _ (List.mem_append_right _ (List.mem_append_right _ (List.mem_append_left _ (List.mem_of_getElem? (i := 137) rfl)))))
theorem se_C_Un_readSection : Cond.selects R_Un n_C_Un_readSection n_C_Un_readSection ∈ gG.1 := List.mem_append_right _ (List.mem_append_left _ (by decide +kernel))
abbrev c_C_Re_dropBits : ByteArray := prog_8_method_7_code
def n_C_Re_dropBits : MethodName := ⟨R_Re, "dropBits", "()V"⟩
set_option maxRecDepth 100000 in
theorem cd_C_Re_dropBits : Cond.code n_C_Re_dropBits c_C_Re_dropBits 1 (none) ∈ gG.1 := List.mem_append_right _ (List.mem_append_right _ (List.mem_append_right _ (List.mem_append_right _ (List.mem_append_right _ (List.mem_append_left _ (List.mem_of_getElem? (i := 18) rfl))))))
theorem ln_C_Re_dropBits : (parseMethodDescriptor n_C_Re_dropBits.desc).map (fun d => d.parameters.length) = some 0 := by decide +kernel
set_option maxRecDepth 100000 in
theorem im_C_Re_dropBits : Cond.instanceMethod n_C_Re_dropBits ∈ gG.1 := List.mem_append_right _ (List.mem_append_right _ (List.mem_append_right _ (List.mem_append_right _ (List.mem_append_right _ (List.mem_append_left _ (List.mem_of_getElem? (i := 16) rfl))))))
set_option maxRecDepth 100000 in
theorem se_C_Re_dropBits : Cond.selects R_Re n_C_Re_dropBits n_C_Re_dropBits ∈ gG.1 := List.mem_append_right _ (List.mem_append_right _ (List.mem_append_right _ (List.mem_append_right _ (List.mem_append_right _ (List.mem_append_left _ (List.mem_of_getElem? (i := 17) rfl))))))
abbrev c_C_Un_readAgain : ByteArray := prog_11_method_21_code
def n_C_Un_readAgain : MethodName := ⟨R_Un, "readAgain", "(I)V"⟩
set_option maxRecDepth 100000 in
theorem cd_C_Un_readAgain : Cond.code n_C_Un_readAgain c_C_Un_readAgain 2 (none) ∈ gG.1 := List.mem_append_right _ (List.mem_append_right _ (List.mem_append_right _ (List.mem_append_right _ (List.mem_append_right _ (List.mem_append_left _ (List.mem_of_getElem? (i := 23) rfl))))))
theorem ln_C_Un_readAgain : (parseMethodDescriptor n_C_Un_readAgain.desc).map (fun d => d.parameters.length) = some 1 := by decide +kernel
set_option maxRecDepth 100000 in
theorem im_C_Un_readAgain : Cond.instanceMethod n_C_Un_readAgain ∈ gG.1 := List.mem_append_right _ (List.mem_append_right _ (List.mem_append_right _ (List.mem_append_right _ (List.mem_append_right _ (List.mem_append_left _ (List.mem_of_getElem? (i := 22) rfl))))))
theorem se_C_Un_readAgain : Cond.selects R_Un n_C_Un_readAgain n_C_Un_readAgain ∈ gG.1 := List.mem_append_right _ (List.mem_append_left _ (by decide +kernel))
abbrev c_C_Re_readBit : ByteArray := prog_8_method_8_code
def n_C_Re_readBit : MethodName := ⟨R_Re, "readBit", "()I"⟩
set_option maxRecDepth 100000 in
theorem cd_C_Re_readBit : Cond.code n_C_Re_readBit c_C_Re_readBit 1 (some .int) ∈ gG.1 := List.mem_append_right _ (List.mem_append_right _ (List.mem_append_right _ (List.mem_append_right _ (List.mem_append_right _ (List.mem_append_left _ (List.mem_of_getElem? (i := 35) rfl))))))
theorem ln_C_Re_readBit : (parseMethodDescriptor n_C_Re_readBit.desc).map (fun d => d.parameters.length) = some 0 := by decide +kernel
set_option maxRecDepth 100000 in
theorem im_C_Re_readBit : Cond.instanceMethod n_C_Re_readBit ∈ gG.1 := List.mem_append_right _ (List.mem_append_right _ (List.mem_append_right _ (List.mem_append_right _ (List.mem_append_right _ (List.mem_append_left _ (List.mem_of_getElem? (i := 33) rfl))))))
set_option maxRecDepth 100000 in
theorem se_C_Re_readBit : Cond.selects R_Re n_C_Re_readBit n_C_Re_readBit ∈ gG.1 := List.mem_append_right _ (List.mem_append_right _ (List.mem_append_right _ (List.mem_append_right _ (List.mem_append_right _ (List.mem_append_left _ (List.mem_of_getElem? (i := 34) rfl))))))
abbrev c_C_Co_symbolOf : ByteArray := prog_3_method_3_code
def n_C_Co_symbolOf : MethodName := ⟨R_Co, "symbolOf", "(II)I"⟩
set_option maxRecDepth 100000 in
theorem cd_C_Co_symbolOf : Cond.code n_C_Co_symbolOf c_C_Co_symbolOf 4 (some .int) ∈ gG.1 := List.mem_append_right _ (List.mem_append_right _ (List.mem_append_right _ (List.mem_append_right _ (List.mem_append_right _ (List.mem_append_left _ (List.mem_of_getElem? (i := 39) rfl))))))
theorem ln_C_Co_symbolOf : (parseMethodDescriptor n_C_Co_symbolOf.desc).map (fun d => d.parameters.length) = some 2 := by decide +kernel
set_option maxRecDepth 100000 in
theorem im_C_Co_symbolOf : Cond.instanceMethod n_C_Co_symbolOf ∈ gG.1 := List.mem_append_right _ (List.mem_append_right _ (List.mem_append_right _ (List.mem_append_right _ (List.mem_append_right _ (List.mem_append_left _ (List.mem_of_getElem? (i := 37) rfl))))))
set_option maxRecDepth 100000 in
theorem se_C_Co_symbolOf : Cond.selects R_Co n_C_Co_symbolOf n_C_Co_symbolOf ∈ gG.1 := List.mem_append_right _ (List.mem_append_right _ (List.mem_append_right _ (List.mem_append_right _ (List.mem_append_right _ (List.mem_append_left _ (List.mem_of_getElem? (i := 38) rfl))))))
abbrev c_C_Re_readSymbol : ByteArray := prog_8_method_9_code
def n_C_Re_readSymbol : MethodName := ⟨R_Re, "readSymbol", "(LBlockPicture$Codes;)I"⟩
set_option maxRecDepth 100000 in
theorem cd_C_Re_readSymbol : Cond.code n_C_Re_readSymbol c_C_Re_readSymbol 5 (some .int) ∈ gG.1 := List.mem_append_right _ (List.mem_append_right _ (List.mem_append_right _ (List.mem_append_right _ (List.mem_append_right _ (List.mem_append_left _ (List.mem_of_getElem? (i := 31) rfl))))))
theorem ln_C_Re_readSymbol : (parseMethodDescriptor n_C_Re_readSymbol.desc).map (fun d => d.parameters.length) = some 1 := by decide +kernel
set_option maxRecDepth 100000 in
theorem im_C_Re_readSymbol : Cond.instanceMethod n_C_Re_readSymbol ∈ gG.1 := List.mem_append_right _ (List.mem_append_right _ (List.mem_append_right _ (List.mem_append_right _ (List.mem_append_right _ (List.mem_append_left _ (List.mem_of_getElem? (i := 29) rfl))))))
set_option maxRecDepth 100000 in
theorem se_C_Re_readSymbol : Cond.selects R_Re n_C_Re_readSymbol n_C_Re_readSymbol ∈ gG.1 := List.mem_append_right _ (List.mem_append_right _ (List.mem_append_right _ (List.mem_append_right _ (List.mem_append_right _ (List.mem_append_left _ (List.mem_of_getElem? (i := 30) rfl))))))
abbrev c_C_Re_readNumber : ByteArray := prog_8_method_10_code
def n_C_Re_readNumber : MethodName := ⟨R_Re, "readNumber", "(I)I"⟩
set_option maxRecDepth 100000 in
theorem cd_C_Re_readNumber : Cond.code n_C_Re_readNumber c_C_Re_readNumber 4 (some .int) ∈ gG.1 := List.mem_append_right _ (List.mem_append_right _ (List.mem_append_right _ (List.mem_append_right _ (List.mem_append_right _ (List.mem_append_left _ (List.mem_of_getElem? (i := 43) rfl))))))
theorem ln_C_Re_readNumber : (parseMethodDescriptor n_C_Re_readNumber.desc).map (fun d => d.parameters.length) = some 1 := by decide +kernel
set_option maxRecDepth 100000 in
theorem im_C_Re_readNumber : Cond.instanceMethod n_C_Re_readNumber ∈ gG.1 := List.mem_append_right _ (List.mem_append_right _ (List.mem_append_right _ (List.mem_append_right _ (List.mem_append_right _ (List.mem_append_left _ (List.mem_of_getElem? (i := 41) rfl))))))
set_option maxRecDepth 100000 in
theorem se_C_Re_readNumber : Cond.selects R_Re n_C_Re_readNumber n_C_Re_readNumber ∈ gG.1 := List.mem_append_right _ (List.mem_append_right _ (List.mem_append_right _ (List.mem_append_right _ (List.mem_append_right _ (List.mem_append_left _ (List.mem_of_getElem? (i := 42) rfl))))))
abbrev c_C_Un_readBlock : ByteArray := prog_11_method_22_code
def n_C_Un_readBlock : MethodName := ⟨R_Un, "readBlock", "(I)V"⟩
set_option maxRecDepth 100000 in
theorem cd_C_Un_readBlock : Cond.code n_C_Un_readBlock c_C_Un_readBlock 8 (none) ∈ gG.1 := List.mem_append_right _ (List.mem_append_right _ (List.mem_append_right _ (List.mem_append_right _ (List.mem_append_right _ (List.mem_append_left _ (List.mem_of_getElem? (i := 27) rfl))))))
theorem ln_C_Un_readBlock : (parseMethodDescriptor n_C_Un_readBlock.desc).map (fun d => d.parameters.length) = some 1 := by decide +kernel
set_option maxRecDepth 100000 in
theorem im_C_Un_readBlock : Cond.instanceMethod n_C_Un_readBlock ∈ gG.1 := List.mem_append_right _ (List.mem_append_right _ (List.mem_append_right _ (List.mem_append_right _ (List.mem_append_right _ (List.mem_append_left _ (List.mem_of_getElem? (i := 26) rfl))))))
theorem se_C_Un_readBlock : Cond.selects R_Un n_C_Un_readBlock n_C_Un_readBlock ∈ gG.1 := List.mem_append_right _ (List.mem_append_left _ (by decide +kernel))
abbrev c_C_Un_readData : ByteArray := prog_11_method_20_code
def n_C_Un_readData : MethodName := ⟨R_Un, "readData", "()V"⟩
set_option maxRecDepth 100000 in
theorem cd_C_Un_readData : Cond.code n_C_Un_readData c_C_Un_readData 4 (none) ∈ gG.1 := List.mem_append_right _ (List.mem_append_right _ (List.mem_append_right _ (List.mem_append_right _ (List.mem_append_right _ (List.mem_append_left _ (List.mem_of_getElem? (i := 14) rfl))))))
theorem ln_C_Un_readData : (parseMethodDescriptor n_C_Un_readData.desc).map (fun d => d.parameters.length) = some 0 := by decide +kernel
set_option maxRecDepth 100000 in
theorem im_C_Un_readData : Cond.instanceMethod n_C_Un_readData ∈ gG.1 := List.mem_append_right _ (List.mem_append_right _ (List.mem_append_right _ (List.mem_append_right _ (List.mem_append_right _ (List.mem_append_left _ (List.mem_of_getElem? (i := 13) rfl))))))
theorem se_C_Un_readData : Cond.selects R_Un n_C_Un_readData n_C_Un_readData ∈ gG.1 := List.mem_append_right _ (List.mem_append_left _ (by decide +kernel))
abbrev c_C_Un_readRow : ByteArray := prog_11_method_3_code
def n_C_Un_readRow : MethodName := ⟨R_Un, "readRow", "()V"⟩
set_option maxRecDepth 100000 in
theorem cd_C_Un_readRow : Cond.code n_C_Un_readRow c_C_Un_readRow 4 (none) ∈ gG.1 := List.mem_append_right _ (List.mem_append_right _ (List.mem_append_right _ (List.mem_append_right _ (List.mem_append_left _ (List.mem_of_getElem? (i := 38) rfl)))))
theorem ln_C_Un_readRow : (parseMethodDescriptor n_C_Un_readRow.desc).map (fun d => d.parameters.length) = some 0 := by decide +kernel
set_option maxRecDepth 100000 in
theorem im_C_Un_readRow : Cond.instanceMethod n_C_Un_readRow ∈ gG.1 := List.mem_append_right _ (List.mem_append_right _ (List.mem_append_right _ (List.mem_append_right _ (List.mem_append_left _ (List.mem_of_getElem? (i := 36) rfl)))))
set_option maxRecDepth 100000 in
theorem se_C_Un_readRow : Cond.selects R_Un n_C_Un_readRow n_C_Un_readRow ∈ gG.1 := List.mem_append_right _ (List.mem_append_right _ (List.mem_append_right _ (List.mem_append_right _ (List.mem_append_left _ (List.mem_of_getElem? (i := 37) rfl)))))
abbrev c_C_Un_handOver : ByteArray := prog_11_method_2_code
def n_C_Un_handOver : MethodName := ⟨R_Un, "handOver", "(LBlockPicture$Picture;)LBlockPicture$Picture;"⟩
set_option maxRecDepth 100000 in
theorem cd_C_Un_handOver : Cond.code n_C_Un_handOver c_C_Un_handOver 3 (some (.object "BlockPicture$Picture")) ∈ gG.1 := List.mem_append_right _ (List.mem_append_right _ (List.mem_append_right _ (List.mem_append_right _ (List.mem_append_right _ (List.mem_append_left _ (List.mem_of_getElem? (i := 51) rfl))))))
theorem ln_C_Un_handOver : (parseMethodDescriptor n_C_Un_handOver.desc).map (fun d => d.parameters.length) = some 1 := by decide +kernel
set_option maxRecDepth 100000 in
theorem im_C_Un_handOver : Cond.instanceMethod n_C_Un_handOver ∈ gG.1 := List.mem_append_right _ (List.mem_append_right _ (List.mem_append_right _ (List.mem_append_right _ (List.mem_append_right _ (List.mem_append_left _ (List.mem_of_getElem? (i := 49) rfl))))))
set_option maxRecDepth 100000 in
theorem se_C_Un_handOver : Cond.selects R_Un n_C_Un_handOver n_C_Un_handOver ∈ gG.1 := List.mem_append_right _ (List.mem_append_right _ (List.mem_append_right _ (List.mem_append_right _ (List.mem_append_right _ (List.mem_append_left _ (List.mem_of_getElem? (i := 50) rfl))))))
abbrev c_C_B_place : ByteArray := prog_1_method_16_code
def n_C_B_place : MethodName := ⟨R_B, "place", "()I"⟩
set_option maxRecDepth 100000 in
theorem cd_C_B_place : Cond.code n_C_B_place c_C_B_place 1 (some .int) ∈ gG.1 := List.mem_append_right _ (List.mem_append_right _ (List.mem_append_right _ (List.mem_append_right _ (List.mem_append_right _ (List.mem_append_left _ (List.mem_of_getElem? (i := 55) rfl))))))
theorem ln_C_B_place : (parseMethodDescriptor n_C_B_place.desc).map (fun d => d.parameters.length) = some 0 := by decide +kernel
set_option maxRecDepth 100000 in
theorem im_C_B_place : Cond.instanceMethod n_C_B_place ∈ gG.1 := List.mem_append_right _ (List.mem_append_right _ (List.mem_append_right _ (List.mem_append_right _ (List.mem_append_right _ (List.mem_append_left _ (List.mem_of_getElem? (i := 53) rfl))))))
set_option maxRecDepth 100000 in
theorem se_C_B_place : Cond.selects R_B n_C_B_place n_C_B_place ∈ gG.1 := List.mem_append_right _ (List.mem_append_right _ (List.mem_append_right _ (List.mem_append_right _ (List.mem_append_right _ (List.mem_append_left _ (List.mem_of_getElem? (i := 54) rfl))))))
abbrev c_C_B_about : ByteArray := prog_1_method_17_code
def n_C_B_about : MethodName := ⟨R_B, "about", "(I)I"⟩
set_option maxRecDepth 100000 in
theorem cd_C_B_about : Cond.code n_C_B_about c_C_B_about 2 (some .int) ∈ gG.1 := List.mem_append_right _ (List.mem_append_right _ (List.mem_append_right _ (List.mem_append_right _ (List.mem_append_right _ (List.mem_append_right _ (List.mem_append_left _ (List.mem_of_getElem? (i := 120) rfl)))))))
theorem ln_C_B_about : (parseMethodDescriptor n_C_B_about.desc).map (fun d => d.parameters.length) = some 1 := by decide +kernel
set_option maxRecDepth 100000 in
theorem im_C_B_about : Cond.instanceMethod n_C_B_about ∈ gG.1 := List.mem_append_right _ (List.mem_append_right _ (List.mem_append_right _ (List.mem_append_right _ (List.mem_append_right _ (List.mem_append_right _ (List.mem_append_left _ (List.mem_of_getElem? (i := 118) rfl)))))))
set_option maxRecDepth 100000 in
theorem se_C_B_about : Cond.selects R_B n_C_B_about n_C_B_about ∈ gG.1 := List.mem_append_right _ (List.mem_append_right _ (List.mem_append_right _ (List.mem_append_right _ (List.mem_append_right _ (List.mem_append_right _ (List.mem_append_left _ (List.mem_of_getElem? (i := 119) rfl)))))))
abbrev c_C_Wa_hasWeights : ByteArray := prog_12_method_5_code
def n_C_Wa_hasWeights : MethodName := ⟨R_Wa, "hasWeights", "(I)Z"⟩
set_option maxRecDepth 100000 in
theorem cd_C_Wa_hasWeights : Cond.code n_C_Wa_hasWeights c_C_Wa_hasWeights 4 (some .boolean) ∈ gG.1 := List.mem_append_right _ (List.mem_append_right _ (List.mem_append_right _ (List.mem_append_right _ (List.mem_append_right _ (List.mem_append_right _ (List.mem_append_left _ (List.mem_of_getElem? (i := 147) rfl)))))))
theorem ln_C_Wa_hasWeights : (parseMethodDescriptor n_C_Wa_hasWeights.desc).map (fun d => d.parameters.length) = some 1 := by decide +kernel
set_option maxRecDepth 100000 in
theorem im_C_Wa_hasWeights : Cond.instanceMethod n_C_Wa_hasWeights ∈ gG.1 := List.mem_append_right _ (List.mem_append_right _ (List.mem_append_right _ (List.mem_append_right _ (List.mem_append_right _ (List.mem_append_right _ (List.mem_append_left _ (List.mem_of_getElem? (i := 146) rfl)))))))
theorem se_C_Wa_hasWeights : Cond.selects R_Wa n_C_Wa_hasWeights n_C_Wa_hasWeights ∈ gG.1 := List.mem_append_right _ (List.mem_append_left _ (by decide +kernel))
abbrev c_C_Wa_makeRow : ByteArray := prog_12_method_6_code
def n_C_Wa_makeRow : MethodName := ⟨R_Wa, "makeRow", "(I)V"⟩
set_option maxRecDepth 100000 in
theorem cd_C_Wa_makeRow : Cond.code n_C_Wa_makeRow c_C_Wa_makeRow 6 (none) ∈ gG.1 := List.mem_append_right _ (List.mem_append_right _ (List.mem_append_right _ (List.mem_append_right _ (List.mem_append_right _ (List.mem_append_right _ (List.mem_append_left _ (List.mem_of_getElem? (i := 151) rfl)))))))
theorem ln_C_Wa_makeRow : (parseMethodDescriptor n_C_Wa_makeRow.desc).map (fun d => d.parameters.length) = some 1 := by decide +kernel
set_option maxRecDepth 100000 in
theorem im_C_Wa_makeRow : Cond.instanceMethod n_C_Wa_makeRow ∈ gG.1 := List.mem_append_right _ (List.mem_append_right _ (List.mem_append_right _ (List.mem_append_right _ (List.mem_append_right _ (List.mem_append_right _ (List.mem_append_left _ (List.mem_of_getElem? (i := 150) rfl)))))))
theorem se_C_Wa_makeRow : Cond.selects R_Wa n_C_Wa_makeRow n_C_Wa_makeRow ∈ gG.1 := List.mem_append_right _ (List.mem_append_left _ (by decide +kernel))
abbrev c_C_Ar_rangeCheck : ByteArray := prog_31_method_30_code
def n_C_Ar_rangeCheck : MethodName := ⟨R_Ar, "rangeCheck", "(III)V"⟩
set_option maxRecDepth 100000 in
theorem cd_C_Ar_rangeCheck : Cond.code n_C_Ar_rangeCheck c_C_Ar_rangeCheck 3 (none) ∈ gG.1 := List.mem_append_right _ (List.mem_append_right _ (List.mem_append_right _ (List.mem_append_right _ (List.mem_append_right _ (List.mem_append_right _ (List.mem_append_left _ (List.mem_of_getElem? (i := 158) rfl)))))))
theorem ln_C_Ar_rangeCheck : (parseMethodDescriptor n_C_Ar_rangeCheck.desc).map (fun d => d.parameters.length) = some 3 := by decide +kernel
set_option maxRecDepth 100000 in
theorem st_C_Ar_rangeCheck : Cond.static n_C_Ar_rangeCheck ∈ gG.1 := List.mem_append_right _ (List.mem_append_right _ (List.mem_append_right _ (List.mem_append_right _ (List.mem_append_right _ (List.mem_append_right _ (List.mem_append_left _ (List.mem_of_getElem? (i := 157) rfl)))))))
abbrev c_C_Ar_fillJ : ByteArray := prog_31_method_102_code
def n_C_Ar_fillJ : MethodName := ⟨R_Ar, "fill", "([JIIJ)V"⟩
set_option maxRecDepth 100000 in
theorem cd_C_Ar_fillJ : Cond.code n_C_Ar_fillJ c_C_Ar_fillJ 6 (none) ∈ gG.1 := List.mem_append_right _ (List.mem_append_right _ (List.mem_append_right _ (List.mem_append_right _ (List.mem_append_right _ (List.mem_append_right _ (List.mem_append_left _ (List.mem_of_getElem? (i := 155) rfl)))))))
theorem ln_C_Ar_fillJ : (parseMethodDescriptor n_C_Ar_fillJ.desc).map (fun d => d.parameters.length) = some 4 := by decide +kernel
set_option maxRecDepth 100000 in
theorem st_C_Ar_fillJ : Cond.static n_C_Ar_fillJ ∈ gG.1 := List.mem_append_right _ (List.mem_append_right _ (List.mem_append_right _ (List.mem_append_right _ (List.mem_append_right _ (List.mem_append_right _ (List.mem_append_left _ (List.mem_of_getElem? (i := 154) rfl)))))))
abbrev c_C_Wa_makeSamples : ByteArray := prog_12_method_4_code
def n_C_Wa_makeSamples : MethodName := ⟨R_Wa, "makeSamples", "()V"⟩
set_option maxRecDepth 100000 in
theorem cd_C_Wa_makeSamples : Cond.code n_C_Wa_makeSamples c_C_Wa_makeSamples 7 (none) ∈ gG.1 := List.mem_append_right _ (List.mem_append_right _ (List.mem_append_right _ (List.mem_append_right _ (List.mem_append_right _ (List.mem_append_right _ (List.mem_append_left _ (List.mem_of_getElem? (i := 143) rfl)))))))
theorem ln_C_Wa_makeSamples : (parseMethodDescriptor n_C_Wa_makeSamples.desc).map (fun d => d.parameters.length) = some 0 := by decide +kernel
set_option maxRecDepth 100000 in
theorem im_C_Wa_makeSamples : Cond.instanceMethod n_C_Wa_makeSamples ∈ gG.1 := List.mem_append_right _ (List.mem_append_right _ (List.mem_append_right _ (List.mem_append_right _ (List.mem_append_right _ (List.mem_append_right _ (List.mem_append_left _ (List.mem_of_getElem? (i := 141) rfl)))))))
set_option maxRecDepth 100000 in
theorem se_C_Wa_makeSamples : Cond.selects R_Wa n_C_Wa_makeSamples n_C_Wa_makeSamples ∈ gG.1 := List.mem_append_right _ (List.mem_append_right _ (List.mem_append_right _ (List.mem_append_right _ (List.mem_append_right _ (List.mem_append_right _ (List.mem_append_left _ (List.mem_of_getElem? (i := 142) rfl)))))))
abbrev c_C_Pi_drawBlock : ByteArray := prog_7_method_8_code
def n_C_Pi_drawBlock : MethodName := ⟨R_Pi, "drawBlock", "(LBlockPicture$Waves;III)V"⟩
set_option maxRecDepth 100000 in
theorem cd_C_Pi_drawBlock : Cond.code n_C_Pi_drawBlock c_C_Pi_drawBlock 7 (none) ∈ gG.1 := List.mem_append_right _ (List.mem_append_right _ (List.mem_append_right _ (List.mem_append_right _ (List.mem_append_right _ (List.mem_append_right _ (List.mem_append_left _ (List.mem_of_getElem? (i := 138) rfl)))))))
theorem ln_C_Pi_drawBlock : (parseMethodDescriptor n_C_Pi_drawBlock.desc).map (fun d => d.parameters.length) = some 4 := by decide +kernel
set_option maxRecDepth 100000 in
theorem im_C_Pi_drawBlock : Cond.instanceMethod n_C_Pi_drawBlock ∈ gG.1 := List.mem_append_right _ (List.mem_append_right _ (List.mem_append_right _ (List.mem_append_right _ (List.mem_append_right _ (List.mem_append_right _ (List.mem_append_left _ (List.mem_of_getElem? (i := 137) rfl)))))))
theorem se_C_Pi_drawBlock : Cond.selects R_Pi n_C_Pi_drawBlock n_C_Pi_drawBlock ∈ gG.1 := List.mem_append_right _ (List.mem_append_left _ (by decide +kernel))
abbrev c_C_Pi_draw : ByteArray := prog_7_method_7_code
def n_C_Pi_draw : MethodName := ⟨R_Pi, "draw", "(LBlockPicture$Waves;)V"⟩
set_option maxRecDepth 100000 in
theorem cd_C_Pi_draw : Cond.code n_C_Pi_draw c_C_Pi_draw 5 (none) ∈ gG.1 := List.mem_append_right _ (List.mem_append_right _ (List.mem_append_right _ (List.mem_append_right _ (List.mem_append_right _ (List.mem_append_right _ (List.mem_append_left _ (List.mem_of_getElem? (i := 134) rfl)))))))
theorem ln_C_Pi_draw : (parseMethodDescriptor n_C_Pi_draw.desc).map (fun d => d.parameters.length) = some 1 := by decide +kernel
set_option maxRecDepth 100000 in
theorem im_C_Pi_draw : Cond.instanceMethod n_C_Pi_draw ∈ gG.1 := List.mem_append_right _ (List.mem_append_right _ (List.mem_append_right _ (List.mem_append_right _ (List.mem_append_right _ (List.mem_append_right _ (List.mem_append_left _ (List.mem_of_getElem? (i := 132) rfl)))))))
set_option maxRecDepth 100000 in
theorem se_C_Pi_draw : Cond.selects R_Pi n_C_Pi_draw n_C_Pi_draw ∈ gG.1 := List.mem_append_right _ (List.mem_append_right _ (List.mem_append_right _ (List.mem_append_right _ (List.mem_append_right _ (List.mem_append_right _ (List.mem_append_left _ (List.mem_of_getElem? (i := 133) rfl)))))))
abbrev c_C_Pi_layerSample : ByteArray := prog_7_method_9_code
def n_C_Pi_layerSample : MethodName := ⟨R_Pi, "layerSample", "(III)I"⟩
set_option maxRecDepth 100000 in
theorem cd_C_Pi_layerSample : Cond.code n_C_Pi_layerSample c_C_Pi_layerSample 6 (some .int) ∈ gG.1 := List.mem_append_right _ (List.mem_append_right _ (List.mem_append_right _ (List.mem_append_right _ (List.mem_append_right _ (List.mem_append_right _ (List.mem_append_right _ (List.mem_append_left _ (List.mem_of_getElem? (i := 183) rfl))))))))
theorem ln_C_Pi_layerSample : (parseMethodDescriptor n_C_Pi_layerSample.desc).map (fun d => d.parameters.length) = some 3 := by decide +kernel
set_option maxRecDepth 100000 in
theorem im_C_Pi_layerSample : Cond.instanceMethod n_C_Pi_layerSample ∈ gG.1 := List.mem_append_right _ (List.mem_append_right _ (List.mem_append_right _ (List.mem_append_right _ (List.mem_append_right _ (List.mem_append_right _ (List.mem_append_right _ (List.mem_append_left _ (List.mem_of_getElem? (i := 182) rfl))))))))
theorem se_C_Pi_layerSample : Cond.selects R_Pi n_C_Pi_layerSample n_C_Pi_layerSample ∈ gG.1 := List.mem_append_right _ (List.mem_append_left _ (by decide +kernel))
abbrev c_C_Pi_colour : ByteArray := prog_7_method_10_code
def n_C_Pi_colour : MethodName := ⟨R_Pi, "colour", "(III)I"⟩
set_option maxRecDepth 100000 in
theorem cd_C_Pi_colour : Cond.code n_C_Pi_colour c_C_Pi_colour 8 (some .int) ∈ gG.1 := List.mem_append_right _ (List.mem_append_right _ (List.mem_append_right _ (List.mem_append_right _ (List.mem_append_right _ (List.mem_append_right _ (List.mem_append_right _ (List.mem_append_left _ (List.mem_of_getElem? (i := 179) rfl))))))))
theorem ln_C_Pi_colour : (parseMethodDescriptor n_C_Pi_colour.desc).map (fun d => d.parameters.length) = some 3 := by decide +kernel
set_option maxRecDepth 100000 in
theorem im_C_Pi_colour : Cond.instanceMethod n_C_Pi_colour ∈ gG.1 := List.mem_append_right _ (List.mem_append_right _ (List.mem_append_right _ (List.mem_append_right _ (List.mem_append_right _ (List.mem_append_right _ (List.mem_append_right _ (List.mem_append_left _ (List.mem_of_getElem? (i := 177) rfl))))))))
set_option maxRecDepth 100000 in
theorem se_C_Pi_colour : Cond.selects R_Pi n_C_Pi_colour n_C_Pi_colour ∈ gG.1 := List.mem_append_right _ (List.mem_append_right _ (List.mem_append_right _ (List.mem_append_right _ (List.mem_append_right _ (List.mem_append_right _ (List.mem_append_right _ (List.mem_append_left _ (List.mem_of_getElem? (i := 178) rfl))))))))
abbrev c_C_B_sample : ByteArray := prog_1_method_18_code
def n_C_B_sample : MethodName := ⟨R_B, "sample", "(III)I"⟩
set_option maxRecDepth 100000 in
theorem cd_C_B_sample : Cond.code n_C_B_sample c_C_B_sample 4 (some .int) ∈ gG.1 := List.mem_append_right _ (List.mem_append_right _ (List.mem_append_right _ (List.mem_append_right _ (List.mem_append_right _ (List.mem_append_right _ (List.mem_append_left _ (List.mem_of_getElem? (i := 129) rfl)))))))
theorem ln_C_B_sample : (parseMethodDescriptor n_C_B_sample.desc).map (fun d => d.parameters.length) = some 3 := by decide +kernel
set_option maxRecDepth 100000 in
theorem im_C_B_sample : Cond.instanceMethod n_C_B_sample ∈ gG.1 := List.mem_append_right _ (List.mem_append_right _ (List.mem_append_right _ (List.mem_append_right _ (List.mem_append_right _ (List.mem_append_right _ (List.mem_append_left _ (List.mem_of_getElem? (i := 127) rfl)))))))
set_option maxRecDepth 100000 in
theorem se_C_B_sample : Cond.selects R_B n_C_B_sample n_C_B_sample ∈ gG.1 := List.mem_append_right _ (List.mem_append_right _ (List.mem_append_right _ (List.mem_append_right _ (List.mem_append_right _ (List.mem_append_right _ (List.mem_append_left _ (List.mem_of_getElem? (i := 128) rfl)))))))
abbrev c_C_Pi_hasBlock : ByteArray := prog_7_method_6_code
def n_C_Pi_hasBlock : MethodName := ⟨R_Pi, "hasBlock", "(II)Z"⟩
set_option maxRecDepth 100000 in
theorem cd_C_Pi_hasBlock : Cond.code n_C_Pi_hasBlock c_C_Pi_hasBlock 3 (some .boolean) ∈ gG.1 := List.mem_append_right _ (List.mem_append_right _ (List.mem_append_right _ (List.mem_append_right _ (List.mem_append_right _ (List.mem_append_right _ (List.mem_append_right _ (List.mem_append_left _ (List.mem_of_getElem? (i := 201) rfl))))))))
theorem ln_C_Pi_hasBlock : (parseMethodDescriptor n_C_Pi_hasBlock.desc).map (fun d => d.parameters.length) = some 2 := by decide +kernel
set_option maxRecDepth 100000 in
theorem im_C_Pi_hasBlock : Cond.instanceMethod n_C_Pi_hasBlock ∈ gG.1 := List.mem_append_right _ (List.mem_append_right _ (List.mem_append_right _ (List.mem_append_right _ (List.mem_append_right _ (List.mem_append_right _ (List.mem_append_right _ (List.mem_append_left _ (List.mem_of_getElem? (i := 199) rfl))))))))
set_option maxRecDepth 100000 in
theorem se_C_Pi_hasBlock : Cond.selects R_Pi n_C_Pi_hasBlock n_C_Pi_hasBlock ∈ gG.1 := List.mem_append_right _ (List.mem_append_right _ (List.mem_append_right _ (List.mem_append_right _ (List.mem_append_right _ (List.mem_append_right _ (List.mem_append_right _ (List.mem_append_left _ (List.mem_of_getElem? (i := 200) rfl))))))))
abbrev c_C_B_level : ByteArray := prog_1_method_19_code
def n_C_B_level : MethodName := ⟨R_B, "level", "(IIII)I"⟩
set_option maxRecDepth 100000 in
theorem cd_C_B_level : Cond.code n_C_B_level c_C_B_level 6 (some .int) ∈ gG.1 := List.mem_append_right _ (List.mem_append_right _ (List.mem_append_right _ (List.mem_append_right _ (List.mem_append_right _ (List.mem_append_right _ (List.mem_append_right _ (List.mem_append_left _ (List.mem_of_getElem? (i := 195) rfl))))))))
theorem ln_C_B_level : (parseMethodDescriptor n_C_B_level.desc).map (fun d => d.parameters.length) = some 4 := by decide +kernel
set_option maxRecDepth 100000 in
theorem im_C_B_level : Cond.instanceMethod n_C_B_level ∈ gG.1 := List.mem_append_right _ (List.mem_append_right _ (List.mem_append_right _ (List.mem_append_right _ (List.mem_append_right _ (List.mem_append_right _ (List.mem_append_right _ (List.mem_append_left _ (List.mem_of_getElem? (i := 193) rfl))))))))
set_option maxRecDepth 100000 in
theorem se_C_B_level : Cond.selects R_B n_C_B_level n_C_B_level ∈ gG.1 := List.mem_append_right _ (List.mem_append_right _ (List.mem_append_right _ (List.mem_append_right _ (List.mem_append_right _ (List.mem_append_right _ (List.mem_append_right _ (List.mem_append_left _ (List.mem_of_getElem? (i := 194) rfl))))))))
abbrev c_C_B_take : ByteArray := prog_1_method_20_code
def n_C_B_take : MethodName := ⟨R_B, "take", "()V"⟩
set_option maxRecDepth 100000 in
theorem cd_C_B_take : Cond.code n_C_B_take c_C_B_take 4 (none) ∈ gG.1 := List.mem_append_right _ (List.mem_append_right _ (List.mem_append_right _ (List.mem_append_right _ (List.mem_append_right _ (List.mem_append_right _ (List.mem_append_right _ (List.mem_append_left _ (List.mem_of_getElem? (i := 210) rfl))))))))
theorem ln_C_B_take : (parseMethodDescriptor n_C_B_take.desc).map (fun d => d.parameters.length) = some 0 := by decide +kernel
set_option maxRecDepth 100000 in
theorem im_C_B_take : Cond.instanceMethod n_C_B_take ∈ gG.1 := List.mem_append_right _ (List.mem_append_right _ (List.mem_append_right _ (List.mem_append_right _ (List.mem_append_right _ (List.mem_append_right _ (List.mem_append_right _ (List.mem_append_left _ (List.mem_of_getElem? (i := 208) rfl))))))))
set_option maxRecDepth 100000 in
theorem se_C_B_take : Cond.selects R_B n_C_B_take n_C_B_take ∈ gG.1 := List.mem_append_right _ (List.mem_append_right _ (List.mem_append_right _ (List.mem_append_right _ (List.mem_append_right _ (List.mem_append_right _ (List.mem_append_right _ (List.mem_append_left _ (List.mem_of_getElem? (i := 209) rfl))))))))
abbrev c_C_Wa_wave : ByteArray := prog_12_method_2_code
def n_C_Wa_wave : MethodName := ⟨R_Wa, "wave", "(I)I"⟩
set_option maxRecDepth 100000 in
theorem cd_C_Wa_wave : Cond.code n_C_Wa_wave c_C_Wa_wave 2 (some .int) ∈ gG.1 := List.mem_append_right _ (List.mem_append_right _ (List.mem_append_left _ (List.mem_of_getElem? (i := 103) rfl)))
theorem ln_C_Wa_wave : (parseMethodDescriptor n_C_Wa_wave.desc).map (fun d => d.parameters.length) = some 1 := by decide +kernel
set_option maxRecDepth 100000 in
theorem st_C_Wa_wave : Cond.static n_C_Wa_wave ∈ gG.1 := List.mem_append_right _ (List.mem_append_right _ (List.mem_append_left _ (List.mem_of_getElem? (i := 102) rfl)))
abbrev c_C_Ca_init : ByteArray := prog_2_method_1_code
def n_C_Ca_init : MethodName := ⟨R_Ca, "<init>", "()V"⟩
set_option maxRecDepth 100000 in
theorem cd_C_Ca_init : Cond.code n_C_Ca_init c_C_Ca_init 1 (none) ∈ gG.1 := List.mem_append_right _ (List.mem_append_right _ (List.mem_append_left _ (List.mem_of_getElem? (i := 44) rfl)))
theorem ln_C_Ca_init : (parseMethodDescriptor n_C_Ca_init.desc).map (fun d => d.parameters.length) = some 0 := by decide +kernel
set_option maxRecDepth 100000 in
theorem im_C_Ca_init : Cond.instanceMethod n_C_Ca_init ∈ gG.1 := List.mem_append_right _ (List.mem_append_right _ (List.mem_append_left _ (List.mem_of_getElem? (i := 43) rfl)))
abbrev c_C_Ro_init : ByteArray := prog_9_method_1_code
def n_C_Ro_init : MethodName := ⟨R_Ro, "<init>", "(I)V"⟩
set_option maxRecDepth 100000 in
theorem cd_C_Ro_init : Cond.code n_C_Ro_init c_C_Ro_init 2 (none) ∈ gG.1 := List.mem_append_right _ (List.mem_append_right _ (List.mem_append_left _ (List.mem_of_getElem? (i := 76) rfl)))
theorem ln_C_Ro_init : (parseMethodDescriptor n_C_Ro_init.desc).map (fun d => d.parameters.length) = some 1 := by decide +kernel
set_option maxRecDepth 100000 in
theorem im_C_Ro_init : Cond.instanceMethod n_C_Ro_init ∈ gG.1 := List.mem_append_right _ (List.mem_append_right _ (List.mem_append_left _ (List.mem_of_getElem? (i := 75) rfl)))
abbrev c_C_Wa_init : ByteArray := prog_12_method_1_code
def n_C_Wa_init : MethodName := ⟨R_Wa, "<init>", "()V"⟩
set_option maxRecDepth 100000 in
theorem cd_C_Wa_init : Cond.code n_C_Wa_init c_C_Wa_init 3 (none) ∈ gG.1 := List.mem_append_right _ (List.mem_append_right _ (List.mem_append_left _ (List.mem_of_getElem? (i := 97) rfl)))
theorem ln_C_Wa_init : (parseMethodDescriptor n_C_Wa_init.desc).map (fun d => d.parameters.length) = some 0 := by decide +kernel
set_option maxRecDepth 100000 in
theorem im_C_Wa_init : Cond.instanceMethod n_C_Wa_init ∈ gG.1 := List.mem_append_right _ (List.mem_append_right _ (List.mem_append_left _ (List.mem_of_getElem? (i := 96) rfl)))
abbrev c_C_Pi_init : ByteArray := prog_7_method_1_code
def n_C_Pi_init : MethodName := ⟨R_Pi, "<init>", "()V"⟩
set_option maxRecDepth 100000 in
theorem cd_C_Pi_init : Cond.code n_C_Pi_init c_C_Pi_init 1 (none) ∈ gG.1 := List.mem_append_right _ (List.mem_append_right _ (List.mem_append_left _ (List.mem_of_getElem? (i := 126) rfl)))
theorem ln_C_Pi_init : (parseMethodDescriptor n_C_Pi_init.desc).map (fun d => d.parameters.length) = some 0 := by decide +kernel
set_option maxRecDepth 100000 in
theorem im_C_Pi_init : Cond.instanceMethod n_C_Pi_init ∈ gG.1 := List.mem_append_right _ (List.mem_append_right _ (List.mem_append_left _ (List.mem_of_getElem? (i := 125) rfl)))
abbrev c_C_Sc_init : ByteArray := prog_10_method_1_code
def n_C_Sc_init : MethodName := ⟨R_Sc, "<init>", "()V"⟩
set_option maxRecDepth 100000 in
theorem cd_C_Sc_init : Cond.code n_C_Sc_init c_C_Sc_init 1 (none) ∈ gG.1 := List.mem_append_right _ (List.mem_append_right _ (List.mem_append_left _ (List.mem_of_getElem? (i := 215) rfl)))
theorem ln_C_Sc_init : (parseMethodDescriptor n_C_Sc_init.desc).map (fun d => d.parameters.length) = some 0 := by decide +kernel
set_option maxRecDepth 100000 in
theorem im_C_Sc_init : Cond.instanceMethod n_C_Sc_init ∈ gG.1 := List.mem_append_right _ (List.mem_append_right _ (List.mem_append_left _ (List.mem_of_getElem? (i := 214) rfl)))
abbrev c_C_Li_init : ByteArray := prog_4_method_1_code
def n_C_Li_init : MethodName := ⟨R_Li, "<init>", "()V"⟩
set_option maxRecDepth 100000 in
theorem cd_C_Li_init : Cond.code n_C_Li_init c_C_Li_init 1 (none) ∈ gG.1 := List.mem_append_right _ (List.mem_append_right _ (List.mem_append_right _ (List.mem_append_left _ (List.mem_of_getElem? (i := 17) rfl))))
theorem ln_C_Li_init : (parseMethodDescriptor n_C_Li_init.desc).map (fun d => d.parameters.length) = some 0 := by decide +kernel
set_option maxRecDepth 100000 in
theorem im_C_Li_init : Cond.instanceMethod n_C_Li_init ∈ gG.1 := List.mem_append_right _ (List.mem_append_right _ (List.mem_append_right _ (List.mem_append_left _ (List.mem_of_getElem? (i := 16) rfl))))
abbrev c_C_Oc_init : ByteArray := prog_5_method_1_code
def n_C_Oc_init : MethodName := ⟨R_Oc, "<init>", "()V"⟩
set_option maxRecDepth 100000 in
theorem cd_C_Oc_init : Cond.code n_C_Oc_init c_C_Oc_init 1 (none) ∈ gG.1 := List.mem_append_right _ (List.mem_append_right _ (List.mem_append_right _ (List.mem_append_left _ (List.mem_of_getElem? (i := 41) rfl))))
theorem ln_C_Oc_init : (parseMethodDescriptor n_C_Oc_init.desc).map (fun d => d.parameters.length) = some 0 := by decide +kernel
set_option maxRecDepth 100000 in
theorem im_C_Oc_init : Cond.instanceMethod n_C_Oc_init ∈ gG.1 := List.mem_append_right _ (List.mem_append_right _ (List.mem_append_right _ (List.mem_append_left _ (List.mem_of_getElem? (i := 40) rfl))))
abbrev c_C_Pa_init : ByteArray := prog_6_method_1_code
def n_C_Pa_init : MethodName := ⟨R_Pa, "<init>", "()V"⟩
set_option maxRecDepth 100000 in
theorem cd_C_Pa_init : Cond.code n_C_Pa_init c_C_Pa_init 1 (none) ∈ gG.1 := List.mem_append_right _ (List.mem_append_right _ (List.mem_append_left _ (List.mem_of_getElem? (i := 69) rfl)))
theorem ln_C_Pa_init : (parseMethodDescriptor n_C_Pa_init.desc).map (fun d => d.parameters.length) = some 0 := by decide +kernel
set_option maxRecDepth 100000 in
theorem im_C_Pa_init : Cond.instanceMethod n_C_Pa_init ∈ gG.1 := List.mem_append_right _ (List.mem_append_right _ (List.mem_append_left _ (List.mem_of_getElem? (i := 68) rfl)))
abbrev c_C_Re_init : ByteArray := prog_8_method_1_code
def n_C_Re_init : MethodName := ⟨R_Re, "<init>", "()V"⟩
set_option maxRecDepth 100000 in
theorem cd_C_Re_init : Cond.code n_C_Re_init c_C_Re_init 1 (none) ∈ gG.1 := List.mem_append_right _ (List.mem_append_right _ (List.mem_append_right _ (List.mem_append_left _ (List.mem_of_getElem? (i := 120) rfl))))
theorem ln_C_Re_init : (parseMethodDescriptor n_C_Re_init.desc).map (fun d => d.parameters.length) = some 0 := by decide +kernel
set_option maxRecDepth 100000 in
theorem im_C_Re_init : Cond.instanceMethod n_C_Re_init ∈ gG.1 := List.mem_append_right _ (List.mem_append_right _ (List.mem_append_right _ (List.mem_append_left _ (List.mem_of_getElem? (i := 119) rfl))))
abbrev c_C_Co_init : ByteArray := prog_3_method_1_code
def n_C_Co_init : MethodName := ⟨R_Co, "<init>", "()V"⟩
set_option maxRecDepth 100000 in
theorem cd_C_Co_init : Cond.code n_C_Co_init c_C_Co_init 1 (none) ∈ gG.1 := List.mem_append_right _ (List.mem_append_right _ (List.mem_append_right _ (List.mem_append_left _ (List.mem_of_getElem? (i := 165) rfl))))
theorem ln_C_Co_init : (parseMethodDescriptor n_C_Co_init.desc).map (fun d => d.parameters.length) = some 0 := by decide +kernel
set_option maxRecDepth 100000 in
theorem im_C_Co_init : Cond.instanceMethod n_C_Co_init ∈ gG.1 := List.mem_append_right _ (List.mem_append_right _ (List.mem_append_right _ (List.mem_append_left _ (List.mem_of_getElem? (i := 164) rfl))))
abbrev c_C_Un_init : ByteArray := prog_11_method_1_code
def n_C_Un_init : MethodName := ⟨R_Un, "<init>", "()V"⟩
set_option maxRecDepth 100000 in
theorem cd_C_Un_init : Cond.code n_C_Un_init c_C_Un_init 1 (none) ∈ gG.1 := List.mem_append_right _ (List.mem_append_right _ (List.mem_append_right _ (List.mem_append_left _ (List.mem_of_getElem? (i := 114) rfl))))
theorem ln_C_Un_init : (parseMethodDescriptor n_C_Un_init.desc).map (fun d => d.parameters.length) = some 0 := by decide +kernel
set_option maxRecDepth 100000 in
theorem im_C_Un_init : Cond.instanceMethod n_C_Un_init ∈ gG.1 := List.mem_append_right _ (List.mem_append_right _ (List.mem_append_right _ (List.mem_append_left _ (List.mem_of_getElem? (i := 113) rfl))))
abbrev c_C_B_init : ByteArray := prog_1_method_1_code
def n_C_B_init : MethodName := ⟨R_B, "<init>", "()V"⟩
set_option maxRecDepth 100000 in
theorem cd_C_B_init : Cond.code n_C_B_init c_C_B_init 1 (none) ∈ gG.1 := List.mem_append_right _ (List.mem_append_right _ (List.mem_append_left _ (List.mem_of_getElem? (i := 36) rfl)))
theorem ln_C_B_init : (parseMethodDescriptor n_C_B_init.desc).map (fun d => d.parameters.length) = some 0 := by decide +kernel
set_option maxRecDepth 100000 in
theorem im_C_B_init : Cond.instanceMethod n_C_B_init ∈ gG.1 := List.mem_append_right _ (List.mem_append_right _ (List.mem_append_left _ (List.mem_of_getElem? (i := 35) rfl)))
set_option maxRecDepth 100000 in
theorem i_E13 : Cond.initialized "java/lang/IllegalStateException" ∈ gG.1 := List.mem_append_right _ (List.mem_append_right _ (List.mem_append_left _ (List.mem_of_getElem? (i := 21) rfl)))
set_option maxRecDepth 100000 in
theorem j_E13 : Cond.instantiable "java/lang/IllegalStateException" 6 ∈ gG.1 := List.mem_append_right _ (List.mem_append_right _ (List.mem_append_right _ (List.mem_append_right _ (List.mem_append_left _ (List.mem_of_getElem? (i := 52) rfl)))))
set_option maxRecDepth 100000 in
theorem at_E13 (own : String) (ic : Nat) : ∀ w ∈ Bundle.ownAtoms own ic "java/lang/IllegalStateException" ex_nm, w = Cond.methodLink own ic (Bundle.initS "java/lang/IllegalStateException") ∨ (w ∈ gG.1 ∧ gw w = true) ∨ w ∈ ex_bad := by
  intro w hw
  have e : Bundle.ownAtoms own ic "java/lang/IllegalStateException" ex_nm = (Bundle.throwableAtoms ++ Bundle.throwableSAtoms ++ Bundle.chainSAtoms "java/lang/IllegalStateException" ex_nm) ++ Cond.methodLink own ic (Bundle.initS "java/lang/IllegalStateException") :: (Bundle.ownAtoms "" 0 "java/lang/IllegalStateException" ex_nm).drop ((Bundle.throwableAtoms ++ Bundle.throwableSAtoms ++ Bundle.chainSAtoms "java/lang/IllegalStateException" ex_nm).length + 1) := rfl
  have h1 : ((Bundle.throwableAtoms ++ Bundle.throwableSAtoms ++ Bundle.chainSAtoms "java/lang/IllegalStateException" ex_nm) ++ (Bundle.ownAtoms "" 0 "java/lang/IllegalStateException" ex_nm).drop ((Bundle.throwableAtoms ++ Bundle.throwableSAtoms ++ Bundle.chainSAtoms "java/lang/IllegalStateException" ex_nm).length + 1)).all (fun w => (tables_1.contains w && gw w) || ex_bad.contains w) = true := by decide +kernel
  have h2 : ∀ w ∈ (Bundle.throwableAtoms ++ Bundle.throwableSAtoms ++ Bundle.chainSAtoms "java/lang/IllegalStateException" ex_nm) ++ (Bundle.ownAtoms "" 0 "java/lang/IllegalStateException" ex_nm).drop ((Bundle.throwableAtoms ++ Bundle.throwableSAtoms ++ Bundle.chainSAtoms "java/lang/IllegalStateException" ex_nm).length + 1), (w ∈ gG.1 ∧ gw w = true) ∨ w ∈ ex_bad := by
    intro w hw
    have h3 := List.all_eq_true.mp h1 w hw
    rcases (Bool.or_eq_true _ _).mp h3 with h4 | h4
    · obtain ⟨h5, h6⟩ := (Bool.and_eq_true _ _).mp h4
      exact Or.inl ⟨List.mem_append_right _ (List.mem_append_right _ (List.contains_iff_mem.mp h5)), h6⟩
    · exact Or.inr (List.contains_iff_mem.mp h4)
  rw [e, List.mem_append, List.mem_cons] at hw
  rcases hw with h | h | h
  · exact Or.inr (h2 w (List.mem_append_left _ h))
  · exact Or.inl h
  · exact Or.inr (h2 w (List.mem_append_right _ h))
set_option maxRecDepth 100000 in
theorem i_E14 : Cond.initialized "java/lang/IllegalArgumentException" ∈ gG.1 := List.mem_append_right _ (List.mem_append_right _ (List.mem_append_left _ (List.mem_of_getElem? (i := 19) rfl)))
set_option maxRecDepth 100000 in
theorem j_E14 : Cond.instantiable "java/lang/IllegalArgumentException" 6 ∈ gG.1 := List.mem_append_right _ (List.mem_append_right _ (List.mem_append_right _ (List.mem_append_right _ (List.mem_append_right _ (List.mem_append_left _ (List.mem_of_getElem? (i := 66) rfl))))))
set_option maxRecDepth 100000 in
theorem at_E14 (own : String) (ic : Nat) : ∀ w ∈ Bundle.ownAtoms own ic "java/lang/IllegalArgumentException" ex_nm, w = Cond.methodLink own ic (Bundle.initS "java/lang/IllegalArgumentException") ∨ (w ∈ gG.1 ∧ gw w = true) ∨ w ∈ ex_bad := by
  intro w hw
  have e : Bundle.ownAtoms own ic "java/lang/IllegalArgumentException" ex_nm = (Bundle.throwableAtoms ++ Bundle.throwableSAtoms ++ Bundle.chainSAtoms "java/lang/IllegalArgumentException" ex_nm) ++ Cond.methodLink own ic (Bundle.initS "java/lang/IllegalArgumentException") :: (Bundle.ownAtoms "" 0 "java/lang/IllegalArgumentException" ex_nm).drop ((Bundle.throwableAtoms ++ Bundle.throwableSAtoms ++ Bundle.chainSAtoms "java/lang/IllegalArgumentException" ex_nm).length + 1) := rfl
  have h1 : ((Bundle.throwableAtoms ++ Bundle.throwableSAtoms ++ Bundle.chainSAtoms "java/lang/IllegalArgumentException" ex_nm) ++ (Bundle.ownAtoms "" 0 "java/lang/IllegalArgumentException" ex_nm).drop ((Bundle.throwableAtoms ++ Bundle.throwableSAtoms ++ Bundle.chainSAtoms "java/lang/IllegalArgumentException" ex_nm).length + 1)).all (fun w => (tables_1.contains w && gw w) || ex_bad.contains w) = true := by decide +kernel
  have h2 : ∀ w ∈ (Bundle.throwableAtoms ++ Bundle.throwableSAtoms ++ Bundle.chainSAtoms "java/lang/IllegalArgumentException" ex_nm) ++ (Bundle.ownAtoms "" 0 "java/lang/IllegalArgumentException" ex_nm).drop ((Bundle.throwableAtoms ++ Bundle.throwableSAtoms ++ Bundle.chainSAtoms "java/lang/IllegalArgumentException" ex_nm).length + 1), (w ∈ gG.1 ∧ gw w = true) ∨ w ∈ ex_bad := by
    intro w hw
    have h3 := List.all_eq_true.mp h1 w hw
    rcases (Bool.or_eq_true _ _).mp h3 with h4 | h4
    · obtain ⟨h5, h6⟩ := (Bool.and_eq_true _ _).mp h4
      exact Or.inl ⟨List.mem_append_right _ (List.mem_append_right _ (List.contains_iff_mem.mp h5)), h6⟩
    · exact Or.inr (List.contains_iff_mem.mp h4)
  rw [e, List.mem_append, List.mem_cons] at hw
  rcases hw with h | h | h
  · exact Or.inr (h2 w (List.mem_append_left _ h))
  · exact Or.inl h
  · exact Or.inr (h2 w (List.mem_append_right _ h))
set_option maxRecDepth 100000 in
theorem i_E15 : Cond.initialized "java/lang/IndexOutOfBoundsException" ∈ gG.1 := List.mem_append_right _ (List.mem_append_right _ (List.mem_append_left _ (List.mem_of_getElem? (i := 20) rfl)))
set_option maxRecDepth 100000 in
theorem j_E15 : Cond.instantiable "java/lang/IndexOutOfBoundsException" 6 ∈ gG.1 := List.mem_append_right _ (List.mem_append_right _ (List.mem_append_right _ (List.mem_append_right _ (List.mem_append_right _ (List.mem_append_left _ (List.mem_of_getElem? (i := 99) rfl))))))
set_option maxRecDepth 100000 in
theorem at_E15 (own : String) (ic : Nat) : ∀ w ∈ Bundle.ownAtoms own ic "java/lang/IndexOutOfBoundsException" ex_nm, w = Cond.methodLink own ic (Bundle.initS "java/lang/IndexOutOfBoundsException") ∨ (w ∈ gG.1 ∧ gw w = true) ∨ w ∈ ex_bad := by
  intro w hw
  have e : Bundle.ownAtoms own ic "java/lang/IndexOutOfBoundsException" ex_nm = (Bundle.throwableAtoms ++ Bundle.throwableSAtoms ++ Bundle.chainSAtoms "java/lang/IndexOutOfBoundsException" ex_nm) ++ Cond.methodLink own ic (Bundle.initS "java/lang/IndexOutOfBoundsException") :: (Bundle.ownAtoms "" 0 "java/lang/IndexOutOfBoundsException" ex_nm).drop ((Bundle.throwableAtoms ++ Bundle.throwableSAtoms ++ Bundle.chainSAtoms "java/lang/IndexOutOfBoundsException" ex_nm).length + 1) := rfl
  have h1 : ((Bundle.throwableAtoms ++ Bundle.throwableSAtoms ++ Bundle.chainSAtoms "java/lang/IndexOutOfBoundsException" ex_nm) ++ (Bundle.ownAtoms "" 0 "java/lang/IndexOutOfBoundsException" ex_nm).drop ((Bundle.throwableAtoms ++ Bundle.throwableSAtoms ++ Bundle.chainSAtoms "java/lang/IndexOutOfBoundsException" ex_nm).length + 1)).all (fun w => (tables_1.contains w && gw w) || ex_bad.contains w) = true := by decide +kernel
  have h2 : ∀ w ∈ (Bundle.throwableAtoms ++ Bundle.throwableSAtoms ++ Bundle.chainSAtoms "java/lang/IndexOutOfBoundsException" ex_nm) ++ (Bundle.ownAtoms "" 0 "java/lang/IndexOutOfBoundsException" ex_nm).drop ((Bundle.throwableAtoms ++ Bundle.throwableSAtoms ++ Bundle.chainSAtoms "java/lang/IndexOutOfBoundsException" ex_nm).length + 1), (w ∈ gG.1 ∧ gw w = true) ∨ w ∈ ex_bad := by
    intro w hw
    have h3 := List.all_eq_true.mp h1 w hw
    rcases (Bool.or_eq_true _ _).mp h3 with h4 | h4
    · obtain ⟨h5, h6⟩ := (Bool.and_eq_true _ _).mp h4
      exact Or.inl ⟨List.mem_append_right _ (List.mem_append_right _ (List.contains_iff_mem.mp h5)), h6⟩
    · exact Or.inr (List.contains_iff_mem.mp h4)
  rw [e, List.mem_append, List.mem_cons] at hw
  rcases hw with h | h | h
  · exact Or.inr (h2 w (List.mem_append_left _ h))
  · exact Or.inl h
  · exact Or.inr (h2 w (List.mem_append_right _ h))
set_option maxRecDepth 100000 in
theorem x_B_75 : Cond.classLink R_B 75 "java/lang/IllegalArgumentException" ∈ gG.1 := List.mem_append_right _ (List.mem_append_right _ (List.mem_append_right _ (List.mem_append_right _ (List.mem_append_right _ (List.mem_append_left _ (List.mem_of_getElem? (i := 65) rfl))))))
set_option maxRecDepth 100000 in
theorem y_B_77 : Cond.stringRef R_B 77 "a canvas is 1 .. 64 wide and high and has 1 or 3 planes" ∈ gG.1 := List.mem_append_right _ (List.mem_append_right _ (List.mem_append_right _ (List.mem_append_right _ (List.mem_append_right _ (List.mem_append_left _ (List.mem_of_getElem? (i := 74) rfl))))))
set_option maxRecDepth 100000 in
theorem z_B_79 : Cond.methodLink R_B 79 (Bundle.initS "java/lang/IllegalArgumentException") ∈ gG.1 := List.mem_append_right _ (List.mem_append_right _ (List.mem_append_right _ (List.mem_append_right _ (List.mem_append_right _ (List.mem_append_left _ (List.mem_of_getElem? (i := 75) rfl))))))
set_option maxRecDepth 100000 in
theorem x_B_90 : Cond.classLink R_B 90 "java/lang/IndexOutOfBoundsException" ∈ gG.1 := List.mem_append_right _ (List.mem_append_right _ (List.mem_append_right _ (List.mem_append_right _ (List.mem_append_right _ (List.mem_append_left _ (List.mem_of_getElem? (i := 98) rfl))))))
set_option maxRecDepth 100000 in
theorem y_B_92 : Cond.stringRef R_B 92 "the rectangle is not all on the canvas" ∈ gG.1 := List.mem_append_right _ (List.mem_append_right _ (List.mem_append_right _ (List.mem_append_right _ (List.mem_append_right _ (List.mem_append_left _ (List.mem_of_getElem? (i := 107) rfl))))))
set_option maxRecDepth 100000 in
theorem z_B_94 : Cond.methodLink R_B 94 (Bundle.initS "java/lang/IndexOutOfBoundsException") ∈ gG.1 := List.mem_append_right _ (List.mem_append_right _ (List.mem_append_right _ (List.mem_append_right _ (List.mem_append_right _ (List.mem_append_left _ (List.mem_of_getElem? (i := 108) rfl))))))
set_option maxRecDepth 100000 in
theorem y_B_102 : Cond.stringRef R_B 102 "the canvas has no such sample" ∈ gG.1 := List.mem_append_right _ (List.mem_append_right _ (List.mem_append_right _ (List.mem_append_right _ (List.mem_append_right _ (List.mem_append_left _ (List.mem_of_getElem? (i := 135) rfl))))))
set_option maxRecDepth 100000 in
theorem y_B_111 : Cond.stringRef R_B 111 "tables are 0 and 1, a and b -1000 .. 1000" ∈ gG.1 := List.mem_append_right _ (List.mem_append_right _ (List.mem_append_right _ (List.mem_append_right _ (List.mem_append_right _ (List.mem_append_left _ (List.mem_of_getElem? (i := 144) rfl))))))
set_option maxRecDepth 100000 in
theorem y_B_116 : Cond.stringRef R_B 116 "a table has rows and columns 0 .. 7" ∈ gG.1 := List.mem_append_right _ (List.mem_append_right _ (List.mem_append_right _ (List.mem_append_right _ (List.mem_append_right _ (List.mem_append_left _ (List.mem_of_getElem? (i := 155) rfl))))))
set_option maxRecDepth 100000 in
theorem y_B_118 : Cond.stringRef R_B 118 "tables are 0 and 1, entries 1 .. 255" ∈ gG.1 := List.mem_append_right _ (List.mem_append_right _ (List.mem_append_right _ (List.mem_append_right _ (List.mem_append_right _ (List.mem_append_left _ (List.mem_of_getElem? (i := 156) rfl))))))
set_option maxRecDepth 100000 in
theorem y_B_121 : Cond.stringRef R_B 121 "factors are 1 or 2, the INTERVAL 0 .. 65535" ∈ gG.1 := List.mem_append_right _ (List.mem_append_right _ (List.mem_append_right _ (List.mem_append_right _ (List.mem_append_right _ (List.mem_append_left _ (List.mem_of_getElem? (i := 165) rfl))))))
set_option maxRecDepth 100000 in
theorem y_B_143 : Cond.stringRef R_B 143 "OUT has no such byte" ∈ gG.1 := List.mem_append_right _ (List.mem_append_right _ (List.mem_append_right _ (List.mem_append_right _ (List.mem_append_right _ (List.mem_append_right _ (List.mem_append_left _ (List.mem_of_getElem? (i := 71) rfl)))))))
set_option maxRecDepth 100000 in
theorem x_B_149 : Cond.classLink R_B 149 "java/lang/IllegalStateException" ∈ gG.1 := List.mem_append_right _ (List.mem_append_right _ (List.mem_append_right _ (List.mem_append_right _ (List.mem_append_left _ (List.mem_of_getElem? (i := 34) rfl)))))
set_option maxRecDepth 100000 in
theorem y_B_151 : Cond.stringRef R_B 151 "there is no room on the TAPE" ∈ gG.1 := List.mem_append_right _ (List.mem_append_right _ (List.mem_append_right _ (List.mem_append_right _ (List.mem_append_right _ (List.mem_append_right _ (List.mem_append_left _ (List.mem_of_getElem? (i := 81) rfl)))))))
set_option maxRecDepth 100000 in
theorem z_B_153 : Cond.methodLink R_B 153 (Bundle.initS "java/lang/IllegalStateException") ∈ gG.1 := List.mem_append_right _ (List.mem_append_right _ (List.mem_append_right _ (List.mem_append_right _ (List.mem_append_right _ (List.mem_append_right _ (List.mem_append_left _ (List.mem_of_getElem? (i := 82) rfl)))))))
set_option maxRecDepth 100000 in
theorem y_B_157 : Cond.stringRef R_B 157 "the TAPE can't be cut there" ∈ gG.1 := List.mem_append_right _ (List.mem_append_right _ (List.mem_append_right _ (List.mem_append_right _ (List.mem_append_right _ (List.mem_append_right _ (List.mem_append_left _ (List.mem_of_getElem? (i := 95) rfl)))))))
set_option maxRecDepth 100000 in
theorem y_B_159 : Cond.stringRef R_B 159 "the TAPE has no such byte" ∈ gG.1 := List.mem_append_right _ (List.mem_append_right _ (List.mem_append_right _ (List.mem_append_right _ (List.mem_append_right _ (List.mem_append_right _ (List.mem_append_left _ (List.mem_of_getElem? (i := 103) rfl)))))))
set_option maxRecDepth 100000 in
theorem y_B_161 : Cond.stringRef R_B 161 "a byte is changed by 0 .. 255" ∈ gG.1 := List.mem_append_right _ (List.mem_append_right _ (List.mem_append_right _ (List.mem_append_right _ (List.mem_append_right _ (List.mem_append_right _ (List.mem_append_left _ (List.mem_of_getElem? (i := 104) rfl)))))))
set_option maxRecDepth 100000 in
theorem y_B_163 : Cond.stringRef R_B 163 "OUT has more bytes than the TAPE has room for" ∈ gG.1 := List.mem_append_right _ (List.mem_append_right _ (List.mem_append_right _ (List.mem_append_right _ (List.mem_append_right _ (List.mem_append_right _ (List.mem_append_left _ (List.mem_of_getElem? (i := 112) rfl)))))))
set_option maxRecDepth 100000 in
theorem x_Re_28 : Cond.classLink R_Re 28 "java/lang/IllegalStateException" ∈ gG.1 := List.mem_append_right _ (List.mem_append_right _ (List.mem_append_right _ (List.mem_append_right _ (List.mem_append_left _ (List.mem_of_getElem? (i := 51) rfl)))))
set_option maxRecDepth 100000 in
theorem y_Re_41 : Cond.stringRef R_Re 41 "the TAPE ends too early" ∈ gG.1 := List.mem_append_right _ (List.mem_append_right _ (List.mem_append_right _ (List.mem_append_right _ (List.mem_append_left _ (List.mem_of_getElem? (i := 93) rfl)))))
set_option maxRecDepth 100000 in
theorem z_Re_32 : Cond.methodLink R_Re 32 (Bundle.initS "java/lang/IllegalStateException") ∈ gG.1 := List.mem_append_right _ (List.mem_append_right _ (List.mem_append_right _ (List.mem_append_right _ (List.mem_append_left _ (List.mem_of_getElem? (i := 94) rfl)))))
set_option maxRecDepth 100000 in
theorem y_Re_30 : Cond.stringRef R_Re 30 "the TAPE tells no picture" ∈ gG.1 := List.mem_append_right _ (List.mem_append_right _ (List.mem_append_right _ (List.mem_append_right _ (List.mem_append_left _ (List.mem_of_getElem? (i := 124) rfl)))))
set_option maxRecDepth 100000 in
theorem y_B_179 : Cond.stringRef R_B 179 "what is 0 .. 2" ∈ gG.1 := List.mem_append_right _ (List.mem_append_right _ (List.mem_append_right _ (List.mem_append_right _ (List.mem_append_right _ (List.mem_append_right _ (List.mem_append_left _ (List.mem_of_getElem? (i := 121) rfl)))))))
set_option maxRecDepth 100000 in
theorem y_B_185 : Cond.stringRef R_B 185 "there is no picture" ∈ gG.1 := List.mem_append_right _ (List.mem_append_right _ (List.mem_append_right _ (List.mem_append_right _ (List.mem_append_right _ (List.mem_append_right _ (List.mem_append_left _ (List.mem_of_getElem? (i := 122) rfl)))))))
set_option maxRecDepth 100000 in
theorem y_B_196 : Cond.stringRef R_B 196 "the picture has no such sample" ∈ gG.1 := List.mem_append_right _ (List.mem_append_right _ (List.mem_append_right _ (List.mem_append_right _ (List.mem_append_right _ (List.mem_append_right _ (List.mem_append_left _ (List.mem_of_getElem? (i := 130) rfl)))))))
set_option maxRecDepth 100000 in
theorem y_B_205 : Cond.stringRef R_B 205 "which is 0 or 1" ∈ gG.1 := List.mem_append_right _ (List.mem_append_right _ (List.mem_append_right _ (List.mem_append_right _ (List.mem_append_right _ (List.mem_append_right _ (List.mem_append_right _ (List.mem_append_left _ (List.mem_of_getElem? (i := 196) rfl))))))))
set_option maxRecDepth 100000 in
theorem y_B_210 : Cond.stringRef R_B 210 "nothing was packed, or there is no picture" ∈ gG.1 := List.mem_append_right _ (List.mem_append_right _ (List.mem_append_right _ (List.mem_append_right _ (List.mem_append_right _ (List.mem_append_right _ (List.mem_append_right _ (List.mem_append_left _ (List.mem_of_getElem? (i := 197) rfl))))))))
set_option maxRecDepth 100000 in
theorem y_B_216 : Cond.stringRef R_B 216 "there is no such level" ∈ gG.1 := List.mem_append_right _ (List.mem_append_right _ (List.mem_append_right _ (List.mem_append_right _ (List.mem_append_right _ (List.mem_append_right _ (List.mem_append_right _ (List.mem_append_left _ (List.mem_of_getElem? (i := 203) rfl))))))))
set_option maxRecDepth 100000 in
theorem st_Ma_max : Cond.static Lib.Math.max.name ∈ gG.1 := List.mem_append_right _ (List.mem_append_right _ (List.mem_append_left _ (List.mem_of_getElem? (i := 79) rfl)))
set_option maxRecDepth 100000 in
theorem cd_Ma_max : Cond.code Lib.Math.max.name Lib.Math.max.code 2 (some .int) ∈ gG.1 := List.mem_append_right _ (List.mem_append_right _ (List.mem_append_left _ (List.mem_of_getElem? (i := 80) rfl)))
set_option maxRecDepth 100000 in
theorem st_Ma_min : Cond.static Lib.Math.min.name ∈ gG.1 := List.mem_append_right _ (List.mem_append_right _ (List.mem_append_right _ (List.mem_append_right _ (List.mem_append_right _ (List.mem_append_left _ (List.mem_of_getElem? (i := 183) rfl))))))
set_option maxRecDepth 100000 in
theorem cd_Ma_min : Cond.code Lib.Math.min.name Lib.Math.min.code 2 (some .int) ∈ gG.1 := List.mem_append_right _ (List.mem_append_right _ (List.mem_append_right _ (List.mem_append_right _ (List.mem_append_right _ (List.mem_append_left _ (List.mem_of_getElem? (i := 184) rfl))))))
set_option maxRecDepth 100000 in
theorem st_Ma_abs : Cond.static Lib.Math.abs.name ∈ gG.1 := List.mem_append_right _ (List.mem_append_right _ (List.mem_append_right _ (List.mem_append_right _ (List.mem_append_right _ (List.mem_append_left _ (List.mem_of_getElem? (i := 206) rfl))))))
set_option maxRecDepth 100000 in
theorem cd_Ma_abs : Cond.code Lib.Math.abs.name Lib.Math.abs.code 1 (some .int) ∈ gG.1 := List.mem_append_right _ (List.mem_append_right _ (List.mem_append_right _ (List.mem_append_right _ (List.mem_append_right _ (List.mem_append_left _ (List.mem_of_getElem? (i := 207) rfl))))))
set_option maxRecDepth 100000 in
theorem f_Ca_9 : Cond.fieldLink R_Ca 9 "BlockPicture$Canvas" "width" "I" ∈ gG.1 := List.mem_append_right _ (List.mem_append_right _ (List.mem_append_left _ (List.mem_of_getElem? (i := 46) rfl)))
set_option maxRecDepth 100000 in
theorem f_Ca_15 : Cond.fieldLink R_Ca 15 "BlockPicture$Canvas" "height" "I" ∈ gG.1 := List.mem_append_right _ (List.mem_append_right _ (List.mem_append_left _ (List.mem_of_getElem? (i := 48) rfl)))
set_option maxRecDepth 100000 in
theorem f_Ca_18 : Cond.fieldLink R_Ca 18 "BlockPicture$Canvas" "planes" "I" ∈ gG.1 := List.mem_append_right _ (List.mem_append_right _ (List.mem_append_left _ (List.mem_of_getElem? (i := 50) rfl)))
set_option maxRecDepth 100000 in
theorem f_Ca_21 : Cond.fieldLink R_Ca 21 "BlockPicture$Canvas" "samples" "[I" ∈ gG.1 := List.mem_append_right _ (List.mem_append_right _ (List.mem_append_left _ (List.mem_of_getElem? (i := 53) rfl)))
set_option maxRecDepth 100000 in
theorem l_Ca_25 : Cond.methodLink R_Ca 25 n_C_Ar_fillI ∈ gG.1 := List.mem_append_right _ (List.mem_append_right _ (List.mem_append_right _ (List.mem_append_right _ (List.mem_append_right _ (List.mem_append_left _ (List.mem_of_getElem? (i := 85) rfl))))))
set_option maxRecDepth 100000 in
theorem l_B_71 : Cond.methodLink R_B 71 n_C_B_isWithin ∈ gG.1 := List.mem_append_right _ (List.mem_append_right _ (List.mem_append_right _ (List.mem_append_right _ (List.mem_append_right _ (List.mem_append_left _ (List.mem_of_getElem? (i := 64) rfl))))))
set_option maxRecDepth 100000 in
theorem f_B_12 : Cond.fieldLink R_B 12 "BlockPicture" "canvas" "LBlockPicture$Canvas;" ∈ gG.1 := List.mem_append_right _ (List.mem_append_right _ (List.mem_append_right _ (List.mem_append_left _ (List.mem_of_getElem? (i := 238) rfl))))
set_option maxRecDepth 100000 in
theorem l_B_82 : Cond.methodLink R_B 82 n_C_Ca_begin ∈ gG.1 := List.mem_append_right _ (List.mem_append_right _ (List.mem_append_right _ (List.mem_append_right _ (List.mem_append_right _ (List.mem_append_left _ (List.mem_of_getElem? (i := 81) rfl))))))
set_option maxRecDepth 100000 in
theorem l_Ca_31 : Cond.methodLinkNest R_Ca 31 n_C_B_spot "BlockPicture" ∈ gG.1 := List.mem_append_right _ (List.mem_append_right _ (List.mem_append_right _ (List.mem_append_right _ (List.mem_append_right _ (List.mem_append_left _ (List.mem_of_getElem? (i := 118) rfl))))))
set_option maxRecDepth 100000 in
theorem l_B_86 : Cond.methodLink R_B 86 n_C_Ca_holds ∈ gG.1 := List.mem_append_right _ (List.mem_append_right _ (List.mem_append_right _ (List.mem_append_right _ (List.mem_append_right _ (List.mem_append_left _ (List.mem_of_getElem? (i := 94) rfl))))))
set_option maxRecDepth 100000 in
theorem l_B_95 : Cond.methodLink R_B 95 n_C_Ca_paint ∈ gG.1 := List.mem_append_right _ (List.mem_append_right _ (List.mem_append_right _ (List.mem_append_right _ (List.mem_append_right _ (List.mem_append_left _ (List.mem_of_getElem? (i := 114) rfl))))))
set_option maxRecDepth 100000 in
theorem f_B_99 : Cond.fieldLinkNest R_B 99 "BlockPicture$Canvas" "planes" "I" "BlockPicture" ∈ gG.1 := List.mem_append_right _ (List.mem_append_right _ (List.mem_append_left _ (List.mem_of_getElem? (i := 52) rfl)))
set_option maxRecDepth 100000 in
theorem f_B_104 : Cond.fieldLinkNest R_B 104 "BlockPicture$Canvas" "samples" "[I" "BlockPicture" ∈ gG.1 := List.mem_append_right _ (List.mem_append_right _ (List.mem_append_left _ (List.mem_of_getElem? (i := 54) rfl)))
set_option maxRecDepth 100000 in
theorem l_B_107 : Cond.methodLink R_B 107 n_C_B_spot ∈ gG.1 := List.mem_append_right _ (List.mem_append_right _ (List.mem_append_right _ (List.mem_append_right _ (List.mem_append_right _ (List.mem_append_left _ (List.mem_of_getElem? (i := 136) rfl))))))
set_option maxRecDepth 100000 in
theorem f_B_16 : Cond.fieldLink R_B 16 "BlockPicture" "tables" "[I" ∈ gG.1 := List.mem_append_right _ (List.mem_append_right _ (List.mem_append_right _ (List.mem_append_left _ (List.mem_of_getElem? (i := 239) rfl))))
set_option maxRecDepth 100000 in
theorem l_B_113 : Cond.methodLink R_B 113 n_C_B_clamp ∈ gG.1 := List.mem_append_right _ (List.mem_append_right _ (List.mem_append_right _ (List.mem_append_right _ (List.mem_append_right _ (List.mem_append_left _ (List.mem_of_getElem? (i := 145) rfl))))))
set_option maxRecDepth 100000 in
theorem f_Pi_9 : Cond.fieldLink R_Pi 9 "BlockPicture$Picture" "width" "I" ∈ gG.1 := List.mem_append_right _ (List.mem_append_right _ (List.mem_append_left _ (List.mem_of_getElem? (i := 128) rfl)))
set_option maxRecDepth 100000 in
theorem f_Pi_15 : Cond.fieldLink R_Pi 15 "BlockPicture$Picture" "height" "I" ∈ gG.1 := List.mem_append_right _ (List.mem_append_right _ (List.mem_append_left _ (List.mem_of_getElem? (i := 131) rfl)))
set_option maxRecDepth 100000 in
theorem f_Pi_18 : Cond.fieldLink R_Pi 18 "BlockPicture$Picture" "layers" "I" ∈ gG.1 := List.mem_append_right _ (List.mem_append_right _ (List.mem_append_left _ (List.mem_of_getElem? (i := 134) rfl)))
set_option maxRecDepth 100000 in
theorem f_Pi_28 : Cond.fieldLink R_Pi 28 "BlockPicture$Picture" "mostAcross" "I" ∈ gG.1 := List.mem_append_right _ (List.mem_append_right _ (List.mem_append_left _ (List.mem_of_getElem? (i := 144) rfl)))
set_option maxRecDepth 100000 in
theorem f_Pi_31 : Cond.fieldLink R_Pi 31 "BlockPicture$Picture" "mostDown" "I" ∈ gG.1 := List.mem_append_right _ (List.mem_append_right _ (List.mem_append_left _ (List.mem_of_getElem? (i := 146) rfl)))
set_option maxRecDepth 100000 in
theorem f_Pi_61 : Cond.fieldLink R_Pi 61 "BlockPicture$Picture" "drawn" "Z" ∈ gG.1 := List.mem_append_right _ (List.mem_append_right _ (List.mem_append_left _ (List.mem_of_getElem? (i := 170) rfl)))
set_option maxRecDepth 100000 in
theorem f_Pi_52 : Cond.fieldLink R_Pi 52 "BlockPicture$Picture" "levels" "[I" ∈ gG.1 := List.mem_append_right _ (List.mem_append_right _ (List.mem_append_left _ (List.mem_of_getElem? (i := 162) rfl)))
set_option maxRecDepth 100000 in
theorem l_Pi_65 : Cond.methodLink R_Pi 65 n_C_Ar_fillI ∈ gG.1 := List.mem_append_right _ (List.mem_append_right _ (List.mem_append_right _ (List.mem_append_right _ (List.mem_append_left _ (List.mem_of_getElem? (i := 167) rfl)))))
set_option maxRecDepth 100000 in
theorem f_Pi_21 : Cond.fieldLink R_Pi 21 "BlockPicture$Picture" "across" "[I" ∈ gG.1 := List.mem_append_right _ (List.mem_append_right _ (List.mem_append_left _ (List.mem_of_getElem? (i := 138) rfl)))
set_option maxRecDepth 100000 in
theorem f_Pi_25 : Cond.fieldLink R_Pi 25 "BlockPicture$Picture" "down" "[I" ∈ gG.1 := List.mem_append_right _ (List.mem_append_right _ (List.mem_append_left _ (List.mem_of_getElem? (i := 141) rfl)))
set_option maxRecDepth 100000 in
theorem l_Pi_71 : Cond.methodLink R_Pi 71 Lib.Math.max.name ∈ gG.1 := List.mem_append_right _ (List.mem_append_right _ (List.mem_append_right _ (List.mem_append_right _ (List.mem_append_left _ (List.mem_of_getElem? (i := 176) rfl)))))
set_option maxRecDepth 100000 in
theorem f_Sc_24 : Cond.fieldLink R_Sc 24 "BlockPicture$Scan" "layers" "I" ∈ gG.1 := List.mem_append_right _ (List.mem_append_right _ (List.mem_append_left _ (List.mem_of_getElem? (i := 217) rfl)))
set_option maxRecDepth 100000 in
theorem f_Sc_9 : Cond.fieldLink R_Sc 9 "BlockPicture$Scan" "layer" "[I" ∈ gG.1 := List.mem_append_right _ (List.mem_append_right _ (List.mem_append_left _ (List.mem_of_getElem? (i := 220) rfl)))
set_option maxRecDepth 100000 in
theorem f_Sc_15 : Cond.fieldLink R_Sc 15 "BlockPicture$Scan" "starts" "[I" ∈ gG.1 := List.mem_append_right _ (List.mem_append_right _ (List.mem_append_left _ (List.mem_of_getElem? (i := 221) rfl)))
set_option maxRecDepth 100000 in
theorem f_Sc_18 : Cond.fieldLink R_Sc 18 "BlockPicture$Scan" "rests" "[I" ∈ gG.1 := List.mem_append_right _ (List.mem_append_right _ (List.mem_append_left _ (List.mem_of_getElem? (i := 223) rfl)))
set_option maxRecDepth 100000 in
theorem l_Pi_77 : Cond.methodLink R_Pi 77 n_C_Pi_upward ∈ gG.1 := List.mem_append_right _ (List.mem_append_right _ (List.mem_append_right _ (List.mem_append_right _ (List.mem_append_left _ (List.mem_of_getElem? (i := 181) rfl)))))
set_option maxRecDepth 100000 in
theorem f_Pi_34 : Cond.fieldLink R_Pi 34 "BlockPicture$Picture" "stretchesAcross" "I" ∈ gG.1 := List.mem_append_right _ (List.mem_append_right _ (List.mem_append_left _ (List.mem_of_getElem? (i := 148) rfl)))
set_option maxRecDepth 100000 in
theorem f_Pi_37 : Cond.fieldLink R_Pi 37 "BlockPicture$Picture" "stretchesDown" "I" ∈ gG.1 := List.mem_append_right _ (List.mem_append_right _ (List.mem_append_left _ (List.mem_of_getElem? (i := 150) rfl)))
set_option maxRecDepth 100000 in
theorem f_Pi_40 : Cond.fieldLink R_Pi 40 "BlockPicture$Picture" "wide" "[I" ∈ gG.1 := List.mem_append_right _ (List.mem_append_right _ (List.mem_append_left _ (List.mem_of_getElem? (i := 152) rfl)))
set_option maxRecDepth 100000 in
theorem f_Pi_43 : Cond.fieldLink R_Pi 43 "BlockPicture$Picture" "high" "[I" ∈ gG.1 := List.mem_append_right _ (List.mem_append_right _ (List.mem_append_left _ (List.mem_of_getElem? (i := 155) rfl)))
set_option maxRecDepth 100000 in
theorem f_Pi_46 : Cond.fieldLink R_Pi 46 "BlockPicture$Picture" "gridWide" "[I" ∈ gG.1 := List.mem_append_right _ (List.mem_append_right _ (List.mem_append_left _ (List.mem_of_getElem? (i := 158) rfl)))
set_option maxRecDepth 100000 in
theorem f_Pi_49 : Cond.fieldLink R_Pi 49 "BlockPicture$Picture" "blocks" "[I" ∈ gG.1 := List.mem_append_right _ (List.mem_append_right _ (List.mem_append_left _ (List.mem_of_getElem? (i := 161) rfl)))
set_option maxRecDepth 100000 in
theorem f_Sc_36 : Cond.fieldLink R_Sc 36 "BlockPicture$Scan" "blocks" "I" ∈ gG.1 := List.mem_append_right _ (List.mem_append_right _ (List.mem_append_left _ (List.mem_of_getElem? (i := 232) rfl)))
set_option maxRecDepth 100000 in
theorem f_Sc_21 : Cond.fieldLink R_Sc 21 "BlockPicture$Scan" "order" "[I" ∈ gG.1 := List.mem_append_right _ (List.mem_append_right _ (List.mem_append_left _ (List.mem_of_getElem? (i := 233) rfl)))
set_option maxRecDepth 100000 in
theorem f_Sc_57 : Cond.fieldLinkNest R_Sc 57 "BlockPicture$Picture" "high" "[I" "BlockPicture" ∈ gG.1 := List.mem_append_right _ (List.mem_append_right _ (List.mem_append_left _ (List.mem_of_getElem? (i := 157) rfl)))
set_option maxRecDepth 100000 in
theorem f_Sc_60 : Cond.fieldLinkNest R_Sc 60 "BlockPicture$Picture" "wide" "[I" "BlockPicture" ∈ gG.1 := List.mem_append_right _ (List.mem_append_right _ (List.mem_append_left _ (List.mem_of_getElem? (i := 154) rfl)))
set_option maxRecDepth 100000 in
theorem f_Sc_63 : Cond.fieldLinkNest R_Sc 63 "BlockPicture$Picture" "gridWide" "[I" "BlockPicture" ∈ gG.1 := List.mem_append_right _ (List.mem_append_right _ (List.mem_append_left _ (List.mem_of_getElem? (i := 160) rfl)))
set_option maxRecDepth 100000 in
theorem l_Sc_66 : Cond.methodLink R_Sc 66 n_C_Sc_addBlock ∈ gG.1 := List.mem_append_right _ (List.mem_append_right _ (List.mem_append_right _ (List.mem_append_right _ (List.mem_append_left _ (List.mem_of_getElem? (i := 211) rfl)))))
set_option maxRecDepth 100000 in
theorem f_Sc_28 : Cond.fieldLinkNest R_Sc 28 "BlockPicture$Picture" "across" "[I" "BlockPicture" ∈ gG.1 := List.mem_append_right _ (List.mem_append_right _ (List.mem_append_left _ (List.mem_of_getElem? (i := 139) rfl)))
set_option maxRecDepth 100000 in
theorem f_Sc_33 : Cond.fieldLinkNest R_Sc 33 "BlockPicture$Picture" "down" "[I" "BlockPicture" ∈ gG.1 := List.mem_append_right _ (List.mem_append_right _ (List.mem_append_left _ (List.mem_of_getElem? (i := 142) rfl)))
set_option maxRecDepth 100000 in
theorem f_Sc_70 : Cond.fieldLinkNest R_Sc 70 "BlockPicture$Picture" "stretchesDown" "I" "BlockPicture" ∈ gG.1 := List.mem_append_right _ (List.mem_append_right _ (List.mem_append_left _ (List.mem_of_getElem? (i := 151) rfl)))
set_option maxRecDepth 100000 in
theorem f_Sc_73 : Cond.fieldLinkNest R_Sc 73 "BlockPicture$Picture" "stretchesAcross" "I" "BlockPicture" ∈ gG.1 := List.mem_append_right _ (List.mem_append_right _ (List.mem_append_left _ (List.mem_of_getElem? (i := 149) rfl)))
set_option maxRecDepth 100000 in
theorem l_Sc_76 : Cond.methodLink R_Sc 76 n_C_Sc_addStretch ∈ gG.1 := List.mem_append_right _ (List.mem_append_right _ (List.mem_append_right _ (List.mem_append_right _ (List.mem_append_left _ (List.mem_of_getElem? (i := 220) rfl)))))
set_option maxRecDepth 100000 in
theorem f_Sc_39 : Cond.fieldLink R_Sc 39 "BlockPicture$Scan" "perUnit" "I" ∈ gG.1 := List.mem_append_right _ (List.mem_append_right _ (List.mem_append_left _ (List.mem_of_getElem? (i := 228) rfl)))
set_option maxRecDepth 100000 in
theorem l_Sc_42 : Cond.methodLink R_Sc 42 n_C_Sc_arrangeAlone ∈ gG.1 := List.mem_append_right _ (List.mem_append_right _ (List.mem_append_right _ (List.mem_append_right _ (List.mem_append_left _ (List.mem_of_getElem? (i := 207) rfl)))))
set_option maxRecDepth 100000 in
theorem l_Sc_46 : Cond.methodLink R_Sc 46 n_C_Sc_blocksTogether ∈ gG.1 := List.mem_append_right _ (List.mem_append_right _ (List.mem_append_right _ (List.mem_append_right _ (List.mem_append_left _ (List.mem_of_getElem? (i := 215) rfl)))))
set_option maxRecDepth 100000 in
theorem l_Sc_50 : Cond.methodLink R_Sc 50 n_C_Sc_arrangeTogether ∈ gG.1 := List.mem_append_right _ (List.mem_append_right _ (List.mem_append_right _ (List.mem_append_right _ (List.mem_append_left _ (List.mem_of_getElem? (i := 216) rfl)))))
set_option maxRecDepth 100000 in
theorem f_Sc_54 : Cond.fieldLink R_Sc 54 "BlockPicture$Scan" "units" "I" ∈ gG.1 := List.mem_append_right _ (List.mem_append_right _ (List.mem_append_left _ (List.mem_of_getElem? (i := 225) rfl)))
set_option maxRecDepth 100000 in
theorem k_Ca_35 : Cond.constant R_Ca 35 (38470) ∈ gG.1 := List.mem_append_right _ (List.mem_append_right _ (List.mem_append_right _ (List.mem_append_right _ (List.mem_append_right _ (List.mem_append_left _ (List.mem_of_getElem? (i := 189) rfl))))))
set_option maxRecDepth 100000 in
theorem k_Ca_36 : Cond.constant R_Ca 36 (32768) ∈ gG.1 := List.mem_append_right _ (List.mem_append_right _ (List.mem_append_right _ (List.mem_append_right _ (List.mem_append_right _ (List.mem_append_left _ (List.mem_of_getElem? (i := 190) rfl))))))
set_option maxRecDepth 100000 in
theorem l_Ca_37 : Cond.methodLink R_Ca 37 Lib.Math.min.name ∈ gG.1 := List.mem_append_right _ (List.mem_append_right _ (List.mem_append_right _ (List.mem_append_right _ (List.mem_append_right _ (List.mem_append_left _ (List.mem_of_getElem? (i := 191) rfl))))))
set_option maxRecDepth 100000 in
theorem f_Pa_31 : Cond.fieldLink R_Pa 31 "BlockPicture$Packer" "packed" "LBlockPicture$Picture;" ∈ gG.1 := List.mem_append_right _ (List.mem_append_right _ (List.mem_append_right _ (List.mem_append_left _ (List.mem_of_getElem? (i := 74) rfl))))
set_option maxRecDepth 100000 in
theorem f_Pa_121 : Cond.fieldLinkNest R_Pa 121 "BlockPicture$Picture" "across" "[I" "BlockPicture" ∈ gG.1 := List.mem_append_right _ (List.mem_append_right _ (List.mem_append_left _ (List.mem_of_getElem? (i := 140) rfl)))
set_option maxRecDepth 100000 in
theorem f_Pa_124 : Cond.fieldLinkNest R_Pa 124 "BlockPicture$Picture" "mostAcross" "I" "BlockPicture" ∈ gG.1 := List.mem_append_right _ (List.mem_append_right _ (List.mem_append_left _ (List.mem_of_getElem? (i := 145) rfl)))
set_option maxRecDepth 100000 in
theorem f_Pa_127 : Cond.fieldLinkNest R_Pa 127 "BlockPicture$Picture" "down" "[I" "BlockPicture" ∈ gG.1 := List.mem_append_right _ (List.mem_append_right _ (List.mem_append_left _ (List.mem_of_getElem? (i := 143) rfl)))
set_option maxRecDepth 100000 in
theorem f_Pa_130 : Cond.fieldLinkNest R_Pa 130 "BlockPicture$Picture" "mostDown" "I" "BlockPicture" ∈ gG.1 := List.mem_append_right _ (List.mem_append_right _ (List.mem_append_left _ (List.mem_of_getElem? (i := 147) rfl)))
set_option maxRecDepth 100000 in
theorem f_Pa_133 : Cond.fieldLinkNest R_Pa 133 "BlockPicture$Picture" "high" "[I" "BlockPicture" ∈ gG.1 := List.mem_append_right _ (List.mem_append_right _ (List.mem_append_left _ (List.mem_of_getElem? (i := 156) rfl)))
set_option maxRecDepth 100000 in
theorem f_Pa_136 : Cond.fieldLinkNest R_Pa 136 "BlockPicture$Picture" "wide" "[I" "BlockPicture" ∈ gG.1 := List.mem_append_right _ (List.mem_append_right _ (List.mem_append_left _ (List.mem_of_getElem? (i := 153) rfl)))
set_option maxRecDepth 100000 in
theorem f_Pa_72 : Cond.fieldLinkNest R_Pa 72 "BlockPicture$Canvas" "width" "I" "BlockPicture" ∈ gG.1 := List.mem_append_right _ (List.mem_append_right _ (List.mem_append_left _ (List.mem_of_getElem? (i := 47) rfl)))
set_option maxRecDepth 100000 in
theorem l_Pa_139 : Cond.methodLink R_Pa 139 Lib.Math.min.name ∈ gG.1 := List.mem_append_right _ (List.mem_append_right _ (List.mem_append_right _ (List.mem_append_right _ (List.mem_append_right _ (List.mem_append_left _ (List.mem_of_getElem? (i := 182) rfl))))))
set_option maxRecDepth 100000 in
theorem f_Pa_75 : Cond.fieldLinkNest R_Pa 75 "BlockPicture$Canvas" "height" "I" "BlockPicture" ∈ gG.1 := List.mem_append_right _ (List.mem_append_right _ (List.mem_append_left _ (List.mem_of_getElem? (i := 49) rfl)))
set_option maxRecDepth 100000 in
theorem l_Pa_145 : Cond.methodLink R_Pa 145 n_C_Ca_kind ∈ gG.1 := List.mem_append_right _ (List.mem_append_right _ (List.mem_append_right _ (List.mem_append_right _ (List.mem_append_right _ (List.mem_append_left _ (List.mem_of_getElem? (i := 185) rfl))))))
set_option maxRecDepth 100000 in
theorem f_Pa_149 : Cond.fieldLinkNest R_Pa 149 "BlockPicture$Picture" "samples" "[I" "BlockPicture" ∈ gG.1 := List.mem_append_right _ (List.mem_append_right _ (List.mem_append_left _ (List.mem_of_getElem? (i := 169) rfl)))
set_option maxRecDepth 100000 in
theorem l_Pa_152 : Cond.methodLinkNest R_Pa 152 n_C_B_spot "BlockPicture" ∈ gG.1 := List.mem_append_right _ (List.mem_append_right _ (List.mem_append_right _ (List.mem_append_right _ (List.mem_append_right _ (List.mem_append_left _ (List.mem_of_getElem? (i := 192) rfl))))))
set_option maxRecDepth 100000 in
theorem f_Wa_9 : Cond.fieldLink R_Wa 9 "BlockPicture$Waves" "waves" "[I" ∈ gG.1 := List.mem_append_right _ (List.mem_append_right _ (List.mem_append_left _ (List.mem_of_getElem? (i := 104) rfl)))
set_option maxRecDepth 100000 in
theorem f_Wa_15 : Cond.fieldLink R_Wa 15 "BlockPicture$Waves" "samples" "[I" ∈ gG.1 := List.mem_append_right _ (List.mem_append_right _ (List.mem_append_left _ (List.mem_of_getElem? (i := 105) rfl)))
set_option maxRecDepth 100000 in
theorem f_Wa_21 : Cond.fieldLink R_Wa 21 "BlockPicture$Waves" "halfway" "[J" ∈ gG.1 := List.mem_append_right _ (List.mem_append_right _ (List.mem_append_left _ (List.mem_of_getElem? (i := 111) rfl)))
set_option maxRecDepth 100000 in
theorem k_Wa_32 : Cond.constantLong R_Wa 32 (65536) ∈ gG.1 := List.mem_append_right _ (List.mem_append_right _ (List.mem_append_right _ (List.mem_append_right _ (List.mem_append_right _ (List.mem_append_left _ (List.mem_of_getElem? (i := 202) rfl))))))
set_option maxRecDepth 100000 in
theorem f_Wa_18 : Cond.fieldLink R_Wa 18 "BlockPicture$Waves" "weights" "[I" ∈ gG.1 := List.mem_append_right _ (List.mem_append_right _ (List.mem_append_left _ (List.mem_of_getElem? (i := 108) rfl)))
set_option maxRecDepth 100000 in
theorem f_Pa_155 : Cond.fieldLinkNest R_Pa 155 "BlockPicture$Picture" "gridWide" "[I" "BlockPicture" ∈ gG.1 := List.mem_append_right _ (List.mem_append_right _ (List.mem_append_left _ (List.mem_of_getElem? (i := 159) rfl)))
set_option maxRecDepth 100000 in
theorem l_Pa_158 : Cond.methodLink R_Pa 158 Lib.Math.max.name ∈ gG.1 := List.mem_append_right _ (List.mem_append_right _ (List.mem_append_right _ (List.mem_append_right _ (List.mem_append_right _ (List.mem_append_left _ (List.mem_of_getElem? (i := 197) rfl))))))
set_option maxRecDepth 100000 in
theorem f_Pa_24 : Cond.fieldLink R_Pa 24 "BlockPicture$Packer" "waves" "LBlockPicture$Waves;" ∈ gG.1 := List.mem_append_right _ (List.mem_append_right _ (List.mem_append_right _ (List.mem_append_left _ (List.mem_of_getElem? (i := 72) rfl))))
set_option maxRecDepth 100000 in
theorem f_Pa_161 : Cond.fieldLinkNest R_Pa 161 "BlockPicture$Waves" "samples" "[I" "BlockPicture" ∈ gG.1 := List.mem_append_right _ (List.mem_append_right _ (List.mem_append_left _ (List.mem_of_getElem? (i := 106) rfl)))
set_option maxRecDepth 100000 in
theorem l_Pa_162 : Cond.methodLink R_Pa 162 n_C_Wa_makeWeights ∈ gG.1 := List.mem_append_right _ (List.mem_append_right _ (List.mem_append_right _ (List.mem_append_right _ (List.mem_append_right _ (List.mem_append_left _ (List.mem_of_getElem? (i := 198) rfl))))))
set_option maxRecDepth 100000 in
theorem f_Pa_165 : Cond.fieldLinkNest R_Pa 165 "BlockPicture$Waves" "weights" "[I" "BlockPicture" ∈ gG.1 := List.mem_append_right _ (List.mem_append_right _ (List.mem_append_left _ (List.mem_of_getElem? (i := 109) rfl)))
set_option maxRecDepth 100000 in
theorem f_Pa_168 : Cond.fieldLinkNest R_Pa 168 "BlockPicture" "SLANTS" "[I" "BlockPicture" ∈ gG.1 := List.mem_append_right _ (List.mem_append_right _ (List.mem_append_right _ (List.mem_append_right _ (List.mem_append_right _ (List.mem_append_left _ (List.mem_of_getElem? (i := 203) rfl))))))
set_option maxRecDepth 100000 in
theorem l_Pa_89 : Cond.methodLink R_Pa 89 n_C_Pa_kindOf ∈ gG.1 := List.mem_append_right _ (List.mem_append_right _ (List.mem_append_right _ (List.mem_append_right _ (List.mem_append_right _ (List.mem_append_left _ (List.mem_of_getElem? (i := 172) rfl))))))
set_option maxRecDepth 100000 in
theorem l_Pa_171 : Cond.methodLink R_Pa 171 Lib.Math.abs.name ∈ gG.1 := List.mem_append_right _ (List.mem_append_right _ (List.mem_append_right _ (List.mem_append_right _ (List.mem_append_right _ (List.mem_append_left _ (List.mem_of_getElem? (i := 205) rfl))))))
set_option maxRecDepth 100000 in
theorem f_Pa_174 : Cond.fieldLinkNest R_Pa 174 "BlockPicture$Picture" "levels" "[I" "BlockPicture" ∈ gG.1 := List.mem_append_right _ (List.mem_append_right _ (List.mem_append_left _ (List.mem_of_getElem? (i := 163) rfl)))
set_option maxRecDepth 100000 in
theorem f_Pa_63 : Cond.fieldLinkNest R_Pa 63 "BlockPicture$Canvas" "planes" "I" "BlockPicture" ∈ gG.1 := List.mem_append_right _ (List.mem_append_right _ (List.mem_append_left _ (List.mem_of_getElem? (i := 51) rfl)))
set_option maxRecDepth 100000 in
theorem f_Pa_69 : Cond.fieldLink R_Pa 69 "BlockPicture$Packer" "kinds" "I" ∈ gG.1 := List.mem_append_right _ (List.mem_append_right _ (List.mem_append_right _ (List.mem_append_left _ (List.mem_of_getElem? (i := 81) rfl))))
set_option maxRecDepth 100000 in
theorem l_Pa_78 : Cond.methodLink R_Pa 78 n_C_Pi_begin ∈ gG.1 := List.mem_append_right _ (List.mem_append_right _ (List.mem_append_right _ (List.mem_append_right _ (List.mem_append_right _ (List.mem_append_left _ (List.mem_of_getElem? (i := 170) rfl))))))
set_option maxRecDepth 100000 in
theorem f_Pa_38 : Cond.fieldLink R_Pa 38 "BlockPicture$Packer" "scan" "LBlockPicture$Scan;" ∈ gG.1 := List.mem_append_right _ (List.mem_append_right _ (List.mem_append_right _ (List.mem_append_left _ (List.mem_of_getElem? (i := 76) rfl))))
set_option maxRecDepth 100000 in
theorem f_Pa_82 : Cond.fieldLinkNest R_Pa 82 "BlockPicture$Scan" "layers" "I" "BlockPicture" ∈ gG.1 := List.mem_append_right _ (List.mem_append_right _ (List.mem_append_left _ (List.mem_of_getElem? (i := 218) rfl)))
set_option maxRecDepth 100000 in
theorem f_Pa_85 : Cond.fieldLinkNest R_Pa 85 "BlockPicture$Picture" "layers" "I" "BlockPicture" ∈ gG.1 := List.mem_append_right _ (List.mem_append_right _ (List.mem_append_left _ (List.mem_of_getElem? (i := 135) rfl)))
set_option maxRecDepth 100000 in
theorem l_Pa_86 : Cond.methodLink R_Pa 86 n_C_Pi_setFactors ∈ gG.1 := List.mem_append_right _ (List.mem_append_right _ (List.mem_append_right _ (List.mem_append_right _ (List.mem_append_right _ (List.mem_append_left _ (List.mem_of_getElem? (i := 171) rfl))))))
set_option maxRecDepth 100000 in
theorem l_Pa_93 : Cond.methodLink R_Pa 93 n_C_Sc_addLayer ∈ gG.1 := List.mem_append_right _ (List.mem_append_right _ (List.mem_append_right _ (List.mem_append_right _ (List.mem_append_right _ (List.mem_append_left _ (List.mem_of_getElem? (i := 175) rfl))))))
set_option maxRecDepth 100000 in
theorem l_Pa_96 : Cond.methodLink R_Pa 96 n_C_Pi_measure ∈ gG.1 := List.mem_append_right _ (List.mem_append_right _ (List.mem_append_right _ (List.mem_append_right _ (List.mem_append_right _ (List.mem_append_left _ (List.mem_of_getElem? (i := 176) rfl))))))
set_option maxRecDepth 100000 in
theorem f_Pa_99 : Cond.fieldLinkNest R_Pa 99 "BlockPicture$Picture" "told" "Z" "BlockPicture" ∈ gG.1 := List.mem_append_right _ (List.mem_append_right _ (List.mem_append_left _ (List.mem_of_getElem? (i := 172) rfl)))
set_option maxRecDepth 100000 in
theorem l_Pa_103 : Cond.methodLink R_Pa 103 n_C_Sc_arrange ∈ gG.1 := List.mem_append_right _ (List.mem_append_right _ (List.mem_append_right _ (List.mem_append_right _ (List.mem_append_right _ (List.mem_append_left _ (List.mem_of_getElem? (i := 177) rfl))))))
set_option maxRecDepth 100000 in
theorem l_Pa_107 : Cond.methodLink R_Pa 107 n_C_Pa_makeLayer ∈ gG.1 := List.mem_append_right _ (List.mem_append_right _ (List.mem_append_right _ (List.mem_append_right _ (List.mem_append_right _ (List.mem_append_left _ (List.mem_of_getElem? (i := 178) rfl))))))
set_option maxRecDepth 100000 in
theorem f_Pa_111 : Cond.fieldLinkNest R_Pa 111 "BlockPicture$Scan" "blocks" "I" "BlockPicture" ∈ gG.1 := List.mem_append_right _ (List.mem_append_right _ (List.mem_append_left _ (List.mem_of_getElem? (i := 231) rfl)))
set_option maxRecDepth 100000 in
theorem f_Pa_114 : Cond.fieldLinkNest R_Pa 114 "BlockPicture$Scan" "order" "[I" "BlockPicture" ∈ gG.1 := List.mem_append_right _ (List.mem_append_right _ (List.mem_append_left _ (List.mem_of_getElem? (i := 234) rfl)))
set_option maxRecDepth 100000 in
theorem l_Pa_117 : Cond.methodLink R_Pa 117 n_C_Pa_makeBlock ∈ gG.1 := List.mem_append_right _ (List.mem_append_right _ (List.mem_append_right _ (List.mem_append_right _ (List.mem_append_right _ (List.mem_append_left _ (List.mem_of_getElem? (i := 193) rfl))))))
set_option maxRecDepth 100000 in
theorem f_Oc_11 : Cond.fieldLink R_Oc 11 "BlockPicture$OwnCodes" "often" "[I" ∈ gG.1 := List.mem_append_right _ (List.mem_append_right _ (List.mem_append_right _ (List.mem_append_left _ (List.mem_of_getElem? (i := 43) rfl))))
set_option maxRecDepth 100000 in
theorem l_Oc_27 : Cond.methodLink R_Oc 27 n_C_Ar_fillI ∈ gG.1 := List.mem_append_right _ (List.mem_append_right _ (List.mem_append_right _ (List.mem_append_right _ (List.mem_append_right _ (List.mem_append_left _ (List.mem_of_getElem? (i := 216) rfl))))))
set_option maxRecDepth 100000 in
theorem f_Oc_15 : Cond.fieldLink R_Oc 15 "BlockPicture$OwnCodes" "lengths" "[I" ∈ gG.1 := List.mem_append_right _ (List.mem_append_right _ (List.mem_append_right _ (List.mem_append_left _ (List.mem_of_getElem? (i := 46) rfl))))
set_option maxRecDepth 100000 in
theorem f_Ro_19 : Cond.fieldLink R_Ro 19 "BlockPicture$Row" "size" "I" ∈ gG.1 := List.mem_append_right _ (List.mem_append_right _ (List.mem_append_left _ (List.mem_of_getElem? (i := 84) rfl)))
set_option maxRecDepth 100000 in
theorem f_Ro_13 : Cond.fieldLink R_Ro 13 "BlockPicture$Row" "bytes" "[I" ∈ gG.1 := List.mem_append_right _ (List.mem_append_right _ (List.mem_append_left _ (List.mem_of_getElem? (i := 81) rfl)))
set_option maxRecDepth 100000 in
theorem f_Pa_273 : Cond.fieldLink R_Pa 273 "BlockPicture$Packer" "held" "I" ∈ gG.1 := List.mem_append_right _ (List.mem_append_right _ (List.mem_append_right _ (List.mem_append_left _ (List.mem_of_getElem? (i := 83) rfl))))
set_option maxRecDepth 100000 in
theorem f_Pa_276 : Cond.fieldLink R_Pa 276 "BlockPicture$Packer" "heldBits" "I" ∈ gG.1 := List.mem_append_right _ (List.mem_append_right _ (List.mem_append_right _ (List.mem_append_left _ (List.mem_of_getElem? (i := 84) rfl))))
set_option maxRecDepth 100000 in
theorem f_Pa_15 : Cond.fieldLink R_Pa 15 "BlockPicture$Packer" "out" "LBlockPicture$Row;" ∈ gG.1 := List.mem_append_right _ (List.mem_append_right _ (List.mem_append_right _ (List.mem_append_left _ (List.mem_of_getElem? (i := 70) rfl))))
set_option maxRecDepth 100000 in
theorem l_Pa_214 : Cond.methodLink R_Pa 214 n_C_Ro_add ∈ gG.1 := List.mem_append_right _ (List.mem_append_right _ (List.mem_append_right _ (List.mem_append_right _ (List.mem_append_right _ (List.mem_append_left _ (List.mem_of_getElem? (i := 234) rfl))))))
set_option maxRecDepth 100000 in
theorem l_Pa_269 : Cond.methodLink R_Pa 269 n_C_Pa_writeBits ∈ gG.1 := List.mem_append_right _ (List.mem_append_right _ (List.mem_append_right _ (List.mem_append_right _ (List.mem_append_right _ (List.mem_append_left _ (List.mem_of_getElem? (i := 230) rfl))))))
set_option maxRecDepth 100000 in
theorem l_Pa_246 : Cond.methodLink R_Pa 246 n_C_Pa_fillByte ∈ gG.1 := List.mem_append_right _ (List.mem_append_right _ (List.mem_append_right _ (List.mem_append_right _ (List.mem_append_right _ (List.mem_append_left _ (List.mem_of_getElem? (i := 226) rfl))))))
set_option maxRecDepth 100000 in
theorem f_Pa_179 : Cond.fieldLink R_Pa 179 "BlockPicture$Packer" "counting" "Z" ∈ gG.1 := List.mem_append_right _ (List.mem_append_right _ (List.mem_append_right _ (List.mem_append_left _ (List.mem_of_getElem? (i := 82) rfl))))
set_option maxRecDepth 100000 in
theorem l_Pa_195 : Cond.methodLink R_Pa 195 n_C_Pa_addMark ∈ gG.1 := List.mem_append_right _ (List.mem_append_right _ (List.mem_append_right _ (List.mem_append_right _ (List.mem_append_right _ (List.mem_append_left _ (List.mem_of_getElem? (i := 238) rfl))))))
set_option maxRecDepth 100000 in
theorem f_Pa_59 : Cond.fieldLink R_Pa 59 "BlockPicture$Packer" "before" "[I" ∈ gG.1 := List.mem_append_right _ (List.mem_append_right _ (List.mem_append_right _ (List.mem_append_left _ (List.mem_of_getElem? (i := 80) rfl))))
set_option maxRecDepth 100000 in
theorem l_Pa_228 : Cond.methodLink R_Pa 228 n_C_Ar_fillI ∈ gG.1 := List.mem_append_right _ (List.mem_append_right _ (List.mem_append_right _ (List.mem_append_right _ (List.mem_append_right _ (List.mem_append_left _ (List.mem_of_getElem? (i := 221) rfl))))))
set_option maxRecDepth 100000 in
theorem l_Pa_256 : Cond.methodLinkNest R_Pa 256 n_C_B_isWithin "BlockPicture" ∈ gG.1 := List.mem_append_right _ (List.mem_append_right _ (List.mem_append_right _ (List.mem_append_right _ (List.mem_append_right _ (List.mem_append_right _ (List.mem_append_left _ (List.mem_of_getElem? (i := 13) rfl)))))))
set_option maxRecDepth 100000 in
theorem f_Pa_260 : Cond.fieldLinkNest R_Pa 260 "BlockPicture$OwnCodes" "often" "[I" "BlockPicture" ∈ gG.1 := List.mem_append_right _ (List.mem_append_right _ (List.mem_append_right _ (List.mem_append_left _ (List.mem_of_getElem? (i := 45) rfl))))
set_option maxRecDepth 100000 in
theorem f_Pa_263 : Cond.fieldLinkNest R_Pa 263 "BlockPicture$OwnCodes" "codes" "[I" "BlockPicture" ∈ gG.1 := List.mem_append_right _ (List.mem_append_right _ (List.mem_append_right _ (List.mem_append_left _ (List.mem_of_getElem? (i := 50) rfl))))
set_option maxRecDepth 100000 in
theorem f_Pa_266 : Cond.fieldLinkNest R_Pa 266 "BlockPicture$OwnCodes" "lengths" "[I" "BlockPicture" ∈ gG.1 := List.mem_append_right _ (List.mem_append_right _ (List.mem_append_right _ (List.mem_append_left _ (List.mem_of_getElem? (i := 48) rfl))))
set_option maxRecDepth 100000 in
theorem f_Pa_52 : Cond.fieldLink R_Pa 52 "BlockPicture$Packer" "starts" "[LBlockPicture$OwnCodes;" ∈ gG.1 := List.mem_append_right _ (List.mem_append_right _ (List.mem_append_right _ (List.mem_append_left _ (List.mem_of_getElem? (i := 78) rfl))))
set_option maxRecDepth 100000 in
theorem l_Pa_249 : Cond.methodLink R_Pa 249 n_C_Pa_bitsOf ∈ gG.1 := List.mem_append_right _ (List.mem_append_right _ (List.mem_append_right _ (List.mem_append_right _ (List.mem_append_right _ (List.mem_append_right _ (List.mem_append_left _ (List.mem_of_getElem? (i := 6) rfl)))))))
set_option maxRecDepth 100000 in
theorem l_Pa_252 : Cond.methodLink R_Pa 252 n_C_Pa_writeSymbol ∈ gG.1 := List.mem_append_right _ (List.mem_append_right _ (List.mem_append_right _ (List.mem_append_right _ (List.mem_append_right _ (List.mem_append_right _ (List.mem_append_left _ (List.mem_of_getElem? (i := 9) rfl)))))))
set_option maxRecDepth 100000 in
theorem f_Pa_56 : Cond.fieldLink R_Pa 56 "BlockPicture$Packer" "rests" "[LBlockPicture$OwnCodes;" ∈ gG.1 := List.mem_append_right _ (List.mem_append_right _ (List.mem_append_right _ (List.mem_append_left _ (List.mem_of_getElem? (i := 79) rfl))))
set_option maxRecDepth 100000 in
theorem f_Pa_234 : Cond.fieldLinkNest R_Pa 234 "BlockPicture$Scan" "units" "I" "BlockPicture" ∈ gG.1 := List.mem_append_right _ (List.mem_append_right _ (List.mem_append_left _ (List.mem_of_getElem? (i := 226) rfl)))
set_option maxRecDepth 100000 in
theorem l_Pa_237 : Cond.methodLink R_Pa 237 n_C_Pa_writeAgain ∈ gG.1 := List.mem_append_right _ (List.mem_append_right _ (List.mem_append_right _ (List.mem_append_right _ (List.mem_append_right _ (List.mem_append_left _ (List.mem_of_getElem? (i := 222) rfl))))))
set_option maxRecDepth 100000 in
theorem f_Pa_240 : Cond.fieldLinkNest R_Pa 240 "BlockPicture$Scan" "perUnit" "I" "BlockPicture" ∈ gG.1 := List.mem_append_right _ (List.mem_append_right _ (List.mem_append_left _ (List.mem_of_getElem? (i := 229) rfl)))
set_option maxRecDepth 100000 in
theorem l_Pa_243 : Cond.methodLink R_Pa 243 n_C_Pa_writeBlock ∈ gG.1 := List.mem_append_right _ (List.mem_append_right _ (List.mem_append_right _ (List.mem_append_right _ (List.mem_append_right _ (List.mem_append_right _ (List.mem_append_left _ (List.mem_of_getElem? (i := 2) rfl)))))))
set_option maxRecDepth 100000 in
theorem f_Li_34 : Cond.fieldLink R_Li 34 "BlockPicture$Lines" "count" "I" ∈ gG.1 := List.mem_append_right _ (List.mem_append_right _ (List.mem_append_right _ (List.mem_append_left _ (List.mem_of_getElem? (i := 20) rfl))))
set_option maxRecDepth 100000 in
theorem f_Li_13 : Cond.fieldLink R_Li 13 "BlockPicture$Lines" "symbols" "[I" ∈ gG.1 := List.mem_append_right _ (List.mem_append_right _ (List.mem_append_right _ (List.mem_append_left _ (List.mem_of_getElem? (i := 19) rfl))))
set_option maxRecDepth 100000 in
theorem f_Li_21 : Cond.fieldLink R_Li 21 "BlockPicture$Lines" "latest" "[I" ∈ gG.1 := List.mem_append_right _ (List.mem_append_right _ (List.mem_append_right _ (List.mem_append_left _ (List.mem_of_getElem? (i := 22) rfl))))
set_option maxRecDepth 100000 in
theorem f_Li_17 : Cond.fieldLink R_Li 17 "BlockPicture$Lines" "twos" "[Z" ∈ gG.1 := List.mem_append_right _ (List.mem_append_right _ (List.mem_append_right _ (List.mem_append_left _ (List.mem_of_getElem? (i := 21) rfl))))
set_option maxRecDepth 100000 in
theorem f_Li_24 : Cond.fieldLink R_Li 24 "BlockPicture$Lines" "next" "[I" ∈ gG.1 := List.mem_append_right _ (List.mem_append_right _ (List.mem_append_right _ (List.mem_append_left _ (List.mem_of_getElem? (i := 23) rfl))))
set_option maxRecDepth 100000 in
theorem f_Li_27 : Cond.fieldLinkNest R_Li 27 "BlockPicture$OwnCodes" "often" "[I" "BlockPicture" ∈ gG.1 := List.mem_append_right _ (List.mem_append_right _ (List.mem_append_right _ (List.mem_append_left _ (List.mem_of_getElem? (i := 44) rfl))))
set_option maxRecDepth 100000 in
theorem l_Li_30 : Cond.methodLink R_Li 30 n_C_Li_sortSymbols ∈ gG.1 := List.mem_append_right _ (List.mem_append_right _ (List.mem_append_right _ (List.mem_append_right _ (List.mem_append_right _ (List.mem_append_right _ (List.mem_append_left _ (List.mem_of_getElem? (i := 18) rfl)))))))
set_option maxRecDepth 100000 in
theorem l_Li_38 : Cond.methodLink R_Li 38 n_C_Li_makeLine ∈ gG.1 := List.mem_append_right _ (List.mem_append_right _ (List.mem_append_right _ (List.mem_append_right _ (List.mem_append_right _ (List.mem_append_right _ (List.mem_append_left _ (List.mem_of_getElem? (i := 22) rfl)))))))
set_option maxRecDepth 100000 in
theorem f_Li_42 : Cond.fieldLinkNest R_Li 42 "BlockPicture$OwnCodes" "lengths" "[I" "BlockPicture" ∈ gG.1 := List.mem_append_right _ (List.mem_append_right _ (List.mem_append_right _ (List.mem_append_left _ (List.mem_of_getElem? (i := 47) rfl))))
set_option maxRecDepth 100000 in
theorem l_Li_45 : Cond.methodLink R_Li 45 n_C_Li_takeThings ∈ gG.1 := List.mem_append_right _ (List.mem_append_right _ (List.mem_append_right _ (List.mem_append_right _ (List.mem_append_right _ (List.mem_append_right _ (List.mem_append_left _ (List.mem_of_getElem? (i := 26) rfl)))))))
set_option maxRecDepth 100000 in
theorem f_Oc_33 : Cond.fieldLink R_Oc 33 "BlockPicture$OwnCodes" "size" "I" ∈ gG.1 := List.mem_append_right _ (List.mem_append_right _ (List.mem_append_right _ (List.mem_append_left _ (List.mem_of_getElem? (i := 53) rfl))))
set_option maxRecDepth 100000 in
theorem f_Oc_18 : Cond.fieldLink R_Oc 18 "BlockPicture$OwnCodes" "codes" "[I" ∈ gG.1 := List.mem_append_right _ (List.mem_append_right _ (List.mem_append_right _ (List.mem_append_left _ (List.mem_of_getElem? (i := 49) rfl))))
set_option maxRecDepth 100000 in
theorem f_Oc_21 : Cond.fieldLink R_Oc 21 "BlockPicture$OwnCodes" "order" "[I" ∈ gG.1 := List.mem_append_right _ (List.mem_append_right _ (List.mem_append_right _ (List.mem_append_left _ (List.mem_of_getElem? (i := 51) rfl))))
set_option maxRecDepth 100000 in
theorem f_Oc_24 : Cond.fieldLink R_Oc 24 "BlockPicture$OwnCodes" "counts" "[I" ∈ gG.1 := List.mem_append_right _ (List.mem_append_right _ (List.mem_append_right _ (List.mem_append_left _ (List.mem_of_getElem? (i := 55) rfl))))
set_option maxRecDepth 100000 in
theorem l_Pa_177 : Cond.methodLink R_Pa 177 n_C_Oc_begin ∈ gG.1 := List.mem_append_right _ (List.mem_append_right _ (List.mem_append_right _ (List.mem_append_right _ (List.mem_append_right _ (List.mem_append_left _ (List.mem_of_getElem? (i := 212) rfl))))))
set_option maxRecDepth 100000 in
theorem l_Pa_182 : Cond.methodLink R_Pa 182 n_C_Pa_writeData ∈ gG.1 := List.mem_append_right _ (List.mem_append_right _ (List.mem_append_right _ (List.mem_append_right _ (List.mem_append_right _ (List.mem_append_left _ (List.mem_of_getElem? (i := 217) rfl))))))
set_option maxRecDepth 100000 in
theorem f_Pa_45 : Cond.fieldLink R_Pa 45 "BlockPicture$Packer" "lines" "LBlockPicture$Lines;" ∈ gG.1 := List.mem_append_right _ (List.mem_append_right _ (List.mem_append_right _ (List.mem_append_left _ (List.mem_of_getElem? (i := 77) rfl))))
set_option maxRecDepth 100000 in
theorem l_Pa_185 : Cond.methodLink R_Pa 185 n_C_Li_setLengths ∈ gG.1 := List.mem_append_right _ (List.mem_append_right _ (List.mem_append_right _ (List.mem_append_right _ (List.mem_append_right _ (List.mem_append_right _ (List.mem_append_left _ (List.mem_of_getElem? (i := 14) rfl)))))))
set_option maxRecDepth 100000 in
theorem l_Pa_189 : Cond.methodLink R_Pa 189 n_C_Oc_giveOut ∈ gG.1 := List.mem_append_right _ (List.mem_append_right _ (List.mem_append_right _ (List.mem_append_right _ (List.mem_append_right _ (List.mem_append_right _ (List.mem_append_left _ (List.mem_of_getElem? (i := 30) rfl)))))))
set_option maxRecDepth 100000 in
theorem l_Ro_23 : Cond.methodLink R_Ro 23 n_C_Ro_add ∈ gG.1 := List.mem_append_right _ (List.mem_append_right _ (List.mem_append_right _ (List.mem_append_right _ (List.mem_append_right _ (List.mem_append_right _ (List.mem_append_left _ (List.mem_of_getElem? (i := 46) rfl)))))))
set_option maxRecDepth 100000 in
theorem l_Pa_208 : Cond.methodLink R_Pa 208 n_C_Ro_addTwo ∈ gG.1 := List.mem_append_right _ (List.mem_append_right _ (List.mem_append_right _ (List.mem_append_right _ (List.mem_append_right _ (List.mem_append_right _ (List.mem_append_left _ (List.mem_of_getElem? (i := 42) rfl)))))))
set_option maxRecDepth 100000 in
theorem f_Pa_217 : Cond.fieldLinkNest R_Pa 217 "BlockPicture$Picture" "height" "I" "BlockPicture" ∈ gG.1 := List.mem_append_right _ (List.mem_append_right _ (List.mem_append_left _ (List.mem_of_getElem? (i := 132) rfl)))
set_option maxRecDepth 100000 in
theorem f_Pa_218 : Cond.fieldLinkNest R_Pa 218 "BlockPicture$Picture" "width" "I" "BlockPicture" ∈ gG.1 := List.mem_append_right _ (List.mem_append_right _ (List.mem_append_left _ (List.mem_of_getElem? (i := 129) rfl)))
set_option maxRecDepth 100000 in
theorem f_Pa_224 : Cond.fieldLinkNest R_Pa 224 "BlockPicture$OwnCodes" "counts" "[I" "BlockPicture" ∈ gG.1 := List.mem_append_right _ (List.mem_append_right _ (List.mem_append_right _ (List.mem_append_left _ (List.mem_of_getElem? (i := 56) rfl))))
set_option maxRecDepth 100000 in
theorem f_Pa_219 : Cond.fieldLinkNest R_Pa 219 "BlockPicture$OwnCodes" "size" "I" "BlockPicture" ∈ gG.1 := List.mem_append_right _ (List.mem_append_right _ (List.mem_append_right _ (List.mem_append_left _ (List.mem_of_getElem? (i := 54) rfl))))
set_option maxRecDepth 100000 in
theorem f_Pa_227 : Cond.fieldLinkNest R_Pa 227 "BlockPicture$OwnCodes" "order" "[I" "BlockPicture" ∈ gG.1 := List.mem_append_right _ (List.mem_append_right _ (List.mem_append_right _ (List.mem_append_left _ (List.mem_of_getElem? (i := 52) rfl))))
set_option maxRecDepth 100000 in
theorem l_Pa_220 : Cond.methodLink R_Pa 220 n_C_Pa_writeOwnCodes ∈ gG.1 := List.mem_append_right _ (List.mem_append_right _ (List.mem_append_right _ (List.mem_append_right _ (List.mem_append_right _ (List.mem_append_right _ (List.mem_append_left _ (List.mem_of_getElem? (i := 55) rfl)))))))
set_option maxRecDepth 100000 in
theorem f_Pa_192 : Cond.fieldLinkNest R_Pa 192 "BlockPicture$Row" "size" "I" "BlockPicture" ∈ gG.1 := List.mem_append_right _ (List.mem_append_right _ (List.mem_append_left _ (List.mem_of_getElem? (i := 86) rfl)))
set_option maxRecDepth 100000 in
theorem l_Pa_198 : Cond.methodLink R_Pa 198 n_C_Pa_writeTables ∈ gG.1 := List.mem_append_right _ (List.mem_append_right _ (List.mem_append_right _ (List.mem_append_right _ (List.mem_append_right _ (List.mem_append_right _ (List.mem_append_left _ (List.mem_of_getElem? (i := 38) rfl)))))))
set_option maxRecDepth 100000 in
theorem l_Pa_202 : Cond.methodLink R_Pa 202 n_C_Pa_writeFrame ∈ gG.1 := List.mem_append_right _ (List.mem_append_right _ (List.mem_append_right _ (List.mem_append_right _ (List.mem_append_right _ (List.mem_append_right _ (List.mem_append_left _ (List.mem_of_getElem? (i := 47) rfl)))))))
set_option maxRecDepth 100000 in
theorem l_Pa_205 : Cond.methodLink R_Pa 205 n_C_Pa_writeCodes ∈ gG.1 := List.mem_append_right _ (List.mem_append_right _ (List.mem_append_right _ (List.mem_append_right _ (List.mem_append_right _ (List.mem_append_right _ (List.mem_append_left _ (List.mem_of_getElem? (i := 51) rfl)))))))
set_option maxRecDepth 100000 in
theorem l_Pa_211 : Cond.methodLink R_Pa 211 n_C_Pa_writeScan ∈ gG.1 := List.mem_append_right _ (List.mem_append_right _ (List.mem_append_right _ (List.mem_append_right _ (List.mem_append_right _ (List.mem_append_right _ (List.mem_append_left _ (List.mem_of_getElem? (i := 59) rfl)))))))
set_option maxRecDepth 100000 in
theorem k_B_120 : Cond.constant R_B 120 (65535) ∈ gG.1 := List.mem_append_right _ (List.mem_append_right _ (List.mem_append_right _ (List.mem_append_right _ (List.mem_append_right _ (List.mem_append_left _ (List.mem_of_getElem? (i := 164) rfl))))))
set_option maxRecDepth 100000 in
theorem f_B_23 : Cond.fieldLink R_B 23 "BlockPicture" "packer" "LBlockPicture$Packer;" ∈ gG.1 := List.mem_append_right _ (List.mem_append_right _ (List.mem_append_right _ (List.mem_append_right _ (List.mem_append_left _ (List.mem_of_getElem? (i := 0) rfl)))))
set_option maxRecDepth 100000 in
theorem l_B_123 : Cond.methodLink R_B 123 n_C_Pa_makeLevels ∈ gG.1 := List.mem_append_right _ (List.mem_append_right _ (List.mem_append_right _ (List.mem_append_right _ (List.mem_append_right _ (List.mem_append_left _ (List.mem_of_getElem? (i := 166) rfl))))))
set_option maxRecDepth 100000 in
theorem l_B_127 : Cond.methodLink R_B 127 n_C_Pa_makeCodes ∈ gG.1 := List.mem_append_right _ (List.mem_append_right _ (List.mem_append_right _ (List.mem_append_right _ (List.mem_append_right _ (List.mem_append_left _ (List.mem_of_getElem? (i := 208) rfl))))))
set_option maxRecDepth 100000 in
theorem l_B_131 : Cond.methodLink R_B 131 n_C_Pa_write ∈ gG.1 := List.mem_append_right _ (List.mem_append_right _ (List.mem_append_right _ (List.mem_append_right _ (List.mem_append_right _ (List.mem_append_right _ (List.mem_append_left _ (List.mem_of_getElem? (i := 34) rfl)))))))
set_option maxRecDepth 100000 in
theorem f_B_38 : Cond.fieldLink R_B 38 "BlockPicture" "out" "LBlockPicture$Row;" ∈ gG.1 := List.mem_append_right _ (List.mem_append_right _ (List.mem_append_right _ (List.mem_append_right _ (List.mem_append_left _ (List.mem_of_getElem? (i := 2) rfl)))))
set_option maxRecDepth 100000 in
theorem f_B_134 : Cond.fieldLinkNest R_B 134 "BlockPicture$Row" "size" "I" "BlockPicture" ∈ gG.1 := List.mem_append_right _ (List.mem_append_right _ (List.mem_append_left _ (List.mem_of_getElem? (i := 87) rfl)))
set_option maxRecDepth 100000 in
theorem l_B_139 : Cond.methodLink R_B 139 n_C_Ro_has ∈ gG.1 := List.mem_append_right _ (List.mem_append_right _ (List.mem_append_right _ (List.mem_append_right _ (List.mem_append_right _ (List.mem_append_right _ (List.mem_append_left _ (List.mem_of_getElem? (i := 70) rfl)))))))
set_option maxRecDepth 100000 in
theorem f_B_145 : Cond.fieldLinkNest R_B 145 "BlockPicture$Row" "bytes" "[I" "BlockPicture" ∈ gG.1 := List.mem_append_right _ (List.mem_append_right _ (List.mem_append_left _ (List.mem_of_getElem? (i := 83) rfl)))
set_option maxRecDepth 100000 in
theorem l_Ro_27 : Cond.methodLink R_Ro 27 n_C_Ro_addTwo ∈ gG.1 := List.mem_append_right _ (List.mem_append_right _ (List.mem_append_right _ (List.mem_append_right _ (List.mem_append_right _ (List.mem_append_right _ (List.mem_append_left _ (List.mem_of_getElem? (i := 87) rfl)))))))
set_option maxRecDepth 100000 in
theorem f_B_53 : Cond.fieldLink R_B 53 "BlockPicture" "tape" "LBlockPicture$Row;" ∈ gG.1 := List.mem_append_right _ (List.mem_append_right _ (List.mem_append_right _ (List.mem_append_right _ (List.mem_append_left _ (List.mem_of_getElem? (i := 4) rfl)))))
set_option maxRecDepth 100000 in
theorem k_B_148 : Cond.constant R_B 148 (32768) ∈ gG.1 := List.mem_append_right _ (List.mem_append_right _ (List.mem_append_right _ (List.mem_append_right _ (List.mem_append_right _ (List.mem_append_right _ (List.mem_append_left _ (List.mem_of_getElem? (i := 80) rfl)))))))
set_option maxRecDepth 100000 in
theorem l_B_154 : Cond.methodLink R_B 154 n_C_Ro_addFour ∈ gG.1 := List.mem_append_right _ (List.mem_append_right _ (List.mem_append_right _ (List.mem_append_right _ (List.mem_append_right _ (List.mem_append_right _ (List.mem_append_left _ (List.mem_of_getElem? (i := 83) rfl)))))))
set_option maxRecDepth 100000 in
theorem l_B_165 : Cond.methodLink R_B 165 n_C_Ro_add ∈ gG.1 := List.mem_append_right _ (List.mem_append_right _ (List.mem_append_right _ (List.mem_append_right _ (List.mem_append_right _ (List.mem_append_right _ (List.mem_append_left _ (List.mem_of_getElem? (i := 113) rfl)))))))
set_option maxRecDepth 100000 in
theorem f_Un_12 : Cond.fieldLink R_Un 12 "BlockPicture$Unpacker" "reader" "LBlockPicture$Reader;" ∈ gG.1 := List.mem_append_right _ (List.mem_append_right _ (List.mem_append_right _ (List.mem_append_left _ (List.mem_of_getElem? (i := 189) rfl))))
set_option maxRecDepth 100000 in
theorem f_Un_70 : Cond.fieldLinkNest R_Un 70 "BlockPicture$Reader" "at" "I" "BlockPicture" ∈ gG.1 := List.mem_append_right _ (List.mem_append_right _ (List.mem_append_right _ (List.mem_append_left _ (List.mem_of_getElem? (i := 129) rfl))))
set_option maxRecDepth 100000 in
theorem f_Un_99 : Cond.fieldLink R_Un 99 "BlockPicture$Unpacker" "framed" "Z" ∈ gG.1 := List.mem_append_right _ (List.mem_append_right _ (List.mem_append_right _ (List.mem_append_left _ (List.mem_of_getElem? (i := 196) rfl))))
set_option maxRecDepth 100000 in
theorem f_Un_102 : Cond.fieldLink R_Un 102 "BlockPicture$Unpacker" "interval" "I" ∈ gG.1 := List.mem_append_right _ (List.mem_append_right _ (List.mem_append_right _ (List.mem_append_left _ (List.mem_of_getElem? (i := 201) rfl))))
set_option maxRecDepth 100000 in
theorem f_Un_36 : Cond.fieldLink R_Un 36 "BlockPicture$Unpacker" "tableTold" "[Z" ∈ gG.1 := List.mem_append_right _ (List.mem_append_right _ (List.mem_append_right _ (List.mem_append_left _ (List.mem_of_getElem? (i := 194) rfl))))
set_option maxRecDepth 100000 in
theorem f_Un_43 : Cond.fieldLink R_Un 43 "BlockPicture$Unpacker" "codes" "[LBlockPicture$Codes;" ∈ gG.1 := List.mem_append_right _ (List.mem_append_right _ (List.mem_append_right _ (List.mem_append_left _ (List.mem_of_getElem? (i := 195) rfl))))
set_option maxRecDepth 100000 in
theorem f_Un_105 : Cond.fieldLinkNest R_Un 105 "BlockPicture$Codes" "told" "Z" "BlockPicture" ∈ gG.1 := List.mem_append_right _ (List.mem_append_right _ (List.mem_append_right _ (List.mem_append_left _ (List.mem_of_getElem? (i := 167) rfl))))
set_option maxRecDepth 100000 in
theorem f_Re_35 : Cond.fieldLink R_Re 35 "BlockPicture$Reader" "at" "I" ∈ gG.1 := List.mem_append_right _ (List.mem_append_right _ (List.mem_append_right _ (List.mem_append_left _ (List.mem_of_getElem? (i := 128) rfl))))
set_option maxRecDepth 100000 in
theorem f_Re_15 : Cond.fieldLink R_Re 15 "BlockPicture$Reader" "tape" "LBlockPicture$Row;" ∈ gG.1 := List.mem_append_right _ (List.mem_append_right _ (List.mem_append_right _ (List.mem_append_left _ (List.mem_of_getElem? (i := 125) rfl))))
set_option maxRecDepth 100000 in
theorem f_Re_38 : Cond.fieldLinkNest R_Re 38 "BlockPicture$Row" "size" "I" "BlockPicture" ∈ gG.1 := List.mem_append_right _ (List.mem_append_right _ (List.mem_append_left _ (List.mem_of_getElem? (i := 85) rfl)))
set_option maxRecDepth 100000 in
theorem f_Re_21 : Cond.fieldLink R_Re 21 "BlockPicture$Reader" "fault" "I" ∈ gG.1 := List.mem_append_right _ (List.mem_append_right _ (List.mem_append_right _ (List.mem_append_left _ (List.mem_of_getElem? (i := 135) rfl))))
set_option maxRecDepth 100000 in
theorem f_Re_25 : Cond.fieldLink R_Re 25 "BlockPicture$Reader" "place" "I" ∈ gG.1 := List.mem_append_right _ (List.mem_append_right _ (List.mem_append_right _ (List.mem_append_left _ (List.mem_of_getElem? (i := 137) rfl))))
set_option maxRecDepth 100000 in
theorem f_Re_43 : Cond.fieldLinkNest R_Re 43 "BlockPicture$Row" "bytes" "[I" "BlockPicture" ∈ gG.1 := List.mem_append_right _ (List.mem_append_right _ (List.mem_append_left _ (List.mem_of_getElem? (i := 82) rfl)))
set_option maxRecDepth 100000 in
theorem l_Re_47 : Cond.methodLink R_Re 47 n_C_Re_read ∈ gG.1 := List.mem_append_right _ (List.mem_append_right _ (List.mem_append_right _ (List.mem_append_right _ (List.mem_append_left _ (List.mem_of_getElem? (i := 47) rfl)))))
set_option maxRecDepth 100000 in
theorem l_Re_51 : Cond.methodLink R_Re 51 n_C_Re_fail ∈ gG.1 := List.mem_append_right _ (List.mem_append_right _ (List.mem_append_right _ (List.mem_append_right _ (List.mem_append_left _ (List.mem_of_getElem? (i := 120) rfl)))))
set_option maxRecDepth 100000 in
theorem k_Re_11 : Cond.constant R_Re 11 (32768) ∈ gG.1 := List.mem_append_right _ (List.mem_append_right _ (List.mem_append_right _ (List.mem_append_left _ (List.mem_of_getElem? (i := 123) rfl))))
set_option maxRecDepth 100000 in
theorem f_Un_21 : Cond.fieldLink R_Un 21 "BlockPicture$Unpacker" "made" "LBlockPicture$Picture;" ∈ gG.1 := List.mem_append_right _ (List.mem_append_right _ (List.mem_append_right _ (List.mem_append_left _ (List.mem_of_getElem? (i := 191) rfl))))
set_option maxRecDepth 100000 in
theorem f_Un_110 : Cond.fieldLinkNest R_Un 110 "BlockPicture$Picture" "layers" "I" "BlockPicture" ∈ gG.1 := List.mem_append_right _ (List.mem_append_right _ (List.mem_append_left _ (List.mem_of_getElem? (i := 136) rfl)))
set_option maxRecDepth 100000 in
theorem f_Un_53 : Cond.fieldLink R_Un 53 "BlockPicture$Unpacker" "scanned" "[Z" ∈ gG.1 := List.mem_append_right _ (List.mem_append_right _ (List.mem_append_right _ (List.mem_append_left _ (List.mem_of_getElem? (i := 199) rfl))))
set_option maxRecDepth 100000 in
theorem l_Un_106 : Cond.methodLink R_Un 106 n_C_Un_allScanned ∈ gG.1 := List.mem_append_right _ (List.mem_append_right _ (List.mem_append_right _ (List.mem_append_right _ (List.mem_append_left _ (List.mem_of_getElem? (i := 131) rfl)))))
set_option maxRecDepth 100000 in
theorem l_Un_138 : Cond.methodLink R_Un 138 n_C_Re_read ∈ gG.1 := List.mem_append_right _ (List.mem_append_right _ (List.mem_append_right _ (List.mem_append_right _ (List.mem_append_left _ (List.mem_of_getElem? (i := 151) rfl)))))
set_option maxRecDepth 100000 in
theorem l_Un_141 : Cond.methodLinkNest R_Un 141 n_C_B_isWithin "BlockPicture" ∈ gG.1 := List.mem_append_right _ (List.mem_append_right _ (List.mem_append_right _ (List.mem_append_right _ (List.mem_append_left _ (List.mem_of_getElem? (i := 152) rfl)))))
set_option maxRecDepth 100000 in
theorem l_Un_74 : Cond.methodLink R_Un 74 n_C_Re_fail ∈ gG.1 := List.mem_append_right _ (List.mem_append_right _ (List.mem_append_right _ (List.mem_append_right _ (List.mem_append_left _ (List.mem_of_getElem? (i := 125) rfl)))))
set_option maxRecDepth 100000 in
theorem l_Un_116 : Cond.methodLink R_Un 116 n_C_Re_readTwo ∈ gG.1 := List.mem_append_right _ (List.mem_append_right _ (List.mem_append_right _ (List.mem_append_right _ (List.mem_append_left _ (List.mem_of_getElem? (i := 139) rfl)))))
set_option maxRecDepth 100000 in
theorem f_Un_113 : Cond.fieldLink R_Un 113 "BlockPicture$Unpacker" "lengthAt" "I" ∈ gG.1 := List.mem_append_right _ (List.mem_append_right _ (List.mem_append_right _ (List.mem_append_left _ (List.mem_of_getElem? (i := 202) rfl))))
set_option maxRecDepth 100000 in
theorem f_Un_47 : Cond.fieldLink R_Un 47 "BlockPicture$Unpacker" "names" "[I" ∈ gG.1 := List.mem_append_right _ (List.mem_append_right _ (List.mem_append_right _ (List.mem_append_left _ (List.mem_of_getElem? (i := 197) rfl))))
set_option maxRecDepth 100000 in
theorem l_Un_185 : Cond.methodLink R_Un 185 n_C_Pi_setFactors ∈ gG.1 := List.mem_append_right _ (List.mem_append_right _ (List.mem_append_right _ (List.mem_append_right _ (List.mem_append_left _ (List.mem_of_getElem? (i := 172) rfl)))))
set_option maxRecDepth 100000 in
theorem f_Un_50 : Cond.fieldLink R_Un 50 "BlockPicture$Unpacker" "tableOf" "[I" ∈ gG.1 := List.mem_append_right _ (List.mem_append_right _ (List.mem_append_right _ (List.mem_append_left _ (List.mem_of_getElem? (i := 198) rfl))))
set_option maxRecDepth 100000 in
theorem l_Un_151 : Cond.methodLink R_Un 151 n_C_Un_readWithin ∈ gG.1 := List.mem_append_right _ (List.mem_append_right _ (List.mem_append_right _ (List.mem_append_right _ (List.mem_append_left _ (List.mem_of_getElem? (i := 147) rfl)))))
set_option maxRecDepth 100000 in
theorem l_Un_173 : Cond.methodLink R_Un 173 n_C_Un_readSide ∈ gG.1 := List.mem_append_right _ (List.mem_append_right _ (List.mem_append_right _ (List.mem_append_right _ (List.mem_append_left _ (List.mem_of_getElem? (i := 155) rfl)))))
set_option maxRecDepth 100000 in
theorem f_Un_119 : Cond.fieldLink R_Un 119 "BlockPicture$Unpacker" "length" "I" ∈ gG.1 := List.mem_append_right _ (List.mem_append_right _ (List.mem_append_right _ (List.mem_append_left _ (List.mem_of_getElem? (i := 203) rfl))))
set_option maxRecDepth 100000 in
theorem l_Un_128 : Cond.methodLink R_Un 128 n_C_Un_wantLength ∈ gG.1 := List.mem_append_right _ (List.mem_append_right _ (List.mem_append_right _ (List.mem_append_right _ (List.mem_append_left _ (List.mem_of_getElem? (i := 159) rfl)))))
set_option maxRecDepth 100000 in
theorem l_Un_176 : Cond.methodLink R_Un 176 n_C_Pi_begin ∈ gG.1 := List.mem_append_right _ (List.mem_append_right _ (List.mem_append_right _ (List.mem_append_right _ (List.mem_append_left _ (List.mem_of_getElem? (i := 163) rfl)))))
set_option maxRecDepth 100000 in
theorem l_Un_179 : Cond.methodLink R_Un 179 n_C_Un_readFrameLayer ∈ gG.1 := List.mem_append_right _ (List.mem_append_right _ (List.mem_append_right _ (List.mem_append_right _ (List.mem_append_left _ (List.mem_of_getElem? (i := 168) rfl)))))
set_option maxRecDepth 100000 in
theorem l_Un_182 : Cond.methodLink R_Un 182 n_C_Pi_measure ∈ gG.1 := List.mem_append_right _ (List.mem_append_right _ (List.mem_append_right _ (List.mem_append_right _ (List.mem_append_left _ (List.mem_of_getElem? (i := 177) rfl)))))
set_option maxRecDepth 100000 in
theorem f_Un_32 : Cond.fieldLink R_Un 32 "BlockPicture$Unpacker" "tables" "[I" ∈ gG.1 := List.mem_append_right _ (List.mem_append_right _ (List.mem_append_right _ (List.mem_append_left _ (List.mem_of_getElem? (i := 193) rfl))))
set_option maxRecDepth 100000 in
theorem f_Un_201 : Cond.fieldLinkNest R_Un 201 "BlockPicture$Picture" "entries" "[I" "BlockPicture" ∈ gG.1 := List.mem_append_right _ (List.mem_append_right _ (List.mem_append_left _ (List.mem_of_getElem? (i := 167) rfl)))
set_option maxRecDepth 100000 in
theorem l_Un_204 : Cond.methodLink R_Un 204 arraycopyName ∈ gG.1 := List.mem_append_right _ (List.mem_append_right _ (List.mem_append_right _ (List.mem_append_right _ (List.mem_append_left _ (List.mem_of_getElem? (i := 192) rfl)))))
set_option maxRecDepth 100000 in
theorem nt_copy : Cond.native arraycopyName ∈ gG.1 := List.mem_append_right _ (List.mem_append_right _ (List.mem_append_right _ (List.mem_append_right _ (List.mem_append_left _ (List.mem_of_getElem? (i := 194) rfl)))))
set_option maxRecDepth 100000 in
theorem st_copy : Cond.static arraycopyName ∈ gG.1 := List.mem_append_right _ (List.mem_append_right _ (List.mem_append_right _ (List.mem_append_right _ (List.mem_append_left _ (List.mem_of_getElem? (i := 193) rfl)))))
set_option maxRecDepth 100000 in
theorem i_Sy : Cond.initialized "java/lang/System" ∈ gG.1 := List.mem_append_right _ (List.mem_append_right _ (List.mem_append_left _ (List.mem_of_getElem? (i := 22) rfl)))
set_option maxRecDepth 100000 in
theorem f_Un_28 : Cond.fieldLink R_Un 28 "BlockPicture$Unpacker" "scan" "LBlockPicture$Scan;" ∈ gG.1 := List.mem_append_right _ (List.mem_append_right _ (List.mem_append_right _ (List.mem_append_left _ (List.mem_of_getElem? (i := 192) rfl))))
set_option maxRecDepth 100000 in
theorem l_Un_210 : Cond.methodLink R_Un 210 n_C_Sc_addLayer ∈ gG.1 := List.mem_append_right _ (List.mem_append_right _ (List.mem_append_right _ (List.mem_append_right _ (List.mem_append_left _ (List.mem_of_getElem? (i := 195) rfl)))))
set_option maxRecDepth 100000 in
theorem f_Un_188 : Cond.fieldLinkNest R_Un 188 "BlockPicture$Scan" "layers" "I" "BlockPicture" ∈ gG.1 := List.mem_append_right _ (List.mem_append_right _ (List.mem_append_left _ (List.mem_of_getElem? (i := 219) rfl)))
set_option maxRecDepth 100000 in
theorem l_Un_189 : Cond.methodLink R_Un 189 n_C_Un_readScanLayer ∈ gG.1 := List.mem_append_right _ (List.mem_append_right _ (List.mem_append_right _ (List.mem_append_right _ (List.mem_append_left _ (List.mem_of_getElem? (i := 188) rfl)))))
set_option maxRecDepth 100000 in
theorem l_Un_193 : Cond.methodLink R_Un 193 n_C_Sc_blocksTogether ∈ gG.1 := List.mem_append_right _ (List.mem_append_right _ (List.mem_append_right _ (List.mem_append_right _ (List.mem_append_left _ (List.mem_of_getElem? (i := 199) rfl)))))
set_option maxRecDepth 100000 in
theorem l_Un_197 : Cond.methodLink R_Un 197 n_C_Sc_arrange ∈ gG.1 := List.mem_append_right _ (List.mem_append_right _ (List.mem_append_right _ (List.mem_append_right _ (List.mem_append_left _ (List.mem_of_getElem? (i := 203) rfl)))))
set_option maxRecDepth 100000 in
theorem l_Un_155 : Cond.methodLink R_Un 155 n_C_Un_wantMore ∈ gG.1 := List.mem_append_right _ (List.mem_append_right _ (List.mem_append_right _ (List.mem_append_right _ (List.mem_append_left _ (List.mem_of_getElem? (i := 232) rfl)))))
set_option maxRecDepth 100000 in
theorem f_Co_24 : Cond.fieldLink R_Co 24 "BlockPicture$Codes" "size" "I" ∈ gG.1 := List.mem_append_right _ (List.mem_append_right _ (List.mem_append_right _ (List.mem_append_left _ (List.mem_of_getElem? (i := 174) rfl))))
set_option maxRecDepth 100000 in
theorem f_Co_15 : Cond.fieldLink R_Co 15 "BlockPicture$Codes" "firstCodes" "[I" ∈ gG.1 := List.mem_append_right _ (List.mem_append_right _ (List.mem_append_right _ (List.mem_append_left _ (List.mem_of_getElem? (i := 170) rfl))))
set_option maxRecDepth 100000 in
theorem f_Co_18 : Cond.fieldLink R_Co 18 "BlockPicture$Codes" "firstSymbols" "[I" ∈ gG.1 := List.mem_append_right _ (List.mem_append_right _ (List.mem_append_right _ (List.mem_append_left _ (List.mem_of_getElem? (i := 171) rfl))))
set_option maxRecDepth 100000 in
theorem f_Co_9 : Cond.fieldLink R_Co 9 "BlockPicture$Codes" "counts" "[I" ∈ gG.1 := List.mem_append_right _ (List.mem_append_right _ (List.mem_append_right _ (List.mem_append_left _ (List.mem_of_getElem? (i := 168) rfl))))
set_option maxRecDepth 100000 in
theorem f_Co_21 : Cond.fieldLink R_Co 21 "BlockPicture$Codes" "symbols" "[I" ∈ gG.1 := List.mem_append_right _ (List.mem_append_right _ (List.mem_append_right _ (List.mem_append_left _ (List.mem_of_getElem? (i := 172) rfl))))
set_option maxRecDepth 100000 in
theorem f_Un_158 : Cond.fieldLinkNest R_Un 158 "BlockPicture$Codes" "counts" "[I" "BlockPicture" ∈ gG.1 := List.mem_append_right _ (List.mem_append_right _ (List.mem_append_right _ (List.mem_append_left _ (List.mem_of_getElem? (i := 169) rfl))))
set_option maxRecDepth 100000 in
theorem l_Un_161 : Cond.methodLink R_Un 161 n_C_Co_giveOut ∈ gG.1 := List.mem_append_right _ (List.mem_append_right _ (List.mem_append_right _ (List.mem_append_right _ (List.mem_append_right _ (List.mem_append_left _ (List.mem_of_getElem? (i := 0) rfl))))))
set_option maxRecDepth 100000 in
theorem f_Un_164 : Cond.fieldLinkNest R_Un 164 "BlockPicture$Codes" "size" "I" "BlockPicture" ∈ gG.1 := List.mem_append_right _ (List.mem_append_right _ (List.mem_append_right _ (List.mem_append_left _ (List.mem_of_getElem? (i := 175) rfl))))
set_option maxRecDepth 100000 in
theorem l_Un_167 : Cond.methodLink R_Un 167 n_C_Un_isForRests ∈ gG.1 := List.mem_append_right _ (List.mem_append_right _ (List.mem_append_right _ (List.mem_append_right _ (List.mem_append_right _ (List.mem_append_left _ (List.mem_of_getElem? (i := 4) rfl))))))
set_option maxRecDepth 100000 in
theorem f_Un_170 : Cond.fieldLinkNest R_Un 170 "BlockPicture$Codes" "symbols" "[I" "BlockPicture" ∈ gG.1 := List.mem_append_right _ (List.mem_append_right _ (List.mem_append_right _ (List.mem_append_left _ (List.mem_of_getElem? (i := 173) rfl))))
set_option maxRecDepth 100000 in
theorem k_Un_78 : Cond.constant R_Un 78 (32768) ∈ gG.1 := List.mem_append_right _ (List.mem_append_right _ (List.mem_append_right _ (List.mem_append_right _ (List.mem_append_left _ (List.mem_of_getElem? (i := 126) rfl)))))
set_option maxRecDepth 100000 in
theorem l_Un_145 : Cond.methodLink R_Un 145 n_C_Un_readTable ∈ gG.1 := List.mem_append_right _ (List.mem_append_right _ (List.mem_append_right _ (List.mem_append_right _ (List.mem_append_left _ (List.mem_of_getElem? (i := 228) rfl)))))
set_option maxRecDepth 100000 in
theorem l_Un_148 : Cond.methodLink R_Un 148 n_C_Un_readCodes ∈ gG.1 := List.mem_append_right _ (List.mem_append_right _ (List.mem_append_right _ (List.mem_append_right _ (List.mem_append_left _ (List.mem_of_getElem? (i := 236) rfl)))))
set_option maxRecDepth 100000 in
theorem l_Un_122 : Cond.methodLink R_Un 122 n_C_Un_readFrame ∈ gG.1 := List.mem_append_right _ (List.mem_append_right _ (List.mem_append_right _ (List.mem_append_right _ (List.mem_append_left _ (List.mem_of_getElem? (i := 143) rfl)))))
set_option maxRecDepth 100000 in
theorem l_Un_125 : Cond.methodLink R_Un 125 n_C_Un_readScan ∈ gG.1 := List.mem_append_right _ (List.mem_append_right _ (List.mem_append_right _ (List.mem_append_right _ (List.mem_append_left _ (List.mem_of_getElem? (i := 184) rfl)))))
set_option maxRecDepth 100000 in
theorem l_Un_132 : Cond.methodLink R_Un 132 n_C_Un_readParts ∈ gG.1 := List.mem_append_right _ (List.mem_append_right _ (List.mem_append_right _ (List.mem_append_right _ (List.mem_append_left _ (List.mem_of_getElem? (i := 224) rfl)))))
set_option maxRecDepth 100000 in
theorem l_Un_135 : Cond.methodLink R_Un 135 n_C_Re_skip ∈ gG.1 := List.mem_append_right _ (List.mem_append_right _ (List.mem_append_right _ (List.mem_append_right _ (List.mem_append_right _ (List.mem_append_left _ (List.mem_of_getElem? (i := 7) rfl))))))
set_option maxRecDepth 100000 in
theorem f_Re_55 : Cond.fieldLink R_Re 55 "BlockPicture$Reader" "bitsLeft" "I" ∈ gG.1 := List.mem_append_right _ (List.mem_append_right _ (List.mem_append_right _ (List.mem_append_left _ (List.mem_of_getElem? (i := 132) rfl))))
set_option maxRecDepth 100000 in
theorem l_Un_213 : Cond.methodLink R_Un 213 n_C_Re_dropBits ∈ gG.1 := List.mem_append_right _ (List.mem_append_right _ (List.mem_append_right _ (List.mem_append_right _ (List.mem_append_right _ (List.mem_append_left _ (List.mem_of_getElem? (i := 15) rfl))))))
set_option maxRecDepth 100000 in
theorem l_Un_66 : Cond.methodLink R_Un 66 n_C_Re_readMark ∈ gG.1 := List.mem_append_right _ (List.mem_append_right _ (List.mem_append_right _ (List.mem_append_right _ (List.mem_append_left _ (List.mem_of_getElem? (i := 43) rfl)))))
set_option maxRecDepth 100000 in
theorem f_Un_56 : Cond.fieldLink R_Un 56 "BlockPicture$Unpacker" "before" "[I" ∈ gG.1 := List.mem_append_right _ (List.mem_append_right _ (List.mem_append_right _ (List.mem_append_left _ (List.mem_of_getElem? (i := 200) rfl))))
set_option maxRecDepth 100000 in
theorem l_Un_216 : Cond.methodLink R_Un 216 n_C_Ar_fillI ∈ gG.1 := List.mem_append_right _ (List.mem_append_right _ (List.mem_append_right _ (List.mem_append_right _ (List.mem_append_right _ (List.mem_append_left _ (List.mem_of_getElem? (i := 19) rfl))))))
set_option maxRecDepth 100000 in
theorem f_Re_58 : Cond.fieldLink R_Re 58 "BlockPicture$Reader" "heldAt" "I" ∈ gG.1 := List.mem_append_right _ (List.mem_append_right _ (List.mem_append_right _ (List.mem_append_left _ (List.mem_of_getElem? (i := 131) rfl))))
set_option maxRecDepth 100000 in
theorem f_Re_61 : Cond.fieldLink R_Re 61 "BlockPicture$Reader" "held" "I" ∈ gG.1 := List.mem_append_right _ (List.mem_append_right _ (List.mem_append_right _ (List.mem_append_left _ (List.mem_of_getElem? (i := 130) rfl))))
set_option maxRecDepth 100000 in
theorem l_Re_64 : Cond.methodLink R_Re 64 n_C_Re_readBit ∈ gG.1 := List.mem_append_right _ (List.mem_append_right _ (List.mem_append_right _ (List.mem_append_right _ (List.mem_append_right _ (List.mem_append_left _ (List.mem_of_getElem? (i := 32) rfl))))))
set_option maxRecDepth 100000 in
theorem f_Re_67 : Cond.fieldLink R_Re 67 "BlockPicture$Reader" "symbolAt" "I" ∈ gG.1 := List.mem_append_right _ (List.mem_append_right _ (List.mem_append_right _ (List.mem_append_left _ (List.mem_of_getElem? (i := 133) rfl))))
set_option maxRecDepth 100000 in
theorem l_Re_70 : Cond.methodLink R_Re 70 n_C_Co_symbolOf ∈ gG.1 := List.mem_append_right _ (List.mem_append_right _ (List.mem_append_right _ (List.mem_append_right _ (List.mem_append_right _ (List.mem_append_left _ (List.mem_of_getElem? (i := 36) rfl))))))
set_option maxRecDepth 100000 in
theorem f_Un_237 : Cond.fieldLinkNest R_Un 237 "BlockPicture$Scan" "starts" "[I" "BlockPicture" ∈ gG.1 := List.mem_append_right _ (List.mem_append_right _ (List.mem_append_left _ (List.mem_of_getElem? (i := 222) rfl)))
set_option maxRecDepth 100000 in
theorem l_Un_240 : Cond.methodLink R_Un 240 n_C_Re_readSymbol ∈ gG.1 := List.mem_append_right _ (List.mem_append_right _ (List.mem_append_right _ (List.mem_append_right _ (List.mem_append_right _ (List.mem_append_left _ (List.mem_of_getElem? (i := 28) rfl))))))
set_option maxRecDepth 100000 in
theorem l_Un_244 : Cond.methodLink R_Un 244 n_C_Re_readNumber ∈ gG.1 := List.mem_append_right _ (List.mem_append_right _ (List.mem_append_right _ (List.mem_append_right _ (List.mem_append_right _ (List.mem_append_left _ (List.mem_of_getElem? (i := 40) rfl))))))
set_option maxRecDepth 100000 in
theorem f_Un_247 : Cond.fieldLinkNest R_Un 247 "BlockPicture$Reader" "symbolAt" "I" "BlockPicture" ∈ gG.1 := List.mem_append_right _ (List.mem_append_right _ (List.mem_append_right _ (List.mem_append_left _ (List.mem_of_getElem? (i := 134) rfl))))
set_option maxRecDepth 100000 in
theorem f_Un_250 : Cond.fieldLinkNest R_Un 250 "BlockPicture$Picture" "levels" "[I" "BlockPicture" ∈ gG.1 := List.mem_append_right _ (List.mem_append_right _ (List.mem_append_left _ (List.mem_of_getElem? (i := 165) rfl)))
set_option maxRecDepth 100000 in
theorem f_Un_253 : Cond.fieldLinkNest R_Un 253 "BlockPicture$Scan" "rests" "[I" "BlockPicture" ∈ gG.1 := List.mem_append_right _ (List.mem_append_right _ (List.mem_append_left _ (List.mem_of_getElem? (i := 224) rfl)))
set_option maxRecDepth 100000 in
theorem f_Un_222 : Cond.fieldLinkNest R_Un 222 "BlockPicture$Scan" "units" "I" "BlockPicture" ∈ gG.1 := List.mem_append_right _ (List.mem_append_right _ (List.mem_append_left _ (List.mem_of_getElem? (i := 227) rfl)))
set_option maxRecDepth 100000 in
theorem l_Un_225 : Cond.methodLink R_Un 225 n_C_Un_readAgain ∈ gG.1 := List.mem_append_right _ (List.mem_append_right _ (List.mem_append_right _ (List.mem_append_right _ (List.mem_append_right _ (List.mem_append_left _ (List.mem_of_getElem? (i := 20) rfl))))))
set_option maxRecDepth 100000 in
theorem f_Un_228 : Cond.fieldLinkNest R_Un 228 "BlockPicture$Scan" "perUnit" "I" "BlockPicture" ∈ gG.1 := List.mem_append_right _ (List.mem_append_right _ (List.mem_append_left _ (List.mem_of_getElem? (i := 230) rfl)))
set_option maxRecDepth 100000 in
theorem f_Un_231 : Cond.fieldLinkNest R_Un 231 "BlockPicture$Scan" "order" "[I" "BlockPicture" ∈ gG.1 := List.mem_append_right _ (List.mem_append_right _ (List.mem_append_left _ (List.mem_of_getElem? (i := 235) rfl)))
set_option maxRecDepth 100000 in
theorem l_Un_234 : Cond.methodLink R_Un 234 n_C_Un_readBlock ∈ gG.1 := List.mem_append_right _ (List.mem_append_right _ (List.mem_append_right _ (List.mem_append_right _ (List.mem_append_right _ (List.mem_append_left _ (List.mem_of_getElem? (i := 24) rfl))))))
set_option maxRecDepth 100000 in
theorem l_Un_63 : Cond.methodLink R_Un 63 n_C_Un_begin ∈ gG.1 := List.mem_append_right _ (List.mem_append_right _ (List.mem_append_right _ (List.mem_append_right _ (List.mem_append_left _ (List.mem_of_getElem? (i := 39) rfl)))))
set_option maxRecDepth 100000 in
theorem l_Un_79 : Cond.methodLink R_Un 79 n_C_Un_canCome ∈ gG.1 := List.mem_append_right _ (List.mem_append_right _ (List.mem_append_right _ (List.mem_append_right _ (List.mem_append_left _ (List.mem_of_getElem? (i := 127) rfl)))))
set_option maxRecDepth 100000 in
theorem l_Un_83 : Cond.methodLink R_Un 83 n_C_Un_readSection ∈ gG.1 := List.mem_append_right _ (List.mem_append_right _ (List.mem_append_right _ (List.mem_append_right _ (List.mem_append_left _ (List.mem_of_getElem? (i := 135) rfl)))))
set_option maxRecDepth 100000 in
theorem l_Un_87 : Cond.methodLink R_Un 87 n_C_Un_readData ∈ gG.1 := List.mem_append_right _ (List.mem_append_right _ (List.mem_append_right _ (List.mem_append_right _ (List.mem_append_right _ (List.mem_append_left _ (List.mem_of_getElem? (i := 11) rfl))))))
set_option maxRecDepth 100000 in
theorem f_Un_90 : Cond.fieldLinkNest R_Un 90 "BlockPicture$Reader" "tape" "LBlockPicture$Row;" "BlockPicture" ∈ gG.1 := List.mem_append_right _ (List.mem_append_right _ (List.mem_append_right _ (List.mem_append_left _ (List.mem_of_getElem? (i := 127) rfl))))
set_option maxRecDepth 100000 in
theorem l_Un_94 : Cond.methodLink R_Un 94 n_C_Ro_has ∈ gG.1 := List.mem_append_right _ (List.mem_append_right _ (List.mem_append_right _ (List.mem_append_right _ (List.mem_append_right _ (List.mem_append_left _ (List.mem_of_getElem? (i := 44) rfl))))))
set_option maxRecDepth 100000 in
theorem f_Un_59 : Cond.fieldLinkNest R_Un 59 "BlockPicture$Picture" "told" "Z" "BlockPicture" ∈ gG.1 := List.mem_append_right _ (List.mem_append_right _ (List.mem_append_left _ (List.mem_of_getElem? (i := 171) rfl)))
set_option maxRecDepth 100000 in
theorem f_B_61 : Cond.fieldLink R_B 61 "BlockPicture" "place" "I" ∈ gG.1 := List.mem_append_right _ (List.mem_append_right _ (List.mem_append_right _ (List.mem_append_right _ (List.mem_append_left _ (List.mem_of_getElem? (i := 6) rfl)))))
set_option maxRecDepth 100000 in
theorem f_B_57 : Cond.fieldLink R_B 57 "BlockPicture" "picture" "LBlockPicture$Picture;" ∈ gG.1 := List.mem_append_right _ (List.mem_append_right _ (List.mem_append_right _ (List.mem_append_right _ (List.mem_append_left _ (List.mem_of_getElem? (i := 5) rfl)))))
set_option maxRecDepth 100000 in
theorem f_B_181 : Cond.fieldLinkNest R_B 181 "BlockPicture$Picture" "told" "Z" "BlockPicture" ∈ gG.1 := List.mem_append_right _ (List.mem_append_right _ (List.mem_append_left _ (List.mem_of_getElem? (i := 173) rfl)))
set_option maxRecDepth 100000 in
theorem f_B_187 : Cond.fieldLinkNest R_B 187 "BlockPicture$Picture" "width" "I" "BlockPicture" ∈ gG.1 := List.mem_append_right _ (List.mem_append_right _ (List.mem_append_left _ (List.mem_of_getElem? (i := 130) rfl)))
set_option maxRecDepth 100000 in
theorem f_B_190 : Cond.fieldLinkNest R_B 190 "BlockPicture$Picture" "height" "I" "BlockPicture" ∈ gG.1 := List.mem_append_right _ (List.mem_append_right _ (List.mem_append_left _ (List.mem_of_getElem? (i := 133) rfl)))
set_option maxRecDepth 100000 in
theorem f_B_193 : Cond.fieldLinkNest R_B 193 "BlockPicture$Picture" "layers" "I" "BlockPicture" ∈ gG.1 := List.mem_append_right _ (List.mem_append_right _ (List.mem_append_left _ (List.mem_of_getElem? (i := 137) rfl)))
set_option maxRecDepth 100000 in
theorem k_Wa_52 : Cond.constantLong R_Wa 52 (256) ∈ gG.1 := List.mem_append_right _ (List.mem_append_right _ (List.mem_append_right _ (List.mem_append_right _ (List.mem_append_right _ (List.mem_append_right _ (List.mem_append_left _ (List.mem_of_getElem? (i := 152) rfl)))))))
set_option maxRecDepth 100000 in
theorem l_Ar_13 : Cond.methodLink R_Ar 13 n_C_Ar_rangeCheck ∈ gG.1 := List.mem_append_right _ (List.mem_append_right _ (List.mem_append_right _ (List.mem_append_right _ (List.mem_append_right _ (List.mem_append_right _ (List.mem_append_left _ (List.mem_of_getElem? (i := 156) rfl)))))))
set_option maxRecDepth 100000 in
theorem l_Wa_34 : Cond.methodLink R_Wa 34 n_C_Wa_hasWeights ∈ gG.1 := List.mem_append_right _ (List.mem_append_right _ (List.mem_append_right _ (List.mem_append_right _ (List.mem_append_right _ (List.mem_append_right _ (List.mem_append_left _ (List.mem_of_getElem? (i := 144) rfl)))))))
set_option maxRecDepth 100000 in
theorem l_Wa_38 : Cond.methodLink R_Wa 38 n_C_Wa_makeRow ∈ gG.1 := List.mem_append_right _ (List.mem_append_right _ (List.mem_append_right _ (List.mem_append_right _ (List.mem_append_right _ (List.mem_append_right _ (List.mem_append_left _ (List.mem_of_getElem? (i := 148) rfl)))))))
set_option maxRecDepth 100000 in
theorem l_Wa_42 : Cond.methodLink R_Wa 42 n_C_Ar_fillJ ∈ gG.1 := List.mem_append_right _ (List.mem_append_right _ (List.mem_append_right _ (List.mem_append_right _ (List.mem_append_right _ (List.mem_append_right _ (List.mem_append_left _ (List.mem_of_getElem? (i := 153) rfl)))))))
set_option maxRecDepth 100000 in
theorem l_Wa_48 : Cond.methodLinkNest R_Wa 48 n_C_B_clamp "BlockPicture" ∈ gG.1 := List.mem_append_right _ (List.mem_append_right _ (List.mem_append_right _ (List.mem_append_right _ (List.mem_append_right _ (List.mem_append_right _ (List.mem_append_right _ (List.mem_append_left _ (List.mem_of_getElem? (i := 174) rfl))))))))
set_option maxRecDepth 100000 in
theorem f_Pi_88 : Cond.fieldLinkNest R_Pi 88 "BlockPicture$Waves" "weights" "[I" "BlockPicture" ∈ gG.1 := List.mem_append_right _ (List.mem_append_right _ (List.mem_append_left _ (List.mem_of_getElem? (i := 110) rfl)))
set_option maxRecDepth 100000 in
theorem f_Pi_93 : Cond.fieldLinkNest R_Pi 93 "BlockPicture" "SLANTS" "[I" "BlockPicture" ∈ gG.1 := List.mem_append_right _ (List.mem_append_right _ (List.mem_append_right _ (List.mem_append_right _ (List.mem_append_right _ (List.mem_append_right _ (List.mem_append_left _ (List.mem_of_getElem? (i := 139) rfl)))))))
set_option maxRecDepth 100000 in
theorem f_Pi_55 : Cond.fieldLink R_Pi 55 "BlockPicture$Picture" "entries" "[I" ∈ gG.1 := List.mem_append_right _ (List.mem_append_right _ (List.mem_append_left _ (List.mem_of_getElem? (i := 166) rfl)))
set_option maxRecDepth 100000 in
theorem l_Pi_96 : Cond.methodLink R_Pi 96 n_C_Wa_makeSamples ∈ gG.1 := List.mem_append_right _ (List.mem_append_right _ (List.mem_append_right _ (List.mem_append_right _ (List.mem_append_right _ (List.mem_append_right _ (List.mem_append_left _ (List.mem_of_getElem? (i := 140) rfl)))))))
set_option maxRecDepth 100000 in
theorem f_Pi_58 : Cond.fieldLink R_Pi 58 "BlockPicture$Picture" "samples" "[I" ∈ gG.1 := List.mem_append_right _ (List.mem_append_right _ (List.mem_append_left _ (List.mem_of_getElem? (i := 168) rfl)))
set_option maxRecDepth 100000 in
theorem l_Pi_99 : Cond.methodLinkNest R_Pi 99 n_C_B_spot "BlockPicture" ∈ gG.1 := List.mem_append_right _ (List.mem_append_right _ (List.mem_append_right _ (List.mem_append_right _ (List.mem_append_right _ (List.mem_append_right _ (List.mem_append_right _ (List.mem_append_left _ (List.mem_of_getElem? (i := 175) rfl))))))))
set_option maxRecDepth 100000 in
theorem f_Pi_103 : Cond.fieldLinkNest R_Pi 103 "BlockPicture$Waves" "samples" "[I" "BlockPicture" ∈ gG.1 := List.mem_append_right _ (List.mem_append_right _ (List.mem_append_left _ (List.mem_of_getElem? (i := 107) rfl)))
set_option maxRecDepth 100000 in
theorem l_Pi_84 : Cond.methodLink R_Pi 84 n_C_Pi_drawBlock ∈ gG.1 := List.mem_append_right _ (List.mem_append_right _ (List.mem_append_right _ (List.mem_append_right _ (List.mem_append_right _ (List.mem_append_right _ (List.mem_append_left _ (List.mem_of_getElem? (i := 135) rfl)))))))
set_option maxRecDepth 100000 in
theorem l_Pi_104 : Cond.methodLink R_Pi 104 n_C_Pi_layerSample ∈ gG.1 := List.mem_append_right _ (List.mem_append_right _ (List.mem_append_right _ (List.mem_append_right _ (List.mem_append_right _ (List.mem_append_right _ (List.mem_append_right _ (List.mem_append_left _ (List.mem_of_getElem? (i := 180) rfl))))))))
set_option maxRecDepth 100000 in
theorem k_Pi_107 : Cond.constant R_Pi 107 (46802) ∈ gG.1 := List.mem_append_right _ (List.mem_append_right _ (List.mem_append_right _ (List.mem_append_right _ (List.mem_append_right _ (List.mem_append_right _ (List.mem_append_right _ (List.mem_append_left _ (List.mem_of_getElem? (i := 184) rfl))))))))
set_option maxRecDepth 100000 in
theorem k_Pi_108 : Cond.constant R_Pi 108 (32768) ∈ gG.1 := List.mem_append_right _ (List.mem_append_right _ (List.mem_append_right _ (List.mem_append_right _ (List.mem_append_right _ (List.mem_append_right _ (List.mem_append_right _ (List.mem_append_left _ (List.mem_of_getElem? (i := 185) rfl))))))))
set_option maxRecDepth 100000 in
theorem l_Pi_109 : Cond.methodLinkNest R_Pi 109 n_C_B_clamp "BlockPicture" ∈ gG.1 := List.mem_append_right _ (List.mem_append_right _ (List.mem_append_right _ (List.mem_append_right _ (List.mem_append_right _ (List.mem_append_right _ (List.mem_append_right _ (List.mem_append_left _ (List.mem_of_getElem? (i := 186) rfl))))))))
set_option maxRecDepth 100000 in
theorem k_Pi_112 : Cond.constant R_Pi 112 (91881) ∈ gG.1 := List.mem_append_right _ (List.mem_append_right _ (List.mem_append_right _ (List.mem_append_right _ (List.mem_append_right _ (List.mem_append_right _ (List.mem_append_right _ (List.mem_append_left _ (List.mem_of_getElem? (i := 187) rfl))))))))
set_option maxRecDepth 100000 in
theorem k_Pi_113 : Cond.constant R_Pi 113 (116130) ∈ gG.1 := List.mem_append_right _ (List.mem_append_right _ (List.mem_append_right _ (List.mem_append_right _ (List.mem_append_right _ (List.mem_append_right _ (List.mem_append_right _ (List.mem_append_left _ (List.mem_of_getElem? (i := 188) rfl))))))))
set_option maxRecDepth 100000 in
theorem f_B_43 : Cond.fieldLink R_B 43 "BlockPicture" "waves" "LBlockPicture$Waves;" ∈ gG.1 := List.mem_append_right _ (List.mem_append_right _ (List.mem_append_right _ (List.mem_append_right _ (List.mem_append_left _ (List.mem_of_getElem? (i := 3) rfl)))))
set_option maxRecDepth 100000 in
theorem l_B_198 : Cond.methodLink R_B 198 n_C_Pi_draw ∈ gG.1 := List.mem_append_right _ (List.mem_append_right _ (List.mem_append_right _ (List.mem_append_right _ (List.mem_append_right _ (List.mem_append_right _ (List.mem_append_left _ (List.mem_of_getElem? (i := 131) rfl)))))))
set_option maxRecDepth 100000 in
theorem l_B_202 : Cond.methodLink R_B 202 n_C_Pi_colour ∈ gG.1 := List.mem_append_right _ (List.mem_append_right _ (List.mem_append_right _ (List.mem_append_right _ (List.mem_append_right _ (List.mem_append_right _ (List.mem_append_right _ (List.mem_append_left _ (List.mem_of_getElem? (i := 176) rfl))))))))
set_option maxRecDepth 100000 in
theorem l_Pi_80 : Cond.methodLinkNest R_Pi 80 n_C_B_isWithin "BlockPicture" ∈ gG.1 := List.mem_append_right _ (List.mem_append_right _ (List.mem_append_right _ (List.mem_append_right _ (List.mem_append_right _ (List.mem_append_right _ (List.mem_append_right _ (List.mem_append_left _ (List.mem_of_getElem? (i := 202) rfl))))))))
set_option maxRecDepth 100000 in
theorem f_B_207 : Cond.fieldLinkNest R_B 207 "BlockPicture$Packer" "packed" "LBlockPicture$Picture;" "BlockPicture" ∈ gG.1 := List.mem_append_right _ (List.mem_append_right _ (List.mem_append_right _ (List.mem_append_left _ (List.mem_of_getElem? (i := 75) rfl))))
set_option maxRecDepth 100000 in
theorem l_B_212 : Cond.methodLink R_B 212 n_C_Pi_hasBlock ∈ gG.1 := List.mem_append_right _ (List.mem_append_right _ (List.mem_append_right _ (List.mem_append_right _ (List.mem_append_right _ (List.mem_append_right _ (List.mem_append_right _ (List.mem_append_left _ (List.mem_of_getElem? (i := 198) rfl))))))))
set_option maxRecDepth 100000 in
theorem f_B_218 : Cond.fieldLinkNest R_B 218 "BlockPicture$Picture" "levels" "[I" "BlockPicture" ∈ gG.1 := List.mem_append_right _ (List.mem_append_right _ (List.mem_append_left _ (List.mem_of_getElem? (i := 164) rfl)))
set_option maxRecDepth 100000 in
theorem f_Wa_25 : Cond.fieldLink R_Wa 25 "BlockPicture$Waves" "QUARTER" "[I" ∈ gG.1 := List.mem_append_right _ (List.mem_append_right _ (List.mem_append_left _ (List.mem_of_getElem? (i := 99) rfl)))
set_option maxRecDepth 100000 in
theorem l_Ro_7 : Cond.methodLink R_Ro 7 Lib.Math.max.name ∈ gG.1 := List.mem_append_right _ (List.mem_append_right _ (List.mem_append_left _ (List.mem_of_getElem? (i := 78) rfl)))
set_option maxRecDepth 100000 in
theorem l_Wa_28 : Cond.methodLink R_Wa 28 n_C_Wa_wave ∈ gG.1 := List.mem_append_right _ (List.mem_append_right _ (List.mem_append_left _ (List.mem_of_getElem? (i := 101) rfl)))
set_option maxRecDepth 100000 in
theorem k_Pa_11 : Cond.constant R_Pa 11 (65536) ∈ gG.1 := List.mem_append_right _ (List.mem_append_right _ (List.mem_append_left _ (List.mem_of_getElem? (i := 73) rfl)))
set_option maxRecDepth 100000 in
theorem f_B_30 : Cond.fieldLink R_B 30 "BlockPicture" "unpacker" "LBlockPicture$Unpacker;" ∈ gG.1 := List.mem_append_right _ (List.mem_append_right _ (List.mem_append_right _ (List.mem_append_right _ (List.mem_append_left _ (List.mem_of_getElem? (i := 1) rfl)))))
set_option maxRecDepth 100000 in
theorem f_B_34 : Cond.fieldLinkNest R_B 34 "BlockPicture$Packer" "out" "LBlockPicture$Row;" "BlockPicture" ∈ gG.1 := List.mem_append_right _ (List.mem_append_right _ (List.mem_append_right _ (List.mem_append_left _ (List.mem_of_getElem? (i := 71) rfl))))
set_option maxRecDepth 100000 in
theorem f_B_39 : Cond.fieldLinkNest R_B 39 "BlockPicture$Packer" "waves" "LBlockPicture$Waves;" "BlockPicture" ∈ gG.1 := List.mem_append_right _ (List.mem_append_right _ (List.mem_append_right _ (List.mem_append_left _ (List.mem_of_getElem? (i := 73) rfl))))
set_option maxRecDepth 100000 in
theorem f_B_44 : Cond.fieldLinkNest R_B 44 "BlockPicture$Unpacker" "reader" "LBlockPicture$Reader;" "BlockPicture" ∈ gG.1 := List.mem_append_right _ (List.mem_append_right _ (List.mem_append_right _ (List.mem_append_left _ (List.mem_of_getElem? (i := 190) rfl))))
set_option maxRecDepth 100000 in
theorem f_B_48 : Cond.fieldLinkNest R_B 48 "BlockPicture$Reader" "tape" "LBlockPicture$Row;" "BlockPicture" ∈ gG.1 := List.mem_append_right _ (List.mem_append_right _ (List.mem_append_right _ (List.mem_append_left _ (List.mem_of_getElem? (i := 126) rfl))))
set_option maxRecDepth 100000 in
theorem l_B_65 : Cond.methodLink R_B 65 n_C_Ar_fillI ∈ gG.1 := List.mem_append_right _ (List.mem_append_right _ (List.mem_append_right _ (List.mem_append_left _ (List.mem_of_getElem? (i := 235) rfl))))
set_option maxRecDepth 100000 in
theorem ao_950 : Cond.arrayOver (.object "BlockPicture$OwnCodes") ∈ gG.1 := List.mem_append_right _ (List.mem_append_right _ (List.mem_append_right _ (List.mem_append_left _ (List.mem_of_getElem? (i := 37) rfl))))
set_option maxRecDepth 100000 in
theorem ao_951 : Cond.arrayOver (.object "BlockPicture$Codes") ∈ gG.1 := List.mem_append_right _ (List.mem_append_right _ (List.mem_append_right _ (List.mem_append_left _ (List.mem_of_getElem? (i := 161) rfl))))
set_option maxRecDepth 100000 in
theorem nn_B : Cond.instantiable R_B 9 ∈ gG.1 := List.mem_append_right _ (List.mem_append_right _ (List.mem_append_left _ (List.mem_of_getElem? (i := 33) rfl)))
theorem df_B : ∀ j, j < 9 → (fo_kd (lt_C 1) j ≤ 1 ∧ defaultValue (y_B j) = .int 0) ∨ (fo_kd (lt_C 1) j = 5 ∧ defaultValue (y_B j) = .null) := by decide +kernel
set_option maxRecDepth 100000 in
theorem nn_Ca : Cond.instantiable R_Ca 4 ∈ gG.1 := List.mem_append_right _ (List.mem_append_right _ (List.mem_append_left _ (List.mem_of_getElem? (i := 41) rfl)))
theorem df_Ca : ∀ j, j < 4 → (fo_kd (lt_C 2) j ≤ 1 ∧ defaultValue (y_Ca j) = .int 0) ∨ (fo_kd (lt_C 2) j = 5 ∧ defaultValue (y_Ca j) = .null) := by decide +kernel
set_option maxRecDepth 100000 in
theorem nn_Co : Cond.instantiable R_Co 6 ∈ gG.1 := List.mem_append_right _ (List.mem_append_right _ (List.mem_append_right _ (List.mem_append_left _ (List.mem_of_getElem? (i := 162) rfl))))
theorem df_Co : ∀ j, j < 6 → (fo_kd (lt_C 3) j ≤ 1 ∧ defaultValue (y_Co j) = .int 0) ∨ (fo_kd (lt_C 3) j = 5 ∧ defaultValue (y_Co j) = .null) := by decide +kernel
set_option maxRecDepth 100000 in
theorem nn_Li : Cond.instantiable R_Li 5 ∈ gG.1 := List.mem_append_right _ (List.mem_append_right _ (List.mem_append_right _ (List.mem_append_left _ (List.mem_of_getElem? (i := 14) rfl))))
theorem df_Li : ∀ j, j < 5 → (fo_kd (lt_C 4) j ≤ 1 ∧ defaultValue (y_Li j) = .int 0) ∨ (fo_kd (lt_C 4) j = 5 ∧ defaultValue (y_Li j) = .null) := by decide +kernel
set_option maxRecDepth 100000 in
theorem nn_Oc : Cond.instantiable R_Oc 6 ∈ gG.1 := List.mem_append_right _ (List.mem_append_right _ (List.mem_append_right _ (List.mem_append_left _ (List.mem_of_getElem? (i := 38) rfl))))
theorem df_Oc : ∀ j, j < 6 → (fo_kd (lt_C 5) j ≤ 1 ∧ defaultValue (y_Oc j) = .int 0) ∨ (fo_kd (lt_C 5) j = 5 ∧ defaultValue (y_Oc j) = .null) := by decide +kernel
set_option maxRecDepth 100000 in
theorem nn_Pa : Cond.instantiable R_Pa 12 ∈ gG.1 := List.mem_append_right _ (List.mem_append_right _ (List.mem_append_left _ (List.mem_of_getElem? (i := 66) rfl)))
theorem df_Pa : ∀ j, j < 12 → (fo_kd (lt_C 6) j ≤ 1 ∧ defaultValue (y_Pa j) = .int 0) ∨ (fo_kd (lt_C 6) j = 5 ∧ defaultValue (y_Pa j) = .null) := by decide +kernel
set_option maxRecDepth 100000 in
theorem nn_Pi : Cond.instantiable R_Pi 18 ∈ gG.1 := List.mem_append_right _ (List.mem_append_right _ (List.mem_append_left _ (List.mem_of_getElem? (i := 123) rfl)))
theorem df_Pi : ∀ j, j < 18 → (fo_kd (lt_C 7) j ≤ 1 ∧ defaultValue (y_Pi j) = .int 0) ∨ (fo_kd (lt_C 7) j = 5 ∧ defaultValue (y_Pi j) = .null) := by decide +kernel
set_option maxRecDepth 100000 in
theorem nn_Re : Cond.instantiable R_Re 8 ∈ gG.1 := List.mem_append_right _ (List.mem_append_right _ (List.mem_append_right _ (List.mem_append_left _ (List.mem_of_getElem? (i := 117) rfl))))
theorem df_Re : ∀ j, j < 8 → (fo_kd (lt_C 8) j ≤ 1 ∧ defaultValue (y_Re j) = .int 0) ∨ (fo_kd (lt_C 8) j = 5 ∧ defaultValue (y_Re j) = .null) := by decide +kernel
set_option maxRecDepth 100000 in
theorem nn_Ro : Cond.instantiable R_Ro 2 ∈ gG.1 := List.mem_append_right _ (List.mem_append_right _ (List.mem_append_left _ (List.mem_of_getElem? (i := 72) rfl)))
theorem df_Ro : ∀ j, j < 2 → (fo_kd (lt_C 9) j ≤ 1 ∧ defaultValue (y_Ro j) = .int 0) ∨ (fo_kd (lt_C 9) j = 5 ∧ defaultValue (y_Ro j) = .null) := by decide +kernel
set_option maxRecDepth 100000 in
theorem nn_Sc : Cond.instantiable R_Sc 8 ∈ gG.1 := List.mem_append_right _ (List.mem_append_right _ (List.mem_append_left _ (List.mem_of_getElem? (i := 212) rfl)))
theorem df_Sc : ∀ j, j < 8 → (fo_kd (lt_C 10) j ≤ 1 ∧ defaultValue (y_Sc j) = .int 0) ∨ (fo_kd (lt_C 10) j = 5 ∧ defaultValue (y_Sc j) = .null) := by decide +kernel
set_option maxRecDepth 100000 in
theorem nn_Un : Cond.instantiable R_Un 14 ∈ gG.1 := List.mem_append_right _ (List.mem_append_right _ (List.mem_append_right _ (List.mem_append_left _ (List.mem_of_getElem? (i := 111) rfl))))
theorem df_Un : ∀ j, j < 14 → (fo_kd (lt_C 11) j ≤ 1 ∧ defaultValue (y_Un j) = .int 0) ∨ (fo_kd (lt_C 11) j = 5 ∧ defaultValue (y_Un j) = .null) := by decide +kernel
set_option maxRecDepth 100000 in
theorem nn_Wa : Cond.instantiable R_Wa 4 ∈ gG.1 := List.mem_append_right _ (List.mem_append_right _ (List.mem_append_left _ (List.mem_of_getElem? (i := 94) rfl)))
theorem df_Wa : ∀ j, j < 4 → (fo_kd (lt_C 12) j ≤ 1 ∧ defaultValue (y_Wa j) = .int 0) ∨ (fo_kd (lt_C 12) j = 5 ∧ defaultValue (y_Wa j) = .null) := by decide +kernel
set_option maxRecDepth 100000 in
theorem l_Ca_3 : Cond.methodLink R_Ca 3 Lib.objectInit ∈ gG.1 := List.mem_append_right _ (List.mem_append_right _ (List.mem_append_left _ (List.mem_of_getElem? (i := 45) rfl)))
set_option maxRecDepth 100000 in
theorem l_Ro_1 : Cond.methodLink R_Ro 1 Lib.objectInit ∈ gG.1 := List.mem_append_right _ (List.mem_append_right _ (List.mem_append_left _ (List.mem_of_getElem? (i := 77) rfl)))
set_option maxRecDepth 100000 in
theorem l_Wa_3 : Cond.methodLink R_Wa 3 Lib.objectInit ∈ gG.1 := List.mem_append_right _ (List.mem_append_right _ (List.mem_append_left _ (List.mem_of_getElem? (i := 98) rfl)))
set_option maxRecDepth 100000 in
theorem l_Pi_3 : Cond.methodLink R_Pi 3 Lib.objectInit ∈ gG.1 := List.mem_append_right _ (List.mem_append_right _ (List.mem_append_left _ (List.mem_of_getElem? (i := 127) rfl)))
set_option maxRecDepth 100000 in
theorem l_Sc_3 : Cond.methodLink R_Sc 3 Lib.objectInit ∈ gG.1 := List.mem_append_right _ (List.mem_append_right _ (List.mem_append_left _ (List.mem_of_getElem? (i := 216) rfl)))
set_option maxRecDepth 100000 in
theorem l_Li_7 : Cond.methodLink R_Li 7 Lib.objectInit ∈ gG.1 := List.mem_append_right _ (List.mem_append_right _ (List.mem_append_right _ (List.mem_append_left _ (List.mem_of_getElem? (i := 18) rfl))))
set_option maxRecDepth 100000 in
theorem l_Oc_3 : Cond.methodLink R_Oc 3 Lib.objectInit ∈ gG.1 := List.mem_append_right _ (List.mem_append_right _ (List.mem_append_right _ (List.mem_append_left _ (List.mem_of_getElem? (i := 42) rfl))))
set_option maxRecDepth 100000 in
theorem l_Pa_3 : Cond.methodLink R_Pa 3 Lib.objectInit ∈ gG.1 := List.mem_append_right _ (List.mem_append_right _ (List.mem_append_left _ (List.mem_of_getElem? (i := 70) rfl)))
set_option maxRecDepth 100000 in
theorem x_Pa_9 : Cond.classLink R_Pa 9 "BlockPicture$Row" ∈ gG.1 := List.mem_append_right _ (List.mem_append_right _ (List.mem_append_left _ (List.mem_of_getElem? (i := 71) rfl)))
set_option maxRecDepth 100000 in
theorem l_Pa_12 : Cond.methodLink R_Pa 12 n_C_Ro_init ∈ gG.1 := List.mem_append_right _ (List.mem_append_right _ (List.mem_append_left _ (List.mem_of_getElem? (i := 74) rfl)))
set_option maxRecDepth 100000 in
theorem x_Pa_21 : Cond.classLink R_Pa 21 "BlockPicture$Waves" ∈ gG.1 := List.mem_append_right _ (List.mem_append_right _ (List.mem_append_left _ (List.mem_of_getElem? (i := 93) rfl)))
set_option maxRecDepth 100000 in
theorem l_Pa_23 : Cond.methodLink R_Pa 23 n_C_Wa_init ∈ gG.1 := List.mem_append_right _ (List.mem_append_right _ (List.mem_append_left _ (List.mem_of_getElem? (i := 95) rfl)))
set_option maxRecDepth 100000 in
theorem x_Pa_28 : Cond.classLink R_Pa 28 "BlockPicture$Picture" ∈ gG.1 := List.mem_append_right _ (List.mem_append_right _ (List.mem_append_left _ (List.mem_of_getElem? (i := 122) rfl)))
set_option maxRecDepth 100000 in
theorem l_Pa_30 : Cond.methodLinkNest R_Pa 30 n_C_Pi_init "BlockPicture" ∈ gG.1 := List.mem_append_right _ (List.mem_append_right _ (List.mem_append_left _ (List.mem_of_getElem? (i := 124) rfl)))
set_option maxRecDepth 100000 in
theorem x_Pa_35 : Cond.classLink R_Pa 35 "BlockPicture$Scan" ∈ gG.1 := List.mem_append_right _ (List.mem_append_right _ (List.mem_append_left _ (List.mem_of_getElem? (i := 211) rfl)))
set_option maxRecDepth 100000 in
theorem l_Pa_37 : Cond.methodLinkNest R_Pa 37 n_C_Sc_init "BlockPicture" ∈ gG.1 := List.mem_append_right _ (List.mem_append_right _ (List.mem_append_left _ (List.mem_of_getElem? (i := 213) rfl)))
set_option maxRecDepth 100000 in
theorem x_Pa_42 : Cond.classLink R_Pa 42 "BlockPicture$Lines" ∈ gG.1 := List.mem_append_right _ (List.mem_append_right _ (List.mem_append_right _ (List.mem_append_left _ (List.mem_of_getElem? (i := 13) rfl))))
set_option maxRecDepth 100000 in
theorem l_Pa_44 : Cond.methodLinkNest R_Pa 44 n_C_Li_init "BlockPicture" ∈ gG.1 := List.mem_append_right _ (List.mem_append_right _ (List.mem_append_right _ (List.mem_append_left _ (List.mem_of_getElem? (i := 15) rfl))))
set_option maxRecDepth 100000 in
theorem x_Pa_49 : Cond.classLink R_Pa 49 "BlockPicture$OwnCodes" ∈ gG.1 := List.mem_append_right _ (List.mem_append_right _ (List.mem_append_right _ (List.mem_append_left _ (List.mem_of_getElem? (i := 36) rfl))))
set_option maxRecDepth 100000 in
theorem l_Pa_51 : Cond.methodLinkNest R_Pa 51 n_C_Oc_init "BlockPicture" ∈ gG.1 := List.mem_append_right _ (List.mem_append_right _ (List.mem_append_right _ (List.mem_append_left _ (List.mem_of_getElem? (i := 39) rfl))))
set_option maxRecDepth 100000 in
theorem l_Re_3 : Cond.methodLink R_Re 3 Lib.objectInit ∈ gG.1 := List.mem_append_right _ (List.mem_append_right _ (List.mem_append_right _ (List.mem_append_left _ (List.mem_of_getElem? (i := 121) rfl))))
set_option maxRecDepth 100000 in
theorem x_Re_9 : Cond.classLink R_Re 9 "BlockPicture$Row" ∈ gG.1 := List.mem_append_right _ (List.mem_append_right _ (List.mem_append_right _ (List.mem_append_left _ (List.mem_of_getElem? (i := 122) rfl))))
set_option maxRecDepth 100000 in
theorem l_Re_12 : Cond.methodLink R_Re 12 n_C_Ro_init ∈ gG.1 := List.mem_append_right _ (List.mem_append_right _ (List.mem_append_right _ (List.mem_append_left _ (List.mem_of_getElem? (i := 124) rfl))))
set_option maxRecDepth 100000 in
theorem l_Co_3 : Cond.methodLink R_Co 3 Lib.objectInit ∈ gG.1 := List.mem_append_right _ (List.mem_append_right _ (List.mem_append_right _ (List.mem_append_left _ (List.mem_of_getElem? (i := 166) rfl))))
set_option maxRecDepth 100000 in
theorem l_Un_3 : Cond.methodLink R_Un 3 Lib.objectInit ∈ gG.1 := List.mem_append_right _ (List.mem_append_right _ (List.mem_append_right _ (List.mem_append_left _ (List.mem_of_getElem? (i := 115) rfl))))
set_option maxRecDepth 100000 in
theorem x_Un_9 : Cond.classLink R_Un 9 "BlockPicture$Reader" ∈ gG.1 := List.mem_append_right _ (List.mem_append_right _ (List.mem_append_right _ (List.mem_append_left _ (List.mem_of_getElem? (i := 116) rfl))))
set_option maxRecDepth 100000 in
theorem l_Un_11 : Cond.methodLinkNest R_Un 11 n_C_Re_init "BlockPicture" ∈ gG.1 := List.mem_append_right _ (List.mem_append_right _ (List.mem_append_right _ (List.mem_append_left _ (List.mem_of_getElem? (i := 118) rfl))))
set_option maxRecDepth 100000 in
theorem x_Un_18 : Cond.classLink R_Un 18 "BlockPicture$Picture" ∈ gG.1 := List.mem_append_right _ (List.mem_append_right _ (List.mem_append_right _ (List.mem_append_left _ (List.mem_of_getElem? (i := 156) rfl))))
set_option maxRecDepth 100000 in
theorem l_Un_20 : Cond.methodLinkNest R_Un 20 n_C_Pi_init "BlockPicture" ∈ gG.1 := List.mem_append_right _ (List.mem_append_right _ (List.mem_append_right _ (List.mem_append_left _ (List.mem_of_getElem? (i := 157) rfl))))
set_option maxRecDepth 100000 in
theorem x_Un_25 : Cond.classLink R_Un 25 "BlockPicture$Scan" ∈ gG.1 := List.mem_append_right _ (List.mem_append_right _ (List.mem_append_right _ (List.mem_append_left _ (List.mem_of_getElem? (i := 158) rfl))))
set_option maxRecDepth 100000 in
theorem l_Un_27 : Cond.methodLinkNest R_Un 27 n_C_Sc_init "BlockPicture" ∈ gG.1 := List.mem_append_right _ (List.mem_append_right _ (List.mem_append_right _ (List.mem_append_left _ (List.mem_of_getElem? (i := 159) rfl))))
set_option maxRecDepth 100000 in
theorem x_Un_40 : Cond.classLink R_Un 40 "BlockPicture$Codes" ∈ gG.1 := List.mem_append_right _ (List.mem_append_right _ (List.mem_append_right _ (List.mem_append_left _ (List.mem_of_getElem? (i := 160) rfl))))
set_option maxRecDepth 100000 in
theorem l_Un_42 : Cond.methodLinkNest R_Un 42 n_C_Co_init "BlockPicture" ∈ gG.1 := List.mem_append_right _ (List.mem_append_right _ (List.mem_append_right _ (List.mem_append_left _ (List.mem_of_getElem? (i := 163) rfl))))
set_option maxRecDepth 100000 in
theorem l_B_3 : Cond.methodLink R_B 3 Lib.objectInit ∈ gG.1 := List.mem_append_right _ (List.mem_append_right _ (List.mem_append_left _ (List.mem_of_getElem? (i := 37) rfl)))
set_option maxRecDepth 100000 in
theorem x_B_9 : Cond.classLink R_B 9 "BlockPicture$Canvas" ∈ gG.1 := List.mem_append_right _ (List.mem_append_right _ (List.mem_append_left _ (List.mem_of_getElem? (i := 40) rfl)))
set_option maxRecDepth 100000 in
theorem l_B_11 : Cond.methodLinkNest R_B 11 n_C_Ca_init "BlockPicture" ∈ gG.1 := List.mem_append_right _ (List.mem_append_right _ (List.mem_append_left _ (List.mem_of_getElem? (i := 42) rfl)))
set_option maxRecDepth 100000 in
theorem x_B_20 : Cond.classLink R_B 20 "BlockPicture$Packer" ∈ gG.1 := List.mem_append_right _ (List.mem_append_right _ (List.mem_append_left _ (List.mem_of_getElem? (i := 65) rfl)))
set_option maxRecDepth 100000 in
theorem l_B_22 : Cond.methodLinkNest R_B 22 n_C_Pa_init "BlockPicture" ∈ gG.1 := List.mem_append_right _ (List.mem_append_right _ (List.mem_append_left _ (List.mem_of_getElem? (i := 67) rfl)))
set_option maxRecDepth 100000 in
theorem x_B_27 : Cond.classLink R_B 27 "BlockPicture$Unpacker" ∈ gG.1 := List.mem_append_right _ (List.mem_append_right _ (List.mem_append_right _ (List.mem_append_left _ (List.mem_of_getElem? (i := 110) rfl))))
set_option maxRecDepth 100000 in
theorem l_B_29 : Cond.methodLinkNest R_B 29 n_C_Un_init "BlockPicture" ∈ gG.1 := List.mem_append_right _ (List.mem_append_right _ (List.mem_append_right _ (List.mem_append_left _ (List.mem_of_getElem? (i := 112) rfl))))
set_option maxRecDepth 100000 in
theorem x_B_54 : Cond.classLink R_B 54 "BlockPicture$Picture" ∈ gG.1 := List.mem_append_right _ (List.mem_append_right _ (List.mem_append_right _ (List.mem_append_left _ (List.mem_of_getElem? (i := 233) rfl))))
set_option maxRecDepth 100000 in
theorem l_B_56 : Cond.methodLinkNest R_B 56 n_C_Pi_init "BlockPicture" ∈ gG.1 := List.mem_append_right _ (List.mem_append_right _ (List.mem_append_right _ (List.mem_append_left _ (List.mem_of_getElem? (i := 234) rfl))))
