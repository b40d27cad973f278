/-! names and words of the class: printed by my program -/
set_option maxRecDepth 100000 in
theorem i_B : Cond.initialized R_B ∈ gG.1 := List.mem_append_right _ (List.mem_append_left _ (List.mem_of_getElem? (i := 1) rfl))
set_option maxRecDepth 100000 in
theorem i_Ca : Cond.initialized R_Ca ∈ gG.1 := List.mem_append_right _ (List.mem_append_left _ (List.mem_of_getElem? (i := 2) rfl))
set_option maxRecDepth 100000 in
theorem i_Co : Cond.initialized R_Co ∈ gG.1 := List.mem_append_right _ (List.mem_append_left _ (List.mem_of_getElem? (i := 13) rfl))
set_option maxRecDepth 100000 in
theorem i_Li : Cond.initialized R_Li ∈ gG.1 := List.mem_append_right _ (List.mem_append_left _ (List.mem_of_getElem? (i := 9) rfl))
set_option maxRecDepth 100000 in
theorem i_Oc : Cond.initialized R_Oc ∈ gG.1 := List.mem_append_right _ (List.mem_append_left _ (List.mem_of_getElem? (i := 10) rfl))
set_option maxRecDepth 100000 in
theorem i_Pa : Cond.initialized R_Pa ∈ gG.1 := List.mem_append_right _ (List.mem_append_left _ (List.mem_of_getElem? (i := 3) rfl))
set_option maxRecDepth 100000 in
theorem i_Pi : Cond.initialized R_Pi ∈ gG.1 := List.mem_append_right _ (List.mem_append_left _ (List.mem_of_getElem? (i := 7) rfl))
set_option maxRecDepth 100000 in
theorem i_Re : Cond.initialized R_Re ∈ gG.1 := List.mem_append_right _ (List.mem_append_left _ (List.mem_of_getElem? (i := 12) rfl))
set_option maxRecDepth 100000 in
theorem i_Ro : Cond.initialized R_Ro ∈ gG.1 := List.mem_append_right _ (List.mem_append_left _ (List.mem_of_getElem? (i := 4) rfl))
set_option maxRecDepth 100000 in
theorem i_Sc : Cond.initialized R_Sc ∈ gG.1 := List.mem_append_right _ (List.mem_append_left _ (List.mem_of_getElem? (i := 8) rfl))
set_option maxRecDepth 100000 in
theorem i_Un : Cond.initialized R_Un ∈ gG.1 := List.mem_append_right _ (List.mem_append_left _ (List.mem_of_getElem? (i := 11) rfl))
set_option maxRecDepth 100000 in
theorem i_Wa : Cond.initialized R_Wa ∈ gG.1 := List.mem_append_right _ (List.mem_append_left _ (List.mem_of_getElem? (i := 6) rfl))
def R_Ma : String := "java/lang/Math"
set_option maxRecDepth 100000 in
theorem i_Ma : Cond.initialized R_Ma ∈ gG.1 := List.mem_append_right _ (List.mem_append_left _ (List.mem_of_getElem? (i := 5) rfl))
def R_Ar : String := "java/util/Arrays"
set_option maxRecDepth 100000 in
theorem i_Ar : Cond.initialized R_Ar ∈ gG.1 := List.mem_append_right _ (List.mem_append_left _ (List.mem_of_getElem? (i := 14) rfl))
abbrev c_C_Ar_fillI : ByteArray := prog_31_method_103_code
def n_C_Ar_fillI : MethodName := ⟨R_Ar, "fill", "([II)V"⟩
set_option maxRecDepth 100000 in
theorem cd_C_Ar_fillI : Cond.code n_C_Ar_fillI c_C_Ar_fillI 4 (none) ∈ gG.1 := List.mem_append_right _ (List.mem_append_right _ (List.mem_append_left _ (List.mem_of_getElem? (i := 237) rfl)))
theorem ln_C_Ar_fillI : (parseMethodDescriptor n_C_Ar_fillI.desc).map (fun d => d.parameters.length) = some 2 := by decide +kernel
set_option maxRecDepth 100000 in
theorem st_C_Ar_fillI : Cond.static n_C_Ar_fillI ∈ gG.1 := List.mem_append_right _ (List.mem_append_right _ (List.mem_append_left _ (List.mem_of_getElem? (i := 236) rfl)))
abbrev c_C_B_isWithin : ByteArray := prog_1_method_21_code
def n_C_B_isWithin : MethodName := ⟨R_B, "isWithin", "(III)Z"⟩
set_option maxRecDepth 100000 in
theorem cd_C_B_isWithin : Cond.code n_C_B_isWithin c_C_B_isWithin 3 (some .boolean) ∈ gG.1 := List.mem_append_right _ (List.mem_append_right _ (List.mem_append_right _ (List.mem_append_left _ (List.mem_of_getElem? (i := 154) rfl))))
theorem ln_C_B_isWithin : (parseMethodDescriptor n_C_B_isWithin.desc).map (fun d => d.parameters.length) = some 3 := by decide +kernel
set_option maxRecDepth 100000 in
theorem st_C_B_isWithin : Cond.static n_C_B_isWithin ∈ gG.1 := List.mem_append_right _ (List.mem_append_right _ (List.mem_append_right _ (List.mem_append_left _ (List.mem_of_getElem? (i := 153) rfl))))
abbrev c_C_Ca_begin : ByteArray := prog_2_method_2_code
def n_C_Ca_begin : MethodName := ⟨R_Ca, "begin", "(III)V"⟩
set_option maxRecDepth 100000 in
theorem cd_C_Ca_begin : Cond.code n_C_Ca_begin c_C_Ca_begin 4 (none) ∈ gG.1 := List.mem_append_right _ (List.mem_append_right _ (List.mem_append_right _ (List.mem_append_right _ (List.mem_append_left _ (List.mem_of_getElem? (i := 84) rfl)))))
theorem ln_C_Ca_begin : (parseMethodDescriptor n_C_Ca_begin.desc).map (fun d => d.parameters.length) = some 3 := by decide +kernel
set_option maxRecDepth 100000 in
theorem im_C_Ca_begin : Cond.instanceMethod n_C_Ca_begin ∈ gG.1 := List.mem_append_right _ (List.mem_append_right _ (List.mem_append_right _ (List.mem_append_right _ (List.mem_append_left _ (List.mem_of_getElem? (i := 82) rfl)))))
set_option maxRecDepth 100000 in
theorem se_C_Ca_begin : Cond.selects R_Ca n_C_Ca_begin n_C_Ca_begin ∈ gG.1 := List.mem_append_right _ (List.mem_append_right _ (List.mem_append_right _ (List.mem_append_right _ (List.mem_append_left _ (List.mem_of_getElem? (i := 83) rfl)))))
abbrev c_C_Ca_holds : ByteArray := prog_2_method_3_code
def n_C_Ca_holds : MethodName := ⟨R_Ca, "holds", "(IIII)Z"⟩
set_option maxRecDepth 100000 in
theorem cd_C_Ca_holds : Cond.code n_C_Ca_holds c_C_Ca_holds 5 (some .boolean) ∈ gG.1 := List.mem_append_right _ (List.mem_append_right _ (List.mem_append_right _ (List.mem_append_right _ (List.mem_append_left _ (List.mem_of_getElem? (i := 97) rfl)))))
theorem ln_C_Ca_holds : (parseMethodDescriptor n_C_Ca_holds.desc).map (fun d => d.parameters.length) = some 4 := by decide +kernel
set_option maxRecDepth 100000 in
theorem im_C_Ca_holds : Cond.instanceMethod n_C_Ca_holds ∈ gG.1 := List.mem_append_right _ (List.mem_append_right _ (List.mem_append_right _ (List.mem_append_right _ (List.mem_append_left _ (List.mem_of_getElem? (i := 95) rfl)))))
set_option maxRecDepth 100000 in
theorem se_C_Ca_holds : Cond.selects R_Ca n_C_Ca_holds n_C_Ca_holds ∈ gG.1 := List.mem_append_right _ (List.mem_append_right _ (List.mem_append_right _ (List.mem_append_right _ (List.mem_append_left _ (List.mem_of_getElem? (i := 96) rfl)))))
abbrev c_C_B_spot : ByteArray := prog_1_method_23_code
def n_C_B_spot : MethodName := ⟨R_B, "spot", "(III)I"⟩
set_option maxRecDepth 100000 in
theorem cd_C_B_spot : Cond.code n_C_B_spot c_C_B_spot 3 (some .int) ∈ gG.1 := List.mem_append_right _ (List.mem_append_right _ (List.mem_append_right _ (List.mem_append_right _ (List.mem_append_left _ (List.mem_of_getElem? (i := 120) rfl)))))
theorem ln_C_B_spot : (parseMethodDescriptor n_C_B_spot.desc).map (fun d => d.parameters.length) = some 3 := by decide +kernel
set_option maxRecDepth 100000 in
theorem st_C_B_spot : Cond.static n_C_B_spot ∈ gG.1 := List.mem_append_right _ (List.mem_append_right _ (List.mem_append_right _ (List.mem_append_right _ (List.mem_append_left _ (List.mem_of_getElem? (i := 119) rfl)))))
abbrev c_C_Ca_paint : ByteArray := prog_2_method_4_code
def n_C_Ca_paint : MethodName := ⟨R_Ca, "paint", "(IIIIII)V"⟩
set_option maxRecDepth 100000 in
theorem cd_C_Ca_paint : Cond.code n_C_Ca_paint c_C_Ca_paint 14 (none) ∈ gG.1 := List.mem_append_right _ (List.mem_append_right _ (List.mem_append_right _ (List.mem_append_right _ (List.mem_append_left _ (List.mem_of_getElem? (i := 117) rfl)))))
theorem ln_C_Ca_paint : (parseMethodDescriptor n_C_Ca_paint.desc).map (fun d => d.parameters.length) = some 6 := by decide +kernel
set_option maxRecDepth 100000 in
theorem im_C_Ca_paint : Cond.instanceMethod n_C_Ca_paint ∈ gG.1 := List.mem_append_right _ (List.mem_append_right _ (List.mem_append_right _ (List.mem_append_right _ (List.mem_append_left _ (List.mem_of_getElem? (i := 115) rfl)))))
set_option maxRecDepth 100000 in
theorem se_C_Ca_paint : Cond.selects R_Ca n_C_Ca_paint n_C_Ca_paint ∈ gG.1 := List.mem_append_right _ (List.mem_append_right _ (List.mem_append_right _ (List.mem_append_right _ (List.mem_append_left _ (List.mem_of_getElem? (i := 116) rfl)))))
abbrev c_C_B_clamp : ByteArray := prog_1_method_22_code
def n_C_B_clamp : MethodName := ⟨R_B, "clamp", "(III)I"⟩
set_option maxRecDepth 100000 in
theorem cd_C_B_clamp : Cond.code n_C_B_clamp c_C_B_clamp 3 (some .int) ∈ gG.1 := List.mem_append_right _ (List.mem_append_right _ (List.mem_append_right _ (List.mem_append_right _ (List.mem_append_left _ (List.mem_of_getElem? (i := 147) rfl)))))
theorem ln_C_B_clamp : (parseMethodDescriptor n_C_B_clamp.desc).map (fun d => d.parameters.length) = some 3 := by decide +kernel
set_option maxRecDepth 100000 in
theorem st_C_B_clamp : Cond.static n_C_B_clamp ∈ gG.1 := List.mem_append_right _ (List.mem_append_right _ (List.mem_append_right _ (List.mem_append_right _ (List.mem_append_left _ (List.mem_of_getElem? (i := 146) rfl)))))
abbrev c_C_Pi_begin : ByteArray := prog_7_method_2_code
def n_C_Pi_begin : MethodName := ⟨R_Pi, "begin", "(III)V"⟩
set_option maxRecDepth 100000 in
theorem cd_C_Pi_begin : Cond.code n_C_Pi_begin c_C_Pi_begin 4 (none) ∈ gG.1 := List.mem_append_right _ (List.mem_append_right _ (List.mem_append_right _ (List.mem_append_left _ (List.mem_of_getElem? (i := 166) rfl))))
theorem ln_C_Pi_begin : (parseMethodDescriptor n_C_Pi_begin.desc).map (fun d => d.parameters.length) = some 3 := by decide +kernel
set_option maxRecDepth 100000 in
theorem im_C_Pi_begin : Cond.instanceMethod n_C_Pi_begin ∈ gG.1 := List.mem_append_right _ (List.mem_append_right _ (List.mem_append_right _ (List.mem_append_left _ (List.mem_of_getElem? (i := 164) rfl))))
set_option maxRecDepth 100000 in
theorem se_C_Pi_begin : Cond.selects R_Pi n_C_Pi_begin n_C_Pi_begin ∈ gG.1 := List.mem_append_right _ (List.mem_append_right _ (List.mem_append_right _ (List.mem_append_left _ (List.mem_of_getElem? (i := 165) rfl))))
abbrev c_C_Pi_setFactors : ByteArray := prog_7_method_3_code
def n_C_Pi_setFactors : MethodName := ⟨R_Pi, "setFactors", "(III)V"⟩
set_option maxRecDepth 100000 in
theorem cd_C_Pi_setFactors : Cond.code n_C_Pi_setFactors c_C_Pi_setFactors 4 (none) ∈ gG.1 := List.mem_append_right _ (List.mem_append_right _ (List.mem_append_right _ (List.mem_append_left _ (List.mem_of_getElem? (i := 175) rfl))))
theorem ln_C_Pi_setFactors : (parseMethodDescriptor n_C_Pi_setFactors.desc).map (fun d => d.parameters.length) = some 3 := by decide +kernel
set_option maxRecDepth 100000 in
theorem im_C_Pi_setFactors : Cond.instanceMethod n_C_Pi_setFactors ∈ gG.1 := List.mem_append_right _ (List.mem_append_right _ (List.mem_append_right _ (List.mem_append_left _ (List.mem_of_getElem? (i := 173) rfl))))
set_option maxRecDepth 100000 in
theorem se_C_Pi_setFactors : Cond.selects R_Pi n_C_Pi_setFactors n_C_Pi_setFactors ∈ gG.1 := List.mem_append_right _ (List.mem_append_right _ (List.mem_append_right _ (List.mem_append_left _ (List.mem_of_getElem? (i := 174) rfl))))
abbrev c_C_Pa_kindOf : ByteArray := prog_6_method_3_code
def n_C_Pa_kindOf : MethodName := ⟨R_Pa, "kindOf", "(I)I"⟩
set_option maxRecDepth 100000 in
theorem cd_C_Pa_kindOf : Cond.code n_C_Pa_kindOf c_C_Pa_kindOf 1 (some .int) ∈ gG.1 := List.mem_append_right _ (List.mem_append_right _ (List.mem_append_right _ (List.mem_append_right _ (List.mem_append_left _ (List.mem_of_getElem? (i := 174) rfl)))))
theorem ln_C_Pa_kindOf : (parseMethodDescriptor n_C_Pa_kindOf.desc).map (fun d => d.parameters.length) = some 1 := by decide +kernel
set_option maxRecDepth 100000 in
theorem st_C_Pa_kindOf : Cond.static n_C_Pa_kindOf ∈ gG.1 := List.mem_append_right _ (List.mem_append_right _ (List.mem_append_right _ (List.mem_append_right _ (List.mem_append_left _ (List.mem_of_getElem? (i := 173) rfl)))))
abbrev c_C_Sc_addLayer : ByteArray := prog_10_method_2_code
def n_C_Sc_addLayer : MethodName := ⟨R_Sc, "addLayer", "(III)V"⟩
set_option maxRecDepth 100000 in
theorem cd_C_Sc_addLayer : Cond.code n_C_Sc_addLayer c_C_Sc_addLayer 4 (none) ∈ gG.1 := List.mem_append_right _ (List.mem_append_right _ (List.mem_append_right _ (List.mem_append_left _ (List.mem_of_getElem? (i := 198) rfl))))
theorem ln_C_Sc_addLayer : (parseMethodDescriptor n_C_Sc_addLayer.desc).map (fun d => d.parameters.length) = some 3 := by decide +kernel
set_option maxRecDepth 100000 in
theorem im_C_Sc_addLayer : Cond.instanceMethod n_C_Sc_addLayer ∈ gG.1 := List.mem_append_right _ (List.mem_append_right _ (List.mem_append_right _ (List.mem_append_left _ (List.mem_of_getElem? (i := 196) rfl))))
set_option maxRecDepth 100000 in
theorem se_C_Sc_addLayer : Cond.selects R_Sc n_C_Sc_addLayer n_C_Sc_addLayer ∈ gG.1 := List.mem_append_right _ (List.mem_append_right _ (List.mem_append_right _ (List.mem_append_left _ (List.mem_of_getElem? (i := 197) rfl))))
abbrev c_C_Pi_upward : ByteArray := prog_7_method_5_code
def n_C_Pi_upward : MethodName := ⟨R_Pi, "upward", "(II)I"⟩
set_option maxRecDepth 100000 in
theorem cd_C_Pi_upward : Cond.code n_C_Pi_upward c_C_Pi_upward 2 (some .int) ∈ gG.1 := List.mem_append_right _ (List.mem_append_right _ (List.mem_append_right _ (List.mem_append_left _ (List.mem_of_getElem? (i := 183) rfl))))
theorem ln_C_Pi_upward : (parseMethodDescriptor n_C_Pi_upward.desc).map (fun d => d.parameters.length) = some 2 := by decide +kernel
set_option maxRecDepth 100000 in
theorem st_C_Pi_upward : Cond.static n_C_Pi_upward ∈ gG.1 := List.mem_append_right _ (List.mem_append_right _ (List.mem_append_right _ (List.mem_append_left _ (List.mem_of_getElem? (i := 182) rfl))))
abbrev c_C_Pi_measure : ByteArray := prog_7_method_4_code
def n_C_Pi_measure : MethodName := ⟨R_Pi, "measure", "()V"⟩
set_option maxRecDepth 100000 in
theorem cd_C_Pi_measure : Cond.code n_C_Pi_measure c_C_Pi_measure 2 (none) ∈ gG.1 := List.mem_append_right _ (List.mem_append_right _ (List.mem_append_right _ (List.mem_append_left _ (List.mem_of_getElem? (i := 180) rfl))))
theorem ln_C_Pi_measure : (parseMethodDescriptor n_C_Pi_measure.desc).map (fun d => d.parameters.length) = some 0 := by decide +kernel
set_option maxRecDepth 100000 in
theorem im_C_Pi_measure : Cond.instanceMethod n_C_Pi_measure ∈ gG.1 := List.mem_append_right _ (List.mem_append_right _ (List.mem_append_right _ (List.mem_append_left _ (List.mem_of_getElem? (i := 178) rfl))))
set_option maxRecDepth 100000 in
theorem se_C_Pi_measure : Cond.selects R_Pi n_C_Pi_measure n_C_Pi_measure ∈ gG.1 := List.mem_append_right _ (List.mem_append_right _ (List.mem_append_right _ (List.mem_append_left _ (List.mem_of_getElem? (i := 179) rfl))))
abbrev c_C_Sc_addBlock : ByteArray := prog_10_method_8_code
def n_C_Sc_addBlock : MethodName := ⟨R_Sc, "addBlock", "(II)V"⟩
set_option maxRecDepth 100000 in
theorem cd_C_Sc_addBlock : Cond.code n_C_Sc_addBlock c_C_Sc_addBlock 3 (none) ∈ gG.1 := List.mem_append_right _ (List.mem_append_right _ (List.mem_append_right _ (List.mem_append_left _ (List.mem_of_getElem? (i := 214) rfl))))
theorem ln_C_Sc_addBlock : (parseMethodDescriptor n_C_Sc_addBlock.desc).map (fun d => d.parameters.length) = some 2 := by decide +kernel
set_option maxRecDepth 100000 in
theorem im_C_Sc_addBlock : Cond.instanceMethod n_C_Sc_addBlock ∈ gG.1 := List.mem_append_right _ (List.mem_append_right _ (List.mem_append_right _ (List.mem_append_left _ (List.mem_of_getElem? (i := 213) rfl))))
theorem se_C_Sc_addBlock : Cond.selects R_Sc n_C_Sc_addBlock n_C_Sc_addBlock ∈ gG.1 := List.mem_append_left _ (by decide +kernel)
abbrev c_C_Sc_arrangeAlone : ByteArray := prog_10_method_5_code
def n_C_Sc_arrangeAlone : MethodName := ⟨R_Sc, "arrangeAlone", "(LBlockPicture$Picture;I)V"⟩
set_option maxRecDepth 100000 in
theorem cd_C_Sc_arrangeAlone : Cond.code n_C_Sc_arrangeAlone c_C_Sc_arrangeAlone 5 (none) ∈ gG.1 := List.mem_append_right _ (List.mem_append_right _ (List.mem_append_right _ (List.mem_append_left _ (List.mem_of_getElem? (i := 210) rfl))))
theorem ln_C_Sc_arrangeAlone : (parseMethodDescriptor n_C_Sc_arrangeAlone.desc).map (fun d => d.parameters.length) = some 2 := by decide +kernel
set_option maxRecDepth 100000 in
theorem im_C_Sc_arrangeAlone : Cond.instanceMethod n_C_Sc_arrangeAlone ∈ gG.1 := List.mem_append_right _ (List.mem_append_right _ (List.mem_append_right _ (List.mem_append_left _ (List.mem_of_getElem? (i := 209) rfl))))
theorem se_C_Sc_arrangeAlone : Cond.selects R_Sc n_C_Sc_arrangeAlone n_C_Sc_arrangeAlone ∈ gG.1 := List.mem_append_left _ (by decide +kernel)
abbrev c_C_Sc_blocksTogether : ByteArray := prog_10_method_3_code
def n_C_Sc_blocksTogether : MethodName := ⟨R_Sc, "blocksTogether", "(LBlockPicture$Picture;)I"⟩
set_option maxRecDepth 100000 in
theorem cd_C_Sc_blocksTogether : Cond.code n_C_Sc_blocksTogether c_C_Sc_blocksTogether 4 (some .int) ∈ gG.1 := List.mem_append_right _ (List.mem_append_right _ (List.mem_append_right _ (List.mem_append_left _ (List.mem_of_getElem? (i := 202) rfl))))
theorem ln_C_Sc_blocksTogether : (parseMethodDescriptor n_C_Sc_blocksTogether.desc).map (fun d => d.parameters.length) = some 1 := by decide +kernel
set_option maxRecDepth 100000 in
theorem im_C_Sc_blocksTogether : Cond.instanceMethod n_C_Sc_blocksTogether ∈ gG.1 := List.mem_append_right _ (List.mem_append_right _ (List.mem_append_right _ (List.mem_append_left _ (List.mem_of_getElem? (i := 200) rfl))))
set_option maxRecDepth 100000 in
theorem se_C_Sc_blocksTogether : Cond.selects R_Sc n_C_Sc_blocksTogether n_C_Sc_blocksTogether ∈ gG.1 := List.mem_append_right _ (List.mem_append_right _ (List.mem_append_right _ (List.mem_append_left _ (List.mem_of_getElem? (i := 201) rfl))))
abbrev c_C_Sc_addStretch : ByteArray := prog_10_method_7_code
def n_C_Sc_addStretch : MethodName := ⟨R_Sc, "addStretch", "(LBlockPicture$Picture;III)V"⟩
set_option maxRecDepth 100000 in
theorem cd_C_Sc_addStretch : Cond.code n_C_Sc_addStretch c_C_Sc_addStretch 9 (none) ∈ gG.1 := List.mem_append_right _ (List.mem_append_right _ (List.mem_append_right _ (List.mem_append_left _ (List.mem_of_getElem? (i := 223) rfl))))
theorem ln_C_Sc_addStretch : (parseMethodDescriptor n_C_Sc_addStretch.desc).map (fun d => d.parameters.length) = some 4 := by decide +kernel
set_option maxRecDepth 100000 in
theorem im_C_Sc_addStretch : Cond.instanceMethod n_C_Sc_addStretch ∈ gG.1 := List.mem_append_right _ (List.mem_append_right _ (List.mem_append_right _ (List.mem_append_left _ (List.mem_of_getElem? (i := 222) rfl))))
theorem se_C_Sc_addStretch : Cond.selects R_Sc n_C_Sc_addStretch n_C_Sc_addStretch ∈ gG.1 := List.mem_append_left _ (by decide +kernel)
abbrev c_C_Sc_arrangeTogether : ByteArray := prog_10_method_6_code
def n_C_Sc_arrangeTogether : MethodName := ⟨R_Sc, "arrangeTogether", "(LBlockPicture$Picture;)V"⟩
set_option maxRecDepth 100000 in
theorem cd_C_Sc_arrangeTogether : Cond.code n_C_Sc_arrangeTogether c_C_Sc_arrangeTogether 5 (none) ∈ gG.1 := List.mem_append_right _ (List.mem_append_right _ (List.mem_append_right _ (List.mem_append_left _ (List.mem_of_getElem? (i := 219) rfl))))
theorem ln_C_Sc_arrangeTogether : (parseMethodDescriptor n_C_Sc_arrangeTogether.desc).map (fun d => d.parameters.length) = some 1 := by decide +kernel
set_option maxRecDepth 100000 in
theorem im_C_Sc_arrangeTogether : Cond.instanceMethod n_C_Sc_arrangeTogether ∈ gG.1 := List.mem_append_right _ (List.mem_append_right _ (List.mem_append_right _ (List.mem_append_left _ (List.mem_of_getElem? (i := 218) rfl))))
theorem se_C_Sc_arrangeTogether : Cond.selects R_Sc n_C_Sc_arrangeTogether n_C_Sc_arrangeTogether ∈ gG.1 := List.mem_append_left _ (by decide +kernel)
abbrev c_C_Sc_arrange : ByteArray := prog_10_method_4_code
def n_C_Sc_arrange : MethodName := ⟨R_Sc, "arrange", "(LBlockPicture$Picture;)V"⟩
set_option maxRecDepth 100000 in
theorem cd_C_Sc_arrange : Cond.code n_C_Sc_arrange c_C_Sc_arrange 2 (none) ∈ gG.1 := List.mem_append_right _ (List.mem_append_right _ (List.mem_append_right _ (List.mem_append_left _ (List.mem_of_getElem? (i := 206) rfl))))
theorem ln_C_Sc_arrange : (parseMethodDescriptor n_C_Sc_arrange.desc).map (fun d => d.parameters.length) = some 1 := by decide +kernel
set_option maxRecDepth 100000 in
theorem im_C_Sc_arrange : Cond.instanceMethod n_C_Sc_arrange ∈ gG.1 := List.mem_append_right _ (List.mem_append_right _ (List.mem_append_right _ (List.mem_append_left _ (List.mem_of_getElem? (i := 204) rfl))))
set_option maxRecDepth 100000 in
theorem se_C_Sc_arrange : Cond.selects R_Sc n_C_Sc_arrange n_C_Sc_arrange ∈ gG.1 := List.mem_append_right _ (List.mem_append_right _ (List.mem_append_right _ (List.mem_append_left _ (List.mem_of_getElem? (i := 205) rfl))))
abbrev c_C_Ca_kind : ByteArray := prog_2_method_5_code
def n_C_Ca_kind : MethodName := ⟨R_Ca, "kind", "(III)I"⟩
set_option maxRecDepth 100000 in
theorem cd_C_Ca_kind : Cond.code n_C_Ca_kind c_C_Ca_kind 8 (some .int) ∈ gG.1 := List.mem_append_right _ (List.mem_append_right _ (List.mem_append_right _ (List.mem_append_right _ (List.mem_append_left _ (List.mem_of_getElem? (i := 188) rfl)))))
theorem ln_C_Ca_kind : (parseMethodDescriptor n_C_Ca_kind.desc).map (fun d => d.parameters.length) = some 3 := by decide +kernel
set_option maxRecDepth 100000 in
theorem im_C_Ca_kind : Cond.instanceMethod n_C_Ca_kind ∈ gG.1 := List.mem_append_right _ (List.mem_append_right _ (List.mem_append_right _ (List.mem_append_right _ (List.mem_append_left _ (List.mem_of_getElem? (i := 186) rfl)))))
set_option maxRecDepth 100000 in
theorem se_C_Ca_kind : Cond.selects R_Ca n_C_Ca_kind n_C_Ca_kind ∈ gG.1 := List.mem_append_right _ (List.mem_append_right _ (List.mem_append_right _ (List.mem_append_right _ (List.mem_append_left _ (List.mem_of_getElem? (i := 187) rfl)))))
abbrev c_C_Pa_makeLayer : ByteArray := prog_6_method_4_code
def n_C_Pa_makeLayer : MethodName := ⟨R_Pa, "makeLayer", "(LBlockPicture$Canvas;I)V"⟩
set_option maxRecDepth 100000 in
theorem cd_C_Pa_makeLayer : Cond.code n_C_Pa_makeLayer c_C_Pa_makeLayer 9 (none) ∈ gG.1 := List.mem_append_right _ (List.mem_append_right _ (List.mem_append_right _ (List.mem_append_right _ (List.mem_append_left _ (List.mem_of_getElem? (i := 181) rfl)))))
theorem ln_C_Pa_makeLayer : (parseMethodDescriptor n_C_Pa_makeLayer.desc).map (fun d => d.parameters.length) = some 2 := by decide +kernel
set_option maxRecDepth 100000 in
theorem im_C_Pa_makeLayer : Cond.instanceMethod n_C_Pa_makeLayer ∈ gG.1 := List.mem_append_right _ (List.mem_append_right _ (List.mem_append_right _ (List.mem_append_right _ (List.mem_append_left _ (List.mem_of_getElem? (i := 180) rfl)))))
theorem se_C_Pa_makeLayer : Cond.selects R_Pa n_C_Pa_makeLayer n_C_Pa_makeLayer ∈ gG.1 := List.mem_append_left _ (by decide +kernel)
abbrev c_C_Wa_makeWeights : ByteArray := prog_12_method_3_code
def n_C_Wa_makeWeights : MethodName := ⟨R_Wa, "makeWeights", "()V"⟩
set_option maxRecDepth 100000 in
theorem cd_C_Wa_makeWeights : Cond.code n_C_Wa_makeWeights c_C_Wa_makeWeights 6 (none) ∈ gG.1 := List.mem_append_right _ (List.mem_append_right _ (List.mem_append_right _ (List.mem_append_right _ (List.mem_append_left _ (List.mem_of_getElem? (i := 201) rfl)))))
theorem ln_C_Wa_makeWeights : (parseMethodDescriptor n_C_Wa_makeWeights.desc).map (fun d => d.parameters.length) = some 0 := by decide +kernel
set_option maxRecDepth 100000 in
theorem im_C_Wa_makeWeights : Cond.instanceMethod n_C_Wa_makeWeights ∈ gG.1 := List.mem_append_right _ (List.mem_append_right _ (List.mem_append_right _ (List.mem_append_right _ (List.mem_append_left _ (List.mem_of_getElem? (i := 199) rfl)))))
set_option maxRecDepth 100000 in
theorem se_C_Wa_makeWeights : Cond.selects R_Wa n_C_Wa_makeWeights n_C_Wa_makeWeights ∈ gG.1 := List.mem_append_right _ (List.mem_append_right _ (List.mem_append_right _ (List.mem_append_right _ (List.mem_append_left _ (List.mem_of_getElem? (i := 200) rfl)))))
abbrev c_C_Pa_makeBlock : ByteArray := prog_6_method_5_code
def n_C_Pa_makeBlock : MethodName := ⟨R_Pa, "makeBlock", "(I[I)V"⟩
set_option maxRecDepth 100000 in
theorem cd_C_Pa_makeBlock : Cond.code n_C_Pa_makeBlock c_C_Pa_makeBlock 13 (none) ∈ gG.1 := List.mem_append_right _ (List.mem_append_right _ (List.mem_append_right _ (List.mem_append_right _ (List.mem_append_left _ (List.mem_of_getElem? (i := 196) rfl)))))
theorem ln_C_Pa_makeBlock : (parseMethodDescriptor n_C_Pa_makeBlock.desc).map (fun d => d.parameters.length) = some 2 := by decide +kernel
set_option maxRecDepth 100000 in
theorem im_C_Pa_makeBlock : Cond.instanceMethod n_C_Pa_makeBlock ∈ gG.1 := List.mem_append_right _ (List.mem_append_right _ (List.mem_append_right _ (List.mem_append_right _ (List.mem_append_left _ (List.mem_of_getElem? (i := 195) rfl)))))
theorem se_C_Pa_makeBlock : Cond.selects R_Pa n_C_Pa_makeBlock n_C_Pa_makeBlock ∈ gG.1 := List.mem_append_left _ (by decide +kernel)
abbrev c_C_Pa_makeLevels : ByteArray := prog_6_method_2_code
def n_C_Pa_makeLevels : MethodName := ⟨R_Pa, "makeLevels", "(LBlockPicture$Canvas;[III)V"⟩
set_option maxRecDepth 100000 in
theorem cd_C_Pa_makeLevels : Cond.code n_C_Pa_makeLevels c_C_Pa_makeLevels 7 (none) ∈ gG.1 := List.mem_append_right _ (List.mem_append_right _ (List.mem_append_right _ (List.mem_append_right _ (List.mem_append_left _ (List.mem_of_getElem? (i := 169) rfl)))))
theorem ln_C_Pa_makeLevels : (parseMethodDescriptor n_C_Pa_makeLevels.desc).map (fun d => d.parameters.length) = some 4 := by decide +kernel
set_option maxRecDepth 100000 in
theorem im_C_Pa_makeLevels : Cond.instanceMethod n_C_Pa_makeLevels ∈ gG.1 := List.mem_append_right _ (List.mem_append_right _ (List.mem_append_right _ (List.mem_append_right _ (List.mem_append_left _ (List.mem_of_getElem? (i := 167) rfl)))))
set_option maxRecDepth 100000 in
theorem se_C_Pa_makeLevels : Cond.selects R_Pa n_C_Pa_makeLevels n_C_Pa_makeLevels ∈ gG.1 := List.mem_append_right _ (List.mem_append_right _ (List.mem_append_right _ (List.mem_append_right _ (List.mem_append_left _ (List.mem_of_getElem? (i := 168) rfl)))))
abbrev c_C_Oc_begin : ByteArray := prog_5_method_2_code
def n_C_Oc_begin : MethodName := ⟨R_Oc, "begin", "()V"⟩
set_option maxRecDepth 100000 in
theorem cd_C_Oc_begin : Cond.code n_C_Oc_begin c_C_Oc_begin 1 (none) ∈ gG.1 := List.mem_append_right _ (List.mem_append_right _ (List.mem_append_right _ (List.mem_append_right _ (List.mem_append_left _ (List.mem_of_getElem? (i := 215) rfl)))))
theorem ln_C_Oc_begin : (parseMethodDescriptor n_C_Oc_begin.desc).map (fun d => d.parameters.length) = some 0 := by decide +kernel
set_option maxRecDepth 100000 in
theorem im_C_Oc_begin : Cond.instanceMethod n_C_Oc_begin ∈ gG.1 := List.mem_append_right _ (List.mem_append_right _ (List.mem_append_right _ (List.mem_append_right _ (List.mem_append_left _ (List.mem_of_getElem? (i := 213) rfl)))))
set_option maxRecDepth 100000 in
theorem se_C_Oc_begin : Cond.selects R_Oc n_C_Oc_begin n_C_Oc_begin ∈ gG.1 := List.mem_append_right _ (List.mem_append_right _ (List.mem_append_right _ (List.mem_append_right _ (List.mem_append_left _ (List.mem_of_getElem? (i := 214) rfl)))))
abbrev c_C_Ro_add : ByteArray := prog_9_method_3_code
def n_C_Ro_add : MethodName := ⟨R_Ro, "add", "(I)V"⟩
set_option maxRecDepth 100000 in
theorem cd_C_Ro_add : Cond.code n_C_Ro_add c_C_Ro_add 2 (none) ∈ gG.1 := List.mem_append_right _ (List.mem_append_right _ (List.mem_append_right _ (List.mem_append_right _ (List.mem_append_left _ (List.mem_of_getElem? (i := 237) rfl)))))
theorem ln_C_Ro_add : (parseMethodDescriptor n_C_Ro_add.desc).map (fun d => d.parameters.length) = some 1 := by decide +kernel
set_option maxRecDepth 100000 in
theorem im_C_Ro_add : Cond.instanceMethod n_C_Ro_add ∈ gG.1 := List.mem_append_right _ (List.mem_append_right _ (List.mem_append_right _ (List.mem_append_right _ (List.mem_append_left _ (List.mem_of_getElem? (i := 235) rfl)))))
set_option maxRecDepth 100000 in
theorem se_C_Ro_add : Cond.selects R_Ro n_C_Ro_add n_C_Ro_add ∈ gG.1 := List.mem_append_right _ (List.mem_append_right _ (List.mem_append_right _ (List.mem_append_right _ (List.mem_append_left _ (List.mem_of_getElem? (i := 236) rfl)))))
abbrev c_C_Pa_writeBits : ByteArray := prog_6_method_19_code
def n_C_Pa_writeBits : MethodName := ⟨R_Pa, "writeBits", "(II)V"⟩
set_option maxRecDepth 100000 in
theorem cd_C_Pa_writeBits : Cond.code n_C_Pa_writeBits c_C_Pa_writeBits 4 (none) ∈ gG.1 := List.mem_append_right _ (List.mem_append_right _ (List.mem_append_right _ (List.mem_append_right _ (List.mem_append_left _ (List.mem_of_getElem? (i := 233) rfl)))))
theorem ln_C_Pa_writeBits : (parseMethodDescriptor n_C_Pa_writeBits.desc).map (fun d => d.parameters.length) = some 2 := by decide +kernel
set_option maxRecDepth 100000 in
theorem im_C_Pa_writeBits : Cond.instanceMethod n_C_Pa_writeBits ∈ gG.1 := List.mem_append_right _ (List.mem_append_right _ (List.mem_append_right _ (List.mem_append_right _ (List.mem_append_left _ (List.mem_of_getElem? (i := 232) rfl)))))
theorem se_C_Pa_writeBits : Cond.selects R_Pa n_C_Pa_writeBits n_C_Pa_writeBits ∈ gG.1 := List.mem_append_left _ (by decide +kernel)
abbrev c_C_Pa_fillByte : ByteArray := prog_6_method_20_code
def n_C_Pa_fillByte : MethodName := ⟨R_Pa, "fillByte", "()V"⟩
set_option maxRecDepth 100000 in
theorem cd_C_Pa_fillByte : Cond.code n_C_Pa_fillByte c_C_Pa_fillByte 1 (none) ∈ gG.1 := List.mem_append_right _ (List.mem_append_right _ (List.mem_append_right _ (List.mem_append_right _ (List.mem_append_left _ (List.mem_of_getElem? (i := 229) rfl)))))
theorem ln_C_Pa_fillByte : (parseMethodDescriptor n_C_Pa_fillByte.desc).map (fun d => d.parameters.length) = some 0 := by decide +kernel
set_option maxRecDepth 100000 in
theorem im_C_Pa_fillByte : Cond.instanceMethod n_C_Pa_fillByte ∈ gG.1 := List.mem_append_right _ (List.mem_append_right _ (List.mem_append_right _ (List.mem_append_right _ (List.mem_append_left _ (List.mem_of_getElem? (i := 228) rfl)))))
theorem se_C_Pa_fillByte : Cond.selects R_Pa n_C_Pa_fillByte n_C_Pa_fillByte ∈ gG.1 := List.mem_append_left _ (by decide +kernel)
abbrev c_C_Pa_addMark : ByteArray := prog_6_method_8_code
def n_C_Pa_addMark : MethodName := ⟨R_Pa, "addMark", "(I)V"⟩
set_option maxRecDepth 100000 in
theorem cd_C_Pa_addMark : Cond.code n_C_Pa_addMark c_C_Pa_addMark 2 (none) ∈ gG.1 := List.mem_append_right _ (List.mem_append_right _ (List.mem_append_right _ (List.mem_append_right _ (List.mem_append_right _ (List.mem_append_left _ (List.mem_of_getElem? (i := 1) rfl))))))
theorem ln_C_Pa_addMark : (parseMethodDescriptor n_C_Pa_addMark.desc).map (fun d => d.parameters.length) = some 1 := by decide +kernel
set_option maxRecDepth 100000 in
theorem im_C_Pa_addMark : Cond.instanceMethod n_C_Pa_addMark ∈ gG.1 := List.mem_append_right _ (List.mem_append_right _ (List.mem_append_right _ (List.mem_append_right _ (List.mem_append_right _ (List.mem_append_left _ (List.mem_of_getElem? (i := 0) rfl))))))
theorem se_C_Pa_addMark : Cond.selects R_Pa n_C_Pa_addMark n_C_Pa_addMark ∈ gG.1 := List.mem_append_left _ (by decide +kernel)
abbrev c_C_Pa_writeAgain : ByteArray := prog_6_method_15_code
def n_C_Pa_writeAgain : MethodName := ⟨R_Pa, "writeAgain", "(I)V"⟩
set_option maxRecDepth 100000 in
theorem cd_C_Pa_writeAgain : Cond.code n_C_Pa_writeAgain c_C_Pa_writeAgain 2 (none) ∈ gG.1 := List.mem_append_right _ (List.mem_append_right _ (List.mem_append_right _ (List.mem_append_right _ (List.mem_append_left _ (List.mem_of_getElem? (i := 225) rfl)))))
theorem ln_C_Pa_writeAgain : (parseMethodDescriptor n_C_Pa_writeAgain.desc).map (fun d => d.parameters.length) = some 1 := by decide +kernel
set_option maxRecDepth 100000 in
theorem im_C_Pa_writeAgain : Cond.instanceMethod n_C_Pa_writeAgain ∈ gG.1 := List.mem_append_right _ (List.mem_append_right _ (List.mem_append_right _ (List.mem_append_right _ (List.mem_append_left _ (List.mem_of_getElem? (i := 224) rfl)))))
theorem se_C_Pa_writeAgain : Cond.selects R_Pa n_C_Pa_writeAgain n_C_Pa_writeAgain ∈ gG.1 := List.mem_append_left _ (by decide +kernel)
abbrev c_C_Pa_bitsOf : ByteArray := prog_6_method_17_code
def n_C_Pa_bitsOf : MethodName := ⟨R_Pa, "bitsOf", "(I)I"⟩
set_option maxRecDepth 100000 in
theorem cd_C_Pa_bitsOf : Cond.code n_C_Pa_bitsOf c_C_Pa_bitsOf 3 (some .int) ∈ gG.1 := List.mem_append_right _ (List.mem_append_right _ (List.mem_append_right _ (List.mem_append_right _ (List.mem_append_right _ (List.mem_append_left _ (List.mem_of_getElem? (i := 8) rfl))))))
theorem ln_C_Pa_bitsOf : (parseMethodDescriptor n_C_Pa_bitsOf.desc).map (fun d => d.parameters.length) = some 1 := by decide +kernel
set_option maxRecDepth 100000 in
theorem st_C_Pa_bitsOf : Cond.static n_C_Pa_bitsOf ∈ gG.1 := List.mem_append_right _ (List.mem_append_right _ (List.mem_append_right _ (List.mem_append_right _ (List.mem_append_right _ (List.mem_append_left _ (List.mem_of_getElem? (i := 7) rfl))))))
abbrev c_C_Pa_writeSymbol : ByteArray := prog_6_method_18_code
def n_C_Pa_writeSymbol : MethodName := ⟨R_Pa, "writeSymbol", "(LBlockPicture$OwnCodes;II)V"⟩
set_option maxRecDepth 100000 in
theorem cd_C_Pa_writeSymbol : Cond.code n_C_Pa_writeSymbol c_C_Pa_writeSymbol 5 (none) ∈ gG.1 := List.mem_append_right _ (List.mem_append_right _ (List.mem_append_right _ (List.mem_append_right _ (List.mem_append_right _ (List.mem_append_left _ (List.mem_of_getElem? (i := 12) rfl))))))
theorem ln_C_Pa_writeSymbol : (parseMethodDescriptor n_C_Pa_writeSymbol.desc).map (fun d => d.parameters.length) = some 3 := by decide +kernel
set_option maxRecDepth 100000 in
theorem im_C_Pa_writeSymbol : Cond.instanceMethod n_C_Pa_writeSymbol ∈ gG.1 := List.mem_append_right _ (List.mem_append_right _ (List.mem_append_right _ (List.mem_append_right _ (List.mem_append_right _ (List.mem_append_left _ (List.mem_of_getElem? (i := 11) rfl))))))
theorem se_C_Pa_writeSymbol : Cond.selects R_Pa n_C_Pa_writeSymbol n_C_Pa_writeSymbol ∈ gG.1 := List.mem_append_left _ (by decide +kernel)
abbrev c_C_Pa_writeBlock : ByteArray := prog_6_method_16_code
def n_C_Pa_writeBlock : MethodName := ⟨R_Pa, "writeBlock", "(I)V"⟩
set_option maxRecDepth 100000 in
theorem cd_C_Pa_writeBlock : Cond.code n_C_Pa_writeBlock c_C_Pa_writeBlock 9 (none) ∈ gG.1 := List.mem_append_right _ (List.mem_append_right _ (List.mem_append_right _ (List.mem_append_right _ (List.mem_append_right _ (List.mem_append_left _ (List.mem_of_getElem? (i := 5) rfl))))))
theorem ln_C_Pa_writeBlock : (parseMethodDescriptor n_C_Pa_writeBlock.desc).map (fun d => d.parameters.length) = some 1 := by decide +kernel
set_option maxRecDepth 100000 in
theorem im_C_Pa_writeBlock : Cond.instanceMethod n_C_Pa_writeBlock ∈ gG.1 := List.mem_append_right _ (List.mem_append_right _ (List.mem_append_right _ (List.mem_append_right _ (List.mem_append_right _ (List.mem_append_left _ (List.mem_of_getElem? (i := 4) rfl))))))
theorem se_C_Pa_writeBlock : Cond.selects R_Pa n_C_Pa_writeBlock n_C_Pa_writeBlock ∈ gG.1 := List.mem_append_left _ (by decide +kernel)
abbrev c_C_Pa_writeData : ByteArray := prog_6_method_14_code
def n_C_Pa_writeData : MethodName := ⟨R_Pa, "writeData", "(I)V"⟩
set_option maxRecDepth 100000 in
theorem cd_C_Pa_writeData : Cond.code n_C_Pa_writeData c_C_Pa_writeData 5 (none) ∈ gG.1 := List.mem_append_right _ (List.mem_append_right _ (List.mem_append_right _ (List.mem_append_right _ (List.mem_append_left _ (List.mem_of_getElem? (i := 220) rfl)))))
theorem ln_C_Pa_writeData : (parseMethodDescriptor n_C_Pa_writeData.desc).map (fun d => d.parameters.length) = some 1 := by decide +kernel
set_option maxRecDepth 100000 in
theorem im_C_Pa_writeData : Cond.instanceMethod n_C_Pa_writeData ∈ gG.1 := List.mem_append_right _ (List.mem_append_right _ (List.mem_append_right _ (List.mem_append_right _ (List.mem_append_left _ (List.mem_of_getElem? (i := 219) rfl)))))
theorem se_C_Pa_writeData : Cond.selects R_Pa n_C_Pa_writeData n_C_Pa_writeData ∈ gG.1 := List.mem_append_left _ (by decide +kernel)
abbrev c_C_Li_sortSymbols : ByteArray := prog_4_method_3_code
def n_C_Li_sortSymbols : MethodName := ⟨R_Li, "sortSymbols", "([I)V"⟩
set_option maxRecDepth 100000 in
theorem cd_C_Li_sortSymbols : Cond.code n_C_Li_sortSymbols c_C_Li_sortSymbols 4 (none) ∈ gG.1 := List.mem_append_right _ (List.mem_append_right _ (List.mem_append_right _ (List.mem_append_right _ (List.mem_append_right _ (List.mem_append_left _ (List.mem_of_getElem? (i := 20) rfl))))))
theorem ln_C_Li_sortSymbols : (parseMethodDescriptor n_C_Li_sortSymbols.desc).map (fun d => d.parameters.length) = some 1 := by decide +kernel
set_option maxRecDepth 100000 in
theorem im_C_Li_sortSymbols : Cond.instanceMethod n_C_Li_sortSymbols ∈ gG.1 := List.mem_append_right _ (List.mem_append_right _ (List.mem_append_right _ (List.mem_append_right _ (List.mem_append_right _ (List.mem_append_left _ (List.mem_of_getElem? (i := 19) rfl))))))
theorem se_C_Li_sortSymbols : Cond.selects R_Li n_C_Li_sortSymbols n_C_Li_sortSymbols ∈ gG.1 := List.mem_append_left _ (by decide +kernel)
abbrev c_C_Li_makeLine : ByteArray := prog_4_method_4_code
def n_C_Li_makeLine : MethodName := ⟨R_Li, "makeLine", "(II[I)I"⟩
set_option maxRecDepth 100000 in
theorem cd_C_Li_makeLine : Cond.code n_C_Li_makeLine c_C_Li_makeLine 9 (some .int) ∈ gG.1 := List.mem_append_right _ (List.mem_append_right _ (List.mem_append_right _ (List.mem_append_right _ (List.mem_append_right _ (List.mem_append_left _ (List.mem_of_getElem? (i := 24) rfl))))))
theorem ln_C_Li_makeLine : (parseMethodDescriptor n_C_Li_makeLine.desc).map (fun d => d.parameters.length) = some 3 := by decide +kernel
set_option maxRecDepth 100000 in
theorem im_C_Li_makeLine : Cond.instanceMethod n_C_Li_makeLine ∈ gG.1 := List.mem_append_right _ (List.mem_append_right _ (List.mem_append_right _ (List.mem_append_right _ (List.mem_append_right _ (List.mem_append_left _ (List.mem_of_getElem? (i := 23) rfl))))))
theorem se_C_Li_makeLine : Cond.selects R_Li n_C_Li_makeLine n_C_Li_makeLine ∈ gG.1 := List.mem_append_left _ (by decide +kernel)
abbrev c_C_Li_takeThings : ByteArray := prog_4_method_5_code
def n_C_Li_takeThings : MethodName := ⟨R_Li, "takeThings", "(II[I)I"⟩
set_option maxRecDepth 100000 in
theorem cd_C_Li_takeThings : Cond.code n_C_Li_takeThings c_C_Li_takeThings 6 (some .int) ∈ gG.1 := List.mem_append_right _ (List.mem_append_right _ (List.mem_append_right _ (List.mem_append_right _ (List.mem_append_right _ (List.mem_append_left _ (List.mem_of_getElem? (i := 28) rfl))))))
theorem ln_C_Li_takeThings : (parseMethodDescriptor n_C_Li_takeThings.desc).map (fun d => d.parameters.length) = some 3 := by decide +kernel
set_option maxRecDepth 100000 in
theorem im_C_Li_takeThings : Cond.instanceMethod n_C_Li_takeThings ∈ gG.1 := List.mem_append_right _ (List.mem_append_right _ (List.mem_append_right _ (List.mem_append_right _ (List.mem_append_right _ (List.mem_append_left _ (List.mem_of_getElem? (i := 27) rfl))))))
theorem se_C_Li_takeThings : Cond.selects R_Li n_C_Li_takeThings n_C_Li_takeThings ∈ gG.1 := List.mem_append_left _ (by decide +kernel)
abbrev c_C_Li_setLengths : ByteArray := prog_4_method_2_code
def n_C_Li_setLengths : MethodName := ⟨R_Li, "setLengths", "(LBlockPicture$OwnCodes;)V"⟩
set_option maxRecDepth 100000 in
theorem cd_C_Li_setLengths : Cond.code n_C_Li_setLengths c_C_Li_setLengths 5 (none) ∈ gG.1 := List.mem_append_right _ (List.mem_append_right _ (List.mem_append_right _ (List.mem_append_right _ (List.mem_append_right _ (List.mem_append_left _ (List.mem_of_getElem? (i := 16) rfl))))))
theorem ln_C_Li_setLengths : (parseMethodDescriptor n_C_Li_setLengths.desc).map (fun d => d.parameters.length) = some 1 := by decide +kernel
set_option maxRecDepth 100000 in
theorem im_C_Li_setLengths : Cond.instanceMethod n_C_Li_setLengths ∈ gG.1 := List.mem_append_right _ (List.mem_append_right _ (List.mem_append_right _ (List.mem_append_right _ (List.mem_append_right _ (List.mem_append_left _ (List.mem_of_getElem? (i := 14) rfl))))))
set_option maxRecDepth 100000 in
theorem se_C_Li_setLengths : Cond.selects R_Li n_C_Li_setLengths n_C_Li_setLengths ∈ gG.1 := List.mem_append_right _ (List.mem_append_right _ (List.mem_append_right _ (List.mem_append_right _ (List.mem_append_right _ (List.mem_append_left _ (List.mem_of_getElem? (i := 15) rfl))))))
abbrev c_C_Oc_giveOut : ByteArray := prog_5_method_3_code
def n_C_Oc_giveOut : MethodName := ⟨R_Oc, "giveOut", "()V"⟩
set_option maxRecDepth 100000 in
theorem cd_C_Oc_giveOut : Cond.code n_C_Oc_giveOut c_C_Oc_giveOut 5 (none) ∈ gG.1 := List.mem_append_right _ (List.mem_append_right _ (List.mem_append_right _ (List.mem_append_right _ (List.mem_append_right _ (List.mem_append_left _ (List.mem_of_getElem? (i := 32) rfl))))))
theorem ln_C_Oc_giveOut : (parseMethodDescriptor n_C_Oc_giveOut.desc).map (fun d => d.parameters.length) = some 0 := by decide +kernel
set_option maxRecDepth 100000 in
theorem im_C_Oc_giveOut : Cond.instanceMethod n_C_Oc_giveOut ∈ gG.1 := List.mem_append_right _ (List.mem_append_right _ (List.mem_append_right _ (List.mem_append_right _ (List.mem_append_right _ (List.mem_append_left _ (List.mem_of_getElem? (i := 30) rfl))))))
set_option maxRecDepth 100000 in
theorem se_C_Oc_giveOut : Cond.selects R_Oc n_C_Oc_giveOut n_C_Oc_giveOut ∈ gG.1 := List.mem_append_right _ (List.mem_append_right _ (List.mem_append_right _ (List.mem_append_right _ (List.mem_append_right _ (List.mem_append_left _ (List.mem_of_getElem? (i := 31) rfl))))))
abbrev c_C_Pa_makeCodes : ByteArray := prog_6_method_6_code
def n_C_Pa_makeCodes : MethodName := ⟨R_Pa, "makeCodes", "(I)V"⟩
set_option maxRecDepth 100000 in
theorem cd_C_Pa_makeCodes : Cond.code n_C_Pa_makeCodes c_C_Pa_makeCodes 3 (none) ∈ gG.1 := List.mem_append_right _ (List.mem_append_right _ (List.mem_append_right _ (List.mem_append_right _ (List.mem_append_left _ (List.mem_of_getElem? (i := 211) rfl)))))
theorem ln_C_Pa_makeCodes : (parseMethodDescriptor n_C_Pa_makeCodes.desc).map (fun d => d.parameters.length) = some 1 := by decide +kernel
set_option maxRecDepth 100000 in
theorem im_C_Pa_makeCodes : Cond.instanceMethod n_C_Pa_makeCodes ∈ gG.1 := List.mem_append_right _ (List.mem_append_right _ (List.mem_append_right _ (List.mem_append_right _ (List.mem_append_left _ (List.mem_of_getElem? (i := 209) rfl)))))
set_option maxRecDepth 100000 in
theorem se_C_Pa_makeCodes : Cond.selects R_Pa n_C_Pa_makeCodes n_C_Pa_makeCodes ∈ gG.1 := List.mem_append_right _ (List.mem_append_right _ (List.mem_append_right _ (List.mem_append_right _ (List.mem_append_left _ (List.mem_of_getElem? (i := 210) rfl)))))
abbrev c_C_Ro_addTwo : ByteArray := prog_9_method_4_code
def n_C_Ro_addTwo : MethodName := ⟨R_Ro, "addTwo", "(I)V"⟩
set_option maxRecDepth 100000 in
theorem cd_C_Ro_addTwo : Cond.code n_C_Ro_addTwo c_C_Ro_addTwo 2 (none) ∈ gG.1 := List.mem_append_right _ (List.mem_append_right _ (List.mem_append_right _ (List.mem_append_right _ (List.mem_append_right _ (List.mem_append_left _ (List.mem_of_getElem? (i := 44) rfl))))))
theorem ln_C_Ro_addTwo : (parseMethodDescriptor n_C_Ro_addTwo.desc).map (fun d => d.parameters.length) = some 1 := by decide +kernel
set_option maxRecDepth 100000 in
theorem im_C_Ro_addTwo : Cond.instanceMethod n_C_Ro_addTwo ∈ gG.1 := List.mem_append_right _ (List.mem_append_right _ (List.mem_append_right _ (List.mem_append_right _ (List.mem_append_right _ (List.mem_append_left _ (List.mem_of_getElem? (i := 42) rfl))))))
set_option maxRecDepth 100000 in
theorem se_C_Ro_addTwo : Cond.selects R_Ro n_C_Ro_addTwo n_C_Ro_addTwo ∈ gG.1 := List.mem_append_right _ (List.mem_append_right _ (List.mem_append_right _ (List.mem_append_right _ (List.mem_append_right _ (List.mem_append_left _ (List.mem_of_getElem? (i := 43) rfl))))))
abbrev c_C_Pa_writeTables : ByteArray := prog_6_method_9_code
def n_C_Pa_writeTables : MethodName := ⟨R_Pa, "writeTables", "([I)V"⟩
set_option maxRecDepth 100000 in
theorem cd_C_Pa_writeTables : Cond.code n_C_Pa_writeTables c_C_Pa_writeTables 4 (none) ∈ gG.1 := List.mem_append_right _ (List.mem_append_right _ (List.mem_append_right _ (List.mem_append_right _ (List.mem_append_right _ (List.mem_append_left _ (List.mem_of_getElem? (i := 40) rfl))))))
theorem ln_C_Pa_writeTables : (parseMethodDescriptor n_C_Pa_writeTables.desc).map (fun d => d.parameters.length) = some 1 := by decide +kernel
set_option maxRecDepth 100000 in
theorem im_C_Pa_writeTables : Cond.instanceMethod n_C_Pa_writeTables ∈ gG.1 := List.mem_append_right _ (List.mem_append_right _ (List.mem_append_right _ (List.mem_append_right _ (List.mem_append_right _ (List.mem_append_left _ (List.mem_of_getElem? (i := 39) rfl))))))
theorem se_C_Pa_writeTables : Cond.selects R_Pa n_C_Pa_writeTables n_C_Pa_writeTables ∈ gG.1 := List.mem_append_left _ (by decide +kernel)
abbrev c_C_Pa_writeFrame : ByteArray := prog_6_method_10_code
def n_C_Pa_writeFrame : MethodName := ⟨R_Pa, "writeFrame", "()V"⟩
set_option maxRecDepth 100000 in
theorem cd_C_Pa_writeFrame : Cond.code n_C_Pa_writeFrame c_C_Pa_writeFrame 2 (none) ∈ gG.1 := List.mem_append_right _ (List.mem_append_right _ (List.mem_append_right _ (List.mem_append_right _ (List.mem_append_right _ (List.mem_append_left _ (List.mem_of_getElem? (i := 49) rfl))))))
theorem ln_C_Pa_writeFrame : (parseMethodDescriptor n_C_Pa_writeFrame.desc).map (fun d => d.parameters.length) = some 0 := by decide +kernel
set_option maxRecDepth 100000 in
theorem im_C_Pa_writeFrame : Cond.instanceMethod n_C_Pa_writeFrame ∈ gG.1 := List.mem_append_right _ (List.mem_append_right _ (List.mem_append_right _ (List.mem_append_right _ (List.mem_append_right _ (List.mem_append_left _ (List.mem_of_getElem? (i := 48) rfl))))))
theorem se_C_Pa_writeFrame : Cond.selects R_Pa n_C_Pa_writeFrame n_C_Pa_writeFrame ∈ gG.1 := List.mem_append_left _ (by decide +kernel)
abbrev c_C_Pa_writeOwnCodes : ByteArray := prog_6_method_12_code
def n_C_Pa_writeOwnCodes : MethodName := ⟨R_Pa, "writeOwnCodes", "(ILBlockPicture$OwnCodes;)V"⟩
set_option maxRecDepth 100000 in
theorem cd_C_Pa_writeOwnCodes : Cond.code n_C_Pa_writeOwnCodes c_C_Pa_writeOwnCodes 4 (none) ∈ gG.1 := List.mem_append_right _ (List.mem_append_right _ (List.mem_append_right _ (List.mem_append_right _ (List.mem_append_right _ (List.mem_append_left _ (List.mem_of_getElem? (i := 57) rfl))))))
theorem ln_C_Pa_writeOwnCodes : (parseMethodDescriptor n_C_Pa_writeOwnCodes.desc).map (fun d => d.parameters.length) = some 2 := by decide +kernel
set_option maxRecDepth 100000 in
theorem im_C_Pa_writeOwnCodes : Cond.instanceMethod n_C_Pa_writeOwnCodes ∈ gG.1 := List.mem_append_right _ (List.mem_append_right _ (List.mem_append_right _ (List.mem_append_right _ (List.mem_append_right _ (List.mem_append_left _ (List.mem_of_getElem? (i := 56) rfl))))))
theorem se_C_Pa_writeOwnCodes : Cond.selects R_Pa n_C_Pa_writeOwnCodes n_C_Pa_writeOwnCodes ∈ gG.1 := List.mem_append_left _ (by decide +kernel)
abbrev c_C_Pa_writeCodes : ByteArray := prog_6_method_11_code
def n_C_Pa_writeCodes : MethodName := ⟨R_Pa, "writeCodes", "()V"⟩
set_option maxRecDepth 100000 in
theorem cd_C_Pa_writeCodes : Cond.code n_C_Pa_writeCodes c_C_Pa_writeCodes 3 (none) ∈ gG.1 := List.mem_append_right _ (List.mem_append_right _ (List.mem_append_right _ (List.mem_append_right _ (List.mem_append_right _ (List.mem_append_left _ (List.mem_of_getElem? (i := 53) rfl))))))
theorem ln_C_Pa_writeCodes : (parseMethodDescriptor n_C_Pa_writeCodes.desc).map (fun d => d.parameters.length) = some 0 := by decide +kernel
set_option maxRecDepth 100000 in
theorem im_C_Pa_writeCodes : Cond.instanceMethod n_C_Pa_writeCodes ∈ gG.1 := List.mem_append_right _ (List.mem_append_right _ (List.mem_append_right _ (List.mem_append_right _ (List.mem_append_right _ (List.mem_append_left _ (List.mem_of_getElem? (i := 52) rfl))))))
theorem se_C_Pa_writeCodes : Cond.selects R_Pa n_C_Pa_writeCodes n_C_Pa_writeCodes ∈ gG.1 := List.mem_append_left _ (by decide +kernel)
abbrev c_C_Pa_writeScan : ByteArray := prog_6_method_13_code
def n_C_Pa_writeScan : MethodName := ⟨R_Pa, "writeScan", "()V"⟩
set_option maxRecDepth 100000 in
theorem cd_C_Pa_writeScan : Cond.code n_C_Pa_writeScan c_C_Pa_writeScan 2 (none) ∈ gG.1 := List.mem_append_right _ (List.mem_append_right _ (List.mem_append_right _ (List.mem_append_right _ (List.mem_append_right _ (List.mem_append_left _ (List.mem_of_getElem? (i := 61) rfl))))))
theorem ln_C_Pa_writeScan : (parseMethodDescriptor n_C_Pa_writeScan.desc).map (fun d => d.parameters.length) = some 0 := by decide +kernel
set_option maxRecDepth 100000 in
theorem im_C_Pa_writeScan : Cond.instanceMethod n_C_Pa_writeScan ∈ gG.1 := List.mem_append_right _ (List.mem_append_right _ (List.mem_append_right _ (List.mem_append_right _ (List.mem_append_right _ (List.mem_append_left _ (List.mem_of_getElem? (i := 60) rfl))))))
theorem se_C_Pa_writeScan : Cond.selects R_Pa n_C_Pa_writeScan n_C_Pa_writeScan ∈ gG.1 := List.mem_append_left _ (by decide +kernel)
abbrev c_C_Pa_write : ByteArray := prog_6_method_7_code
def n_C_Pa_write : MethodName := ⟨R_Pa, "write", "([II)V"⟩
set_option maxRecDepth 100000 in
theorem cd_C_Pa_write : Cond.code n_C_Pa_write c_C_Pa_write 3 (none) ∈ gG.1 := List.mem_append_right _ (List.mem_append_right _ (List.mem_append_right _ (List.mem_append_right _ (List.mem_append_right _ (List.mem_append_left _ (List.mem_of_getElem? (i := 36) rfl))))))
theorem ln_C_Pa_write : (parseMethodDescriptor n_C_Pa_write.desc).map (fun d => d.parameters.length) = some 2 := by decide +kernel
set_option maxRecDepth 100000 in
theorem im_C_Pa_write : Cond.instanceMethod n_C_Pa_write ∈ gG.1 := List.mem_append_right _ (List.mem_append_right _ (List.mem_append_right _ (List.mem_append_right _ (List.mem_append_right _ (List.mem_append_left _ (List.mem_of_getElem? (i := 34) rfl))))))
set_option maxRecDepth 100000 in
theorem se_C_Pa_write : Cond.selects R_Pa n_C_Pa_write n_C_Pa_write ∈ gG.1 := List.mem_append_right _ (List.mem_append_right _ (List.mem_append_right _ (List.mem_append_right _ (List.mem_append_right _ (List.mem_append_left _ (List.mem_of_getElem? (i := 35) rfl))))))
abbrev c_C_B_size : ByteArray := prog_1_method_9_code
def n_C_B_size : MethodName := ⟨R_B, "size", "()I"⟩
set_option maxRecDepth 100000 in
theorem cd_C_B_size : Cond.code n_C_B_size c_C_B_size 1 (some .int) ∈ gG.1 := List.mem_append_right _ (List.mem_append_right _ (List.mem_append_right _ (List.mem_append_left _ (List.mem_of_getElem? (i := 29) rfl))))
theorem ln_C_B_size : (parseMethodDescriptor n_C_B_size.desc).map (fun d => d.parameters.length) = some 0 := by decide +kernel
set_option maxRecDepth 100000 in
theorem im_C_B_size : Cond.instanceMethod n_C_B_size ∈ gG.1 := List.mem_append_right _ (List.mem_append_right _ (List.mem_append_right _ (List.mem_append_left _ (List.mem_of_getElem? (i := 27) rfl))))
set_option maxRecDepth 100000 in
theorem se_C_B_size : Cond.selects R_B n_C_B_size n_C_B_size ∈ gG.1 := List.mem_append_right _ (List.mem_append_right _ (List.mem_append_right _ (List.mem_append_left _ (List.mem_of_getElem? (i := 28) rfl))))
abbrev c_C_Ro_has : ByteArray := prog_9_method_2_code
def n_C_Ro_has : MethodName := ⟨R_Ro, "has", "(I)Z"⟩
set_option maxRecDepth 100000 in
theorem cd_C_Ro_has : Cond.code n_C_Ro_has c_C_Ro_has 2 (some .boolean) ∈ gG.1 := List.mem_append_right _ (List.mem_append_right _ (List.mem_append_right _ (List.mem_append_right _ (List.mem_append_left _ (List.mem_of_getElem? (i := 47) rfl)))))
theorem ln_C_Ro_has : (parseMethodDescriptor n_C_Ro_has.desc).map (fun d => d.parameters.length) = some 1 := by decide +kernel
set_option maxRecDepth 100000 in
theorem im_C_Ro_has : Cond.instanceMethod n_C_Ro_has ∈ gG.1 := List.mem_append_right _ (List.mem_append_right _ (List.mem_append_right _ (List.mem_append_right _ (List.mem_append_left _ (List.mem_of_getElem? (i := 45) rfl)))))
set_option maxRecDepth 100000 in
theorem se_C_Ro_has : Cond.selects R_Ro n_C_Ro_has n_C_Ro_has ∈ gG.1 := List.mem_append_right _ (List.mem_append_right _ (List.mem_append_right _ (List.mem_append_right _ (List.mem_append_left _ (List.mem_of_getElem? (i := 46) rfl)))))
abbrev c_C_Ro_addFour : ByteArray := prog_9_method_5_code
def n_C_Ro_addFour : MethodName := ⟨R_Ro, "addFour", "(I)V"⟩
set_option maxRecDepth 100000 in
theorem cd_C_Ro_addFour : Cond.code n_C_Ro_addFour c_C_Ro_addFour 2 (none) ∈ gG.1 := List.mem_append_right _ (List.mem_append_right _ (List.mem_append_right _ (List.mem_append_right _ (List.mem_append_right _ (List.mem_append_left _ (List.mem_of_getElem? (i := 85) rfl))))))
theorem ln_C_Ro_addFour : (parseMethodDescriptor n_C_Ro_addFour.desc).map (fun d => d.parameters.length) = some 1 := by decide +kernel
set_option maxRecDepth 100000 in
theorem im_C_Ro_addFour : Cond.instanceMethod n_C_Ro_addFour ∈ gG.1 := List.mem_append_right _ (List.mem_append_right _ (List.mem_append_right _ (List.mem_append_right _ (List.mem_append_right _ (List.mem_append_left _ (List.mem_of_getElem? (i := 83) rfl))))))
set_option maxRecDepth 100000 in
theorem se_C_Ro_addFour : Cond.selects R_Ro n_C_Ro_addFour n_C_Ro_addFour ∈ gG.1 := List.mem_append_right _ (List.mem_append_right _ (List.mem_append_right _ (List.mem_append_right _ (List.mem_append_right _ (List.mem_append_left _ (List.mem_of_getElem? (i := 84) rfl))))))
abbrev c_C_Un_begin : ByteArray := prog_11_method_4_code
def n_C_Un_begin : MethodName := ⟨R_Un, "begin", "()V"⟩
set_option maxRecDepth 100000 in
theorem cd_C_Un_begin : Cond.code n_C_Un_begin c_C_Un_begin 2 (none) ∈ gG.1 := List.mem_append_right _ (List.mem_append_right _ (List.mem_append_right _ (List.mem_append_left _ (List.mem_of_getElem? (i := 42) rfl))))
theorem ln_C_Un_begin : (parseMethodDescriptor n_C_Un_begin.desc).map (fun d => d.parameters.length) = some 0 := by decide +kernel
set_option maxRecDepth 100000 in
theorem im_C_Un_begin : Cond.instanceMethod n_C_Un_begin ∈ gG.1 := List.mem_append_right _ (List.mem_append_right _ (List.mem_append_right _ (List.mem_append_left _ (List.mem_of_getElem? (i := 41) rfl))))
theorem se_C_Un_begin : Cond.selects R_Un n_C_Un_begin n_C_Un_begin ∈ gG.1 := List.mem_append_left _ (by decide +kernel)
abbrev c_C_Un_allScanned : ByteArray := prog_11_method_6_code
def n_C_Un_allScanned : MethodName := ⟨R_Un, "allScanned", "()Z"⟩
set_option maxRecDepth 100000 in
theorem cd_C_Un_allScanned : Cond.code n_C_Un_allScanned c_C_Un_allScanned 3 (some .boolean) ∈ gG.1 := List.mem_append_right _ (List.mem_append_right _ (List.mem_append_right _ (List.mem_append_left _ (List.mem_of_getElem? (i := 134) rfl))))
theorem ln_C_Un_allScanned : (parseMethodDescriptor n_C_Un_allScanned.desc).map (fun d => d.parameters.length) = some 0 := by decide +kernel
set_option maxRecDepth 100000 in
theorem im_C_Un_allScanned : Cond.instanceMethod n_C_Un_allScanned ∈ gG.1 := List.mem_append_right _ (List.mem_append_right _ (List.mem_append_right _ (List.mem_append_left _ (List.mem_of_getElem? (i := 133) rfl))))
theorem se_C_Un_allScanned : Cond.selects R_Un n_C_Un_allScanned n_C_Un_allScanned ∈ gG.1 := List.mem_append_left _ (by decide +kernel)
abbrev c_C_Un_canCome : ByteArray := prog_11_method_5_code
def n_C_Un_canCome : MethodName := ⟨R_Un, "canCome", "(I)Z"⟩
set_option maxRecDepth 100000 in
theorem cd_C_Un_canCome : Cond.code n_C_Un_canCome c_C_Un_canCome 2 (some .boolean) ∈ gG.1 := List.mem_append_right _ (List.mem_append_right _ (List.mem_append_right _ (List.mem_append_left _ (List.mem_of_getElem? (i := 130) rfl))))
theorem ln_C_Un_canCome : (parseMethodDescriptor n_C_Un_canCome.desc).map (fun d => d.parameters.length) = some 1 := by decide +kernel
set_option maxRecDepth 100000 in
theorem im_C_Un_canCome : Cond.instanceMethod n_C_Un_canCome ∈ gG.1 := List.mem_append_right _ (List.mem_append_right _ (List.mem_append_right _ (List.mem_append_left _ (List.mem_of_getElem? (i := 129) rfl))))
theorem se_C_Un_canCome : Cond.selects R_Un n_C_Un_canCome n_C_Un_canCome ∈ gG.1 := List.mem_append_left _ (by decide +kernel)
abbrev c_C_Co_giveOut : ByteArray := prog_3_method_2_code
def n_C_Co_giveOut : MethodName := ⟨R_Co, "giveOut", "()Z"⟩
set_option maxRecDepth 100000 in
theorem cd_C_Co_giveOut : Cond.code n_C_Co_giveOut c_C_Co_giveOut 4 (some .boolean) ∈ gG.1 := List.mem_append_right _ (List.mem_append_right _ (List.mem_append_right _ (List.mem_append_right _ (List.mem_append_left _ (List.mem_of_getElem? (i := 3) rfl)))))
theorem ln_C_Co_giveOut : (parseMethodDescriptor n_C_Co_giveOut.desc).map (fun d => d.parameters.length) = some 0 := by decide +kernel
set_option maxRecDepth 100000 in
theorem im_C_Co_giveOut : Cond.instanceMethod n_C_Co_giveOut ∈ gG.1 := List.mem_append_right _ (List.mem_append_right _ (List.mem_append_right _ (List.mem_append_right _ (List.mem_append_left _ (List.mem_of_getElem? (i := 1) rfl)))))
set_option maxRecDepth 100000 in
theorem se_C_Co_giveOut : Cond.selects R_Co n_C_Co_giveOut n_C_Co_giveOut ∈ gG.1 := List.mem_append_right _ (List.mem_append_right _ (List.mem_append_right _ (List.mem_append_right _ (List.mem_append_left _ (List.mem_of_getElem? (i := 2) rfl)))))
abbrev c_C_Un_isForRests : ByteArray := prog_11_method_14_code
def n_C_Un_isForRests : MethodName := ⟨R_Un, "isForRests", "(I)Z"⟩
set_option maxRecDepth 100000 in
theorem cd_C_Un_isForRests : Cond.code n_C_Un_isForRests c_C_Un_isForRests 1 (some .boolean) ∈ gG.1 := List.mem_append_right _ (List.mem_append_right _ (List.mem_append_right _ (List.mem_append_right _ (List.mem_append_left _ (List.mem_of_getElem? (i := 6) rfl)))))
theorem ln_C_Un_isForRests : (parseMethodDescriptor n_C_Un_isForRests.desc).map (fun d => d.parameters.length) = some 1 := by decide +kernel
set_option maxRecDepth 100000 in
theorem st_C_Un_isForRests : Cond.static n_C_Un_isForRests ∈ gG.1 := List.mem_append_right _ (List.mem_append_right _ (List.mem_append_right _ (List.mem_append_right _ (List.mem_append_left _ (List.mem_of_getElem? (i := 5) rfl)))))
abbrev c_C_Re_skip : ByteArray := prog_8_method_5_code
def n_C_Re_skip : MethodName := ⟨R_Re, "skip", "(I)V"⟩
set_option maxRecDepth 100000 in
theorem cd_C_Re_skip : Cond.code n_C_Re_skip c_C_Re_skip 2 (none) ∈ gG.1 := List.mem_append_right _ (List.mem_append_right _ (List.mem_append_right _ (List.mem_append_right _ (List.mem_append_left _ (List.mem_of_getElem? (i := 10) rfl)))))
theorem ln_C_Re_skip : (parseMethodDescriptor n_C_Re_skip.desc).map (fun d => d.parameters.length) = some 1 := by decide +kernel
set_option maxRecDepth 100000 in
theorem im_C_Re_skip : Cond.instanceMethod n_C_Re_skip ∈ gG.1 := List.mem_append_right _ (List.mem_append_right _ (List.mem_append_right _ (List.mem_append_right _ (List.mem_append_left _ (List.mem_of_getElem? (i := 8) rfl)))))
set_option maxRecDepth 100000 in
theorem se_C_Re_skip : Cond.selects R_Re n_C_Re_skip n_C_Re_skip ∈ gG.1 := List.mem_append_right _ (List.mem_append_right _ (List.mem_append_right _ (List.mem_append_right _ (List.mem_append_left _ (List.mem_of_getElem? (i := 9) rfl)))))
abbrev c_C_Re_dropBits : ByteArray := prog_8_method_7_code
def n_C_Re_dropBits : MethodName := ⟨R_Re, "dropBits", "()V"⟩
set_option maxRecDepth 100000 in
theorem cd_C_Re_dropBits : Cond.code n_C_Re_dropBits c_C_Re_dropBits 1 (none) ∈ gG.1 := List.mem_append_right _ (List.mem_append_right _ (List.mem_append_right _ (List.mem_append_right _ (List.mem_append_left _ (List.mem_of_getElem? (i := 18) rfl)))))
theorem ln_C_Re_dropBits : (parseMethodDescriptor n_C_Re_dropBits.desc).map (fun d => d.parameters.length) = some 0 := by decide +kernel
set_option maxRecDepth 100000 in
theorem im_C_Re_dropBits : Cond.instanceMethod n_C_Re_dropBits ∈ gG.1 := List.mem_append_right _ (List.mem_append_right _ (List.mem_append_right _ (List.mem_append_right _ (List.mem_append_left _ (List.mem_of_getElem? (i := 16) rfl)))))
set_option maxRecDepth 100000 in
theorem se_C_Re_dropBits : Cond.selects R_Re n_C_Re_dropBits n_C_Re_dropBits ∈ gG.1 := List.mem_append_right _ (List.mem_append_right _ (List.mem_append_right _ (List.mem_append_right _ (List.mem_append_left _ (List.mem_of_getElem? (i := 17) rfl)))))
abbrev c_C_Co_symbolOf : ByteArray := prog_3_method_3_code
def n_C_Co_symbolOf : MethodName := ⟨R_Co, "symbolOf", "(II)I"⟩
set_option maxRecDepth 100000 in
theorem cd_C_Co_symbolOf : Cond.code n_C_Co_symbolOf c_C_Co_symbolOf 4 (some .int) ∈ gG.1 := List.mem_append_right _ (List.mem_append_right _ (List.mem_append_right _ (List.mem_append_right _ (List.mem_append_left _ (List.mem_of_getElem? (i := 39) rfl)))))
theorem ln_C_Co_symbolOf : (parseMethodDescriptor n_C_Co_symbolOf.desc).map (fun d => d.parameters.length) = some 2 := by decide +kernel
set_option maxRecDepth 100000 in
theorem im_C_Co_symbolOf : Cond.instanceMethod n_C_Co_symbolOf ∈ gG.1 := List.mem_append_right _ (List.mem_append_right _ (List.mem_append_right _ (List.mem_append_right _ (List.mem_append_left _ (List.mem_of_getElem? (i := 37) rfl)))))
set_option maxRecDepth 100000 in
theorem se_C_Co_symbolOf : Cond.selects R_Co n_C_Co_symbolOf n_C_Co_symbolOf ∈ gG.1 := List.mem_append_right _ (List.mem_append_right _ (List.mem_append_right _ (List.mem_append_right _ (List.mem_append_left _ (List.mem_of_getElem? (i := 38) rfl)))))
abbrev c_C_Un_handOver : ByteArray := prog_11_method_2_code
def n_C_Un_handOver : MethodName := ⟨R_Un, "handOver", "(LBlockPicture$Picture;)LBlockPicture$Picture;"⟩
set_option maxRecDepth 100000 in
theorem cd_C_Un_handOver : Cond.code n_C_Un_handOver c_C_Un_handOver 3 (some (.object "BlockPicture$Picture")) ∈ gG.1 := List.mem_append_right _ (List.mem_append_right _ (List.mem_append_right _ (List.mem_append_right _ (List.mem_append_left _ (List.mem_of_getElem? (i := 51) rfl)))))
theorem ln_C_Un_handOver : (parseMethodDescriptor n_C_Un_handOver.desc).map (fun d => d.parameters.length) = some 1 := by decide +kernel
set_option maxRecDepth 100000 in
theorem im_C_Un_handOver : Cond.instanceMethod n_C_Un_handOver ∈ gG.1 := List.mem_append_right _ (List.mem_append_right _ (List.mem_append_right _ (List.mem_append_right _ (List.mem_append_left _ (List.mem_of_getElem? (i := 49) rfl)))))
set_option maxRecDepth 100000 in
theorem se_C_Un_handOver : Cond.selects R_Un n_C_Un_handOver n_C_Un_handOver ∈ gG.1 := List.mem_append_right _ (List.mem_append_right _ (List.mem_append_right _ (List.mem_append_right _ (List.mem_append_left _ (List.mem_of_getElem? (i := 50) rfl)))))
abbrev c_C_B_place : ByteArray := prog_1_method_16_code
def n_C_B_place : MethodName := ⟨R_B, "place", "()I"⟩
set_option maxRecDepth 100000 in
theorem cd_C_B_place : Cond.code n_C_B_place c_C_B_place 1 (some .int) ∈ gG.1 := List.mem_append_right _ (List.mem_append_right _ (List.mem_append_right _ (List.mem_append_right _ (List.mem_append_left _ (List.mem_of_getElem? (i := 55) rfl)))))
theorem ln_C_B_place : (parseMethodDescriptor n_C_B_place.desc).map (fun d => d.parameters.length) = some 0 := by decide +kernel
set_option maxRecDepth 100000 in
theorem im_C_B_place : Cond.instanceMethod n_C_B_place ∈ gG.1 := List.mem_append_right _ (List.mem_append_right _ (List.mem_append_right _ (List.mem_append_right _ (List.mem_append_left _ (List.mem_of_getElem? (i := 53) rfl)))))
set_option maxRecDepth 100000 in
theorem se_C_B_place : Cond.selects R_B n_C_B_place n_C_B_place ∈ gG.1 := List.mem_append_right _ (List.mem_append_right _ (List.mem_append_right _ (List.mem_append_right _ (List.mem_append_left _ (List.mem_of_getElem? (i := 54) rfl)))))
abbrev c_C_Wa_hasWeights : ByteArray := prog_12_method_5_code
def n_C_Wa_hasWeights : MethodName := ⟨R_Wa, "hasWeights", "(I)Z"⟩
set_option maxRecDepth 100000 in
theorem cd_C_Wa_hasWeights : Cond.code n_C_Wa_hasWeights c_C_Wa_hasWeights 4 (some .boolean) ∈ gG.1 := List.mem_append_right _ (List.mem_append_right _ (List.mem_append_right _ (List.mem_append_right _ (List.mem_append_right _ (List.mem_append_left _ (List.mem_of_getElem? (i := 146) rfl))))))
theorem ln_C_Wa_hasWeights : (parseMethodDescriptor n_C_Wa_hasWeights.desc).map (fun d => d.parameters.length) = some 1 := by decide +kernel
set_option maxRecDepth 100000 in
theorem im_C_Wa_hasWeights : Cond.instanceMethod n_C_Wa_hasWeights ∈ gG.1 := List.mem_append_right _ (List.mem_append_right _ (List.mem_append_right _ (List.mem_append_right _ (List.mem_append_right _ (List.mem_append_left _ (List.mem_of_getElem? (i := 145) rfl))))))
theorem se_C_Wa_hasWeights : Cond.selects R_Wa n_C_Wa_hasWeights n_C_Wa_hasWeights ∈ gG.1 := List.mem_append_left _ (by decide +kernel)
abbrev c_C_Wa_makeRow : ByteArray := prog_12_method_6_code
def n_C_Wa_makeRow : MethodName := ⟨R_Wa, "makeRow", "(I)V"⟩
set_option maxRecDepth 100000 in
theorem cd_C_Wa_makeRow : Cond.code n_C_Wa_makeRow c_C_Wa_makeRow 6 (none) ∈ gG.1 := List.mem_append_right _ (List.mem_append_right _ (List.mem_append_right _ (List.mem_append_right _ (List.mem_append_right _ (List.mem_append_left _ (List.mem_of_getElem? (i := 150) rfl))))))
theorem ln_C_Wa_makeRow : (parseMethodDescriptor n_C_Wa_makeRow.desc).map (fun d => d.parameters.length) = some 1 := by decide +kernel
set_option maxRecDepth 100000 in
theorem im_C_Wa_makeRow : Cond.instanceMethod n_C_Wa_makeRow ∈ gG.1 := List.mem_append_right _ (List.mem_append_right _ (List.mem_append_right _ (List.mem_append_right _ (List.mem_append_right _ (List.mem_append_left _ (List.mem_of_getElem? (i := 149) rfl))))))
theorem se_C_Wa_makeRow : Cond.selects R_Wa n_C_Wa_makeRow n_C_Wa_makeRow ∈ gG.1 := List.mem_append_left _ (by decide +kernel)
abbrev c_C_Ar_rangeCheck : ByteArray := prog_31_method_30_code
def n_C_Ar_rangeCheck : MethodName := ⟨R_Ar, "rangeCheck", "(III)V"⟩
set_option maxRecDepth 100000 in
theorem cd_C_Ar_rangeCheck : Cond.code n_C_Ar_rangeCheck c_C_Ar_rangeCheck 3 (none) ∈ gG.1 := List.mem_append_right _ (List.mem_append_right _ (List.mem_append_right _ (List.mem_append_right _ (List.mem_append_right _ (List.mem_append_left _ (List.mem_of_getElem? (i := 157) rfl))))))
theorem ln_C_Ar_rangeCheck : (parseMethodDescriptor n_C_Ar_rangeCheck.desc).map (fun d => d.parameters.length) = some 3 := by decide +kernel
set_option maxRecDepth 100000 in
theorem st_C_Ar_rangeCheck : Cond.static n_C_Ar_rangeCheck ∈ gG.1 := List.mem_append_right _ (List.mem_append_right _ (List.mem_append_right _ (List.mem_append_right _ (List.mem_append_right _ (List.mem_append_left _ (List.mem_of_getElem? (i := 156) rfl))))))
abbrev c_C_Ar_fillJ : ByteArray := prog_31_method_102_code
def n_C_Ar_fillJ : MethodName := ⟨R_Ar, "fill", "([JIIJ)V"⟩
set_option maxRecDepth 100000 in
theorem cd_C_Ar_fillJ : Cond.code n_C_Ar_fillJ c_C_Ar_fillJ 6 (none) ∈ gG.1 := List.mem_append_right _ (List.mem_append_right _ (List.mem_append_right _ (List.mem_append_right _ (List.mem_append_right _ (List.mem_append_left _ (List.mem_of_getElem? (i := 154) rfl))))))
theorem ln_C_Ar_fillJ : (parseMethodDescriptor n_C_Ar_fillJ.desc).map (fun d => d.parameters.length) = some 4 := by decide +kernel
set_option maxRecDepth 100000 in
theorem st_C_Ar_fillJ : Cond.static n_C_Ar_fillJ ∈ gG.1 := List.mem_append_right _ (List.mem_append_right _ (List.mem_append_right _ (List.mem_append_right _ (List.mem_append_right _ (List.mem_append_left _ (List.mem_of_getElem? (i := 153) rfl))))))
abbrev c_C_Wa_makeSamples : ByteArray := prog_12_method_4_code
def n_C_Wa_makeSamples : MethodName := ⟨R_Wa, "makeSamples", "()V"⟩
set_option maxRecDepth 100000 in
theorem cd_C_Wa_makeSamples : Cond.code n_C_Wa_makeSamples c_C_Wa_makeSamples 7 (none) ∈ gG.1 := List.mem_append_right _ (List.mem_append_right _ (List.mem_append_right _ (List.mem_append_right _ (List.mem_append_right _ (List.mem_append_left _ (List.mem_of_getElem? (i := 142) rfl))))))
theorem ln_C_Wa_makeSamples : (parseMethodDescriptor n_C_Wa_makeSamples.desc).map (fun d => d.parameters.length) = some 0 := by decide +kernel
set_option maxRecDepth 100000 in
theorem im_C_Wa_makeSamples : Cond.instanceMethod n_C_Wa_makeSamples ∈ gG.1 := List.mem_append_right _ (List.mem_append_right _ (List.mem_append_right _ (List.mem_append_right _ (List.mem_append_right _ (List.mem_append_left _ (List.mem_of_getElem? (i := 140) rfl))))))
set_option maxRecDepth 100000 in
theorem se_C_Wa_makeSamples : Cond.selects R_Wa n_C_Wa_makeSamples n_C_Wa_makeSamples ∈ gG.1 := List.mem_append_right _ (List.mem_append_right _ (List.mem_append_right _ (List.mem_append_right _ (List.mem_append_right _ (List.mem_append_left _ (List.mem_of_getElem? (i := 141) rfl))))))
abbrev c_C_Pi_drawBlock : ByteArray := prog_7_method_8_code
def n_C_Pi_drawBlock : MethodName := ⟨R_Pi, "drawBlock", "(LBlockPicture$Waves;III)V"⟩
set_option maxRecDepth 100000 in
theorem cd_C_Pi_drawBlock : Cond.code n_C_Pi_drawBlock c_C_Pi_drawBlock 7 (none) ∈ gG.1 := List.mem_append_right _ (List.mem_append_right _ (List.mem_append_right _ (List.mem_append_right _ (List.mem_append_right _ (List.mem_append_left _ (List.mem_of_getElem? (i := 137) rfl))))))
theorem ln_C_Pi_drawBlock : (parseMethodDescriptor n_C_Pi_drawBlock.desc).map (fun d => d.parameters.length) = some 4 := by decide +kernel
set_option maxRecDepth 100000 in
theorem im_C_Pi_drawBlock : Cond.instanceMethod n_C_Pi_drawBlock ∈ gG.1 := List.mem_append_right _ (List.mem_append_right _ (List.mem_append_right _ (List.mem_append_right _ (List.mem_append_right _ (List.mem_append_left _ (List.mem_of_getElem? (i := 136) rfl))))))
theorem se_C_Pi_drawBlock : Cond.selects R_Pi n_C_Pi_drawBlock n_C_Pi_drawBlock ∈ gG.1 := List.mem_append_left _ (by decide +kernel)
abbrev c_C_Pi_draw : ByteArray := prog_7_method_7_code
def n_C_Pi_draw : MethodName := ⟨R_Pi, "draw", "(LBlockPicture$Waves;)V"⟩
set_option maxRecDepth 100000 in
theorem cd_C_Pi_draw : Cond.code n_C_Pi_draw c_C_Pi_draw 5 (none) ∈ gG.1 := List.mem_append_right _ (List.mem_append_right _ (List.mem_append_right _ (List.mem_append_right _ (List.mem_append_right _ (List.mem_append_left _ (List.mem_of_getElem? (i := 133) rfl))))))
theorem ln_C_Pi_draw : (parseMethodDescriptor n_C_Pi_draw.desc).map (fun d => d.parameters.length) = some 1 := by decide +kernel
set_option maxRecDepth 100000 in
theorem im_C_Pi_draw : Cond.instanceMethod n_C_Pi_draw ∈ gG.1 := List.mem_append_right _ (List.mem_append_right _ (List.mem_append_right _ (List.mem_append_right _ (List.mem_append_right _ (List.mem_append_left _ (List.mem_of_getElem? (i := 131) rfl))))))
set_option maxRecDepth 100000 in
theorem se_C_Pi_draw : Cond.selects R_Pi n_C_Pi_draw n_C_Pi_draw ∈ gG.1 := List.mem_append_right _ (List.mem_append_right _ (List.mem_append_right _ (List.mem_append_right _ (List.mem_append_right _ (List.mem_append_left _ (List.mem_of_getElem? (i := 132) rfl))))))
abbrev c_C_Pi_layerSample : ByteArray := prog_7_method_9_code
def n_C_Pi_layerSample : MethodName := ⟨R_Pi, "layerSample", "(III)I"⟩
set_option maxRecDepth 100000 in
theorem cd_C_Pi_layerSample : Cond.code n_C_Pi_layerSample c_C_Pi_layerSample 6 (some .int) ∈ gG.1 := List.mem_append_right _ (List.mem_append_right _ (List.mem_append_right _ (List.mem_append_right _ (List.mem_append_right _ (List.mem_append_right _ (List.mem_append_left _ (List.mem_of_getElem? (i := 182) rfl)))))))
theorem ln_C_Pi_layerSample : (parseMethodDescriptor n_C_Pi_layerSample.desc).map (fun d => d.parameters.length) = some 3 := by decide +kernel
set_option maxRecDepth 100000 in
theorem im_C_Pi_layerSample : Cond.instanceMethod n_C_Pi_layerSample ∈ gG.1 := List.mem_append_right _ (List.mem_append_right _ (List.mem_append_right _ (List.mem_append_right _ (List.mem_append_right _ (List.mem_append_right _ (List.mem_append_left _ (List.mem_of_getElem? (i := 181) rfl)))))))
theorem se_C_Pi_layerSample : Cond.selects R_Pi n_C_Pi_layerSample n_C_Pi_layerSample ∈ gG.1 := List.mem_append_left _ (by decide +kernel)
abbrev c_C_Pi_colour : ByteArray := prog_7_method_10_code
def n_C_Pi_colour : MethodName := ⟨R_Pi, "colour", "(III)I"⟩
set_option maxRecDepth 100000 in
theorem cd_C_Pi_colour : Cond.code n_C_Pi_colour c_C_Pi_colour 8 (some .int) ∈ gG.1 := List.mem_append_right _ (List.mem_append_right _ (List.mem_append_right _ (List.mem_append_right _ (List.mem_append_right _ (List.mem_append_right _ (List.mem_append_left _ (List.mem_of_getElem? (i := 178) rfl)))))))
theorem ln_C_Pi_colour : (parseMethodDescriptor n_C_Pi_colour.desc).map (fun d => d.parameters.length) = some 3 := by decide +kernel
set_option maxRecDepth 100000 in
theorem im_C_Pi_colour : Cond.instanceMethod n_C_Pi_colour ∈ gG.1 := List.mem_append_right _ (List.mem_append_right _ (List.mem_append_right _ (List.mem_append_right _ (List.mem_append_right _ (List.mem_append_right _ (List.mem_append_left _ (List.mem_of_getElem? (i := 176) rfl)))))))
set_option maxRecDepth 100000 in
theorem se_C_Pi_colour : Cond.selects R_Pi n_C_Pi_colour n_C_Pi_colour ∈ gG.1 := List.mem_append_right _ (List.mem_append_right _ (List.mem_append_right _ (List.mem_append_right _ (List.mem_append_right _ (List.mem_append_right _ (List.mem_append_left _ (List.mem_of_getElem? (i := 177) rfl)))))))
abbrev c_C_Pi_hasBlock : ByteArray := prog_7_method_6_code
def n_C_Pi_hasBlock : MethodName := ⟨R_Pi, "hasBlock", "(II)Z"⟩
set_option maxRecDepth 100000 in
theorem cd_C_Pi_hasBlock : Cond.code n_C_Pi_hasBlock c_C_Pi_hasBlock 3 (some .boolean) ∈ gG.1 := List.mem_append_right _ (List.mem_append_right _ (List.mem_append_right _ (List.mem_append_right _ (List.mem_append_right _ (List.mem_append_right _ (List.mem_append_left _ (List.mem_of_getElem? (i := 200) rfl)))))))
theorem ln_C_Pi_hasBlock : (parseMethodDescriptor n_C_Pi_hasBlock.desc).map (fun d => d.parameters.length) = some 2 := by decide +kernel
set_option maxRecDepth 100000 in
theorem im_C_Pi_hasBlock : Cond.instanceMethod n_C_Pi_hasBlock ∈ gG.1 := List.mem_append_right _ (List.mem_append_right _ (List.mem_append_right _ (List.mem_append_right _ (List.mem_append_right _ (List.mem_append_right _ (List.mem_append_left _ (List.mem_of_getElem? (i := 198) rfl)))))))
set_option maxRecDepth 100000 in
theorem se_C_Pi_hasBlock : Cond.selects R_Pi n_C_Pi_hasBlock n_C_Pi_hasBlock ∈ gG.1 := List.mem_append_right _ (List.mem_append_right _ (List.mem_append_right _ (List.mem_append_right _ (List.mem_append_right _ (List.mem_append_right _ (List.mem_append_left _ (List.mem_of_getElem? (i := 199) rfl)))))))
abbrev c_C_Wa_wave : ByteArray := prog_12_method_2_code
def n_C_Wa_wave : MethodName := ⟨R_Wa, "wave", "(I)I"⟩
set_option maxRecDepth 100000 in
theorem cd_C_Wa_wave : Cond.code n_C_Wa_wave c_C_Wa_wave 2 (some .int) ∈ gG.1 := List.mem_append_right _ (List.mem_append_left _ (List.mem_of_getElem? (i := 103) rfl))
theorem ln_C_Wa_wave : (parseMethodDescriptor n_C_Wa_wave.desc).map (fun d => d.parameters.length) = some 1 := by decide +kernel
set_option maxRecDepth 100000 in
theorem st_C_Wa_wave : Cond.static n_C_Wa_wave ∈ gG.1 := List.mem_append_right _ (List.mem_append_left _ (List.mem_of_getElem? (i := 102) rfl))
set_option maxRecDepth 100000 in
theorem st_Ma_max : Cond.static Lib.Math.max.name ∈ gG.1 := List.mem_append_right _ (List.mem_append_left _ (List.mem_of_getElem? (i := 79) rfl))
set_option maxRecDepth 100000 in
theorem cd_Ma_max : Cond.code Lib.Math.max.name Lib.Math.max.code 2 (some .int) ∈ gG.1 := List.mem_append_right _ (List.mem_append_left _ (List.mem_of_getElem? (i := 80) rfl))
set_option maxRecDepth 100000 in
theorem st_Ma_min : Cond.static Lib.Math.min.name ∈ gG.1 := List.mem_append_right _ (List.mem_append_right _ (List.mem_append_right _ (List.mem_append_right _ (List.mem_append_left _ (List.mem_of_getElem? (i := 183) rfl)))))
set_option maxRecDepth 100000 in
theorem cd_Ma_min : Cond.code Lib.Math.min.name Lib.Math.min.code 2 (some .int) ∈ gG.1 := List.mem_append_right _ (List.mem_append_right _ (List.mem_append_right _ (List.mem_append_right _ (List.mem_append_left _ (List.mem_of_getElem? (i := 184) rfl)))))
set_option maxRecDepth 100000 in
theorem st_Ma_abs : Cond.static Lib.Math.abs.name ∈ gG.1 := List.mem_append_right _ (List.mem_append_right _ (List.mem_append_right _ (List.mem_append_right _ (List.mem_append_left _ (List.mem_of_getElem? (i := 206) rfl)))))
set_option maxRecDepth 100000 in
theorem cd_Ma_abs : Cond.code Lib.Math.abs.name Lib.Math.abs.code 1 (some .int) ∈ gG.1 := List.mem_append_right _ (List.mem_append_right _ (List.mem_append_right _ (List.mem_append_right _ (List.mem_append_left _ (List.mem_of_getElem? (i := 207) rfl)))))
set_option maxRecDepth 100000 in
theorem f_Ca_9 : Cond.fieldLink R_Ca 9 "BlockPicture$Canvas" "width" "I" ∈ gG.1 := List.mem_append_right _ (List.mem_append_left _ (List.mem_of_getElem? (i := 46) rfl))
set_option maxRecDepth 100000 in
theorem f_Ca_15 : Cond.fieldLink R_Ca 15 "BlockPicture$Canvas" "height" "I" ∈ gG.1 := List.mem_append_right _ (List.mem_append_left _ (List.mem_of_getElem? (i := 48) rfl))
set_option maxRecDepth 100000 in
theorem f_Ca_18 : Cond.fieldLink R_Ca 18 "BlockPicture$Canvas" "planes" "I" ∈ gG.1 := List.mem_append_right _ (List.mem_append_left _ (List.mem_of_getElem? (i := 50) rfl))
set_option maxRecDepth 100000 in
theorem f_Ca_21 : Cond.fieldLink R_Ca 21 "BlockPicture$Canvas" "samples" "[I" ∈ gG.1 := List.mem_append_right _ (List.mem_append_left _ (List.mem_of_getElem? (i := 53) rfl))
set_option maxRecDepth 100000 in
theorem l_Ca_25 : Cond.methodLink R_Ca 25 n_C_Ar_fillI ∈ gG.1 := List.mem_append_right _ (List.mem_append_right _ (List.mem_append_right _ (List.mem_append_right _ (List.mem_append_left _ (List.mem_of_getElem? (i := 85) rfl)))))
set_option maxRecDepth 100000 in
theorem l_Ca_31 : Cond.methodLinkNest R_Ca 31 n_C_B_spot "BlockPicture" ∈ gG.1 := List.mem_append_right _ (List.mem_append_right _ (List.mem_append_right _ (List.mem_append_right _ (List.mem_append_left _ (List.mem_of_getElem? (i := 118) rfl)))))
set_option maxRecDepth 100000 in
theorem f_Pi_9 : Cond.fieldLink R_Pi 9 "BlockPicture$Picture" "width" "I" ∈ gG.1 := List.mem_append_right _ (List.mem_append_left _ (List.mem_of_getElem? (i := 128) rfl))
set_option maxRecDepth 100000 in
theorem f_Pi_15 : Cond.fieldLink R_Pi 15 "BlockPicture$Picture" "height" "I" ∈ gG.1 := List.mem_append_right _ (List.mem_append_left _ (List.mem_of_getElem? (i := 131) rfl))
set_option maxRecDepth 100000 in
theorem f_Pi_18 : Cond.fieldLink R_Pi 18 "BlockPicture$Picture" "layers" "I" ∈ gG.1 := List.mem_append_right _ (List.mem_append_left _ (List.mem_of_getElem? (i := 134) rfl))
set_option maxRecDepth 100000 in
theorem f_Pi_28 : Cond.fieldLink R_Pi 28 "BlockPicture$Picture" "mostAcross" "I" ∈ gG.1 := List.mem_append_right _ (List.mem_append_left _ (List.mem_of_getElem? (i := 144) rfl))
set_option maxRecDepth 100000 in
theorem f_Pi_31 : Cond.fieldLink R_Pi 31 "BlockPicture$Picture" "mostDown" "I" ∈ gG.1 := List.mem_append_right _ (List.mem_append_left _ (List.mem_of_getElem? (i := 146) rfl))
set_option maxRecDepth 100000 in
theorem f_Pi_61 : Cond.fieldLink R_Pi 61 "BlockPicture$Picture" "drawn" "Z" ∈ gG.1 := List.mem_append_right _ (List.mem_append_left _ (List.mem_of_getElem? (i := 170) rfl))
set_option maxRecDepth 100000 in
theorem f_Pi_52 : Cond.fieldLink R_Pi 52 "BlockPicture$Picture" "levels" "[I" ∈ gG.1 := List.mem_append_right _ (List.mem_append_left _ (List.mem_of_getElem? (i := 162) rfl))
set_option maxRecDepth 100000 in
theorem l_Pi_65 : Cond.methodLink R_Pi 65 n_C_Ar_fillI ∈ gG.1 := List.mem_append_right _ (List.mem_append_right _ (List.mem_append_right _ (List.mem_append_left _ (List.mem_of_getElem? (i := 167) rfl))))
set_option maxRecDepth 100000 in
theorem f_Pi_21 : Cond.fieldLink R_Pi 21 "BlockPicture$Picture" "across" "[I" ∈ gG.1 := List.mem_append_right _ (List.mem_append_left _ (List.mem_of_getElem? (i := 138) rfl))
set_option maxRecDepth 100000 in
theorem f_Pi_25 : Cond.fieldLink R_Pi 25 "BlockPicture$Picture" "down" "[I" ∈ gG.1 := List.mem_append_right _ (List.mem_append_left _ (List.mem_of_getElem? (i := 141) rfl))
set_option maxRecDepth 100000 in
theorem l_Pi_71 : Cond.methodLink R_Pi 71 Lib.Math.max.name ∈ gG.1 := List.mem_append_right _ (List.mem_append_right _ (List.mem_append_right _ (List.mem_append_left _ (List.mem_of_getElem? (i := 176) rfl))))
set_option maxRecDepth 100000 in
theorem f_Sc_24 : Cond.fieldLink R_Sc 24 "BlockPicture$Scan" "layers" "I" ∈ gG.1 := List.mem_append_right _ (List.mem_append_left _ (List.mem_of_getElem? (i := 217) rfl))
set_option maxRecDepth 100000 in
theorem f_Sc_9 : Cond.fieldLink R_Sc 9 "BlockPicture$Scan" "layer" "[I" ∈ gG.1 := List.mem_append_right _ (List.mem_append_left _ (List.mem_of_getElem? (i := 220) rfl))
set_option maxRecDepth 100000 in
theorem f_Sc_15 : Cond.fieldLink R_Sc 15 "BlockPicture$Scan" "starts" "[I" ∈ gG.1 := List.mem_append_right _ (List.mem_append_left _ (List.mem_of_getElem? (i := 221) rfl))
set_option maxRecDepth 100000 in
theorem f_Sc_18 : Cond.fieldLink R_Sc 18 "BlockPicture$Scan" "rests" "[I" ∈ gG.1 := List.mem_append_right _ (List.mem_append_left _ (List.mem_of_getElem? (i := 223) rfl))
set_option maxRecDepth 100000 in
theorem l_Pi_77 : Cond.methodLink R_Pi 77 n_C_Pi_upward ∈ gG.1 := List.mem_append_right _ (List.mem_append_right _ (List.mem_append_right _ (List.mem_append_left _ (List.mem_of_getElem? (i := 181) rfl))))
set_option maxRecDepth 100000 in
theorem f_Pi_34 : Cond.fieldLink R_Pi 34 "BlockPicture$Picture" "stretchesAcross" "I" ∈ gG.1 := List.mem_append_right _ (List.mem_append_left _ (List.mem_of_getElem? (i := 148) rfl))
set_option maxRecDepth 100000 in
theorem f_Pi_37 : Cond.fieldLink R_Pi 37 "BlockPicture$Picture" "stretchesDown" "I" ∈ gG.1 := List.mem_append_right _ (List.mem_append_left _ (List.mem_of_getElem? (i := 150) rfl))
set_option maxRecDepth 100000 in
theorem f_Pi_40 : Cond.fieldLink R_Pi 40 "BlockPicture$Picture" "wide" "[I" ∈ gG.1 := List.mem_append_right _ (List.mem_append_left _ (List.mem_of_getElem? (i := 152) rfl))
set_option maxRecDepth 100000 in
theorem f_Pi_43 : Cond.fieldLink R_Pi 43 "BlockPicture$Picture" "high" "[I" ∈ gG.1 := List.mem_append_right _ (List.mem_append_left _ (List.mem_of_getElem? (i := 155) rfl))
set_option maxRecDepth 100000 in
theorem f_Pi_46 : Cond.fieldLink R_Pi 46 "BlockPicture$Picture" "gridWide" "[I" ∈ gG.1 := List.mem_append_right _ (List.mem_append_left _ (List.mem_of_getElem? (i := 158) rfl))
set_option maxRecDepth 100000 in
theorem f_Pi_49 : Cond.fieldLink R_Pi 49 "BlockPicture$Picture" "blocks" "[I" ∈ gG.1 := List.mem_append_right _ (List.mem_append_left _ (List.mem_of_getElem? (i := 161) rfl))
set_option maxRecDepth 100000 in
theorem f_Sc_36 : Cond.fieldLink R_Sc 36 "BlockPicture$Scan" "blocks" "I" ∈ gG.1 := List.mem_append_right _ (List.mem_append_left _ (List.mem_of_getElem? (i := 232) rfl))
set_option maxRecDepth 100000 in
theorem f_Sc_21 : Cond.fieldLink R_Sc 21 "BlockPicture$Scan" "order" "[I" ∈ gG.1 := List.mem_append_right _ (List.mem_append_left _ (List.mem_of_getElem? (i := 233) rfl))
set_option maxRecDepth 100000 in
theorem f_Sc_57 : Cond.fieldLinkNest R_Sc 57 "BlockPicture$Picture" "high" "[I" "BlockPicture" ∈ gG.1 := List.mem_append_right _ (List.mem_append_left _ (List.mem_of_getElem? (i := 157) rfl))
set_option maxRecDepth 100000 in
theorem f_Sc_60 : Cond.fieldLinkNest R_Sc 60 "BlockPicture$Picture" "wide" "[I" "BlockPicture" ∈ gG.1 := List.mem_append_right _ (List.mem_append_left _ (List.mem_of_getElem? (i := 154) rfl))
set_option maxRecDepth 100000 in
theorem f_Sc_63 : Cond.fieldLinkNest R_Sc 63 "BlockPicture$Picture" "gridWide" "[I" "BlockPicture" ∈ gG.1 := List.mem_append_right _ (List.mem_append_left _ (List.mem_of_getElem? (i := 160) rfl))
set_option maxRecDepth 100000 in
theorem l_Sc_66 : Cond.methodLink R_Sc 66 n_C_Sc_addBlock ∈ gG.1 := List.mem_append_right _ (List.mem_append_right _ (List.mem_append_right _ (List.mem_append_left _ (List.mem_of_getElem? (i := 211) rfl))))
set_option maxRecDepth 100000 in
theorem f_Sc_28 : Cond.fieldLinkNest R_Sc 28 "BlockPicture$Picture" "across" "[I" "BlockPicture" ∈ gG.1 := List.mem_append_right _ (List.mem_append_left _ (List.mem_of_getElem? (i := 139) rfl))
set_option maxRecDepth 100000 in
theorem f_Sc_33 : Cond.fieldLinkNest R_Sc 33 "BlockPicture$Picture" "down" "[I" "BlockPicture" ∈ gG.1 := List.mem_append_right _ (List.mem_append_left _ (List.mem_of_getElem? (i := 142) rfl))
set_option maxRecDepth 100000 in
theorem f_Sc_70 : Cond.fieldLinkNest R_Sc 70 "BlockPicture$Picture" "stretchesDown" "I" "BlockPicture" ∈ gG.1 := List.mem_append_right _ (List.mem_append_left _ (List.mem_of_getElem? (i := 151) rfl))
set_option maxRecDepth 100000 in
theorem f_Sc_73 : Cond.fieldLinkNest R_Sc 73 "BlockPicture$Picture" "stretchesAcross" "I" "BlockPicture" ∈ gG.1 := List.mem_append_right _ (List.mem_append_left _ (List.mem_of_getElem? (i := 149) rfl))
set_option maxRecDepth 100000 in
theorem l_Sc_76 : Cond.methodLink R_Sc 76 n_C_Sc_addStretch ∈ gG.1 := List.mem_append_right _ (List.mem_append_right _ (List.mem_append_right _ (List.mem_append_left _ (List.mem_of_getElem? (i := 220) rfl))))
set_option maxRecDepth 100000 in
theorem f_Sc_39 : Cond.fieldLink R_Sc 39 "BlockPicture$Scan" "perUnit" "I" ∈ gG.1 := List.mem_append_right _ (List.mem_append_left _ (List.mem_of_getElem? (i := 228) rfl))
set_option maxRecDepth 100000 in
theorem l_Sc_42 : Cond.methodLink R_Sc 42 n_C_Sc_arrangeAlone ∈ gG.1 := List.mem_append_right _ (List.mem_append_right _ (List.mem_append_right _ (List.mem_append_left _ (List.mem_of_getElem? (i := 207) rfl))))
set_option maxRecDepth 100000 in
theorem l_Sc_46 : Cond.methodLink R_Sc 46 n_C_Sc_blocksTogether ∈ gG.1 := List.mem_append_right _ (List.mem_append_right _ (List.mem_append_right _ (List.mem_append_left _ (List.mem_of_getElem? (i := 215) rfl))))
set_option maxRecDepth 100000 in
theorem l_Sc_50 : Cond.methodLink R_Sc 50 n_C_Sc_arrangeTogether ∈ gG.1 := List.mem_append_right _ (List.mem_append_right _ (List.mem_append_right _ (List.mem_append_left _ (List.mem_of_getElem? (i := 216) rfl))))
set_option maxRecDepth 100000 in
theorem f_Sc_54 : Cond.fieldLink R_Sc 54 "BlockPicture$Scan" "units" "I" ∈ gG.1 := List.mem_append_right _ (List.mem_append_left _ (List.mem_of_getElem? (i := 225) rfl))
set_option maxRecDepth 100000 in
theorem k_Ca_35 : Cond.constant R_Ca 35 (38470) ∈ gG.1 := List.mem_append_right _ (List.mem_append_right _ (List.mem_append_right _ (List.mem_append_right _ (List.mem_append_left _ (List.mem_of_getElem? (i := 189) rfl)))))
set_option maxRecDepth 100000 in
theorem k_Ca_36 : Cond.constant R_Ca 36 (32768) ∈ gG.1 := List.mem_append_right _ (List.mem_append_right _ (List.mem_append_right _ (List.mem_append_right _ (List.mem_append_left _ (List.mem_of_getElem? (i := 190) rfl)))))
set_option maxRecDepth 100000 in
theorem l_Ca_37 : Cond.methodLink R_Ca 37 Lib.Math.min.name ∈ gG.1 := List.mem_append_right _ (List.mem_append_right _ (List.mem_append_right _ (List.mem_append_right _ (List.mem_append_left _ (List.mem_of_getElem? (i := 191) rfl)))))
set_option maxRecDepth 100000 in
theorem f_Pa_31 : Cond.fieldLink R_Pa 31 "BlockPicture$Packer" "packed" "LBlockPicture$Picture;" ∈ gG.1 := List.mem_append_right _ (List.mem_append_right _ (List.mem_append_left _ (List.mem_of_getElem? (i := 74) rfl)))
set_option maxRecDepth 100000 in
theorem f_Pa_121 : Cond.fieldLinkNest R_Pa 121 "BlockPicture$Picture" "across" "[I" "BlockPicture" ∈ gG.1 := List.mem_append_right _ (List.mem_append_left _ (List.mem_of_getElem? (i := 140) rfl))
set_option maxRecDepth 100000 in
theorem f_Pa_124 : Cond.fieldLinkNest R_Pa 124 "BlockPicture$Picture" "mostAcross" "I" "BlockPicture" ∈ gG.1 := List.mem_append_right _ (List.mem_append_left _ (List.mem_of_getElem? (i := 145) rfl))
set_option maxRecDepth 100000 in
theorem f_Pa_127 : Cond.fieldLinkNest R_Pa 127 "BlockPicture$Picture" "down" "[I" "BlockPicture" ∈ gG.1 := List.mem_append_right _ (List.mem_append_left _ (List.mem_of_getElem? (i := 143) rfl))
set_option maxRecDepth 100000 in
theorem f_Pa_130 : Cond.fieldLinkNest R_Pa 130 "BlockPicture$Picture" "mostDown" "I" "BlockPicture" ∈ gG.1 := List.mem_append_right _ (List.mem_append_left _ (List.mem_of_getElem? (i := 147) rfl))
set_option maxRecDepth 100000 in
theorem f_Pa_133 : Cond.fieldLinkNest R_Pa 133 "BlockPicture$Picture" "high" "[I" "BlockPicture" ∈ gG.1 := List.mem_append_right _ (List.mem_append_left _ (List.mem_of_getElem? (i := 156) rfl))
set_option maxRecDepth 100000 in
theorem f_Pa_136 : Cond.fieldLinkNest R_Pa 136 "BlockPicture$Picture" "wide" "[I" "BlockPicture" ∈ gG.1 := List.mem_append_right _ (List.mem_append_left _ (List.mem_of_getElem? (i := 153) rfl))
set_option maxRecDepth 100000 in
theorem f_Pa_72 : Cond.fieldLinkNest R_Pa 72 "BlockPicture$Canvas" "width" "I" "BlockPicture" ∈ gG.1 := List.mem_append_right _ (List.mem_append_left _ (List.mem_of_getElem? (i := 47) rfl))
set_option maxRecDepth 100000 in
theorem l_Pa_139 : Cond.methodLink R_Pa 139 Lib.Math.min.name ∈ gG.1 := List.mem_append_right _ (List.mem_append_right _ (List.mem_append_right _ (List.mem_append_right _ (List.mem_append_left _ (List.mem_of_getElem? (i := 182) rfl)))))
set_option maxRecDepth 100000 in
theorem f_Pa_75 : Cond.fieldLinkNest R_Pa 75 "BlockPicture$Canvas" "height" "I" "BlockPicture" ∈ gG.1 := List.mem_append_right _ (List.mem_append_left _ (List.mem_of_getElem? (i := 49) rfl))
set_option maxRecDepth 100000 in
theorem l_Pa_145 : Cond.methodLink R_Pa 145 n_C_Ca_kind ∈ gG.1 := List.mem_append_right _ (List.mem_append_right _ (List.mem_append_right _ (List.mem_append_right _ (List.mem_append_left _ (List.mem_of_getElem? (i := 185) rfl)))))
set_option maxRecDepth 100000 in
theorem f_Pa_149 : Cond.fieldLinkNest R_Pa 149 "BlockPicture$Picture" "samples" "[I" "BlockPicture" ∈ gG.1 := List.mem_append_right _ (List.mem_append_left _ (List.mem_of_getElem? (i := 169) rfl))
set_option maxRecDepth 100000 in
theorem l_Pa_152 : Cond.methodLinkNest R_Pa 152 n_C_B_spot "BlockPicture" ∈ gG.1 := List.mem_append_right _ (List.mem_append_right _ (List.mem_append_right _ (List.mem_append_right _ (List.mem_append_left _ (List.mem_of_getElem? (i := 192) rfl)))))
set_option maxRecDepth 100000 in
theorem f_Wa_9 : Cond.fieldLink R_Wa 9 "BlockPicture$Waves" "waves" "[I" ∈ gG.1 := List.mem_append_right _ (List.mem_append_left _ (List.mem_of_getElem? (i := 104) rfl))
set_option maxRecDepth 100000 in
theorem f_Wa_15 : Cond.fieldLink R_Wa 15 "BlockPicture$Waves" "samples" "[I" ∈ gG.1 := List.mem_append_right _ (List.mem_append_left _ (List.mem_of_getElem? (i := 105) rfl))
set_option maxRecDepth 100000 in
theorem f_Wa_21 : Cond.fieldLink R_Wa 21 "BlockPicture$Waves" "halfway" "[J" ∈ gG.1 := List.mem_append_right _ (List.mem_append_left _ (List.mem_of_getElem? (i := 111) rfl))
set_option maxRecDepth 100000 in
theorem k_Wa_32 : Cond.constantLong R_Wa 32 (65536) ∈ gG.1 := List.mem_append_right _ (List.mem_append_right _ (List.mem_append_right _ (List.mem_append_right _ (List.mem_append_left _ (List.mem_of_getElem? (i := 202) rfl)))))
set_option maxRecDepth 100000 in
theorem f_Wa_18 : Cond.fieldLink R_Wa 18 "BlockPicture$Waves" "weights" "[I" ∈ gG.1 := List.mem_append_right _ (List.mem_append_left _ (List.mem_of_getElem? (i := 108) rfl))
set_option maxRecDepth 100000 in
theorem f_Pa_155 : Cond.fieldLinkNest R_Pa 155 "BlockPicture$Picture" "gridWide" "[I" "BlockPicture" ∈ gG.1 := List.mem_append_right _ (List.mem_append_left _ (List.mem_of_getElem? (i := 159) rfl))
set_option maxRecDepth 100000 in
theorem l_Pa_158 : Cond.methodLink R_Pa 158 Lib.Math.max.name ∈ gG.1 := List.mem_append_right _ (List.mem_append_right _ (List.mem_append_right _ (List.mem_append_right _ (List.mem_append_left _ (List.mem_of_getElem? (i := 197) rfl)))))
set_option maxRecDepth 100000 in
theorem f_Pa_24 : Cond.fieldLink R_Pa 24 "BlockPicture$Packer" "waves" "LBlockPicture$Waves;" ∈ gG.1 := List.mem_append_right _ (List.mem_append_right _ (List.mem_append_left _ (List.mem_of_getElem? (i := 72) rfl)))
set_option maxRecDepth 100000 in
theorem f_Pa_161 : Cond.fieldLinkNest R_Pa 161 "BlockPicture$Waves" "samples" "[I" "BlockPicture" ∈ gG.1 := List.mem_append_right _ (List.mem_append_left _ (List.mem_of_getElem? (i := 106) rfl))
set_option maxRecDepth 100000 in
theorem l_Pa_162 : Cond.methodLink R_Pa 162 n_C_Wa_makeWeights ∈ gG.1 := List.mem_append_right _ (List.mem_append_right _ (List.mem_append_right _ (List.mem_append_right _ (List.mem_append_left _ (List.mem_of_getElem? (i := 198) rfl)))))
set_option maxRecDepth 100000 in
theorem f_Pa_165 : Cond.fieldLinkNest R_Pa 165 "BlockPicture$Waves" "weights" "[I" "BlockPicture" ∈ gG.1 := List.mem_append_right _ (List.mem_append_left _ (List.mem_of_getElem? (i := 109) rfl))
set_option maxRecDepth 100000 in
theorem f_Pa_168 : Cond.fieldLinkNest R_Pa 168 "BlockPicture" "SLANTS" "[I" "BlockPicture" ∈ gG.1 := List.mem_append_right _ (List.mem_append_right _ (List.mem_append_right _ (List.mem_append_right _ (List.mem_append_left _ (List.mem_of_getElem? (i := 203) rfl)))))
set_option maxRecDepth 100000 in
theorem l_Pa_89 : Cond.methodLink R_Pa 89 n_C_Pa_kindOf ∈ gG.1 := List.mem_append_right _ (List.mem_append_right _ (List.mem_append_right _ (List.mem_append_right _ (List.mem_append_left _ (List.mem_of_getElem? (i := 172) rfl)))))
set_option maxRecDepth 100000 in
theorem l_Pa_171 : Cond.methodLink R_Pa 171 Lib.Math.abs.name ∈ gG.1 := List.mem_append_right _ (List.mem_append_right _ (List.mem_append_right _ (List.mem_append_right _ (List.mem_append_left _ (List.mem_of_getElem? (i := 205) rfl)))))
set_option maxRecDepth 100000 in
theorem f_Pa_174 : Cond.fieldLinkNest R_Pa 174 "BlockPicture$Picture" "levels" "[I" "BlockPicture" ∈ gG.1 := List.mem_append_right _ (List.mem_append_left _ (List.mem_of_getElem? (i := 163) rfl))
set_option maxRecDepth 100000 in
theorem f_Pa_63 : Cond.fieldLinkNest R_Pa 63 "BlockPicture$Canvas" "planes" "I" "BlockPicture" ∈ gG.1 := List.mem_append_right _ (List.mem_append_left _ (List.mem_of_getElem? (i := 51) rfl))
set_option maxRecDepth 100000 in
theorem f_Pa_69 : Cond.fieldLink R_Pa 69 "BlockPicture$Packer" "kinds" "I" ∈ gG.1 := List.mem_append_right _ (List.mem_append_right _ (List.mem_append_left _ (List.mem_of_getElem? (i := 81) rfl)))
set_option maxRecDepth 100000 in
theorem l_Pa_78 : Cond.methodLink R_Pa 78 n_C_Pi_begin ∈ gG.1 := List.mem_append_right _ (List.mem_append_right _ (List.mem_append_right _ (List.mem_append_right _ (List.mem_append_left _ (List.mem_of_getElem? (i := 170) rfl)))))
set_option maxRecDepth 100000 in
theorem f_Pa_38 : Cond.fieldLink R_Pa 38 "BlockPicture$Packer" "scan" "LBlockPicture$Scan;" ∈ gG.1 := List.mem_append_right _ (List.mem_append_right _ (List.mem_append_left _ (List.mem_of_getElem? (i := 76) rfl)))
set_option maxRecDepth 100000 in
theorem f_Pa_82 : Cond.fieldLinkNest R_Pa 82 "BlockPicture$Scan" "layers" "I" "BlockPicture" ∈ gG.1 := List.mem_append_right _ (List.mem_append_left _ (List.mem_of_getElem? (i := 218) rfl))
set_option maxRecDepth 100000 in
theorem f_Pa_85 : Cond.fieldLinkNest R_Pa 85 "BlockPicture$Picture" "layers" "I" "BlockPicture" ∈ gG.1 := List.mem_append_right _ (List.mem_append_left _ (List.mem_of_getElem? (i := 135) rfl))
set_option maxRecDepth 100000 in
theorem l_Pa_86 : Cond.methodLink R_Pa 86 n_C_Pi_setFactors ∈ gG.1 := List.mem_append_right _ (List.mem_append_right _ (List.mem_append_right _ (List.mem_append_right _ (List.mem_append_left _ (List.mem_of_getElem? (i := 171) rfl)))))
set_option maxRecDepth 100000 in
theorem l_Pa_93 : Cond.methodLink R_Pa 93 n_C_Sc_addLayer ∈ gG.1 := List.mem_append_right _ (List.mem_append_right _ (List.mem_append_right _ (List.mem_append_right _ (List.mem_append_left _ (List.mem_of_getElem? (i := 175) rfl)))))
set_option maxRecDepth 100000 in
theorem l_Pa_96 : Cond.methodLink R_Pa 96 n_C_Pi_measure ∈ gG.1 := List.mem_append_right _ (List.mem_append_right _ (List.mem_append_right _ (List.mem_append_right _ (List.mem_append_left _ (List.mem_of_getElem? (i := 176) rfl)))))
set_option maxRecDepth 100000 in
theorem f_Pa_99 : Cond.fieldLinkNest R_Pa 99 "BlockPicture$Picture" "told" "Z" "BlockPicture" ∈ gG.1 := List.mem_append_right _ (List.mem_append_left _ (List.mem_of_getElem? (i := 172) rfl))
set_option maxRecDepth 100000 in
theorem l_Pa_103 : Cond.methodLink R_Pa 103 n_C_Sc_arrange ∈ gG.1 := List.mem_append_right _ (List.mem_append_right _ (List.mem_append_right _ (List.mem_append_right _ (List.mem_append_left _ (List.mem_of_getElem? (i := 177) rfl)))))
set_option maxRecDepth 100000 in
theorem l_Pa_107 : Cond.methodLink R_Pa 107 n_C_Pa_makeLayer ∈ gG.1 := List.mem_append_right _ (List.mem_append_right _ (List.mem_append_right _ (List.mem_append_right _ (List.mem_append_left _ (List.mem_of_getElem? (i := 178) rfl)))))
set_option maxRecDepth 100000 in
theorem f_Pa_111 : Cond.fieldLinkNest R_Pa 111 "BlockPicture$Scan" "blocks" "I" "BlockPicture" ∈ gG.1 := List.mem_append_right _ (List.mem_append_left _ (List.mem_of_getElem? (i := 231) rfl))
set_option maxRecDepth 100000 in
theorem f_Pa_114 : Cond.fieldLinkNest R_Pa 114 "BlockPicture$Scan" "order" "[I" "BlockPicture" ∈ gG.1 := List.mem_append_right _ (List.mem_append_left _ (List.mem_of_getElem? (i := 234) rfl))
set_option maxRecDepth 100000 in
theorem l_Pa_117 : Cond.methodLink R_Pa 117 n_C_Pa_makeBlock ∈ gG.1 := List.mem_append_right _ (List.mem_append_right _ (List.mem_append_right _ (List.mem_append_right _ (List.mem_append_left _ (List.mem_of_getElem? (i := 193) rfl)))))
set_option maxRecDepth 100000 in
theorem f_Oc_11 : Cond.fieldLink R_Oc 11 "BlockPicture$OwnCodes" "often" "[I" ∈ gG.1 := List.mem_append_right _ (List.mem_append_right _ (List.mem_append_left _ (List.mem_of_getElem? (i := 43) rfl)))
set_option maxRecDepth 100000 in
theorem l_Oc_27 : Cond.methodLink R_Oc 27 n_C_Ar_fillI ∈ gG.1 := List.mem_append_right _ (List.mem_append_right _ (List.mem_append_right _ (List.mem_append_right _ (List.mem_append_left _ (List.mem_of_getElem? (i := 216) rfl)))))
set_option maxRecDepth 100000 in
theorem f_Oc_15 : Cond.fieldLink R_Oc 15 "BlockPicture$OwnCodes" "lengths" "[I" ∈ gG.1 := List.mem_append_right _ (List.mem_append_right _ (List.mem_append_left _ (List.mem_of_getElem? (i := 46) rfl)))
set_option maxRecDepth 100000 in
theorem f_Ro_19 : Cond.fieldLink R_Ro 19 "BlockPicture$Row" "size" "I" ∈ gG.1 := List.mem_append_right _ (List.mem_append_left _ (List.mem_of_getElem? (i := 84) rfl))
set_option maxRecDepth 100000 in
theorem f_Ro_13 : Cond.fieldLink R_Ro 13 "BlockPicture$Row" "bytes" "[I" ∈ gG.1 := List.mem_append_right _ (List.mem_append_left _ (List.mem_of_getElem? (i := 81) rfl))
set_option maxRecDepth 100000 in
theorem f_Pa_269 : Cond.fieldLink R_Pa 269 "BlockPicture$Packer" "held" "I" ∈ gG.1 := List.mem_append_right _ (List.mem_append_right _ (List.mem_append_left _ (List.mem_of_getElem? (i := 83) rfl)))
set_option maxRecDepth 100000 in
theorem f_Pa_272 : Cond.fieldLink R_Pa 272 "BlockPicture$Packer" "heldBits" "I" ∈ gG.1 := List.mem_append_right _ (List.mem_append_right _ (List.mem_append_left _ (List.mem_of_getElem? (i := 84) rfl)))
set_option maxRecDepth 100000 in
theorem f_Pa_15 : Cond.fieldLink R_Pa 15 "BlockPicture$Packer" "out" "LBlockPicture$Row;" ∈ gG.1 := List.mem_append_right _ (List.mem_append_right _ (List.mem_append_left _ (List.mem_of_getElem? (i := 70) rfl)))
set_option maxRecDepth 100000 in
theorem l_Pa_214 : Cond.methodLink R_Pa 214 n_C_Ro_add ∈ gG.1 := List.mem_append_right _ (List.mem_append_right _ (List.mem_append_right _ (List.mem_append_right _ (List.mem_append_left _ (List.mem_of_getElem? (i := 234) rfl)))))
set_option maxRecDepth 100000 in
theorem l_Pa_265 : Cond.methodLink R_Pa 265 n_C_Pa_writeBits ∈ gG.1 := List.mem_append_right _ (List.mem_append_right _ (List.mem_append_right _ (List.mem_append_right _ (List.mem_append_left _ (List.mem_of_getElem? (i := 230) rfl)))))
set_option maxRecDepth 100000 in
theorem l_Pa_246 : Cond.methodLink R_Pa 246 n_C_Pa_fillByte ∈ gG.1 := List.mem_append_right _ (List.mem_append_right _ (List.mem_append_right _ (List.mem_append_right _ (List.mem_append_left _ (List.mem_of_getElem? (i := 226) rfl)))))
set_option maxRecDepth 100000 in
theorem f_Pa_179 : Cond.fieldLink R_Pa 179 "BlockPicture$Packer" "counting" "Z" ∈ gG.1 := List.mem_append_right _ (List.mem_append_right _ (List.mem_append_left _ (List.mem_of_getElem? (i := 82) rfl)))
set_option maxRecDepth 100000 in
theorem l_Pa_195 : Cond.methodLink R_Pa 195 n_C_Pa_addMark ∈ gG.1 := List.mem_append_right _ (List.mem_append_right _ (List.mem_append_right _ (List.mem_append_right _ (List.mem_append_left _ (List.mem_of_getElem? (i := 238) rfl)))))
set_option maxRecDepth 100000 in
theorem f_Pa_59 : Cond.fieldLink R_Pa 59 "BlockPicture$Packer" "before" "[I" ∈ gG.1 := List.mem_append_right _ (List.mem_append_right _ (List.mem_append_left _ (List.mem_of_getElem? (i := 80) rfl)))
set_option maxRecDepth 100000 in
theorem l_Pa_228 : Cond.methodLink R_Pa 228 n_C_Ar_fillI ∈ gG.1 := List.mem_append_right _ (List.mem_append_right _ (List.mem_append_right _ (List.mem_append_right _ (List.mem_append_left _ (List.mem_of_getElem? (i := 221) rfl)))))
set_option maxRecDepth 100000 in
theorem f_Pa_256 : Cond.fieldLinkNest R_Pa 256 "BlockPicture$OwnCodes" "often" "[I" "BlockPicture" ∈ gG.1 := List.mem_append_right _ (List.mem_append_right _ (List.mem_append_left _ (List.mem_of_getElem? (i := 45) rfl)))
set_option maxRecDepth 100000 in
theorem f_Pa_259 : Cond.fieldLinkNest R_Pa 259 "BlockPicture$OwnCodes" "codes" "[I" "BlockPicture" ∈ gG.1 := List.mem_append_right _ (List.mem_append_right _ (List.mem_append_left _ (List.mem_of_getElem? (i := 50) rfl)))
set_option maxRecDepth 100000 in
theorem f_Pa_262 : Cond.fieldLinkNest R_Pa 262 "BlockPicture$OwnCodes" "lengths" "[I" "BlockPicture" ∈ gG.1 := List.mem_append_right _ (List.mem_append_right _ (List.mem_append_left _ (List.mem_of_getElem? (i := 48) rfl)))
set_option maxRecDepth 100000 in
theorem f_Pa_52 : Cond.fieldLink R_Pa 52 "BlockPicture$Packer" "starts" "[LBlockPicture$OwnCodes;" ∈ gG.1 := List.mem_append_right _ (List.mem_append_right _ (List.mem_append_left _ (List.mem_of_getElem? (i := 78) rfl)))
set_option maxRecDepth 100000 in
theorem l_Pa_249 : Cond.methodLink R_Pa 249 n_C_Pa_bitsOf ∈ gG.1 := List.mem_append_right _ (List.mem_append_right _ (List.mem_append_right _ (List.mem_append_right _ (List.mem_append_right _ (List.mem_append_left _ (List.mem_of_getElem? (i := 6) rfl))))))
set_option maxRecDepth 100000 in
theorem l_Pa_252 : Cond.methodLink R_Pa 252 n_C_Pa_writeSymbol ∈ gG.1 := List.mem_append_right _ (List.mem_append_right _ (List.mem_append_right _ (List.mem_append_right _ (List.mem_append_right _ (List.mem_append_left _ (List.mem_of_getElem? (i := 9) rfl))))))
set_option maxRecDepth 100000 in
theorem f_Pa_56 : Cond.fieldLink R_Pa 56 "BlockPicture$Packer" "rests" "[LBlockPicture$OwnCodes;" ∈ gG.1 := List.mem_append_right _ (List.mem_append_right _ (List.mem_append_left _ (List.mem_of_getElem? (i := 79) rfl)))
set_option maxRecDepth 100000 in
theorem f_Pa_234 : Cond.fieldLinkNest R_Pa 234 "BlockPicture$Scan" "units" "I" "BlockPicture" ∈ gG.1 := List.mem_append_right _ (List.mem_append_left _ (List.mem_of_getElem? (i := 226) rfl))
set_option maxRecDepth 100000 in
theorem l_Pa_237 : Cond.methodLink R_Pa 237 n_C_Pa_writeAgain ∈ gG.1 := List.mem_append_right _ (List.mem_append_right _ (List.mem_append_right _ (List.mem_append_right _ (List.mem_append_left _ (List.mem_of_getElem? (i := 222) rfl)))))
set_option maxRecDepth 100000 in
theorem f_Pa_240 : Cond.fieldLinkNest R_Pa 240 "BlockPicture$Scan" "perUnit" "I" "BlockPicture" ∈ gG.1 := List.mem_append_right _ (List.mem_append_left _ (List.mem_of_getElem? (i := 229) rfl))
set_option maxRecDepth 100000 in
theorem l_Pa_243 : Cond.methodLink R_Pa 243 n_C_Pa_writeBlock ∈ gG.1 := List.mem_append_right _ (List.mem_append_right _ (List.mem_append_right _ (List.mem_append_right _ (List.mem_append_right _ (List.mem_append_left _ (List.mem_of_getElem? (i := 2) rfl))))))
set_option maxRecDepth 100000 in
theorem f_Li_34 : Cond.fieldLink R_Li 34 "BlockPicture$Lines" "count" "I" ∈ gG.1 := List.mem_append_right _ (List.mem_append_right _ (List.mem_append_left _ (List.mem_of_getElem? (i := 20) rfl)))
set_option maxRecDepth 100000 in
theorem f_Li_13 : Cond.fieldLink R_Li 13 "BlockPicture$Lines" "symbols" "[I" ∈ gG.1 := List.mem_append_right _ (List.mem_append_right _ (List.mem_append_left _ (List.mem_of_getElem? (i := 19) rfl)))
set_option maxRecDepth 100000 in
theorem f_Li_21 : Cond.fieldLink R_Li 21 "BlockPicture$Lines" "latest" "[I" ∈ gG.1 := List.mem_append_right _ (List.mem_append_right _ (List.mem_append_left _ (List.mem_of_getElem? (i := 22) rfl)))
set_option maxRecDepth 100000 in
theorem f_Li_17 : Cond.fieldLink R_Li 17 "BlockPicture$Lines" "twos" "[Z" ∈ gG.1 := List.mem_append_right _ (List.mem_append_right _ (List.mem_append_left _ (List.mem_of_getElem? (i := 21) rfl)))
set_option maxRecDepth 100000 in
theorem f_Li_24 : Cond.fieldLink R_Li 24 "BlockPicture$Lines" "next" "[I" ∈ gG.1 := List.mem_append_right _ (List.mem_append_right _ (List.mem_append_left _ (List.mem_of_getElem? (i := 23) rfl)))
set_option maxRecDepth 100000 in
theorem f_Li_27 : Cond.fieldLinkNest R_Li 27 "BlockPicture$OwnCodes" "often" "[I" "BlockPicture" ∈ gG.1 := List.mem_append_right _ (List.mem_append_right _ (List.mem_append_left _ (List.mem_of_getElem? (i := 44) rfl)))
set_option maxRecDepth 100000 in
theorem l_Li_30 : Cond.methodLink R_Li 30 n_C_Li_sortSymbols ∈ gG.1 := List.mem_append_right _ (List.mem_append_right _ (List.mem_append_right _ (List.mem_append_right _ (List.mem_append_right _ (List.mem_append_left _ (List.mem_of_getElem? (i := 17) rfl))))))
set_option maxRecDepth 100000 in
theorem l_Li_38 : Cond.methodLink R_Li 38 n_C_Li_makeLine ∈ gG.1 := List.mem_append_right _ (List.mem_append_right _ (List.mem_append_right _ (List.mem_append_right _ (List.mem_append_right _ (List.mem_append_left _ (List.mem_of_getElem? (i := 21) rfl))))))
set_option maxRecDepth 100000 in
theorem f_Li_42 : Cond.fieldLinkNest R_Li 42 "BlockPicture$OwnCodes" "lengths" "[I" "BlockPicture" ∈ gG.1 := List.mem_append_right _ (List.mem_append_right _ (List.mem_append_left _ (List.mem_of_getElem? (i := 47) rfl)))
set_option maxRecDepth 100000 in
theorem l_Li_45 : Cond.methodLink R_Li 45 n_C_Li_takeThings ∈ gG.1 := List.mem_append_right _ (List.mem_append_right _ (List.mem_append_right _ (List.mem_append_right _ (List.mem_append_right _ (List.mem_append_left _ (List.mem_of_getElem? (i := 25) rfl))))))
set_option maxRecDepth 100000 in
theorem f_Oc_33 : Cond.fieldLink R_Oc 33 "BlockPicture$OwnCodes" "size" "I" ∈ gG.1 := List.mem_append_right _ (List.mem_append_right _ (List.mem_append_left _ (List.mem_of_getElem? (i := 53) rfl)))
set_option maxRecDepth 100000 in
theorem f_Oc_18 : Cond.fieldLink R_Oc 18 "BlockPicture$OwnCodes" "codes" "[I" ∈ gG.1 := List.mem_append_right _ (List.mem_append_right _ (List.mem_append_left _ (List.mem_of_getElem? (i := 49) rfl)))
set_option maxRecDepth 100000 in
theorem f_Oc_21 : Cond.fieldLink R_Oc 21 "BlockPicture$OwnCodes" "order" "[I" ∈ gG.1 := List.mem_append_right _ (List.mem_append_right _ (List.mem_append_left _ (List.mem_of_getElem? (i := 51) rfl)))
set_option maxRecDepth 100000 in
theorem f_Oc_24 : Cond.fieldLink R_Oc 24 "BlockPicture$OwnCodes" "counts" "[I" ∈ gG.1 := List.mem_append_right _ (List.mem_append_right _ (List.mem_append_left _ (List.mem_of_getElem? (i := 55) rfl)))
set_option maxRecDepth 100000 in
theorem l_Pa_177 : Cond.methodLink R_Pa 177 n_C_Oc_begin ∈ gG.1 := List.mem_append_right _ (List.mem_append_right _ (List.mem_append_right _ (List.mem_append_right _ (List.mem_append_left _ (List.mem_of_getElem? (i := 212) rfl)))))
set_option maxRecDepth 100000 in
theorem l_Pa_182 : Cond.methodLink R_Pa 182 n_C_Pa_writeData ∈ gG.1 := List.mem_append_right _ (List.mem_append_right _ (List.mem_append_right _ (List.mem_append_right _ (List.mem_append_left _ (List.mem_of_getElem? (i := 217) rfl)))))
set_option maxRecDepth 100000 in
theorem f_Pa_45 : Cond.fieldLink R_Pa 45 "BlockPicture$Packer" "lines" "LBlockPicture$Lines;" ∈ gG.1 := List.mem_append_right _ (List.mem_append_right _ (List.mem_append_left _ (List.mem_of_getElem? (i := 77) rfl)))
set_option maxRecDepth 100000 in
theorem l_Pa_185 : Cond.methodLink R_Pa 185 n_C_Li_setLengths ∈ gG.1 := List.mem_append_right _ (List.mem_append_right _ (List.mem_append_right _ (List.mem_append_right _ (List.mem_append_right _ (List.mem_append_left _ (List.mem_of_getElem? (i := 13) rfl))))))
set_option maxRecDepth 100000 in
theorem l_Pa_189 : Cond.methodLink R_Pa 189 n_C_Oc_giveOut ∈ gG.1 := List.mem_append_right _ (List.mem_append_right _ (List.mem_append_right _ (List.mem_append_right _ (List.mem_append_right _ (List.mem_append_left _ (List.mem_of_getElem? (i := 29) rfl))))))
set_option maxRecDepth 100000 in
theorem l_Ro_23 : Cond.methodLink R_Ro 23 n_C_Ro_add ∈ gG.1 := List.mem_append_right _ (List.mem_append_right _ (List.mem_append_right _ (List.mem_append_right _ (List.mem_append_right _ (List.mem_append_left _ (List.mem_of_getElem? (i := 45) rfl))))))
set_option maxRecDepth 100000 in
theorem l_Pa_208 : Cond.methodLink R_Pa 208 n_C_Ro_addTwo ∈ gG.1 := List.mem_append_right _ (List.mem_append_right _ (List.mem_append_right _ (List.mem_append_right _ (List.mem_append_right _ (List.mem_append_left _ (List.mem_of_getElem? (i := 41) rfl))))))
set_option maxRecDepth 100000 in
theorem f_Pa_217 : Cond.fieldLinkNest R_Pa 217 "BlockPicture$Picture" "height" "I" "BlockPicture" ∈ gG.1 := List.mem_append_right _ (List.mem_append_left _ (List.mem_of_getElem? (i := 132) rfl))
set_option maxRecDepth 100000 in
theorem f_Pa_218 : Cond.fieldLinkNest R_Pa 218 "BlockPicture$Picture" "width" "I" "BlockPicture" ∈ gG.1 := List.mem_append_right _ (List.mem_append_left _ (List.mem_of_getElem? (i := 129) rfl))
set_option maxRecDepth 100000 in
theorem f_Pa_224 : Cond.fieldLinkNest R_Pa 224 "BlockPicture$OwnCodes" "counts" "[I" "BlockPicture" ∈ gG.1 := List.mem_append_right _ (List.mem_append_right _ (List.mem_append_left _ (List.mem_of_getElem? (i := 56) rfl)))
set_option maxRecDepth 100000 in
theorem f_Pa_219 : Cond.fieldLinkNest R_Pa 219 "BlockPicture$OwnCodes" "size" "I" "BlockPicture" ∈ gG.1 := List.mem_append_right _ (List.mem_append_right _ (List.mem_append_left _ (List.mem_of_getElem? (i := 54) rfl)))
set_option maxRecDepth 100000 in
theorem f_Pa_227 : Cond.fieldLinkNest R_Pa 227 "BlockPicture$OwnCodes" "order" "[I" "BlockPicture" ∈ gG.1 := List.mem_append_right _ (List.mem_append_right _ (List.mem_append_left _ (List.mem_of_getElem? (i := 52) rfl)))
set_option maxRecDepth 100000 in
theorem l_Pa_220 : Cond.methodLink R_Pa 220 n_C_Pa_writeOwnCodes ∈ gG.1 := List.mem_append_right _ (List.mem_append_right _ (List.mem_append_right _ (List.mem_append_right _ (List.mem_append_right _ (List.mem_append_left _ (List.mem_of_getElem? (i := 54) rfl))))))
set_option maxRecDepth 100000 in
theorem f_Pa_192 : Cond.fieldLinkNest R_Pa 192 "BlockPicture$Row" "size" "I" "BlockPicture" ∈ gG.1 := List.mem_append_right _ (List.mem_append_left _ (List.mem_of_getElem? (i := 86) rfl))
set_option maxRecDepth 100000 in
theorem l_Pa_198 : Cond.methodLink R_Pa 198 n_C_Pa_writeTables ∈ gG.1 := List.mem_append_right _ (List.mem_append_right _ (List.mem_append_right _ (List.mem_append_right _ (List.mem_append_right _ (List.mem_append_left _ (List.mem_of_getElem? (i := 37) rfl))))))
set_option maxRecDepth 100000 in
theorem l_Pa_202 : Cond.methodLink R_Pa 202 n_C_Pa_writeFrame ∈ gG.1 := List.mem_append_right _ (List.mem_append_right _ (List.mem_append_right _ (List.mem_append_right _ (List.mem_append_right _ (List.mem_append_left _ (List.mem_of_getElem? (i := 46) rfl))))))
set_option maxRecDepth 100000 in
theorem l_Pa_205 : Cond.methodLink R_Pa 205 n_C_Pa_writeCodes ∈ gG.1 := List.mem_append_right _ (List.mem_append_right _ (List.mem_append_right _ (List.mem_append_right _ (List.mem_append_right _ (List.mem_append_left _ (List.mem_of_getElem? (i := 50) rfl))))))
set_option maxRecDepth 100000 in
theorem l_Pa_211 : Cond.methodLink R_Pa 211 n_C_Pa_writeScan ∈ gG.1 := List.mem_append_right _ (List.mem_append_right _ (List.mem_append_right _ (List.mem_append_right _ (List.mem_append_right _ (List.mem_append_left _ (List.mem_of_getElem? (i := 58) rfl))))))
set_option maxRecDepth 100000 in
theorem f_B_38 : Cond.fieldLink R_B 38 "BlockPicture" "out" "LBlockPicture$Row;" ∈ gG.1 := List.mem_append_right _ (List.mem_append_right _ (List.mem_append_right _ (List.mem_append_left _ (List.mem_of_getElem? (i := 2) rfl))))
set_option maxRecDepth 100000 in
theorem f_B_134 : Cond.fieldLinkNest R_B 134 "BlockPicture$Row" "size" "I" "BlockPicture" ∈ gG.1 := List.mem_append_right _ (List.mem_append_left _ (List.mem_of_getElem? (i := 87) rfl))
set_option maxRecDepth 100000 in
theorem l_Ro_27 : Cond.methodLink R_Ro 27 n_C_Ro_addTwo ∈ gG.1 := List.mem_append_right _ (List.mem_append_right _ (List.mem_append_right _ (List.mem_append_right _ (List.mem_append_right _ (List.mem_append_left _ (List.mem_of_getElem? (i := 86) rfl))))))
set_option maxRecDepth 100000 in
theorem f_Un_12 : Cond.fieldLink R_Un 12 "BlockPicture$Unpacker" "reader" "LBlockPicture$Reader;" ∈ gG.1 := List.mem_append_right _ (List.mem_append_right _ (List.mem_append_left _ (List.mem_of_getElem? (i := 189) rfl)))
set_option maxRecDepth 100000 in
theorem f_Un_70 : Cond.fieldLinkNest R_Un 70 "BlockPicture$Reader" "at" "I" "BlockPicture" ∈ gG.1 := List.mem_append_right _ (List.mem_append_right _ (List.mem_append_left _ (List.mem_of_getElem? (i := 129) rfl)))
set_option maxRecDepth 100000 in
theorem f_Un_99 : Cond.fieldLink R_Un 99 "BlockPicture$Unpacker" "framed" "Z" ∈ gG.1 := List.mem_append_right _ (List.mem_append_right _ (List.mem_append_left _ (List.mem_of_getElem? (i := 196) rfl)))
set_option maxRecDepth 100000 in
theorem f_Un_102 : Cond.fieldLink R_Un 102 "BlockPicture$Unpacker" "interval" "I" ∈ gG.1 := List.mem_append_right _ (List.mem_append_right _ (List.mem_append_left _ (List.mem_of_getElem? (i := 201) rfl)))
set_option maxRecDepth 100000 in
theorem f_Un_36 : Cond.fieldLink R_Un 36 "BlockPicture$Unpacker" "tableTold" "[Z" ∈ gG.1 := List.mem_append_right _ (List.mem_append_right _ (List.mem_append_left _ (List.mem_of_getElem? (i := 194) rfl)))
set_option maxRecDepth 100000 in
theorem f_Un_43 : Cond.fieldLink R_Un 43 "BlockPicture$Unpacker" "codes" "[LBlockPicture$Codes;" ∈ gG.1 := List.mem_append_right _ (List.mem_append_right _ (List.mem_append_left _ (List.mem_of_getElem? (i := 195) rfl)))
set_option maxRecDepth 100000 in
theorem f_Un_105 : Cond.fieldLinkNest R_Un 105 "BlockPicture$Codes" "told" "Z" "BlockPicture" ∈ gG.1 := List.mem_append_right _ (List.mem_append_right _ (List.mem_append_left _ (List.mem_of_getElem? (i := 167) rfl)))
set_option maxRecDepth 100000 in
theorem f_Un_21 : Cond.fieldLink R_Un 21 "BlockPicture$Unpacker" "made" "LBlockPicture$Picture;" ∈ gG.1 := List.mem_append_right _ (List.mem_append_right _ (List.mem_append_left _ (List.mem_of_getElem? (i := 191) rfl)))
set_option maxRecDepth 100000 in
theorem f_Un_110 : Cond.fieldLinkNest R_Un 110 "BlockPicture$Picture" "layers" "I" "BlockPicture" ∈ gG.1 := List.mem_append_right _ (List.mem_append_left _ (List.mem_of_getElem? (i := 136) rfl))
set_option maxRecDepth 100000 in
theorem f_Un_53 : Cond.fieldLink R_Un 53 "BlockPicture$Unpacker" "scanned" "[Z" ∈ gG.1 := List.mem_append_right _ (List.mem_append_right _ (List.mem_append_left _ (List.mem_of_getElem? (i := 199) rfl)))
set_option maxRecDepth 100000 in
theorem l_Un_106 : Cond.methodLink R_Un 106 n_C_Un_allScanned ∈ gG.1 := List.mem_append_right _ (List.mem_append_right _ (List.mem_append_right _ (List.mem_append_left _ (List.mem_of_getElem? (i := 131) rfl))))
set_option maxRecDepth 100000 in
theorem f_Co_24 : Cond.fieldLink R_Co 24 "BlockPicture$Codes" "size" "I" ∈ gG.1 := List.mem_append_right _ (List.mem_append_right _ (List.mem_append_left _ (List.mem_of_getElem? (i := 174) rfl)))
set_option maxRecDepth 100000 in
theorem f_Co_15 : Cond.fieldLink R_Co 15 "BlockPicture$Codes" "firstCodes" "[I" ∈ gG.1 := List.mem_append_right _ (List.mem_append_right _ (List.mem_append_left _ (List.mem_of_getElem? (i := 170) rfl)))
set_option maxRecDepth 100000 in
theorem f_Co_18 : Cond.fieldLink R_Co 18 "BlockPicture$Codes" "firstSymbols" "[I" ∈ gG.1 := List.mem_append_right _ (List.mem_append_right _ (List.mem_append_left _ (List.mem_of_getElem? (i := 171) rfl)))
set_option maxRecDepth 100000 in
theorem f_Co_9 : Cond.fieldLink R_Co 9 "BlockPicture$Codes" "counts" "[I" ∈ gG.1 := List.mem_append_right _ (List.mem_append_right _ (List.mem_append_left _ (List.mem_of_getElem? (i := 168) rfl)))
set_option maxRecDepth 100000 in
theorem f_Co_21 : Cond.fieldLink R_Co 21 "BlockPicture$Codes" "symbols" "[I" ∈ gG.1 := List.mem_append_right _ (List.mem_append_right _ (List.mem_append_left _ (List.mem_of_getElem? (i := 172) rfl)))
set_option maxRecDepth 100000 in
theorem l_Un_141 : Cond.methodLinkNest R_Un 141 n_C_B_isWithin "BlockPicture" ∈ gG.1 := List.mem_append_right _ (List.mem_append_right _ (List.mem_append_right _ (List.mem_append_left _ (List.mem_of_getElem? (i := 152) rfl))))
set_option maxRecDepth 100000 in
theorem f_Re_35 : Cond.fieldLink R_Re 35 "BlockPicture$Reader" "at" "I" ∈ gG.1 := List.mem_append_right _ (List.mem_append_right _ (List.mem_append_left _ (List.mem_of_getElem? (i := 128) rfl)))
set_option maxRecDepth 100000 in
theorem f_Re_55 : Cond.fieldLink R_Re 55 "BlockPicture$Reader" "bitsLeft" "I" ∈ gG.1 := List.mem_append_right _ (List.mem_append_right _ (List.mem_append_left _ (List.mem_of_getElem? (i := 132) rfl)))
set_option maxRecDepth 100000 in
theorem f_Un_59 : Cond.fieldLinkNest R_Un 59 "BlockPicture$Picture" "told" "Z" "BlockPicture" ∈ gG.1 := List.mem_append_right _ (List.mem_append_left _ (List.mem_of_getElem? (i := 171) rfl))
set_option maxRecDepth 100000 in
theorem f_B_61 : Cond.fieldLink R_B 61 "BlockPicture" "place" "I" ∈ gG.1 := List.mem_append_right _ (List.mem_append_right _ (List.mem_append_right _ (List.mem_append_left _ (List.mem_of_getElem? (i := 6) rfl))))
set_option maxRecDepth 100000 in
theorem k_Wa_52 : Cond.constantLong R_Wa 52 (256) ∈ gG.1 := List.mem_append_right _ (List.mem_append_right _ (List.mem_append_right _ (List.mem_append_right _ (List.mem_append_right _ (List.mem_append_left _ (List.mem_of_getElem? (i := 151) rfl))))))
set_option maxRecDepth 100000 in
theorem l_Ar_13 : Cond.methodLink R_Ar 13 n_C_Ar_rangeCheck ∈ gG.1 := List.mem_append_right _ (List.mem_append_right _ (List.mem_append_right _ (List.mem_append_right _ (List.mem_append_right _ (List.mem_append_left _ (List.mem_of_getElem? (i := 155) rfl))))))
set_option maxRecDepth 100000 in
theorem l_Wa_34 : Cond.methodLink R_Wa 34 n_C_Wa_hasWeights ∈ gG.1 := List.mem_append_right _ (List.mem_append_right _ (List.mem_append_right _ (List.mem_append_right _ (List.mem_append_right _ (List.mem_append_left _ (List.mem_of_getElem? (i := 143) rfl))))))
set_option maxRecDepth 100000 in
theorem l_Wa_38 : Cond.methodLink R_Wa 38 n_C_Wa_makeRow ∈ gG.1 := List.mem_append_right _ (List.mem_append_right _ (List.mem_append_right _ (List.mem_append_right _ (List.mem_append_right _ (List.mem_append_left _ (List.mem_of_getElem? (i := 147) rfl))))))
set_option maxRecDepth 100000 in
theorem l_Wa_42 : Cond.methodLink R_Wa 42 n_C_Ar_fillJ ∈ gG.1 := List.mem_append_right _ (List.mem_append_right _ (List.mem_append_right _ (List.mem_append_right _ (List.mem_append_right _ (List.mem_append_left _ (List.mem_of_getElem? (i := 152) rfl))))))
set_option maxRecDepth 100000 in
theorem l_Wa_48 : Cond.methodLinkNest R_Wa 48 n_C_B_clamp "BlockPicture" ∈ gG.1 := List.mem_append_right _ (List.mem_append_right _ (List.mem_append_right _ (List.mem_append_right _ (List.mem_append_right _ (List.mem_append_right _ (List.mem_append_left _ (List.mem_of_getElem? (i := 173) rfl)))))))
set_option maxRecDepth 100000 in
theorem f_Pi_88 : Cond.fieldLinkNest R_Pi 88 "BlockPicture$Waves" "weights" "[I" "BlockPicture" ∈ gG.1 := List.mem_append_right _ (List.mem_append_left _ (List.mem_of_getElem? (i := 110) rfl))
set_option maxRecDepth 100000 in
theorem f_Pi_93 : Cond.fieldLinkNest R_Pi 93 "BlockPicture" "SLANTS" "[I" "BlockPicture" ∈ gG.1 := List.mem_append_right _ (List.mem_append_right _ (List.mem_append_right _ (List.mem_append_right _ (List.mem_append_right _ (List.mem_append_left _ (List.mem_of_getElem? (i := 138) rfl))))))
set_option maxRecDepth 100000 in
theorem f_Pi_55 : Cond.fieldLink R_Pi 55 "BlockPicture$Picture" "entries" "[I" ∈ gG.1 := List.mem_append_right _ (List.mem_append_left _ (List.mem_of_getElem? (i := 166) rfl))
set_option maxRecDepth 100000 in
theorem l_Pi_96 : Cond.methodLink R_Pi 96 n_C_Wa_makeSamples ∈ gG.1 := List.mem_append_right _ (List.mem_append_right _ (List.mem_append_right _ (List.mem_append_right _ (List.mem_append_right _ (List.mem_append_left _ (List.mem_of_getElem? (i := 139) rfl))))))
set_option maxRecDepth 100000 in
theorem f_Pi_58 : Cond.fieldLink R_Pi 58 "BlockPicture$Picture" "samples" "[I" ∈ gG.1 := List.mem_append_right _ (List.mem_append_left _ (List.mem_of_getElem? (i := 168) rfl))
set_option maxRecDepth 100000 in
theorem l_Pi_99 : Cond.methodLinkNest R_Pi 99 n_C_B_spot "BlockPicture" ∈ gG.1 := List.mem_append_right _ (List.mem_append_right _ (List.mem_append_right _ (List.mem_append_right _ (List.mem_append_right _ (List.mem_append_right _ (List.mem_append_left _ (List.mem_of_getElem? (i := 174) rfl)))))))
set_option maxRecDepth 100000 in
theorem f_Pi_103 : Cond.fieldLinkNest R_Pi 103 "BlockPicture$Waves" "samples" "[I" "BlockPicture" ∈ gG.1 := List.mem_append_right _ (List.mem_append_left _ (List.mem_of_getElem? (i := 107) rfl))
set_option maxRecDepth 100000 in
theorem l_Pi_84 : Cond.methodLink R_Pi 84 n_C_Pi_drawBlock ∈ gG.1 := List.mem_append_right _ (List.mem_append_right _ (List.mem_append_right _ (List.mem_append_right _ (List.mem_append_right _ (List.mem_append_left _ (List.mem_of_getElem? (i := 134) rfl))))))
set_option maxRecDepth 100000 in
theorem l_Pi_104 : Cond.methodLink R_Pi 104 n_C_Pi_layerSample ∈ gG.1 := List.mem_append_right _ (List.mem_append_right _ (List.mem_append_right _ (List.mem_append_right _ (List.mem_append_right _ (List.mem_append_right _ (List.mem_append_left _ (List.mem_of_getElem? (i := 179) rfl)))))))
set_option maxRecDepth 100000 in
theorem k_Pi_107 : Cond.constant R_Pi 107 (46802) ∈ gG.1 := List.mem_append_right _ (List.mem_append_right _ (List.mem_append_right _ (List.mem_append_right _ (List.mem_append_right _ (List.mem_append_right _ (List.mem_append_left _ (List.mem_of_getElem? (i := 183) rfl)))))))
set_option maxRecDepth 100000 in
theorem k_Pi_108 : Cond.constant R_Pi 108 (32768) ∈ gG.1 := List.mem_append_right _ (List.mem_append_right _ (List.mem_append_right _ (List.mem_append_right _ (List.mem_append_right _ (List.mem_append_right _ (List.mem_append_left _ (List.mem_of_getElem? (i := 184) rfl)))))))
set_option maxRecDepth 100000 in
theorem l_Pi_109 : Cond.methodLinkNest R_Pi 109 n_C_B_clamp "BlockPicture" ∈ gG.1 := List.mem_append_right _ (List.mem_append_right _ (List.mem_append_right _ (List.mem_append_right _ (List.mem_append_right _ (List.mem_append_right _ (List.mem_append_left _ (List.mem_of_getElem? (i := 185) rfl)))))))
set_option maxRecDepth 100000 in
theorem k_Pi_112 : Cond.constant R_Pi 112 (91881) ∈ gG.1 := List.mem_append_right _ (List.mem_append_right _ (List.mem_append_right _ (List.mem_append_right _ (List.mem_append_right _ (List.mem_append_right _ (List.mem_append_left _ (List.mem_of_getElem? (i := 186) rfl)))))))
set_option maxRecDepth 100000 in
theorem k_Pi_113 : Cond.constant R_Pi 113 (116130) ∈ gG.1 := List.mem_append_right _ (List.mem_append_right _ (List.mem_append_right _ (List.mem_append_right _ (List.mem_append_right _ (List.mem_append_right _ (List.mem_append_left _ (List.mem_of_getElem? (i := 187) rfl)))))))
set_option maxRecDepth 100000 in
theorem l_Pi_80 : Cond.methodLinkNest R_Pi 80 n_C_B_isWithin "BlockPicture" ∈ gG.1 := List.mem_append_right _ (List.mem_append_right _ (List.mem_append_right _ (List.mem_append_right _ (List.mem_append_right _ (List.mem_append_right _ (List.mem_append_left _ (List.mem_of_getElem? (i := 201) rfl)))))))
set_option maxRecDepth 100000 in
theorem f_Wa_25 : Cond.fieldLink R_Wa 25 "BlockPicture$Waves" "QUARTER" "[I" ∈ gG.1 := List.mem_append_right _ (List.mem_append_left _ (List.mem_of_getElem? (i := 99) rfl))
