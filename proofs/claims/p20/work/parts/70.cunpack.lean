set_option maxRecDepth 100000 in
theorem ca_13 : Cond.castable "java/lang/IllegalStateException" "java/lang/IllegalStateException" ∈ gG.1 := List.mem_append_right _ (List.mem_append_right _ (List.mem_append_right _ (List.mem_append_right _ (List.mem_append_left _ (List.mem_of_getElem? (i := 53) rfl)))))
set_option maxRecDepth 100000 in
theorem ca_14 : Cond.castable "java/lang/IllegalArgumentException" "java/lang/IllegalArgumentException" ∈ gG.1 := List.mem_append_right _ (List.mem_append_right _ (List.mem_append_right _ (List.mem_append_right _ (List.mem_append_right _ (List.mem_append_left _ (List.mem_of_getElem? (i := 67) rfl))))))
set_option maxRecDepth 100000 in
theorem ca_15 : Cond.castable "java/lang/IndexOutOfBoundsException" "java/lang/IndexOutOfBoundsException" ∈ gG.1 := List.mem_append_right _ (List.mem_append_right _ (List.mem_append_right _ (List.mem_append_right _ (List.mem_append_right _ (List.mem_append_left _ (List.mem_of_getElem? (i := 100) rfl))))))
abbrev c_C_B_unpack : ByteArray := prog_1_method_15_code
def n_C_B_unpack : MethodName := ⟨R_B, "unpack", "()I"⟩
set_option maxRecDepth 100000 in
theorem cd_C_B_unpack : Cond.codeWith n_C_B_unpack c_C_B_unpack 2 (some .int) [(0, 7, 10, 149)] ∈ gG.1 := List.mem_append_right _ (List.mem_append_right _ (List.mem_append_right _ (List.mem_append_right _ (List.mem_append_left _ (List.mem_of_getElem? (i := 33) rfl)))))
theorem ln_C_B_unpack : (parseMethodDescriptor n_C_B_unpack.desc).map (fun d => d.parameters.length) = some 0 := by decide +kernel
set_option maxRecDepth 100000 in
theorem im_C_B_unpack : Cond.instanceMethod n_C_B_unpack ∈ gG.1 := List.mem_append_right _ (List.mem_append_right _ (List.mem_append_right _ (List.mem_append_right _ (List.mem_append_left _ (List.mem_of_getElem? (i := 31) rfl)))))
set_option maxRecDepth 100000 in
theorem se_C_B_unpack : Cond.selects R_B n_C_B_unpack n_C_B_unpack ∈ gG.1 := List.mem_append_right _ (List.mem_append_right _ (List.mem_append_right _ (List.mem_append_right _ (List.mem_append_left _ (List.mem_of_getElem? (i := 32) rfl)))))
set_option maxRecDepth 100000 in
theorem l_B_168 : Cond.methodLink R_B 168 n_C_Un_readRow ∈ gG.1 := List.mem_append_right _ (List.mem_append_right _ (List.mem_append_right _ (List.mem_append_right _ (List.mem_append_left _ (List.mem_of_getElem? (i := 35) rfl)))))
set_option maxRecDepth 100000 in
theorem f_B_171 : Cond.fieldLinkNest R_B 171 "BlockPicture$Reader" "place" "I" "BlockPicture" ∈ gG.1 := List.mem_append_right _ (List.mem_append_right _ (List.mem_append_right _ (List.mem_append_left _ (List.mem_of_getElem? (i := 138) rfl))))
set_option maxRecDepth 100000 in
theorem f_B_172 : Cond.fieldLinkNest R_B 172 "BlockPicture$Reader" "fault" "I" "BlockPicture" ∈ gG.1 := List.mem_append_right _ (List.mem_append_right _ (List.mem_append_right _ (List.mem_append_left _ (List.mem_of_getElem? (i := 136) rfl))))
set_option maxRecDepth 100000 in
theorem l_B_175 : Cond.methodLink R_B 175 n_C_Un_handOver ∈ gG.1 := List.mem_append_right _ (List.mem_append_right _ (List.mem_append_right _ (List.mem_append_right _ (List.mem_append_right _ (List.mem_append_left _ (List.mem_of_getElem? (i := 48) rfl))))))
theorem dc_B_unpack_0 : decode c_C_B_unpack 0 = .ok (.aload_n 0, 1) := by decide +kernel
theorem dc_B_unpack_1 : decode c_C_B_unpack 1 = .ok (.getfield 30, 3) := by decide +kernel
theorem dc_B_unpack_4 : decode c_C_B_unpack 4 = .ok (.invokevirtual 168, 3) := by decide +kernel
theorem dc_B_unpack_7 : decode c_C_B_unpack 7 = .ok (.goto 29, 3) := by decide +kernel
theorem dc_B_unpack_10 : decode c_C_B_unpack 10 = .ok (.astore_n 1, 1) := by decide +kernel
theorem dc_B_unpack_11 : decode c_C_B_unpack 11 = .ok (.aload_n 0, 1) := by decide +kernel
theorem dc_B_unpack_12 : decode c_C_B_unpack 12 = .ok (.aload_n 0, 1) := by decide +kernel
theorem dc_B_unpack_13 : decode c_C_B_unpack 13 = .ok (.getfield 30, 3) := by decide +kernel
theorem dc_B_unpack_16 : decode c_C_B_unpack 16 = .ok (.getfield 44, 3) := by decide +kernel
theorem dc_B_unpack_19 : decode c_C_B_unpack 19 = .ok (.getfield 171, 3) := by decide +kernel
theorem dc_B_unpack_22 : decode c_C_B_unpack 22 = .ok (.putfield 61, 3) := by decide +kernel
theorem dc_B_unpack_25 : decode c_C_B_unpack 25 = .ok (.aload_n 0, 1) := by decide +kernel
theorem dc_B_unpack_26 : decode c_C_B_unpack 26 = .ok (.getfield 30, 3) := by decide +kernel
theorem dc_B_unpack_29 : decode c_C_B_unpack 29 = .ok (.getfield 44, 3) := by decide +kernel
theorem dc_B_unpack_32 : decode c_C_B_unpack 32 = .ok (.getfield 172, 3) := by decide +kernel
theorem dc_B_unpack_35 : decode c_C_B_unpack 35 = .ok (.ireturn, 1) := by decide +kernel
theorem dc_B_unpack_36 : decode c_C_B_unpack 36 = .ok (.aload_n 0, 1) := by decide +kernel
theorem dc_B_unpack_37 : decode c_C_B_unpack 37 = .ok (.aload_n 0, 1) := by decide +kernel
theorem dc_B_unpack_38 : decode c_C_B_unpack 38 = .ok (.getfield 30, 3) := by decide +kernel
theorem dc_B_unpack_41 : decode c_C_B_unpack 41 = .ok (.aload_n 0, 1) := by decide +kernel
theorem dc_B_unpack_42 : decode c_C_B_unpack 42 = .ok (.getfield 57, 3) := by decide +kernel
theorem dc_B_unpack_45 : decode c_C_B_unpack 45 = .ok (.invokevirtual 175, 3) := by decide +kernel
theorem dc_B_unpack_48 : decode c_C_B_unpack 48 = .ok (.putfield 57, 3) := by decide +kernel
theorem dc_B_unpack_51 : decode c_C_B_unpack 51 = .ok (.aload_n 0, 1) := by decide +kernel
theorem dc_B_unpack_52 : decode c_C_B_unpack 52 = .ok (.iconst (-1), 1) := by decide +kernel
theorem dc_B_unpack_53 : decode c_C_B_unpack 53 = .ok (.putfield 61, 3) := by decide +kernel
theorem dc_B_unpack_56 : decode c_C_B_unpack 56 = .ok (.iconst 0, 1) := by decide +kernel
theorem dc_B_unpack_57 : decode c_C_B_unpack 57 = .ok (.ireturn, 1) := by decide +kernel
def p_B_unpack (U : ut) (u : Nat)  (S : cs) (K : Int32 → cs → Prop) : Prop :=
  ¬ S.2.2 u 3 = NU ∧ (c_cl U (S.2.2 u 3) = 11 ∧ (p_Un_readRow U (S.2.2 u 3) S (fun S4 => ¬ S4.2.2 u 3 = NU ∧ (¬ S4.2.2 u 7 = NU ∧ (c_cl U (S4.2.2 u 3) = 11 ∧ (p_Un_handOver U (S4.2.2 u 3) (S4.2.2 u 7) S4 (fun v45 S45 => ¬ v45 = NU ∧ (K 0 (va_up S45.1 u (upd (S45.1 u) 8 (-1)), S45.2.1, va_up S45.2.2 u (va_up (S45.2.2 u) 7 v45)))))))) (fun c9 S9 => (c9 = 13 ∧ (¬ S9.2.2 u 3 = NU ∧ (c_cl U (S9.2.2 u 3) = 11 ∧ (¬ S9.2.2 (S9.2.2 u 3) 0 = NU ∧ (c_cl U (S9.2.2 (S9.2.2 u 3) 0) = 8 ∧ (¬ S9.2.2 u 3 = NU ∧ (¬ S9.2.2 (S9.2.2 u 3) 0 = NU ∧ (K ((va_up S9.1 u (upd (S9.1 u) 8 (S9.1 (S9.2.2 (S9.2.2 u 3) 0) 7))) (S9.2.2 (S9.2.2 u 3) 0) 6) (va_up S9.1 u (upd (S9.1 u) 8 (S9.1 (S9.2.2 (S9.2.2 u 3) 0) 7)), S9.2.1, S9.2.2))))))))))))
section C_B_unpack
variable {D : va_G} {z : Nat → ClassId} {A : Nat → Prop} {X : cx} {L0 : fw} {U : ut} {oa : Nat → Nat} {u : Nat} {K : Int32 → cs → Prop}
set_option maxRecDepth 100000 in
set_option maxHeartbeats 1000000 in
theorem s_B_unpack_0 (C : fcx gG D z A X R_B c_C_B_unpack 2 (some .int)) (hQ : X.2.2.2.2.2.2.2.2.2.2 = eQ gG D z X.2.2.2.2.2.2.2.1 X.2.2.2.2.1 L0 1 6 (pC_i lt_C U oa K (fun _ _ => False))) (hA : A = owA gG L0 X.2.2.2.2.1.heap.size) (hR : X.2.2.2.1 = { frames := 15, cells := 2, slots := 12, locals := 1500 }) (htab : X.2.2.2.2.2.2.2.2.2.1.exceptionTable.toList.map (fun h : ExceptionTableEntry => (h.startPc, h.endPc, h.handlerPc, h.catchType)) = [(0, 7, 10, 149)]) (hfl : X.2.1.flags = pinnedFlags ++ [noTraceFlag]) (hu : c_cl U u = 1)  (S : cs) (hp : p_B_unpack U u S K) : aw gG D z A X 2 0 [some (.ref (oa u)), none] [] (cw lt_C U oa S) 0 0 := by
  unfold p_B_unpack at hp
  refine a_aload_n C dc_B_unpack_0 rfl rfl ?_
  refine c_getR C u 3 dc_B_unpack_1 hu rfl rfl (Nat.le_of_ble_eq_true rfl) f_B_30 rfl hp.1 ?_
  have hp := hp.2
  have hc1 := hp.1
  have hp := hp.2
  refine c_callT (rest := []) (av := .ref (oa (S.2.2 u 3)) :: []) C dc_B_unpack_4 (ct_Un_readRow (S.2.2 u 3) S hfl hc1 hp) cd_C_Un_readRow i_Un (Nat.le_of_ble_eq_true rfl) (by rw [hR]; exact Nat.le_of_ble_eq_true rfl) (by rw [hR]; exact Nat.le_of_ble_eq_true rfl) (by rw [hR]; exact Nat.le_of_ble_eq_true rfl) (by rw [hR]; exact Nat.le_of_ble_eq_true rfl) (inv_V C (S.2.2 u 3) dc_B_unpack_4 l_B_168 im_C_Un_readRow se_C_Un_readRow cd_C_Un_readRow ⟨by decide, by decide⟩ ln_C_Un_readRow rfl rfl (cw_obj hc1 rfl) rfl rfl) (fun oc L1 hL => ?_)
  rcases hL with ⟨S4, hp, rfl, rfl⟩ | ⟨c9, a9, S9, hp, rfl, rfl⟩
  rotate_left
  · rcases hp with ⟨rfl, hp⟩
    · refine Or.inr ⟨a9, rfl, t_hit (ci := 13) (ly := []) (R := (a9, fun _ => 0, fun _ => 0, z_r, z_l)) U.length C htab  (by decide) (by decide) (by decide) x_B_149 rfl (by rw [List.getElem?_append_right (by rw [cw_len]; exact Nat.le_refl _), cw_len]; simp) rfl rfl ca_13 ?_⟩
      refine aw_drop ?_
      refine a_astore_n (lo' := [some (.ref (oa u)), some (.ref a9)]) C dc_B_unpack_10 rfl (by decide) rfl ?_
      refine a_aload_n C dc_B_unpack_11 rfl rfl ?_
      refine a_aload_n C dc_B_unpack_12 rfl rfl ?_
      refine c_getR C u 3 dc_B_unpack_13 hu rfl rfl (Nat.le_of_ble_eq_true rfl) f_B_30 rfl hp.1 ?_
      have hp := hp.2
      have hc2 := hp.1
      have hp := hp.2
      refine c_getRN C (S9.2.2 u 3) 0 dc_B_unpack_16 hc2 rfl rfl (Nat.le_of_ble_eq_true rfl) f_B_44 rfl hp.1 ?_
      have hp := hp.2
      have hc3 := hp.1
      have hp := hp.2
      refine c_getIN C (S9.2.2 (S9.2.2 u 3) 0) 7 dc_B_unpack_19 hc3 rfl rfl (Nat.le_of_ble_eq_true rfl) f_B_171 (Nat.le_of_ble_eq_true rfl) ?_
      refine c_putI (ty := .int) C u 8 dc_B_unpack_22 hu rfl rfl (Nat.le_of_ble_eq_true rfl) f_B_61 (Nat.le_of_ble_eq_true rfl) rfl rfl rfl rfl ?_
      refine aw_eq (lo' := _) (st' := _) (L' := (cw lt_C U oa (va_up S9.1 u (upd (S9.1 u) 8 (S9.1 (S9.2.2 (S9.2.2 u 3) 0) 7)), S9.2.1, S9.2.2))) rfl rfl rfl ?_
      refine a_aload_n C dc_B_unpack_25 rfl rfl ?_
      refine c_getR C u 3 dc_B_unpack_26 hu rfl rfl (Nat.le_of_ble_eq_true rfl) f_B_30 rfl hp.1 ?_
      have hp := hp.2
      refine c_getRN C (S9.2.2 u 3) 0 dc_B_unpack_29 hc2 rfl rfl (Nat.le_of_ble_eq_true rfl) f_B_44 rfl hp.1 ?_
      have hp := hp.2
      refine c_getIN C (S9.2.2 (S9.2.2 u 3) 0) 6 dc_B_unpack_32 hc3 rfl rfl (Nat.le_of_ble_eq_true rfl) f_B_172 (Nat.le_of_ble_eq_true rfl) ?_
      refine aw_widen (nc' := 1) (ns' := 6) (Nat.le_of_ble_eq_true rfl) (Nat.le_of_ble_eq_true rfl) ?_
      exact a_iret (ty := .int) C hQ hA dc_B_unpack_35 rfl rfl (Or.inl ⟨_, (va_up S9.1 u (upd (S9.1 u) 8 (S9.1 (S9.2.2 (S9.2.2 u 3) 0) 7)), S9.2.1, S9.2.2), hp, rfl, rfl⟩)
  refine Or.inl ⟨_, rfl, ?_⟩
  refine aw_eq (lo' := _) (st' := []) (L' := (cw lt_C U oa S4)) rfl rfl rfl ?_
  refine a_goto (tgt := 36) C dc_B_unpack_7 (by decide) ?_
  refine a_aload_n C dc_B_unpack_36 rfl rfl ?_
  refine a_aload_n C dc_B_unpack_37 rfl rfl ?_
  refine c_getR C u 3 dc_B_unpack_38 hu rfl rfl (Nat.le_of_ble_eq_true rfl) f_B_30 rfl hp.1 ?_
  have hp := hp.2
  refine a_aload_n C dc_B_unpack_41 rfl rfl ?_
  refine c_getR C u 7 dc_B_unpack_42 hu rfl rfl (Nat.le_of_ble_eq_true rfl) f_B_57 rfl hp.1 ?_
  have hp := hp.2
  have hc4 := hp.1
  have hp := hp.2
  refine c_call (rest := [.ref (oa u)]) (av := .ref (oa (S4.2.2 u 3)) :: [.ref (oa (S4.2.2 u 7))]) C dc_B_unpack_45 (ct_Un_handOver (S4.2.2 u 3) (S4.2.2 u 7) S4 hc4 hp) cd_C_Un_handOver i_Un (Nat.le_of_ble_eq_true rfl) (by rw [hR]; exact Nat.le_of_ble_eq_true rfl) (by rw [hR]; exact Nat.le_of_ble_eq_true rfl) (by rw [hR]; exact Nat.le_of_ble_eq_true rfl) (by rw [hR]; exact Nat.le_of_ble_eq_true rfl) (inv_V C (S4.2.2 u 3) dc_B_unpack_45 l_B_175 im_C_Un_handOver se_C_Un_handOver cd_C_Un_handOver ⟨by decide, by decide⟩ ln_C_Un_handOver rfl rfl (cw_obj hc4 rfl) rfl rfl) (fun oc L1 hL => ?_)
  obtain ⟨v45, S45, hp, rfl, rfl⟩ := hL.resolve_right pC_no
  refine ⟨_, rfl, ?_⟩
  refine aw_eq (lo' := _) (st' := [.ref (oa v45), .ref (oa u)]) (L' := (cw lt_C U oa S45)) rfl rfl rfl ?_
  refine c_putR (ty := .object "BlockPicture$Picture") C u 7 dc_B_unpack_48 hu rfl rfl (Nat.le_of_ble_eq_true rfl) f_B_57 rfl rfl (fun _ => rfl) (fun _ => rfl) rfl rfl hp.1 ?_
  have hp := hp.2
  refine aw_eq (lo' := _) (st' := _) (L' := (cw lt_C U oa (S45.1, S45.2.1, va_up S45.2.2 u (va_up (S45.2.2 u) 7 v45)))) rfl rfl rfl ?_
  refine a_aload_n C dc_B_unpack_51 rfl rfl ?_
  refine a_iconst (v := (-1)) C dc_B_unpack_52 (by decide) ?_
  refine c_putI (ty := .int) C u 8 dc_B_unpack_53 hu rfl rfl (Nat.le_of_ble_eq_true rfl) f_B_61 (Nat.le_of_ble_eq_true rfl) rfl rfl rfl rfl ?_
  refine aw_eq (lo' := _) (st' := _) (L' := (cw lt_C U oa (va_up S45.1 u (upd (S45.1 u) 8 (-1)), S45.2.1, va_up S45.2.2 u (va_up (S45.2.2 u) 7 v45)))) rfl rfl rfl ?_
  refine a_iconst (v := 0) C dc_B_unpack_56 (by decide) ?_
  refine aw_widen (nc' := 1) (ns' := 6) (Nat.le_of_ble_eq_true rfl) (Nat.le_of_ble_eq_true rfl) ?_
  exact a_iret (ty := .int) C hQ hA dc_B_unpack_57 rfl rfl (Or.inl ⟨_, (va_up S45.1 u (upd (S45.1 u) 8 (-1)), S45.2.1, va_up S45.2.2 u (va_up (S45.2.2 u) 7 v45)), hp, rfl, rfl⟩)
end C_B_unpack
section C_B_unpackc
variable {D : va_G} {z : Nat → ClassId} {U : ut} {oa : Nat → Nat}
set_option maxRecDepth 100000 in
theorem ct_B_unpack {l : Launch} (u : Nat)  (S : cs) {K : Int32 → cs → Prop} (hfl : l.flags = pinnedFlags ++ [noTraceFlag]) (hu : c_cl U u = 1) (hp : p_B_unpack U u S K) : ctW gG D z l n_C_B_unpack c_C_B_unpack 2 (some .int) [(0, 7, 10, 149)] 15 1500 [.ref (oa u)] (cw lt_C U oa S) 1 6 (pC_i lt_C U oa K (fun _ _ => False)) := by
  refine ct_ofW (lo := [some (.ref (oa u)), none]) (by decide) g_ok (Nat.le_of_ble_eq_true rfl) rfl ?_
  intro X A hl C hR hQ hA htab
  exact s_B_unpack_0 C hQ hA hR htab (by rw [hl]; exact hfl) hu S hp
end C_B_unpackc
