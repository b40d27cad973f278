def p_B_out (U : ut) (u : Nat) (x1 : Int32) (S : cs) (K : Int32 → cs → Prop) (T : Nat → cs → Prop) : Prop :=
  ¬ S.2.2 u 4 = NU ∧ (c_cl U (S.2.2 u 4) = 9 ∧ (p_Ro_has U (S.2.2 u 4) x1 S (fun v5 S5 => (¬ v5 = 0 → (¬ S5.2.2 u 4 = NU ∧ (c_cl U (S5.2.2 u 4) = 9 ∧ (¬ S5.2.2 (S5.2.2 u 4) 0 = NU ∧ (c_cl U (S5.2.2 (S5.2.2 u 4) 0) = 902 ∧ (vp_in x1 (c_ln U (S5.2.2 (S5.2.2 u 4) 0)) ∧ (K (S5.1 (S5.2.2 (S5.2.2 u 4) 0) x1.toNatClampNeg) S5))))))) ∧ (v5 = 0 → (T 15 S5)))))
section C_B_out
variable {D : va_G} {z : Nat → ClassId} {A : Nat → Prop} {X : cx} {L0 : fw} {U : ut} {oa : Nat → Nat} {u : Nat} {K : Int32 → cs → Prop} {T : Nat → cs → Prop}
set_option maxRecDepth 100000 in
set_option maxHeartbeats 1000000 in
theorem s_B_out_0 (C : fcx gG D z A X R_B c_C_B_out 2 (some .int)) (hQ : X.2.2.2.2.2.2.2.2.2.2 = eQ gG D z X.2.2.2.2.2.2.2.1 X.2.2.2.2.1 L0 0 0 (pC_i lt_C U oa K T)) (hA : A = owA gG L0 X.2.2.2.2.1.heap.size) (hR : X.2.2.2.1 = { frames := 9, cells := 1, slots := 6, locals := 900 }) (hno : ∀ x ∈ X.2.2.2.2.2.2.2.2.2.1.exceptionTable.toList, False) (hfl : X.2.1.flags = pinnedFlags ++ [noTraceFlag]) (hu : c_cl U u = 1) (x1 : Int32) (S : cs) (hp : p_B_out U u x1 S K T) : aw gG D z A X 2 0 [some (.ref (oa u)), some (.int x1)] [] (cw lt_C U oa S) 0 0 := by
  unfold p_B_out at hp
  refine a_aload_n C dc_B_out_0 rfl rfl ?_
  refine c_getR C u 4 dc_B_out_1 hu rfl rfl (Nat.le_of_ble_eq_true rfl) f_B_38 rfl hp.1 ?_
  have hp := hp.2
  refine a_iload_n C dc_B_out_4 rfl rfl ?_
  have hc1 := hp.1
  have hp := hp.2
  refine c_call (rest := []) (av := .ref (oa (S.2.2 u 4)) :: [.int x1]) C dc_B_out_5 (ct_Ro_has (S.2.2 u 4) x1 S hc1 hp) cd_C_Ro_has i_Ro (Nat.le_of_ble_eq_true rfl) (by rw [hR]; exact Nat.le_of_ble_eq_true rfl) (by rw [hR]; exact Nat.le_of_ble_eq_true rfl) (by rw [hR]; exact Nat.le_of_ble_eq_true rfl) (by rw [hR]; exact Nat.le_of_ble_eq_true rfl) (inv_V C (S.2.2 u 4) dc_B_out_5 l_B_139 im_C_Ro_has se_C_Ro_has cd_C_Ro_has ⟨by decide, by decide⟩ ln_C_Ro_has rfl rfl (cw_obj hc1 rfl) rfl rfl) (fun oc L1 hL => ?_)
  obtain ⟨v5, S5, hp, rfl, rfl⟩ := hL.resolve_right pC_no
  refine ⟨_, rfl, ?_⟩
  refine aw_eq (lo' := _) (st' := [.int v5]) (L' := (cw lt_C U oa S5)) rfl rfl rfl ?_
  refine a_if_ne (tgt := 21) C dc_B_out_8 (by decide) ⟨fun hc => ?_, fun hc => ?_⟩
  · have hp := hp.1 hc
    refine a_aload_n C dc_B_out_21 rfl rfl ?_
    refine c_getR C u 4 dc_B_out_22 hu rfl rfl (Nat.le_of_ble_eq_true rfl) f_B_38 rfl hp.1 ?_
    have hp := hp.2
    have hc2 := hp.1
    have hp := hp.2
    refine c_getRN C (S5.2.2 u 4) 0 dc_B_out_25 hc2 rfl rfl (Nat.le_of_ble_eq_true rfl) f_B_145 rfl hp.1 ?_
    have hp := hp.2
    refine a_iload_n C dc_B_out_28 rfl rfl ?_
    have hc3 := hp.1
    have hp := hp.2
    refine c_iald C (S5.2.2 (S5.2.2 u 4) 0) dc_B_out_29 hc3 hp.1 ?_
    have hp := hp.2
    exact a_iret (ty := .int) C hQ hA dc_B_out_30 rfl rfl (Or.inl ⟨_, S5, hp, rfl, rfl⟩)
  · have hp := hp.2 hc
    exact a_throw (ci := 15) C hQ hA hno hfl dc_B_out_11 dc_B_out_14 dc_B_out_15 dc_B_out_17 dc_B_out_20 x_B_90 rfl rfl y_B_143 i_E15 j_E15 (by decide) z_B_94 (at_E15 _ _) (Nat.le_of_ble_eq_true rfl) (by rw [hR]; exact Nat.le_of_ble_eq_true rfl) (by rw [hR]; exact Nat.le_of_ble_eq_true rfl) (Nat.le_refl _) (Nat.le_refl _) (by rw [hR]; exact Nat.le_of_ble_eq_true rfl) (by rw [hR]; exact Nat.le_of_ble_eq_true rfl) (fun q => Or.inr ⟨15, q, S5, hp, rfl, rfl⟩)
end C_B_out
section C_B_outc
variable {D : va_G} {z : Nat → ClassId} {U : ut} {oa : Nat → Nat}
set_option maxRecDepth 100000 in
theorem ct_B_out {l : Launch} (u : Nat) (x1 : Int32) (S : cs) {K : Int32 → cs → Prop} {T : Nat → cs → Prop} (hfl : l.flags = pinnedFlags ++ [noTraceFlag]) (hu : c_cl U u = 1) (hp : p_B_out U u x1 S K T) : ct gG D z l n_C_B_out c_C_B_out 2 (some .int) 9 900 [.ref (oa u), .int x1] (cw lt_C U oa S) 0 0 (pC_i lt_C U oa K T) := by
  refine ct_of (lo := [some (.ref (oa u)), some (.int x1)]) (by decide) g_ok (Nat.le_of_ble_eq_true rfl) rfl ?_
  intro X A hl C hR hQ hA hno
  exact s_B_out_0 C hQ hA hR hno (by rw [hl]; exact hfl) hu x1 S hp
end C_B_outc
def p_Ro_addFour (U : ut) (u : Nat) (x1 : Int32) (S : cs) (K : cs → Prop) : Prop :=
  p_Ro_addTwo U u (x1 >>> (16 &&& 31 : Int32) : Int32) S (fun S5 => p_Ro_addTwo U u x1 S5 (fun S10 => K S10))
section C_Ro_addFour
variable {D : va_G} {z : Nat → ClassId} {A : Nat → Prop} {X : cx} {L0 : fw} {U : ut} {oa : Nat → Nat} {u : Nat} {K : cs → Prop}
set_option maxRecDepth 100000 in
set_option maxHeartbeats 1000000 in
theorem s_Ro_addFour_0 (C : fcx gG D z A X R_Ro c_C_Ro_addFour 2 (none)) (hQ : X.2.2.2.2.2.2.2.2.2.2 = eQ gG D z X.2.2.2.2.2.2.2.1 X.2.2.2.2.1 L0 0 0 (pC_v lt_C U oa K (fun _ _ => False))) (hA : A = owA gG L0 X.2.2.2.2.1.heap.size) (hR : X.2.2.2.1 = { frames := 3, cells := 1, slots := 6, locals := 300 }) (hu : c_cl U u = 9) (x1 : Int32) (S : cs) (hp : p_Ro_addFour U u x1 S K) : aw gG D z A X 2 0 [some (.ref (oa u)), some (.int x1)] [] (cw lt_C U oa S) 0 0 := by
  unfold p_Ro_addFour at hp
  refine a_aload_n C dc_Ro_addFour_0 rfl rfl ?_
  refine a_iload_n C dc_Ro_addFour_1 rfl rfl ?_
  refine a_bipush (v := 16) C dc_Ro_addFour_2 (by decide) ?_
  refine a_ishr C dc_Ro_addFour_4 ?_
  refine c_call (rest := []) (av := .ref (oa u) :: [.int (x1 >>> (16 &&& 31 : Int32) : Int32)]) C dc_Ro_addFour_5 (ct_Ro_addTwo u (x1 >>> (16 &&& 31 : Int32) : Int32) S hu hp) cd_C_Ro_addTwo i_Ro (Nat.le_of_ble_eq_true rfl) (by rw [hR]; exact Nat.le_of_ble_eq_true rfl) (by rw [hR]; exact Nat.le_of_ble_eq_true rfl) (by rw [hR]; exact Nat.le_of_ble_eq_true rfl) (by rw [hR]; exact Nat.le_of_ble_eq_true rfl) (inv_V C u dc_Ro_addFour_5 l_Ro_27 im_C_Ro_addTwo se_C_Ro_addTwo cd_C_Ro_addTwo ⟨by decide, by decide⟩ ln_C_Ro_addTwo rfl rfl (cw_obj hu rfl) rfl rfl) (fun oc L1 hL => ?_)
  obtain ⟨S5, hp, rfl, rfl⟩ := hL.resolve_right pC_no
  refine ⟨_, rfl, ?_⟩
  refine aw_eq (lo' := _) (st' := []) (L' := (cw lt_C U oa S5)) rfl rfl rfl ?_
  refine a_aload_n C dc_Ro_addFour_8 rfl rfl ?_
  refine a_iload_n C dc_Ro_addFour_9 rfl rfl ?_
  refine c_call (rest := []) (av := .ref (oa u) :: [.int x1]) C dc_Ro_addFour_10 (ct_Ro_addTwo u x1 S5 hu hp) cd_C_Ro_addTwo i_Ro (Nat.le_of_ble_eq_true rfl) (by rw [hR]; exact Nat.le_of_ble_eq_true rfl) (by rw [hR]; exact Nat.le_of_ble_eq_true rfl) (by rw [hR]; exact Nat.le_of_ble_eq_true rfl) (by rw [hR]; exact Nat.le_of_ble_eq_true rfl) (inv_V C u dc_Ro_addFour_10 l_Ro_27 im_C_Ro_addTwo se_C_Ro_addTwo cd_C_Ro_addTwo ⟨by decide, by decide⟩ ln_C_Ro_addTwo rfl rfl (cw_obj hu rfl) rfl rfl) (fun oc L1 hL => ?_)
  obtain ⟨S10, hp, rfl, rfl⟩ := hL.resolve_right pC_no
  refine ⟨_, rfl, ?_⟩
  refine aw_eq (lo' := _) (st' := []) (L' := (cw lt_C U oa S10)) rfl rfl rfl ?_
  exact a_vret C hQ hA dc_Ro_addFour_13 rfl (Or.inl ⟨S10, hp, rfl, rfl⟩)
end C_Ro_addFour
section C_Ro_addFourc
variable {D : va_G} {z : Nat → ClassId} {U : ut} {oa : Nat → Nat}
set_option maxRecDepth 100000 in
theorem ct_Ro_addFour {l : Launch} (u : Nat) (x1 : Int32) (S : cs) {K : cs → Prop} (hu : c_cl U u = 9) (hp : p_Ro_addFour U u x1 S K) : ct gG D z l n_C_Ro_addFour c_C_Ro_addFour 2 (none) 3 300 [.ref (oa u), .int x1] (cw lt_C U oa S) 0 0 (pC_v lt_C U oa K (fun _ _ => False)) := by
  refine ct_of (lo := [some (.ref (oa u)), some (.int x1)]) (by decide) g_ok (Nat.le_of_ble_eq_true rfl) rfl ?_
  intro X A _ C hR hQ hA _
  exact s_Ro_addFour_0 C hQ hA hR hu x1 S hp
end C_Ro_addFourc
def p_B_feed (U : ut) (u : Nat) (x1 : Int32) (x2 : Int32) (x3 : Int32) (x4 : Int32) (x5 : Int32) (S : cs) (K : Int32 → cs → Prop) (T : Nat → cs → Prop) : Prop :=
  ¬ S.2.2 u 6 = NU ∧ (c_cl U (S.2.2 u 6) = 9 ∧ ((((S.1 (S.2.2 u 6) 1) + 20) ≤ 32768 → (¬ S.2.2 u 6 = NU ∧ (p_Ro_addFour U (S.2.2 u 6) x1 S (fun S30 => ¬ S30.2.2 u 6 = NU ∧ (c_cl U (S30.2.2 u 6) = 9 ∧ (p_Ro_addFour U (S30.2.2 u 6) x2 S30 (fun S38 => ¬ S38.2.2 u 6 = NU ∧ (c_cl U (S38.2.2 u 6) = 9 ∧ (p_Ro_addFour U (S38.2.2 u 6) x3 S38 (fun S46 => ¬ S46.2.2 u 6 = NU ∧ (c_cl U (S46.2.2 u 6) = 9 ∧ (p_Ro_addFour U (S46.2.2 u 6) x4 S46 (fun S55 => ¬ S55.2.2 u 6 = NU ∧ (c_cl U (S55.2.2 u 6) = 9 ∧ (p_Ro_addFour U (S55.2.2 u 6) x5 S55 (fun S64 => ¬ S64.2.2 u 6 = NU ∧ (c_cl U (S64.2.2 u 6) = 9 ∧ (K (S64.1 (S64.2.2 u 6) 1) S64)))))))))))))))))) ∧ (¬ (((S.1 (S.2.2 u 6) 1) + 20) ≤ 32768) → (T 13 S))))
section C_B_feed
variable {D : va_G} {z : Nat → ClassId} {A : Nat → Prop} {X : cx} {L0 : fw} {U : ut} {oa : Nat → Nat} {u : Nat} {K : Int32 → cs → Prop} {T : Nat → cs → Prop}
set_option maxRecDepth 100000 in
set_option maxHeartbeats 1000000 in
theorem s_B_feed_0 (C : fcx gG D z A X R_B c_C_B_feed 6 (some .int)) (hQ : X.2.2.2.2.2.2.2.2.2.2 = eQ gG D z X.2.2.2.2.2.2.2.1 X.2.2.2.2.1 L0 0 0 (pC_i lt_C U oa K T)) (hA : A = owA gG L0 X.2.2.2.2.1.heap.size) (hR : X.2.2.2.1 = { frames := 9, cells := 1, slots := 6, locals := 900 }) (hno : ∀ x ∈ X.2.2.2.2.2.2.2.2.2.1.exceptionTable.toList, False) (hfl : X.2.1.flags = pinnedFlags ++ [noTraceFlag]) (hu : c_cl U u = 1) (x1 : Int32) (x2 : Int32) (x3 : Int32) (x4 : Int32) (x5 : Int32) (S : cs) (hp : p_B_feed U u x1 x2 x3 x4 x5 S K T) : aw gG D z A X 6 0 [some (.ref (oa u)), some (.int x1), some (.int x2), some (.int x3), some (.int x4), some (.int x5)] [] (cw lt_C U oa S) 0 0 := by
  unfold p_B_feed at hp
  refine a_aload_n C dc_B_feed_0 rfl rfl ?_
  refine c_getR C u 6 dc_B_feed_1 hu rfl rfl (Nat.le_of_ble_eq_true rfl) f_B_53 rfl hp.1 ?_
  have hp := hp.2
  have hc1 := hp.1
  have hp := hp.2
  refine c_getIN C (S.2.2 u 6) 1 dc_B_feed_4 hc1 rfl rfl (Nat.le_of_ble_eq_true rfl) f_B_134 (Nat.le_of_ble_eq_true rfl) ?_
  refine a_bipush (v := 20) C dc_B_feed_7 (by decide) ?_
  refine a_iadd C dc_B_feed_9 ?_
  refine a_ldc (v := 32768) C dc_B_feed_10 k_B_148 ?_
  refine a_icmp_le (tgt := 25) C dc_B_feed_12 (by decide) ⟨fun hc => ?_, fun hc => ?_⟩
  · have hp := hp.1 hc
    refine a_aload_n C dc_B_feed_25 rfl rfl ?_
    refine c_getR C u 6 dc_B_feed_26 hu rfl rfl (Nat.le_of_ble_eq_true rfl) f_B_53 rfl hp.1 ?_
    have hp := hp.2
    refine a_iload_n C dc_B_feed_29 rfl rfl ?_
    refine c_call (rest := []) (av := .ref (oa (S.2.2 u 6)) :: [.int x1]) C dc_B_feed_30 (ct_Ro_addFour (S.2.2 u 6) x1 S hc1 hp) cd_C_Ro_addFour i_Ro (Nat.le_of_ble_eq_true rfl) (by rw [hR]; exact Nat.le_of_ble_eq_true rfl) (by rw [hR]; exact Nat.le_of_ble_eq_true rfl) (by rw [hR]; exact Nat.le_of_ble_eq_true rfl) (by rw [hR]; exact Nat.le_of_ble_eq_true rfl) (inv_V C (S.2.2 u 6) dc_B_feed_30 l_B_154 im_C_Ro_addFour se_C_Ro_addFour cd_C_Ro_addFour ⟨by decide, by decide⟩ ln_C_Ro_addFour rfl rfl (cw_obj hc1 rfl) rfl rfl) (fun oc L1 hL => ?_)
    obtain ⟨S30, hp, rfl, rfl⟩ := hL.resolve_right pC_no
    refine ⟨_, rfl, ?_⟩
    refine aw_eq (lo' := _) (st' := []) (L' := (cw lt_C U oa S30)) rfl rfl rfl ?_
    refine a_aload_n C dc_B_feed_33 rfl rfl ?_
    refine c_getR C u 6 dc_B_feed_34 hu rfl rfl (Nat.le_of_ble_eq_true rfl) f_B_53 rfl hp.1 ?_
    have hp := hp.2
    refine a_iload_n C dc_B_feed_37 rfl rfl ?_
    have hc2 := hp.1
    have hp := hp.2
    refine c_call (rest := []) (av := .ref (oa (S30.2.2 u 6)) :: [.int x2]) C dc_B_feed_38 (ct_Ro_addFour (S30.2.2 u 6) x2 S30 hc2 hp) cd_C_Ro_addFour i_Ro (Nat.le_of_ble_eq_true rfl) (by rw [hR]; exact Nat.le_of_ble_eq_true rfl) (by rw [hR]; exact Nat.le_of_ble_eq_true rfl) (by rw [hR]; exact Nat.le_of_ble_eq_true rfl) (by rw [hR]; exact Nat.le_of_ble_eq_true rfl) (inv_V C (S30.2.2 u 6) dc_B_feed_38 l_B_154 im_C_Ro_addFour se_C_Ro_addFour cd_C_Ro_addFour ⟨by decide, by decide⟩ ln_C_Ro_addFour rfl rfl (cw_obj hc2 rfl) rfl rfl) (fun oc L1 hL => ?_)
    obtain ⟨S38, hp, rfl, rfl⟩ := hL.resolve_right pC_no
    refine ⟨_, rfl, ?_⟩
    refine aw_eq (lo' := _) (st' := []) (L' := (cw lt_C U oa S38)) rfl rfl rfl ?_
    refine a_aload_n C dc_B_feed_41 rfl rfl ?_
    refine c_getR C u 6 dc_B_feed_42 hu rfl rfl (Nat.le_of_ble_eq_true rfl) f_B_53 rfl hp.1 ?_
    have hp := hp.2
    refine a_iload_n C dc_B_feed_45 rfl rfl ?_
    have hc3 := hp.1
    have hp := hp.2
    refine c_call (rest := []) (av := .ref (oa (S38.2.2 u 6)) :: [.int x3]) C dc_B_feed_46 (ct_Ro_addFour (S38.2.2 u 6) x3 S38 hc3 hp) cd_C_Ro_addFour i_Ro (Nat.le_of_ble_eq_true rfl) (by rw [hR]; exact Nat.le_of_ble_eq_true rfl) (by rw [hR]; exact Nat.le_of_ble_eq_true rfl) (by rw [hR]; exact Nat.le_of_ble_eq_true rfl) (by rw [hR]; exact Nat.le_of_ble_eq_true rfl) (inv_V C (S38.2.2 u 6) dc_B_feed_46 l_B_154 im_C_Ro_addFour se_C_Ro_addFour cd_C_Ro_addFour ⟨by decide, by decide⟩ ln_C_Ro_addFour rfl rfl (cw_obj hc3 rfl) rfl rfl) (fun oc L1 hL => ?_)
    obtain ⟨S46, hp, rfl, rfl⟩ := hL.resolve_right pC_no
    refine ⟨_, rfl, ?_⟩
    refine aw_eq (lo' := _) (st' := []) (L' := (cw lt_C U oa S46)) rfl rfl rfl ?_
    refine a_aload_n C dc_B_feed_49 rfl rfl ?_
    refine c_getR C u 6 dc_B_feed_50 hu rfl rfl (Nat.le_of_ble_eq_true rfl) f_B_53 rfl hp.1 ?_
    have hp := hp.2
    refine a_iload C dc_B_feed_53 rfl ?_
    have hc4 := hp.1
    have hp := hp.2
    refine c_call (rest := []) (av := .ref (oa (S46.2.2 u 6)) :: [.int x4]) C dc_B_feed_55 (ct_Ro_addFour (S46.2.2 u 6) x4 S46 hc4 hp) cd_C_Ro_addFour i_Ro (Nat.le_of_ble_eq_true rfl) (by rw [hR]; exact Nat.le_of_ble_eq_true rfl) (by rw [hR]; exact Nat.le_of_ble_eq_true rfl) (by rw [hR]; exact Nat.le_of_ble_eq_true rfl) (by rw [hR]; exact Nat.le_of_ble_eq_true rfl) (inv_V C (S46.2.2 u 6) dc_B_feed_55 l_B_154 im_C_Ro_addFour se_C_Ro_addFour cd_C_Ro_addFour ⟨by decide, by decide⟩ ln_C_Ro_addFour rfl rfl (cw_obj hc4 rfl) rfl rfl) (fun oc L1 hL => ?_)
    obtain ⟨S55, hp, rfl, rfl⟩ := hL.resolve_right pC_no
    refine ⟨_, rfl, ?_⟩
    refine aw_eq (lo' := _) (st' := []) (L' := (cw lt_C U oa S55)) rfl rfl rfl ?_
    refine a_aload_n C dc_B_feed_58 rfl rfl ?_
    refine c_getR C u 6 dc_B_feed_59 hu rfl rfl (Nat.le_of_ble_eq_true rfl) f_B_53 rfl hp.1 ?_
    have hp := hp.2
    refine a_iload C dc_B_feed_62 rfl ?_
    have hc5 := hp.1
    have hp := hp.2
    refine c_call (rest := []) (av := .ref (oa (S55.2.2 u 6)) :: [.int x5]) C dc_B_feed_64 (ct_Ro_addFour (S55.2.2 u 6) x5 S55 hc5 hp) cd_C_Ro_addFour i_Ro (Nat.le_of_ble_eq_true rfl) (by rw [hR]; exact Nat.le_of_ble_eq_true rfl) (by rw [hR]; exact Nat.le_of_ble_eq_true rfl) (by rw [hR]; exact Nat.le_of_ble_eq_true rfl) (by rw [hR]; exact Nat.le_of_ble_eq_true rfl) (inv_V C (S55.2.2 u 6) dc_B_feed_64 l_B_154 im_C_Ro_addFour se_C_Ro_addFour cd_C_Ro_addFour ⟨by decide, by decide⟩ ln_C_Ro_addFour rfl rfl (cw_obj hc5 rfl) rfl rfl) (fun oc L1 hL => ?_)
    obtain ⟨S64, hp, rfl, rfl⟩ := hL.resolve_right pC_no
    refine ⟨_, rfl, ?_⟩
    refine aw_eq (lo' := _) (st' := []) (L' := (cw lt_C U oa S64)) rfl rfl rfl ?_
    refine a_aload_n C dc_B_feed_67 rfl rfl ?_
    refine c_getR C u 6 dc_B_feed_68 hu rfl rfl (Nat.le_of_ble_eq_true rfl) f_B_53 rfl hp.1 ?_
    have hp := hp.2
    have hc6 := hp.1
    have hp := hp.2
    refine c_getIN C (S64.2.2 u 6) 1 dc_B_feed_71 hc6 rfl rfl (Nat.le_of_ble_eq_true rfl) f_B_134 (Nat.le_of_ble_eq_true rfl) ?_
    exact a_iret (ty := .int) C hQ hA dc_B_feed_74 rfl rfl (Or.inl ⟨_, S64, hp, rfl, rfl⟩)
  · have hp := hp.2 hc
    exact a_throw (ci := 13) C hQ hA hno hfl dc_B_feed_15 dc_B_feed_18 dc_B_feed_19 dc_B_feed_21 dc_B_feed_24 x_B_149 rfl rfl y_B_151 i_E13 j_E13 (by decide) z_B_153 (at_E13 _ _) (Nat.le_of_ble_eq_true rfl) (by rw [hR]; exact Nat.le_of_ble_eq_true rfl) (by rw [hR]; exact Nat.le_of_ble_eq_true rfl) (Nat.le_refl _) (Nat.le_refl _) (by rw [hR]; exact Nat.le_of_ble_eq_true rfl) (by rw [hR]; exact Nat.le_of_ble_eq_true rfl) (fun q => Or.inr ⟨13, q, S, hp, rfl, rfl⟩)
end C_B_feed
section C_B_feedc
variable {D : va_G} {z : Nat → ClassId} {U : ut} {oa : Nat → Nat}
set_option maxRecDepth 100000 in
theorem ct_B_feed {l : Launch} (u : Nat) (x1 : Int32) (x2 : Int32) (x3 : Int32) (x4 : Int32) (x5 : Int32) (S : cs) {K : Int32 → cs → Prop} {T : Nat → cs → Prop} (hfl : l.flags = pinnedFlags ++ [noTraceFlag]) (hu : c_cl U u = 1) (hp : p_B_feed U u x1 x2 x3 x4 x5 S K T) : ct gG D z l n_C_B_feed c_C_B_feed 6 (some .int) 9 900 [.ref (oa u), .int x1, .int x2, .int x3, .int x4, .int x5] (cw lt_C U oa S) 0 0 (pC_i lt_C U oa K T) := by
  refine ct_of (lo := [some (.ref (oa u)), some (.int x1), some (.int x2), some (.int x3), some (.int x4), some (.int x5)]) (by decide) g_ok (Nat.le_of_ble_eq_true rfl) rfl ?_
  intro X A hl C hR hQ hA hno
  exact s_B_feed_0 C hQ hA hR hno (by rw [hl]; exact hfl) hu x1 x2 x3 x4 x5 S hp
end C_B_feedc
def p_B_end (U : ut) (u : Nat) (x1 : Int32) (S : cs) (K : cs → Prop) (T : Nat → cs → Prop) : Prop :=
  ¬ S.2.2 u 6 = NU ∧ (c_cl U (S.2.2 u 6) = 9 ∧ (p_B_isWithin x1 0 (S.1 (S.2.2 u 6) 1) (fun v9 => (¬ v9 = 0 → (¬ S.2.2 u 6 = NU ∧ (K (va_up S.1 (S.2.2 u 6) (upd (S.1 (S.2.2 u 6)) 1 x1), S.2.1, S.2.2)))) ∧ (v9 = 0 → (T 14 S)))))
section C_B_end
variable {D : va_G} {z : Nat → ClassId} {A : Nat → Prop} {X : cx} {L0 : fw} {U : ut} {oa : Nat → Nat} {u : Nat} {K : cs → Prop} {T : Nat → cs → Prop}
set_option maxRecDepth 100000 in
set_option maxHeartbeats 1000000 in
theorem s_B_end_0 (C : fcx gG D z A X R_B c_C_B_end 2 (none)) (hQ : X.2.2.2.2.2.2.2.2.2.2 = eQ gG D z X.2.2.2.2.2.2.2.1 X.2.2.2.2.1 L0 0 0 (pC_v lt_C U oa K T)) (hA : A = owA gG L0 X.2.2.2.2.1.heap.size) (hR : X.2.2.2.1 = { frames := 9, cells := 1, slots := 6, locals := 900 }) (hno : ∀ x ∈ X.2.2.2.2.2.2.2.2.2.1.exceptionTable.toList, False) (hfl : X.2.1.flags = pinnedFlags ++ [noTraceFlag]) (hu : c_cl U u = 1) (x1 : Int32) (S : cs) (hp : p_B_end U u x1 S K T) : aw gG D z A X 2 0 [some (.ref (oa u)), some (.int x1)] [] (cw lt_C U oa S) 0 0 := by
  unfold p_B_end at hp
  refine a_iload_n C dc_B_end_0 rfl rfl ?_
  refine a_iconst (v := 0) C dc_B_end_1 (by decide) ?_
  refine a_aload_n C dc_B_end_2 rfl rfl ?_
  refine c_getR C u 6 dc_B_end_3 hu rfl rfl (Nat.le_of_ble_eq_true rfl) f_B_53 rfl hp.1 ?_
  have hp := hp.2
  have hc1 := hp.1
  have hp := hp.2
  refine c_getIN C (S.2.2 u 6) 1 dc_B_end_6 hc1 rfl rfl (Nat.le_of_ble_eq_true rfl) f_B_134 (Nat.le_of_ble_eq_true rfl) ?_
  refine a_callP (rest := []) (av := [.int x1, .int 0, .int (S.1 (S.2.2 u 6) 1)]) C dc_B_end_9 (ct_B_isWithin x1 0 (S.1 (S.2.2 u 6) 1) hp) cd_C_B_isWithin i_B (Nat.le_of_ble_eq_true rfl) (by rw [hR]; exact Nat.le_of_ble_eq_true rfl) (by rw [hR]; exact Nat.le_of_ble_eq_true rfl) (by rw [hR]; exact Nat.le_of_ble_eq_true rfl) (by rw [hR]; exact Nat.le_of_ble_eq_true rfl) (inv_S C dc_B_end_9 l_B_71 st_C_B_isWithin i_B cd_C_B_isWithin ⟨by decide, by decide⟩ ln_C_B_isWithin rfl) (fun v9 hp => ?_)
  refine aw_eq (lo' := _) (st' := [.int v9]) (L' := (cw lt_C U oa S)) rfl rfl rfl ?_
  refine a_if_ne (tgt := 25) C dc_B_end_12 (by decide) ⟨fun hc => ?_, fun hc => ?_⟩
  · have hp := hp.1 hc
    refine a_aload_n C dc_B_end_25 rfl rfl ?_
    refine c_getR C u 6 dc_B_end_26 hu rfl rfl (Nat.le_of_ble_eq_true rfl) f_B_53 rfl hp.1 ?_
    have hp := hp.2
    refine a_iload_n C dc_B_end_29 rfl rfl ?_
    refine c_putIN (ty := .int) C (S.2.2 u 6) 1 dc_B_end_30 hc1 rfl rfl (Nat.le_of_ble_eq_true rfl) f_B_134 (Nat.le_of_ble_eq_true rfl) rfl rfl rfl rfl ?_
    refine aw_eq (lo' := _) (st' := _) (L' := (cw lt_C U oa (va_up S.1 (S.2.2 u 6) (upd (S.1 (S.2.2 u 6)) 1 x1), S.2.1, S.2.2))) rfl rfl rfl ?_
    exact a_vret C hQ hA dc_B_end_33 rfl (Or.inl ⟨(va_up S.1 (S.2.2 u 6) (upd (S.1 (S.2.2 u 6)) 1 x1), S.2.1, S.2.2), hp, rfl, rfl⟩)
  · have hp := hp.2 hc
    exact a_throw (ci := 14) C hQ hA hno hfl dc_B_end_15 dc_B_end_18 dc_B_end_19 dc_B_end_21 dc_B_end_24 x_B_75 rfl rfl y_B_157 i_E14 j_E14 (by decide) z_B_79 (at_E14 _ _) (Nat.le_of_ble_eq_true rfl) (by rw [hR]; exact Nat.le_of_ble_eq_true rfl) (by rw [hR]; exact Nat.le_of_ble_eq_true rfl) (Nat.le_refl _) (Nat.le_refl _) (by rw [hR]; exact Nat.le_of_ble_eq_true rfl) (by rw [hR]; exact Nat.le_of_ble_eq_true rfl) (fun q => Or.inr ⟨14, q, S, hp, rfl, rfl⟩)
end C_B_end
section C_B_endc
variable {D : va_G} {z : Nat → ClassId} {U : ut} {oa : Nat → Nat}
set_option maxRecDepth 100000 in
theorem ct_B_end {l : Launch} (u : Nat) (x1 : Int32) (S : cs) {K : cs → Prop} {T : Nat → cs → Prop} (hfl : l.flags = pinnedFlags ++ [noTraceFlag]) (hu : c_cl U u = 1) (hp : p_B_end U u x1 S K T) : ct gG D z l n_C_B_end c_C_B_end 2 (none) 9 900 [.ref (oa u), .int x1] (cw lt_C U oa S) 0 0 (pC_v lt_C U oa K T) := by
  refine ct_of (lo := [some (.ref (oa u)), some (.int x1)]) (by decide) g_ok (Nat.le_of_ble_eq_true rfl) rfl ?_
  intro X A hl C hR hQ hA hno
  exact s_B_end_0 C hQ hA hR hno (by rw [hl]; exact hfl) hu x1 S hp
end C_B_endc
def p_B_change (U : ut) (u : Nat) (x1 : Int32) (x2 : Int32) (S : cs) (K : Int32 → cs → Prop) (T : Nat → cs → Prop) : Prop :=
  ¬ S.2.2 u 6 = NU ∧ (c_cl U (S.2.2 u 6) = 9 ∧ (p_Ro_has U (S.2.2 u 6) x1 S (fun v5 S5 => (¬ v5 = 0 → (p_B_isWithin x2 0 255 (fun v26 => (¬ v26 = 0 → (¬ S5.2.2 u 6 = NU ∧ (c_cl U (S5.2.2 u 6) = 9 ∧ (¬ S5.2.2 (S5.2.2 u 6) 0 = NU ∧ (c_cl U (S5.2.2 (S5.2.2 u 6) 0) = 902 ∧ (vp_in x1 (c_ln U (S5.2.2 (S5.2.2 u 6) 0)) ∧ (vp_in x1 (c_ln U (S5.2.2 (S5.2.2 u 6) 0)) ∧ (¬ S5.2.2 u 6 = NU ∧ (¬ S5.2.2 (S5.2.2 u 6) 0 = NU ∧ (vp_in x1 (c_ln U (S5.2.2 (S5.2.2 u 6) 0)) ∧ (K ((va_up S5.1 (S5.2.2 (S5.2.2 u 6) 0) (upd (S5.1 (S5.2.2 (S5.2.2 u 6) 0)) x1.toNatClampNeg ((S5.1 (S5.2.2 (S5.2.2 u 6) 0) x1.toNatClampNeg) ^^^ x2))) (S5.2.2 (S5.2.2 u 6) 0) x1.toNatClampNeg) (va_up S5.1 (S5.2.2 (S5.2.2 u 6) 0) (upd (S5.1 (S5.2.2 (S5.2.2 u 6) 0)) x1.toNatClampNeg ((S5.1 (S5.2.2 (S5.2.2 u 6) 0) x1.toNatClampNeg) ^^^ x2)), S5.2.1, S5.2.2)))))))))))) ∧ (v26 = 0 → (T 14 S5))))) ∧ (v5 = 0 → (T 15 S5)))))
section C_B_change
variable {D : va_G} {z : Nat → ClassId} {A : Nat → Prop} {X : cx} {L0 : fw} {U : ut} {oa : Nat → Nat} {u : Nat} {K : Int32 → cs → Prop} {T : Nat → cs → Prop}
set_option maxRecDepth 100000 in
set_option maxHeartbeats 1000000 in
theorem s_B_change_0 (C : fcx gG D z A X R_B c_C_B_change 3 (some .int)) (hQ : X.2.2.2.2.2.2.2.2.2.2 = eQ gG D z X.2.2.2.2.2.2.2.1 X.2.2.2.2.1 L0 0 0 (pC_i lt_C U oa K T)) (hA : A = owA gG L0 X.2.2.2.2.1.heap.size) (hR : X.2.2.2.1 = { frames := 9, cells := 1, slots := 6, locals := 900 }) (hno : ∀ x ∈ X.2.2.2.2.2.2.2.2.2.1.exceptionTable.toList, False) (hfl : X.2.1.flags = pinnedFlags ++ [noTraceFlag]) (hu : c_cl U u = 1) (x1 : Int32) (x2 : Int32) (S : cs) (hp : p_B_change U u x1 x2 S K T) : aw gG D z A X 3 0 [some (.ref (oa u)), some (.int x1), some (.int x2)] [] (cw lt_C U oa S) 0 0 := by
  unfold p_B_change at hp
  refine a_aload_n C dc_B_change_0 rfl rfl ?_
  refine c_getR C u 6 dc_B_change_1 hu rfl rfl (Nat.le_of_ble_eq_true rfl) f_B_53 rfl hp.1 ?_
  have hp := hp.2
  refine a_iload_n C dc_B_change_4 rfl rfl ?_
  have hc1 := hp.1
  have hp := hp.2
  refine c_call (rest := []) (av := .ref (oa (S.2.2 u 6)) :: [.int x1]) C dc_B_change_5 (ct_Ro_has (S.2.2 u 6) x1 S hc1 hp) cd_C_Ro_has i_Ro (Nat.le_of_ble_eq_true rfl) (by rw [hR]; exact Nat.le_of_ble_eq_true rfl) (by rw [hR]; exact Nat.le_of_ble_eq_true rfl) (by rw [hR]; exact Nat.le_of_ble_eq_true rfl) (by rw [hR]; exact Nat.le_of_ble_eq_true rfl) (inv_V C (S.2.2 u 6) dc_B_change_5 l_B_139 im_C_Ro_has se_C_Ro_has cd_C_Ro_has ⟨by decide, by decide⟩ ln_C_Ro_has rfl rfl (cw_obj hc1 rfl) rfl rfl) (fun oc L1 hL => ?_)
  obtain ⟨v5, S5, hp, rfl, rfl⟩ := hL.resolve_right pC_no
  refine ⟨_, rfl, ?_⟩
  refine aw_eq (lo' := _) (st' := [.int v5]) (L' := (cw lt_C U oa S5)) rfl rfl rfl ?_
  refine a_if_ne (tgt := 21) C dc_B_change_8 (by decide) ⟨fun hc => ?_, fun hc => ?_⟩
  · have hp := hp.1 hc
    refine a_iload_n C dc_B_change_21 rfl rfl ?_
    refine a_iconst (v := 0) C dc_B_change_22 (by decide) ?_
    refine a_sipush (v := 255) C dc_B_change_23 (by decide) ?_
    refine a_callP (rest := []) (av := [.int x2, .int 0, .int 255]) C dc_B_change_26 (ct_B_isWithin x2 0 255 hp) cd_C_B_isWithin i_B (Nat.le_of_ble_eq_true rfl) (by rw [hR]; exact Nat.le_of_ble_eq_true rfl) (by rw [hR]; exact Nat.le_of_ble_eq_true rfl) (by rw [hR]; exact Nat.le_of_ble_eq_true rfl) (by rw [hR]; exact Nat.le_of_ble_eq_true rfl) (inv_S C dc_B_change_26 l_B_71 st_C_B_isWithin i_B cd_C_B_isWithin ⟨by decide, by decide⟩ ln_C_B_isWithin rfl) (fun v26 hp => ?_)
    refine aw_eq (lo' := _) (st' := [.int v26]) (L' := (cw lt_C U oa S5)) rfl rfl rfl ?_
    refine a_if_ne (tgt := 42) C dc_B_change_29 (by decide) ⟨fun hc => ?_, fun hc => ?_⟩
    · have hp := hp.1 hc
      refine a_aload_n C dc_B_change_42 rfl rfl ?_
      refine c_getR C u 6 dc_B_change_43 hu rfl rfl (Nat.le_of_ble_eq_true rfl) f_B_53 rfl hp.1 ?_
      have hp := hp.2
      have hc2 := hp.1
      have hp := hp.2
      refine c_getRN C (S5.2.2 u 6) 0 dc_B_change_46 hc2 rfl rfl (Nat.le_of_ble_eq_true rfl) f_B_145 rfl hp.1 ?_
      have hp := hp.2
      refine a_iload_n C dc_B_change_49 rfl rfl ?_
      refine a_dup2 C dc_B_change_50 rfl rfl ?_
      have hc3 := hp.1
      have hp := hp.2
      refine c_iald C (S5.2.2 (S5.2.2 u 6) 0) dc_B_change_51 hc3 hp.1 ?_
      have hp := hp.2
      refine a_iload_n C dc_B_change_52 rfl rfl ?_
      refine a_ixor C dc_B_change_53 ?_
      refine c_iast C (S5.2.2 (S5.2.2 u 6) 0) dc_B_change_54 hc3 hp.1 ?_
      have hp := hp.2
      refine aw_eq (lo' := _) (st' := _) (L' := (cw lt_C U oa (va_up S5.1 (S5.2.2 (S5.2.2 u 6) 0) (upd (S5.1 (S5.2.2 (S5.2.2 u 6) 0)) x1.toNatClampNeg ((S5.1 (S5.2.2 (S5.2.2 u 6) 0) x1.toNatClampNeg) ^^^ x2)), S5.2.1, S5.2.2))) rfl rfl rfl ?_
      refine a_aload_n C dc_B_change_55 rfl rfl ?_
      refine c_getR C u 6 dc_B_change_56 hu rfl rfl (Nat.le_of_ble_eq_true rfl) f_B_53 rfl hp.1 ?_
      have hp := hp.2
      refine c_getRN C (S5.2.2 u 6) 0 dc_B_change_59 hc2 rfl rfl (Nat.le_of_ble_eq_true rfl) f_B_145 rfl hp.1 ?_
      have hp := hp.2
      refine a_iload_n C dc_B_change_62 rfl rfl ?_
      refine c_iald C (S5.2.2 (S5.2.2 u 6) 0) dc_B_change_63 hc3 hp.1 ?_
      have hp := hp.2
      exact a_iret (ty := .int) C hQ hA dc_B_change_64 rfl rfl (Or.inl ⟨_, (va_up S5.1 (S5.2.2 (S5.2.2 u 6) 0) (upd (S5.1 (S5.2.2 (S5.2.2 u 6) 0)) x1.toNatClampNeg ((S5.1 (S5.2.2 (S5.2.2 u 6) 0) x1.toNatClampNeg) ^^^ x2)), S5.2.1, S5.2.2), hp, rfl, rfl⟩)
    · have hp := hp.2 hc
      exact a_throw (ci := 14) C hQ hA hno hfl dc_B_change_32 dc_B_change_35 dc_B_change_36 dc_B_change_38 dc_B_change_41 x_B_75 rfl rfl y_B_161 i_E14 j_E14 (by decide) z_B_79 (at_E14 _ _) (Nat.le_of_ble_eq_true rfl) (by rw [hR]; exact Nat.le_of_ble_eq_true rfl) (by rw [hR]; exact Nat.le_of_ble_eq_true rfl) (Nat.le_refl _) (Nat.le_refl _) (by rw [hR]; exact Nat.le_of_ble_eq_true rfl) (by rw [hR]; exact Nat.le_of_ble_eq_true rfl) (fun q => Or.inr ⟨14, q, S5, hp, rfl, rfl⟩)
  · have hp := hp.2 hc
    exact a_throw (ci := 15) C hQ hA hno hfl dc_B_change_11 dc_B_change_14 dc_B_change_15 dc_B_change_17 dc_B_change_20 x_B_90 rfl rfl y_B_159 i_E15 j_E15 (by decide) z_B_94 (at_E15 _ _) (Nat.le_of_ble_eq_true rfl) (by rw [hR]; exact Nat.le_of_ble_eq_true rfl) (by rw [hR]; exact Nat.le_of_ble_eq_true rfl) (Nat.le_refl _) (Nat.le_refl _) (by rw [hR]; exact Nat.le_of_ble_eq_true rfl) (by rw [hR]; exact Nat.le_of_ble_eq_true rfl) (fun q => Or.inr ⟨15, q, S5, hp, rfl, rfl⟩)
end C_B_change
section C_B_changec
variable {D : va_G} {z : Nat → ClassId} {U : ut} {oa : Nat → Nat}
set_option maxRecDepth 100000 in
theorem ct_B_change {l : Launch} (u : Nat) (x1 : Int32) (x2 : Int32) (S : cs) {K : Int32 → cs → Prop} {T : Nat → cs → Prop} (hfl : l.flags = pinnedFlags ++ [noTraceFlag]) (hu : c_cl U u = 1) (hp : p_B_change U u x1 x2 S K T) : ct gG D z l n_C_B_change c_C_B_change 3 (some .int) 9 900 [.ref (oa u), .int x1, .int x2] (cw lt_C U oa S) 0 0 (pC_i lt_C U oa K T) := by
  refine ct_of (lo := [some (.ref (oa u)), some (.int x1), some (.int x2)]) (by decide) g_ok (Nat.le_of_ble_eq_true rfl) rfl ?_
  intro X A hl C hR hQ hA hno
  exact s_B_change_0 C hQ hA hR hno (by rw [hl]; exact hfl) hu x1 x2 S hp
end C_B_changec
def b_B_turn_32 (U : ut) (u : Nat) (x1 : Int32) (S : cs) (R32 : Int32 → cs → Prop) (K : Int32 → cs → Prop) (T : Nat → cs → Prop) : Prop :=
  ¬ S.2.2 u 4 = NU ∧ (c_cl U (S.2.2 u 4) = 9 ∧ (((S.1 (S.2.2 u 4) 1) ≤ x1 → (¬ S.2.2 u 6 = NU ∧ (c_cl U (S.2.2 u 6) = 9 ∧ (K (S.1 (S.2.2 u 6) 1) S)))) ∧ (¬ ((S.1 (S.2.2 u 4) 1) ≤ x1) → (¬ S.2.2 u 6 = NU ∧ (¬ S.2.2 u 4 = NU ∧ (¬ S.2.2 (S.2.2 u 4) 0 = NU ∧ (c_cl U (S.2.2 (S.2.2 u 4) 0) = 902 ∧ (vp_in x1 (c_ln U (S.2.2 (S.2.2 u 4) 0)) ∧ (c_cl U (S.2.2 u 6) = 9 ∧ (p_Ro_add U (S.2.2 u 6) (S.1 (S.2.2 (S.2.2 u 4) 0) x1.toNatClampNeg) S (fun S56 => R32 (x1 + 1) S56)))))))))))
def e_B_turn_32 (U : ut) (u : Nat) (x1 : Int32) (S : cs) (K : Int32 → cs → Prop) (T : Nat → cs → Prop) : Prop :=
  ∃ (I : Int32 → cs → Prop) (μ : Int32 → cs → Nat), I x1 S ∧ ∀ yx1 yS, I yx1 yS → b_B_turn_32 U u yx1 yS (fun zx1 zS => I zx1 zS ∧ μ zx1 zS < μ yx1 yS) K T
def p_B_turn (U : ut) (u : Nat)  (S : cs) (K : Int32 → cs → Prop) (T : Nat → cs → Prop) : Prop :=
  ¬ S.2.2 u 4 = NU ∧ (c_cl U (S.2.2 u 4) = 9 ∧ (((S.1 (S.2.2 u 4) 1) ≤ 32768 → (¬ S.2.2 u 6 = NU ∧ (c_cl U (S.2.2 u 6) = 9 ∧ (e_B_turn_32 U u 0 (va_up S.1 (S.2.2 u 6) (upd (S.1 (S.2.2 u 6)) 1 0), S.2.1, S.2.2) K T)))) ∧ (¬ ((S.1 (S.2.2 u 4) 1) ≤ 32768) → (T 13 S))))
section C_B_turn
variable {D : va_G} {z : Nat → ClassId} {A : Nat → Prop} {X : cx} {L0 : fw} {U : ut} {oa : Nat → Nat} {u : Nat} {K : Int32 → cs → Prop} {T : Nat → cs → Prop}
set_option maxRecDepth 100000 in
set_option maxHeartbeats 1000000 in
theorem s_B_turn_32 (C : fcx gG D z A X R_B c_C_B_turn 2 (some .int)) (hQ : X.2.2.2.2.2.2.2.2.2.2 = eQ gG D z X.2.2.2.2.2.2.2.1 X.2.2.2.2.1 L0 0 0 (pC_i lt_C U oa K T)) (hA : A = owA gG L0 X.2.2.2.2.1.heap.size) (hR : X.2.2.2.1 = { frames := 9, cells := 1, slots := 6, locals := 900 }) (hno : ∀ x ∈ X.2.2.2.2.2.2.2.2.2.1.exceptionTable.toList, False) (hfl : X.2.1.flags = pinnedFlags ++ [noTraceFlag]) (hu : c_cl U u = 1) (x1 : Int32) (S : cs) (R32 : Int32 → cs → Prop) (hR32 : ∀ yx1 yS, R32 yx1 yS → aw gG D z A X 2 32 [some (.ref (oa u)), some (.int yx1)] [] (cw lt_C U oa yS) 0 0) (hp : b_B_turn_32 U u x1 S R32 K T) : aw gG D z A X 2 32 [some (.ref (oa u)), some (.int x1)] [] (cw lt_C U oa S) 0 0 := by
  unfold b_B_turn_32 at hp
  refine a_iload_n C dc_B_turn_32 rfl rfl ?_
  refine a_aload_n C dc_B_turn_33 rfl rfl ?_
  refine c_getR C u 4 dc_B_turn_34 hu rfl rfl (Nat.le_of_ble_eq_true rfl) f_B_38 rfl hp.1 ?_
  have hp := hp.2
  have hc1 := hp.1
  have hp := hp.2
  refine c_getIN C (S.2.2 u 4) 1 dc_B_turn_37 hc1 rfl rfl (Nat.le_of_ble_eq_true rfl) f_B_134 (Nat.le_of_ble_eq_true rfl) ?_
  refine a_icmp_ge (tgt := 65) C dc_B_turn_40 (by decide) ⟨fun hc => ?_, fun hc => ?_⟩
  · have hp := hp.1 hc
    refine a_aload_n C dc_B_turn_65 rfl rfl ?_
    refine c_getR C u 6 dc_B_turn_66 hu rfl rfl (Nat.le_of_ble_eq_true rfl) f_B_53 rfl hp.1 ?_
    have hp := hp.2
    have hc2 := hp.1
    have hp := hp.2
    refine c_getIN C (S.2.2 u 6) 1 dc_B_turn_69 hc2 rfl rfl (Nat.le_of_ble_eq_true rfl) f_B_134 (Nat.le_of_ble_eq_true rfl) ?_
    exact a_iret (ty := .int) C hQ hA dc_B_turn_72 rfl rfl (Or.inl ⟨_, S, hp, rfl, rfl⟩)
  · have hp := hp.2 hc
    refine a_aload_n C dc_B_turn_43 rfl rfl ?_
    refine c_getR C u 6 dc_B_turn_44 hu rfl rfl (Nat.le_of_ble_eq_true rfl) f_B_53 rfl hp.1 ?_
    have hp := hp.2
    refine a_aload_n C dc_B_turn_47 rfl rfl ?_
    refine c_getR C u 4 dc_B_turn_48 hu rfl rfl (Nat.le_of_ble_eq_true rfl) f_B_38 rfl hp.1 ?_
    have hp := hp.2
    refine c_getRN C (S.2.2 u 4) 0 dc_B_turn_51 hc1 rfl rfl (Nat.le_of_ble_eq_true rfl) f_B_145 rfl hp.1 ?_
    have hp := hp.2
    refine a_iload_n C dc_B_turn_54 rfl rfl ?_
    have hc3 := hp.1
    have hp := hp.2
    refine c_iald C (S.2.2 (S.2.2 u 4) 0) dc_B_turn_55 hc3 hp.1 ?_
    have hp := hp.2
    have hc4 := hp.1
    have hp := hp.2
    refine c_call (rest := []) (av := .ref (oa (S.2.2 u 6)) :: [.int (S.1 (S.2.2 (S.2.2 u 4) 0) x1.toNatClampNeg)]) C dc_B_turn_56 (ct_Ro_add (S.2.2 u 6) (S.1 (S.2.2 (S.2.2 u 4) 0) x1.toNatClampNeg) S hc4 hp) cd_C_Ro_add i_Ro (Nat.le_of_ble_eq_true rfl) (by rw [hR]; exact Nat.le_of_ble_eq_true rfl) (by rw [hR]; exact Nat.le_of_ble_eq_true rfl) (by rw [hR]; exact Nat.le_of_ble_eq_true rfl) (by rw [hR]; exact Nat.le_of_ble_eq_true rfl) (inv_V C (S.2.2 u 6) dc_B_turn_56 l_B_165 im_C_Ro_add se_C_Ro_add cd_C_Ro_add ⟨by decide, by decide⟩ ln_C_Ro_add rfl rfl (cw_obj hc4 rfl) rfl rfl) (fun oc L1 hL => ?_)
    obtain ⟨S56, hp, rfl, rfl⟩ := hL.resolve_right pC_no
    refine ⟨_, rfl, ?_⟩
    refine aw_eq (lo' := _) (st' := []) (L' := (cw lt_C U oa S56)) rfl rfl rfl ?_
    refine a_iinc (v := x1 + 1) (lo' := [some (.ref (oa u)), some (.int (x1 + 1))]) C dc_B_turn_59 rfl rfl (by decide) rfl ?_
    refine a_goto (tgt := 32) C dc_B_turn_62 (by decide) ?_
    refine aw_lo (lo' := [some (.ref (oa u)), some (.int (x1 + 1))]) ⟨.inr rfl, .inr rfl, trivial⟩ ?_
    exact hR32 (x1 + 1) S56 hp
set_option maxRecDepth 100000 in
set_option maxHeartbeats 1000000 in
theorem se_B_turn_32 (C : fcx gG D z A X R_B c_C_B_turn 2 (some .int)) (hQ : X.2.2.2.2.2.2.2.2.2.2 = eQ gG D z X.2.2.2.2.2.2.2.1 X.2.2.2.2.1 L0 0 0 (pC_i lt_C U oa K T)) (hA : A = owA gG L0 X.2.2.2.2.1.heap.size) (hR : X.2.2.2.1 = { frames := 9, cells := 1, slots := 6, locals := 900 }) (hno : ∀ x ∈ X.2.2.2.2.2.2.2.2.2.1.exceptionTable.toList, False) (hfl : X.2.1.flags = pinnedFlags ++ [noTraceFlag]) (hu : c_cl U u = 1) (x1 : Int32) (S : cs) (hp : e_B_turn_32 U u x1 S K T) : aw gG D z A X 2 32 [some (.ref (oa u)), some (.int x1)] [] (cw lt_C U oa S) 0 0 := by
  obtain ⟨I, μ, h0, hs⟩ := hp
  have key : ∀ (n : Nat) (yx1 : Int32) (yS : cs), μ yx1 yS < n → I yx1 yS → aw gG D z A X 2 32 [some (.ref (oa u)), some (.int yx1)] [] (cw lt_C U oa yS) 0 0 := by
    intro n
    induction n with
    | zero => intro yx1 yS h; omega
    | succ n ih =>
      intro yx1 yS hn hI
      exact s_B_turn_32 C hQ hA hR hno hfl hu yx1 yS _ (fun zx1 zS hw => ih zx1 zS (by omega) hw.1) (hs yx1 yS hI)
  exact key (μ x1 S + 1) x1 S (Nat.lt_succ_self _) h0
set_option maxRecDepth 100000 in
set_option maxHeartbeats 1000000 in
theorem s_B_turn_0 (C : fcx gG D z A X R_B c_C_B_turn 2 (some .int)) (hQ : X.2.2.2.2.2.2.2.2.2.2 = eQ gG D z X.2.2.2.2.2.2.2.1 X.2.2.2.2.1 L0 0 0 (pC_i lt_C U oa K T)) (hA : A = owA gG L0 X.2.2.2.2.1.heap.size) (hR : X.2.2.2.1 = { frames := 9, cells := 1, slots := 6, locals := 900 }) (hno : ∀ x ∈ X.2.2.2.2.2.2.2.2.2.1.exceptionTable.toList, False) (hfl : X.2.1.flags = pinnedFlags ++ [noTraceFlag]) (hu : c_cl U u = 1)  (S : cs) (hp : p_B_turn U u S K T) : aw gG D z A X 2 0 [some (.ref (oa u)), none] [] (cw lt_C U oa S) 0 0 := by
  unfold p_B_turn at hp
  refine a_aload_n C dc_B_turn_0 rfl rfl ?_
  refine c_getR C u 4 dc_B_turn_1 hu rfl rfl (Nat.le_of_ble_eq_true rfl) f_B_38 rfl hp.1 ?_
  have hp := hp.2
  have hc5 := hp.1
  have hp := hp.2
  refine c_getIN C (S.2.2 u 4) 1 dc_B_turn_4 hc5 rfl rfl (Nat.le_of_ble_eq_true rfl) f_B_134 (Nat.le_of_ble_eq_true rfl) ?_
  refine a_ldc (v := 32768) C dc_B_turn_7 k_B_148 ?_
  refine a_icmp_le (tgt := 22) C dc_B_turn_9 (by decide) ⟨fun hc => ?_, fun hc => ?_⟩
  · have hp := hp.1 hc
    refine a_aload_n C dc_B_turn_22 rfl rfl ?_
    refine c_getR C u 6 dc_B_turn_23 hu rfl rfl (Nat.le_of_ble_eq_true rfl) f_B_53 rfl hp.1 ?_
    have hp := hp.2
    refine a_iconst (v := 0) C dc_B_turn_26 (by decide) ?_
    have hc6 := hp.1
    have hp := hp.2
    refine c_putIN (ty := .int) C (S.2.2 u 6) 1 dc_B_turn_27 hc6 rfl rfl (Nat.le_of_ble_eq_true rfl) f_B_134 (Nat.le_of_ble_eq_true rfl) rfl rfl rfl rfl ?_
    refine aw_eq (lo' := _) (st' := _) (L' := (cw lt_C U oa (va_up S.1 (S.2.2 u 6) (upd (S.1 (S.2.2 u 6)) 1 0), S.2.1, S.2.2))) rfl rfl rfl ?_
    refine a_iconst (v := 0) C dc_B_turn_30 (by decide) ?_
    refine a_istore_n (lo' := [some (.ref (oa u)), some (.int 0)]) C dc_B_turn_31 rfl (by decide) rfl ?_
    refine aw_lo (lo' := [some (.ref (oa u)), some (.int 0)]) ⟨.inr rfl, .inr rfl, trivial⟩ ?_
    exact se_B_turn_32 C hQ hA hR hno hfl hu 0 (va_up S.1 (S.2.2 u 6) (upd (S.1 (S.2.2 u 6)) 1 0), S.2.1, S.2.2)  hp
  · have hp := hp.2 hc
    exact a_throw (ci := 13) C hQ hA hno hfl dc_B_turn_12 dc_B_turn_15 dc_B_turn_16 dc_B_turn_18 dc_B_turn_21 x_B_149 rfl rfl y_B_163 i_E13 j_E13 (by decide) z_B_153 (at_E13 _ _) (Nat.le_of_ble_eq_true rfl) (by rw [hR]; exact Nat.le_of_ble_eq_true rfl) (by rw [hR]; exact Nat.le_of_ble_eq_true rfl) (Nat.le_refl _) (Nat.le_refl _) (by rw [hR]; exact Nat.le_of_ble_eq_true rfl) (by rw [hR]; exact Nat.le_of_ble_eq_true rfl) (fun q => Or.inr ⟨13, q, S, hp, rfl, rfl⟩)
end C_B_turn
section C_B_turnc
variable {D : va_G} {z : Nat → ClassId} {U : ut} {oa : Nat → Nat}
set_option maxRecDepth 100000 in
theorem ct_B_turn {l : Launch} (u : Nat)  (S : cs) {K : Int32 → cs → Prop} {T : Nat → cs → Prop} (hfl : l.flags = pinnedFlags ++ [noTraceFlag]) (hu : c_cl U u = 1) (hp : p_B_turn U u S K T) : ct gG D z l n_C_B_turn c_C_B_turn 2 (some .int) 9 900 [.ref (oa u)] (cw lt_C U oa S) 0 0 (pC_i lt_C U oa K T) := by
  refine ct_of (lo := [some (.ref (oa u)), none]) (by decide) g_ok (Nat.le_of_ble_eq_true rfl) rfl ?_
  intro X A hl C hR hQ hA hno
  exact s_B_turn_0 C hQ hA hR hno (by rw [hl]; exact hfl) hu S hp
end C_B_turnc
def b_Un_begin_20 (U : ut) (u : Nat) (x1 : Int32) (S : cs) (R20 : Int32 → cs → Prop) (K : cs → Prop) : Prop :=
  (4 ≤ x1 → (K S)) ∧ (¬ (4 ≤ x1) → (¬ S.2.2 u 4 = NU ∧ (c_cl U (S.2.2 u 4) = 903 ∧ (vp_in x1 (c_ln U (S.2.2 u 4)) ∧ (¬ S.2.2 u 5 = NU ∧ (c_cl U (S.2.2 u 5) = 951 ∧ (vp_in x1 (c_ln U (S.2.2 u 5)) ∧ ¬ S.2.2 (S.2.2 u 5) x1.toNatClampNeg = NU ∧ (c_cl U (S.2.2 (S.2.2 u 5) x1.toNatClampNeg) = 3 ∧ (R20 (x1 + 1) (va_up (va_up S.1 (S.2.2 u 4) (upd (S.1 (S.2.2 u 4)) x1.toNatClampNeg (vp_nar .boolean 0))) (S.2.2 (S.2.2 u 5) x1.toNatClampNeg) (upd ((va_up S.1 (S.2.2 u 4) (upd (S.1 (S.2.2 u 4)) x1.toNatClampNeg (vp_nar .boolean 0))) (S.2.2 (S.2.2 u 5) x1.toNatClampNeg)) 0 0), S.2.1, S.2.2))))))))))
def e_Un_begin_20 (U : ut) (u : Nat) (x1 : Int32) (S : cs) (K : cs → Prop) : Prop :=
  ∃ (I : Int32 → cs → Prop) (μ : Int32 → cs → Nat), I x1 S ∧ ∀ yx1 yS, I yx1 yS → b_Un_begin_20 U u yx1 yS (fun zx1 zS => I zx1 zS ∧ μ zx1 zS < μ yx1 yS) K
def p_Un_begin (U : ut) (u : Nat)  (S : cs) (K : cs → Prop) : Prop :=
  ¬ S.2.2 u 0 = NU ∧ (c_cl U (S.2.2 u 0) = 8 ∧ (e_Un_begin_20 U u 0 (va_up (va_up (va_up S.1 (S.2.2 u 0) (upd (S.1 (S.2.2 u 0)) 1 0)) u (upd ((va_up S.1 (S.2.2 u 0) (upd (S.1 (S.2.2 u 0)) 1 0)) u) 6 0)) u (upd ((va_up (va_up S.1 (S.2.2 u 0) (upd (S.1 (S.2.2 u 0)) 1 0)) u (upd ((va_up S.1 (S.2.2 u 0) (upd (S.1 (S.2.2 u 0)) 1 0)) u) 6 0)) u) 11 0), S.2.1, S.2.2) K))
section C_Un_begin
variable {D : va_G} {z : Nat → ClassId} {A : Nat → Prop} {X : cx} {L0 : fw} {U : ut} {oa : Nat → Nat} {u : Nat} {K : cs → Prop}
set_option maxRecDepth 100000 in
set_option maxHeartbeats 1000000 in
theorem s_Un_begin_20 (C : fcx gG D z A X R_Un c_C_Un_begin 2 (none)) (hQ : X.2.2.2.2.2.2.2.2.2.2 = eQ gG D z X.2.2.2.2.2.2.2.1 X.2.2.2.2.1 L0 0 0 (pC_v lt_C U oa K (fun _ _ => False))) (hA : A = owA gG L0 X.2.2.2.2.1.heap.size) (hR : X.2.2.2.1 = { frames := 1, cells := 1, slots := 6, locals := 100 }) (hu : c_cl U u = 11) (x1 : Int32) (S : cs) (R20 : Int32 → cs → Prop) (hR20 : ∀ yx1 yS, R20 yx1 yS → aw gG D z A X 2 20 [some (.ref (oa u)), some (.int yx1)] [] (cw lt_C U oa yS) 0 0) (hp : b_Un_begin_20 U u x1 S R20 K) : aw gG D z A X 2 20 [some (.ref (oa u)), some (.int x1)] [] (cw lt_C U oa S) 0 0 := by
  unfold b_Un_begin_20 at hp
  refine a_iload_n C dc_Un_begin_20 rfl rfl ?_
  refine a_iconst (v := 4) C dc_Un_begin_21 (by decide) ?_
  refine a_icmp_ge (tgt := 48) C dc_Un_begin_22 (by decide) ⟨fun hc => ?_, fun hc => ?_⟩
  · have hp := hp.1 hc
    exact a_vret C hQ hA dc_Un_begin_48 rfl (Or.inl ⟨S, hp, rfl, rfl⟩)
  · have hp := hp.2 hc
    refine a_aload_n C dc_Un_begin_25 rfl rfl ?_
    refine c_getR C u 4 dc_Un_begin_26 hu rfl rfl (Nat.le_of_ble_eq_true rfl) f_Un_36 rfl hp.1 ?_
    have hp := hp.2
    refine a_iload_n C dc_Un_begin_29 rfl rfl ?_
    refine a_iconst (v := 0) C dc_Un_begin_30 (by decide) ?_
    have hc1 := hp.1
    have hp := hp.2
    refine c_zast C (S.2.2 u 4) dc_Un_begin_31 hc1 hp.1 ?_
    have hp := hp.2
    refine aw_eq (lo' := _) (st' := _) (L' := (cw lt_C U oa (va_up S.1 (S.2.2 u 4) (upd (S.1 (S.2.2 u 4)) x1.toNatClampNeg (vp_nar .boolean 0)), S.2.1, S.2.2))) rfl rfl rfl ?_
    refine a_aload_n C dc_Un_begin_32 rfl rfl ?_
    refine c_getR C u 5 dc_Un_begin_33 hu rfl rfl (Nat.le_of_ble_eq_true rfl) f_Un_43 rfl hp.1 ?_
    have hp := hp.2
    refine a_iload_n C dc_Un_begin_36 rfl rfl ?_
    have hc2 := hp.1
    have hp := hp.2
    refine c_aald C (S.2.2 u 5) 1 dc_Un_begin_37 hc2 rfl (by decide) rfl hp.1 hp.2.1 ?_
    have hp := hp.2.2
    refine a_iconst (v := 0) C dc_Un_begin_38 (by decide) ?_
    have hc3 := hp.1
    have hp := hp.2
    refine c_putIN (ty := .boolean) C (S.2.2 (S.2.2 u 5) x1.toNatClampNeg) 0 dc_Un_begin_39 hc3 rfl rfl (Nat.le_of_ble_eq_true rfl) f_Un_105 (Nat.le_of_ble_eq_true rfl) rfl rfl rfl rfl ?_
    refine aw_eq (lo' := _) (st' := _) (L' := (cw lt_C U oa (va_up (va_up S.1 (S.2.2 u 4) (upd (S.1 (S.2.2 u 4)) x1.toNatClampNeg (vp_nar .boolean 0))) (S.2.2 (S.2.2 u 5) x1.toNatClampNeg) (upd ((va_up S.1 (S.2.2 u 4) (upd (S.1 (S.2.2 u 4)) x1.toNatClampNeg (vp_nar .boolean 0))) (S.2.2 (S.2.2 u 5) x1.toNatClampNeg)) 0 0), S.2.1, S.2.2))) rfl rfl rfl ?_
    refine a_iinc (v := x1 + 1) (lo' := [some (.ref (oa u)), some (.int (x1 + 1))]) C dc_Un_begin_42 rfl rfl (by decide) rfl ?_
    refine a_goto (tgt := 20) C dc_Un_begin_45 (by decide) ?_
    refine aw_lo (lo' := [some (.ref (oa u)), some (.int (x1 + 1))]) ⟨.inr rfl, .inr rfl, trivial⟩ ?_
    exact hR20 (x1 + 1) (va_up (va_up S.1 (S.2.2 u 4) (upd (S.1 (S.2.2 u 4)) x1.toNatClampNeg (vp_nar .boolean 0))) (S.2.2 (S.2.2 u 5) x1.toNatClampNeg) (upd ((va_up S.1 (S.2.2 u 4) (upd (S.1 (S.2.2 u 4)) x1.toNatClampNeg (vp_nar .boolean 0))) (S.2.2 (S.2.2 u 5) x1.toNatClampNeg)) 0 0), S.2.1, S.2.2) hp
set_option maxRecDepth 100000 in
set_option maxHeartbeats 1000000 in
theorem se_Un_begin_20 (C : fcx gG D z A X R_Un c_C_Un_begin 2 (none)) (hQ : X.2.2.2.2.2.2.2.2.2.2 = eQ gG D z X.2.2.2.2.2.2.2.1 X.2.2.2.2.1 L0 0 0 (pC_v lt_C U oa K (fun _ _ => False))) (hA : A = owA gG L0 X.2.2.2.2.1.heap.size) (hR : X.2.2.2.1 = { frames := 1, cells := 1, slots := 6, locals := 100 }) (hu : c_cl U u = 11) (x1 : Int32) (S : cs) (hp : e_Un_begin_20 U u x1 S K) : aw gG D z A X 2 20 [some (.ref (oa u)), some (.int x1)] [] (cw lt_C U oa S) 0 0 := by
  obtain ⟨I, μ, h0, hs⟩ := hp
  have key : ∀ (n : Nat) (yx1 : Int32) (yS : cs), μ yx1 yS < n → I yx1 yS → aw gG D z A X 2 20 [some (.ref (oa u)), some (.int yx1)] [] (cw lt_C U oa yS) 0 0 := by
    intro n
    induction n with
    | zero => intro yx1 yS h; omega
    | succ n ih =>
      intro yx1 yS hn hI
      exact s_Un_begin_20 C hQ hA hR hu yx1 yS _ (fun zx1 zS hw => ih zx1 zS (by omega) hw.1) (hs yx1 yS hI)
  exact key (μ x1 S + 1) x1 S (Nat.lt_succ_self _) h0
set_option maxRecDepth 100000 in
set_option maxHeartbeats 1000000 in
theorem s_Un_begin_0 (C : fcx gG D z A X R_Un c_C_Un_begin 2 (none)) (hQ : X.2.2.2.2.2.2.2.2.2.2 = eQ gG D z X.2.2.2.2.2.2.2.1 X.2.2.2.2.1 L0 0 0 (pC_v lt_C U oa K (fun _ _ => False))) (hA : A = owA gG L0 X.2.2.2.2.1.heap.size) (hR : X.2.2.2.1 = { frames := 1, cells := 1, slots := 6, locals := 100 }) (hu : c_cl U u = 11)  (S : cs) (hp : p_Un_begin U u S K) : aw gG D z A X 2 0 [some (.ref (oa u)), none] [] (cw lt_C U oa S) 0 0 := by
  unfold p_Un_begin at hp
  refine a_aload_n C dc_Un_begin_0 rfl rfl ?_
  refine c_getR C u 0 dc_Un_begin_1 hu rfl rfl (Nat.le_of_ble_eq_true rfl) f_Un_12 rfl hp.1 ?_
  have hp := hp.2
  refine a_iconst (v := 0) C dc_Un_begin_4 (by decide) ?_
  have hc4 := hp.1
  have hp := hp.2
  refine c_putIN (ty := .int) C (S.2.2 u 0) 1 dc_Un_begin_5 hc4 rfl rfl (Nat.le_of_ble_eq_true rfl) f_Un_70 (Nat.le_of_ble_eq_true rfl) rfl rfl rfl rfl ?_
  refine aw_eq (lo' := _) (st' := _) (L' := (cw lt_C U oa (va_up S.1 (S.2.2 u 0) (upd (S.1 (S.2.2 u 0)) 1 0), S.2.1, S.2.2))) rfl rfl rfl ?_
  refine a_aload_n C dc_Un_begin_8 rfl rfl ?_
  refine a_iconst (v := 0) C dc_Un_begin_9 (by decide) ?_
  refine c_putI (ty := .boolean) C u 6 dc_Un_begin_10 hu rfl rfl (Nat.le_of_ble_eq_true rfl) f_Un_99 (Nat.le_of_ble_eq_true rfl) rfl rfl rfl rfl ?_
  refine aw_eq (lo' := _) (st' := _) (L' := (cw lt_C U oa (va_up (va_up S.1 (S.2.2 u 0) (upd (S.1 (S.2.2 u 0)) 1 0)) u (upd ((va_up S.1 (S.2.2 u 0) (upd (S.1 (S.2.2 u 0)) 1 0)) u) 6 0), S.2.1, S.2.2))) rfl rfl rfl ?_
  refine a_aload_n C dc_Un_begin_13 rfl rfl ?_
  refine a_iconst (v := 0) C dc_Un_begin_14 (by decide) ?_
  refine c_putI (ty := .int) C u 11 dc_Un_begin_15 hu rfl rfl (Nat.le_of_ble_eq_true rfl) f_Un_102 (Nat.le_of_ble_eq_true rfl) rfl rfl rfl rfl ?_
  refine aw_eq (lo' := _) (st' := _) (L' := (cw lt_C U oa (va_up (va_up (va_up S.1 (S.2.2 u 0) (upd (S.1 (S.2.2 u 0)) 1 0)) u (upd ((va_up S.1 (S.2.2 u 0) (upd (S.1 (S.2.2 u 0)) 1 0)) u) 6 0)) u (upd ((va_up (va_up S.1 (S.2.2 u 0) (upd (S.1 (S.2.2 u 0)) 1 0)) u (upd ((va_up S.1 (S.2.2 u 0) (upd (S.1 (S.2.2 u 0)) 1 0)) u) 6 0)) u) 11 0), S.2.1, S.2.2))) rfl rfl rfl ?_
  refine a_iconst (v := 0) C dc_Un_begin_18 (by decide) ?_
  refine a_istore_n (lo' := [some (.ref (oa u)), some (.int 0)]) C dc_Un_begin_19 rfl (by decide) rfl ?_
  refine aw_lo (lo' := [some (.ref (oa u)), some (.int 0)]) ⟨.inr rfl, .inr rfl, trivial⟩ ?_
  exact se_Un_begin_20 C hQ hA hR hu 0 (va_up (va_up (va_up S.1 (S.2.2 u 0) (upd (S.1 (S.2.2 u 0)) 1 0)) u (upd ((va_up S.1 (S.2.2 u 0) (upd (S.1 (S.2.2 u 0)) 1 0)) u) 6 0)) u (upd ((va_up (va_up S.1 (S.2.2 u 0) (upd (S.1 (S.2.2 u 0)) 1 0)) u (upd ((va_up S.1 (S.2.2 u 0) (upd (S.1 (S.2.2 u 0)) 1 0)) u) 6 0)) u) 11 0), S.2.1, S.2.2)  hp
end C_Un_begin
section C_Un_beginc
variable {D : va_G} {z : Nat → ClassId} {U : ut} {oa : Nat → Nat}
set_option maxRecDepth 100000 in
theorem ct_Un_begin {l : Launch} (u : Nat)  (S : cs) {K : cs → Prop} (hu : c_cl U u = 11) (hp : p_Un_begin U u S K) : ct gG D z l n_C_Un_begin c_C_Un_begin 2 (none) 1 100 [.ref (oa u)] (cw lt_C U oa S) 0 0 (pC_v lt_C U oa K (fun _ _ => False)) := by
  refine ct_of (lo := [some (.ref (oa u)), none]) (by decide) g_ok (Nat.le_of_ble_eq_true rfl) rfl ?_
  intro X A _ C hR hQ hA _
  exact s_Un_begin_0 C hQ hA hR hu S hp
end C_Un_beginc
def p_Re_read (U : ut) (u : Nat)  (S : cs) (K : Int32 → cs → Prop) (T : Nat → cs → Prop) : Prop :=
  ¬ S.2.2 u 0 = NU ∧ (c_cl U (S.2.2 u 0) = 9 ∧ (((S.1 u 1) < (S.1 (S.2.2 u 0) 1) → (¬ S.2.2 u 0 = NU ∧ (¬ S.2.2 (S.2.2 u 0) 0 = NU ∧ (c_cl U (S.2.2 (S.2.2 u 0) 0) = 902 ∧ (vp_in (S.1 u 1) (c_ln U (S.2.2 (S.2.2 u 0) 0)) ∧ (K (S.1 (S.2.2 (S.2.2 u 0) 0) (S.1 u 1).toNatClampNeg) (va_up S.1 u (upd (S.1 u) 1 ((S.1 u 1) + 1)), S.2.1, S.2.2))))))) ∧ (¬ ((S.1 u 1) < (S.1 (S.2.2 u 0) 1)) → (¬ S.2.2 u 0 = NU ∧ (T 13 (va_up (va_up S.1 u (upd (S.1 u) 6 1)) u (upd ((va_up S.1 u (upd (S.1 u) 6 1)) u) 7 ((va_up S.1 u (upd (S.1 u) 6 1)) (S.2.2 u 0) 1)), S.2.1, S.2.2))))))
section C_Re_read
variable {D : va_G} {z : Nat → ClassId} {A : Nat → Prop} {X : cx} {L0 : fw} {U : ut} {oa : Nat → Nat} {u : Nat} {K : Int32 → cs → Prop} {T : Nat → cs → Prop}
set_option maxRecDepth 100000 in
set_option maxHeartbeats 1000000 in
theorem s_Re_read_0 (C : fcx gG D z A X R_Re c_C_Re_read 2 (some .int)) (hQ : X.2.2.2.2.2.2.2.2.2.2 = eQ gG D z X.2.2.2.2.2.2.2.1 X.2.2.2.2.1 L0 0 0 (pC_i lt_C U oa K T)) (hA : A = owA gG L0 X.2.2.2.2.1.heap.size) (hR : X.2.2.2.1 = { frames := 9, cells := 1, slots := 6, locals := 900 }) (hno : ∀ x ∈ X.2.2.2.2.2.2.2.2.2.1.exceptionTable.toList, False) (hfl : X.2.1.flags = pinnedFlags ++ [noTraceFlag]) (hu : c_cl U u = 8)  (S : cs) (hp : p_Re_read U u S K T) : aw gG D z A X 2 0 [some (.ref (oa u)), none] [] (cw lt_C U oa S) 0 0 := by
  unfold p_Re_read at hp
  refine a_aload_n C dc_Re_read_0 rfl rfl ?_
  refine c_getI C u 1 dc_Re_read_1 hu rfl rfl (Nat.le_of_ble_eq_true rfl) f_Re_35 (Nat.le_of_ble_eq_true rfl) ?_
  refine a_aload_n C dc_Re_read_4 rfl rfl ?_
  refine c_getR C u 0 dc_Re_read_5 hu rfl rfl (Nat.le_of_ble_eq_true rfl) f_Re_15 rfl hp.1 ?_
  have hp := hp.2
  have hc1 := hp.1
  have hp := hp.2
  refine c_getIN C (S.2.2 u 0) 1 dc_Re_read_8 hc1 rfl rfl (Nat.le_of_ble_eq_true rfl) f_Re_38 (Nat.le_of_ble_eq_true rfl) ?_
  refine a_icmp_lt (tgt := 40) C dc_Re_read_11 (by decide) ⟨fun hc => ?_, fun hc => ?_⟩
  · have hp := hp.1 hc
    refine a_aload_n C dc_Re_read_40 rfl rfl ?_
    refine c_getR C u 0 dc_Re_read_41 hu rfl rfl (Nat.le_of_ble_eq_true rfl) f_Re_15 rfl hp.1 ?_
    have hp := hp.2
    refine c_getRN C (S.2.2 u 0) 0 dc_Re_read_44 hc1 rfl rfl (Nat.le_of_ble_eq_true rfl) f_Re_43 rfl hp.1 ?_
    have hp := hp.2
    refine a_aload_n C dc_Re_read_47 rfl rfl ?_
    refine c_getI C u 1 dc_Re_read_48 hu rfl rfl (Nat.le_of_ble_eq_true rfl) f_Re_35 (Nat.le_of_ble_eq_true rfl) ?_
    have hc2 := hp.1
    have hp := hp.2
    refine c_iald C (S.2.2 (S.2.2 u 0) 0) dc_Re_read_51 hc2 hp.1 ?_
    have hp := hp.2
    refine a_istore_n (lo' := [some (.ref (oa u)), some (.int (S.1 (S.2.2 (S.2.2 u 0) 0) (S.1 u 1).toNatClampNeg))]) C dc_Re_read_52 rfl (by decide) rfl ?_
    refine a_aload_n C dc_Re_read_53 rfl rfl ?_
    refine a_dup C dc_Re_read_54 rfl ?_
    refine c_getI C u 1 dc_Re_read_55 hu rfl rfl (Nat.le_of_ble_eq_true rfl) f_Re_35 (Nat.le_of_ble_eq_true rfl) ?_
    refine a_iconst (v := 1) C dc_Re_read_58 (by decide) ?_
    refine a_iadd C dc_Re_read_59 ?_
    refine c_putI (ty := .int) C u 1 dc_Re_read_60 hu rfl rfl (Nat.le_of_ble_eq_true rfl) f_Re_35 (Nat.le_of_ble_eq_true rfl) rfl rfl rfl rfl ?_
    refine aw_eq (lo' := _) (st' := _) (L' := (cw lt_C U oa (va_up S.1 u (upd (S.1 u) 1 ((S.1 u 1) + 1)), S.2.1, S.2.2))) rfl rfl rfl ?_
    refine a_iload_n C dc_Re_read_63 rfl rfl ?_
    exact a_iret (ty := .int) C hQ hA dc_Re_read_64 rfl rfl (Or.inl ⟨_, (va_up S.1 u (upd (S.1 u) 1 ((S.1 u 1) + 1)), S.2.1, S.2.2), hp, rfl, rfl⟩)
  · have hp := hp.2 hc
    refine a_aload_n C dc_Re_read_14 rfl rfl ?_
    refine a_iconst (v := 1) C dc_Re_read_15 (by decide) ?_
    refine c_putI (ty := .int) C u 6 dc_Re_read_16 hu rfl rfl (Nat.le_of_ble_eq_true rfl) f_Re_21 (Nat.le_of_ble_eq_true rfl) rfl rfl rfl rfl ?_
    refine aw_eq (lo' := _) (st' := _) (L' := (cw lt_C U oa (va_up S.1 u (upd (S.1 u) 6 1), S.2.1, S.2.2))) rfl rfl rfl ?_
    refine a_aload_n C dc_Re_read_19 rfl rfl ?_
    refine a_aload_n C dc_Re_read_20 rfl rfl ?_
    refine c_getR C u 0 dc_Re_read_21 hu rfl rfl (Nat.le_of_ble_eq_true rfl) f_Re_15 rfl hp.1 ?_
    have hp := hp.2
    refine c_getIN C (S.2.2 u 0) 1 dc_Re_read_24 hc1 rfl rfl (Nat.le_of_ble_eq_true rfl) f_Re_38 (Nat.le_of_ble_eq_true rfl) ?_
    refine c_putI (ty := .int) C u 7 dc_Re_read_27 hu rfl rfl (Nat.le_of_ble_eq_true rfl) f_Re_25 (Nat.le_of_ble_eq_true rfl) rfl rfl rfl rfl ?_
    refine aw_eq (lo' := _) (st' := _) (L' := (cw lt_C U oa (va_up (va_up S.1 u (upd (S.1 u) 6 1)) u (upd ((va_up S.1 u (upd (S.1 u) 6 1)) u) 7 ((va_up S.1 u (upd (S.1 u) 6 1)) (S.2.2 u 0) 1)), S.2.1, S.2.2))) rfl rfl rfl ?_
    exact a_throw (ci := 13) C hQ hA hno hfl dc_Re_read_30 dc_Re_read_33 dc_Re_read_34 dc_Re_read_36 dc_Re_read_39 x_Re_28 rfl rfl y_Re_41 i_E13 j_E13 (by decide) z_Re_32 (at_E13 _ _) (Nat.le_of_ble_eq_true rfl) (by rw [hR]; exact Nat.le_of_ble_eq_true rfl) (by rw [hR]; exact Nat.le_of_ble_eq_true rfl) (Nat.le_refl _) (Nat.le_refl _) (by rw [hR]; exact Nat.le_of_ble_eq_true rfl) (by rw [hR]; exact Nat.le_of_ble_eq_true rfl) (fun q => Or.inr ⟨13, q, (va_up (va_up S.1 u (upd (S.1 u) 6 1)) u (upd ((va_up S.1 u (upd (S.1 u) 6 1)) u) 7 ((va_up S.1 u (upd (S.1 u) 6 1)) (S.2.2 u 0) 1)), S.2.1, S.2.2), hp, rfl, rfl⟩)
end C_Re_read
section C_Re_readc
variable {D : va_G} {z : Nat → ClassId} {U : ut} {oa : Nat → Nat}
set_option maxRecDepth 100000 in
theorem ct_Re_read {l : Launch} (u : Nat)  (S : cs) {K : Int32 → cs → Prop} {T : Nat → cs → Prop} (hfl : l.flags = pinnedFlags ++ [noTraceFlag]) (hu : c_cl U u = 8) (hp : p_Re_read U u S K T) : ct gG D z l n_C_Re_read c_C_Re_read 2 (some .int) 9 900 [.ref (oa u)] (cw lt_C U oa S) 0 0 (pC_i lt_C U oa K T) := by
  refine ct_of (lo := [some (.ref (oa u)), none]) (by decide) g_ok (Nat.le_of_ble_eq_true rfl) rfl ?_
  intro X A hl C hR hQ hA hno
  exact s_Re_read_0 C hQ hA hR hno (by rw [hl]; exact hfl) hu S hp
end C_Re_readc
def p_Re_fail (U : ut) (u : Nat) (x1 : Int32) (x2 : Int32) (S : cs) (K : cs → Prop) (T : Nat → cs → Prop) : Prop :=
  T 13 (va_up (va_up S.1 u (upd (S.1 u) 6 x1)) u (upd ((va_up S.1 u (upd (S.1 u) 6 x1)) u) 7 x2), S.2.1, S.2.2)
section C_Re_fail
variable {D : va_G} {z : Nat → ClassId} {A : Nat → Prop} {X : cx} {L0 : fw} {U : ut} {oa : Nat → Nat} {u : Nat} {K : cs → Prop} {T : Nat → cs → Prop}
set_option maxRecDepth 100000 in
set_option maxHeartbeats 1000000 in
theorem s_Re_fail_0 (C : fcx gG D z A X R_Re c_C_Re_fail 3 (none)) (hQ : X.2.2.2.2.2.2.2.2.2.2 = eQ gG D z X.2.2.2.2.2.2.2.1 X.2.2.2.2.1 L0 0 0 (pC_v lt_C U oa K T)) (hA : A = owA gG L0 X.2.2.2.2.1.heap.size) (hR : X.2.2.2.1 = { frames := 9, cells := 1, slots := 6, locals := 900 }) (hno : ∀ x ∈ X.2.2.2.2.2.2.2.2.2.1.exceptionTable.toList, False) (hfl : X.2.1.flags = pinnedFlags ++ [noTraceFlag]) (hu : c_cl U u = 8) (x1 : Int32) (x2 : Int32) (S : cs) (hp : p_Re_fail U u x1 x2 S K T) : aw gG D z A X 3 0 [some (.ref (oa u)), some (.int x1), some (.int x2)] [] (cw lt_C U oa S) 0 0 := by
  unfold p_Re_fail at hp
  refine a_aload_n C dc_Re_fail_0 rfl rfl ?_
  refine a_iload_n C dc_Re_fail_1 rfl rfl ?_
  refine c_putI (ty := .int) C u 6 dc_Re_fail_2 hu rfl rfl (Nat.le_of_ble_eq_true rfl) f_Re_21 (Nat.le_of_ble_eq_true rfl) rfl rfl rfl rfl ?_
  refine aw_eq (lo' := _) (st' := _) (L' := (cw lt_C U oa (va_up S.1 u (upd (S.1 u) 6 x1), S.2.1, S.2.2))) rfl rfl rfl ?_
  refine a_aload_n C dc_Re_fail_5 rfl rfl ?_
  refine a_iload_n C dc_Re_fail_6 rfl rfl ?_
  refine c_putI (ty := .int) C u 7 dc_Re_fail_7 hu rfl rfl (Nat.le_of_ble_eq_true rfl) f_Re_25 (Nat.le_of_ble_eq_true rfl) rfl rfl rfl rfl ?_
  refine aw_eq (lo' := _) (st' := _) (L' := (cw lt_C U oa (va_up (va_up S.1 u (upd (S.1 u) 6 x1)) u (upd ((va_up S.1 u (upd (S.1 u) 6 x1)) u) 7 x2), S.2.1, S.2.2))) rfl rfl rfl ?_
  exact a_throw (ci := 13) C hQ hA hno hfl dc_Re_fail_10 dc_Re_fail_13 dc_Re_fail_14 dc_Re_fail_16 dc_Re_fail_19 x_Re_28 rfl rfl y_Re_30 i_E13 j_E13 (by decide) z_Re_32 (at_E13 _ _) (Nat.le_of_ble_eq_true rfl) (by rw [hR]; exact Nat.le_of_ble_eq_true rfl) (by rw [hR]; exact Nat.le_of_ble_eq_true rfl) (Nat.le_refl _) (Nat.le_refl _) (by rw [hR]; exact Nat.le_of_ble_eq_true rfl) (by rw [hR]; exact Nat.le_of_ble_eq_true rfl) (fun q => Or.inr ⟨13, q, (va_up (va_up S.1 u (upd (S.1 u) 6 x1)) u (upd ((va_up S.1 u (upd (S.1 u) 6 x1)) u) 7 x2), S.2.1, S.2.2), hp, rfl, rfl⟩)
end C_Re_fail
section C_Re_failc
variable {D : va_G} {z : Nat → ClassId} {U : ut} {oa : Nat → Nat}
set_option maxRecDepth 100000 in
theorem ct_Re_fail {l : Launch} (u : Nat) (x1 : Int32) (x2 : Int32) (S : cs) {K : cs → Prop} {T : Nat → cs → Prop} (hfl : l.flags = pinnedFlags ++ [noTraceFlag]) (hu : c_cl U u = 8) (hp : p_Re_fail U u x1 x2 S K T) : ct gG D z l n_C_Re_fail c_C_Re_fail 3 (none) 9 900 [.ref (oa u), .int x1, .int x2] (cw lt_C U oa S) 0 0 (pC_v lt_C U oa K T) := by
  refine ct_of (lo := [some (.ref (oa u)), some (.int x1), some (.int x2)]) (by decide) g_ok (Nat.le_of_ble_eq_true rfl) rfl ?_
  intro X A hl C hR hQ hA hno
  exact s_Re_fail_0 C hQ hA hR hno (by rw [hl]; exact hfl) hu x1 x2 S hp
end C_Re_failc
def b_Re_readMark_52 (U : ut) (u : Nat) (x1 : Int32) (S : cs) (K : Int32 → cs → Prop) (T : Nat → cs → Prop) : Prop :=
  K x1 S
def b_Re_readMark_28 (U : ut) (u : Nat) (x1 : Int32) (x2 : Int32) (S : cs) (R28 : Int32 → Int32 → cs → Prop) (K : Int32 → cs → Prop) (T : Nat → cs → Prop) : Prop :=
  (¬ x1 = 255 → (b_Re_readMark_52 U u x1 S K T)) ∧ (x1 = 255 → ((32768 ≤ x2 → (b_Re_readMark_52 U u x1 S K T)) ∧ (¬ (32768 ≤ x2) → (p_Re_read U u S (fun v42 S42 => R28 v42 (x2 + 1) S42) T))))
def e_Re_readMark_28 (U : ut) (u : Nat) (x1 : Int32) (x2 : Int32) (S : cs) (K : Int32 → cs → Prop) (T : Nat → cs → Prop) : Prop :=
  ∃ (I : Int32 → Int32 → cs → Prop) (μ : Int32 → Int32 → cs → Nat), I x1 x2 S ∧ ∀ yx1 yx2 yS, I yx1 yx2 yS → b_Re_readMark_28 U u yx1 yx2 yS (fun zx1 zx2 zS => I zx1 zx2 zS ∧ μ zx1 zx2 zS < μ yx1 yx2 yS) K T
def b_Re_readMark_21 (U : ut) (u : Nat)  (S : cs) (K : Int32 → cs → Prop) (T : Nat → cs → Prop) : Prop :=
  p_Re_read U u S (fun v22 S22 => e_Re_readMark_28 U u v22 0 S22 K T) T
def p_Re_readMark (U : ut) (u : Nat)  (S : cs) (K : Int32 → cs → Prop) (T : Nat → cs → Prop) : Prop :=
  p_Re_read U u S (fun v1 S1 => (v1 = 255 → (b_Re_readMark_21 U u S1 K T)) ∧ (¬ (v1 = 255) → (p_Re_fail U u 2 ((S1.1 u 1) - 1) S1 (fun S18 => b_Re_readMark_21 U u S18 K T) T))) T
section C_Re_readMark
variable {D : va_G} {z : Nat → ClassId} {A : Nat → Prop} {X : cx} {L0 : fw} {U : ut} {oa : Nat → Nat} {u : Nat} {K : Int32 → cs → Prop} {T : Nat → cs → Prop}
set_option maxRecDepth 100000 in
set_option maxHeartbeats 1000000 in
theorem s_Re_readMark_52 (C : fcx gG D z A X R_Re c_C_Re_readMark 3 (some .int)) (hQ : X.2.2.2.2.2.2.2.2.2.2 = eQ gG D z X.2.2.2.2.2.2.2.1 X.2.2.2.2.1 L0 0 0 (pC_i lt_C U oa K T)) (hA : A = owA gG L0 X.2.2.2.2.1.heap.size) (hR : X.2.2.2.1 = { frames := 10, cells := 1, slots := 6, locals := 1000 }) (hno : ∀ x ∈ X.2.2.2.2.2.2.2.2.2.1.exceptionTable.toList, False) (hfl : X.2.1.flags = pinnedFlags ++ [noTraceFlag]) (hu : c_cl U u = 8) (x1 : Int32) (S : cs) (hp : b_Re_readMark_52 U u x1 S K T) : aw gG D z A X 3 52 [some (.ref (oa u)), some (.int x1), none] [] (cw lt_C U oa S) 0 0 := by
  unfold b_Re_readMark_52 at hp
  refine a_iload_n C dc_Re_readMark_52 rfl rfl ?_
  exact a_iret (ty := .int) C hQ hA dc_Re_readMark_53 rfl rfl (Or.inl ⟨_, S, hp, rfl, rfl⟩)
set_option maxRecDepth 100000 in
set_option maxHeartbeats 1000000 in
theorem s_Re_readMark_28 (C : fcx gG D z A X R_Re c_C_Re_readMark 3 (some .int)) (hQ : X.2.2.2.2.2.2.2.2.2.2 = eQ gG D z X.2.2.2.2.2.2.2.1 X.2.2.2.2.1 L0 0 0 (pC_i lt_C U oa K T)) (hA : A = owA gG L0 X.2.2.2.2.1.heap.size) (hR : X.2.2.2.1 = { frames := 10, cells := 1, slots := 6, locals := 1000 }) (hno : ∀ x ∈ X.2.2.2.2.2.2.2.2.2.1.exceptionTable.toList, False) (hfl : X.2.1.flags = pinnedFlags ++ [noTraceFlag]) (hu : c_cl U u = 8) (x1 : Int32) (x2 : Int32) (S : cs) (R28 : Int32 → Int32 → cs → Prop) (hR28 : ∀ yx1 yx2 yS, R28 yx1 yx2 yS → aw gG D z A X 3 28 [some (.ref (oa u)), some (.int yx1), some (.int yx2)] [] (cw lt_C U oa yS) 0 0) (hp : b_Re_readMark_28 U u x1 x2 S R28 K T) : aw gG D z A X 3 28 [some (.ref (oa u)), some (.int x1), some (.int x2)] [] (cw lt_C U oa S) 0 0 := by
  unfold b_Re_readMark_28 at hp
  refine a_iload_n C dc_Re_readMark_28 rfl rfl ?_
  refine a_sipush (v := 255) C dc_Re_readMark_29 (by decide) ?_
  refine a_icmp_ne (tgt := 52) C dc_Re_readMark_32 (by decide) ⟨fun hc => ?_, fun hc => ?_⟩
  · have hp := hp.1 hc
    refine aw_lo (lo' := [some (.ref (oa u)), some (.int x1), none]) ⟨.inr rfl, .inr rfl, .inl rfl, trivial⟩ ?_
    exact s_Re_readMark_52 C hQ hA hR hno hfl hu x1 S  hp
  · have hp := hp.2 hc
    refine a_iload_n C dc_Re_readMark_35 rfl rfl ?_
    refine a_ldc (v := 32768) C dc_Re_readMark_36 k_Re_11 ?_
    refine a_icmp_ge (tgt := 52) C dc_Re_readMark_38 (by decide) ⟨fun hc => ?_, fun hc => ?_⟩
    · have hp := hp.1 hc
      refine aw_lo (lo' := [some (.ref (oa u)), some (.int x1), none]) ⟨.inr rfl, .inr rfl, .inl rfl, trivial⟩ ?_
      exact s_Re_readMark_52 C hQ hA hR hno hfl hu x1 S  hp
    · have hp := hp.2 hc
      refine a_aload_n C dc_Re_readMark_41 rfl rfl ?_
      refine c_callT (rest := []) (av := .ref (oa u) :: []) C dc_Re_readMark_42 (ct_Re_read u S hfl hu hp) cd_C_Re_read i_Re (Nat.le_of_ble_eq_true rfl) (by rw [hR]; exact Nat.le_of_ble_eq_true rfl) (by rw [hR]; exact Nat.le_of_ble_eq_true rfl) (by rw [hR]; exact Nat.le_of_ble_eq_true rfl) (by rw [hR]; exact Nat.le_of_ble_eq_true rfl) (inv_V C u dc_Re_readMark_42 l_Re_47 im_C_Re_read se_C_Re_read cd_C_Re_read ⟨by decide, by decide⟩ ln_C_Re_read rfl rfl (cw_obj hu rfl) rfl rfl) (fun oc L1 hL => ?_)
      rcases hL with ⟨v42, S42, hp, rfl, rfl⟩ | ⟨c9, a9, S9, hp, rfl, rfl⟩
      rotate_left
      · exact Or.inr ⟨a9, rfl, t_out C hQ hA (fun x hx => (hno x hx).elim) (Or.inr ⟨c9, a9, S9, hp, rfl, rfl⟩) (Nat.le_of_ble_eq_true rfl) (Nat.le_of_ble_eq_true rfl)⟩
      refine Or.inl ⟨_, rfl, ?_⟩
      refine aw_eq (lo' := _) (st' := [.int v42]) (L' := (cw lt_C U oa S42)) rfl rfl rfl ?_
      refine a_istore_n (lo' := [some (.ref (oa u)), some (.int v42), some (.int x2)]) C dc_Re_readMark_45 rfl (by decide) rfl ?_
      refine a_iinc (v := x2 + 1) (lo' := [some (.ref (oa u)), some (.int v42), some (.int (x2 + 1))]) C dc_Re_readMark_46 rfl rfl (by decide) rfl ?_
      refine a_goto (tgt := 28) C dc_Re_readMark_49 (by decide) ?_
      refine aw_lo (lo' := [some (.ref (oa u)), some (.int v42), some (.int (x2 + 1))]) ⟨.inr rfl, .inr rfl, .inr rfl, trivial⟩ ?_
      exact hR28 v42 (x2 + 1) S42 hp
set_option maxRecDepth 100000 in
set_option maxHeartbeats 1000000 in
theorem se_Re_readMark_28 (C : fcx gG D z A X R_Re c_C_Re_readMark 3 (some .int)) (hQ : X.2.2.2.2.2.2.2.2.2.2 = eQ gG D z X.2.2.2.2.2.2.2.1 X.2.2.2.2.1 L0 0 0 (pC_i lt_C U oa K T)) (hA : A = owA gG L0 X.2.2.2.2.1.heap.size) (hR : X.2.2.2.1 = { frames := 10, cells := 1, slots := 6, locals := 1000 }) (hno : ∀ x ∈ X.2.2.2.2.2.2.2.2.2.1.exceptionTable.toList, False) (hfl : X.2.1.flags = pinnedFlags ++ [noTraceFlag]) (hu : c_cl U u = 8) (x1 : Int32) (x2 : Int32) (S : cs) (hp : e_Re_readMark_28 U u x1 x2 S K T) : aw gG D z A X 3 28 [some (.ref (oa u)), some (.int x1), some (.int x2)] [] (cw lt_C U oa S) 0 0 := by
  obtain ⟨I, μ, h0, hs⟩ := hp
  have key : ∀ (n : Nat) (yx1 : Int32) (yx2 : Int32) (yS : cs), μ yx1 yx2 yS < n → I yx1 yx2 yS → aw gG D z A X 3 28 [some (.ref (oa u)), some (.int yx1), some (.int yx2)] [] (cw lt_C U oa yS) 0 0 := by
    intro n
    induction n with
    | zero => intro yx1 yx2 yS h; omega
    | succ n ih =>
      intro yx1 yx2 yS hn hI
      exact s_Re_readMark_28 C hQ hA hR hno hfl hu yx1 yx2 yS _ (fun zx1 zx2 zS hw => ih zx1 zx2 zS (by omega) hw.1) (hs yx1 yx2 yS hI)
  exact key (μ x1 x2 S + 1) x1 x2 S (Nat.lt_succ_self _) h0
set_option maxRecDepth 100000 in
set_option maxHeartbeats 1000000 in
theorem s_Re_readMark_21 (C : fcx gG D z A X R_Re c_C_Re_readMark 3 (some .int)) (hQ : X.2.2.2.2.2.2.2.2.2.2 = eQ gG D z X.2.2.2.2.2.2.2.1 X.2.2.2.2.1 L0 0 0 (pC_i lt_C U oa K T)) (hA : A = owA gG L0 X.2.2.2.2.1.heap.size) (hR : X.2.2.2.1 = { frames := 10, cells := 1, slots := 6, locals := 1000 }) (hno : ∀ x ∈ X.2.2.2.2.2.2.2.2.2.1.exceptionTable.toList, False) (hfl : X.2.1.flags = pinnedFlags ++ [noTraceFlag]) (hu : c_cl U u = 8)  (S : cs) (hp : b_Re_readMark_21 U u S K T) : aw gG D z A X 3 21 [some (.ref (oa u)), none, none] [] (cw lt_C U oa S) 0 0 := by
  unfold b_Re_readMark_21 at hp
  refine a_aload_n C dc_Re_readMark_21 rfl rfl ?_
  refine c_callT (rest := []) (av := .ref (oa u) :: []) C dc_Re_readMark_22 (ct_Re_read u S hfl hu hp) cd_C_Re_read i_Re (Nat.le_of_ble_eq_true rfl) (by rw [hR]; exact Nat.le_of_ble_eq_true rfl) (by rw [hR]; exact Nat.le_of_ble_eq_true rfl) (by rw [hR]; exact Nat.le_of_ble_eq_true rfl) (by rw [hR]; exact Nat.le_of_ble_eq_true rfl) (inv_V C u dc_Re_readMark_22 l_Re_47 im_C_Re_read se_C_Re_read cd_C_Re_read ⟨by decide, by decide⟩ ln_C_Re_read rfl rfl (cw_obj hu rfl) rfl rfl) (fun oc L1 hL => ?_)
  rcases hL with ⟨v22, S22, hp, rfl, rfl⟩ | ⟨c9, a9, S9, hp, rfl, rfl⟩
  rotate_left
  · exact Or.inr ⟨a9, rfl, t_out C hQ hA (fun x hx => (hno x hx).elim) (Or.inr ⟨c9, a9, S9, hp, rfl, rfl⟩) (Nat.le_of_ble_eq_true rfl) (Nat.le_of_ble_eq_true rfl)⟩
  refine Or.inl ⟨_, rfl, ?_⟩
  refine aw_eq (lo' := _) (st' := [.int v22]) (L' := (cw lt_C U oa S22)) rfl rfl rfl ?_
  refine a_istore_n (lo' := [some (.ref (oa u)), some (.int v22), none]) C dc_Re_readMark_25 rfl (by decide) rfl ?_
  refine a_iconst (v := 0) C dc_Re_readMark_26 (by decide) ?_
  refine a_istore_n (lo' := [some (.ref (oa u)), some (.int v22), some (.int 0)]) C dc_Re_readMark_27 rfl (by decide) rfl ?_
  refine aw_lo (lo' := [some (.ref (oa u)), some (.int v22), some (.int 0)]) ⟨.inr rfl, .inr rfl, .inr rfl, trivial⟩ ?_
  exact se_Re_readMark_28 C hQ hA hR hno hfl hu v22 0 S22  hp
set_option maxRecDepth 100000 in
set_option maxHeartbeats 1000000 in
theorem s_Re_readMark_0 (C : fcx gG D z A X R_Re c_C_Re_readMark 3 (some .int)) (hQ : X.2.2.2.2.2.2.2.2.2.2 = eQ gG D z X.2.2.2.2.2.2.2.1 X.2.2.2.2.1 L0 0 0 (pC_i lt_C U oa K T)) (hA : A = owA gG L0 X.2.2.2.2.1.heap.size) (hR : X.2.2.2.1 = { frames := 10, cells := 1, slots := 6, locals := 1000 }) (hno : ∀ x ∈ X.2.2.2.2.2.2.2.2.2.1.exceptionTable.toList, False) (hfl : X.2.1.flags = pinnedFlags ++ [noTraceFlag]) (hu : c_cl U u = 8)  (S : cs) (hp : p_Re_readMark U u S K T) : aw gG D z A X 3 0 [some (.ref (oa u)), none, none] [] (cw lt_C U oa S) 0 0 := by
  unfold p_Re_readMark at hp
  refine a_aload_n C dc_Re_readMark_0 rfl rfl ?_
  refine c_callT (rest := []) (av := .ref (oa u) :: []) C dc_Re_readMark_1 (ct_Re_read u S hfl hu hp) cd_C_Re_read i_Re (Nat.le_of_ble_eq_true rfl) (by rw [hR]; exact Nat.le_of_ble_eq_true rfl) (by rw [hR]; exact Nat.le_of_ble_eq_true rfl) (by rw [hR]; exact Nat.le_of_ble_eq_true rfl) (by rw [hR]; exact Nat.le_of_ble_eq_true rfl) (inv_V C u dc_Re_readMark_1 l_Re_47 im_C_Re_read se_C_Re_read cd_C_Re_read ⟨by decide, by decide⟩ ln_C_Re_read rfl rfl (cw_obj hu rfl) rfl rfl) (fun oc L1 hL => ?_)
  rcases hL with ⟨v1, S1, hp, rfl, rfl⟩ | ⟨c9, a9, S9, hp, rfl, rfl⟩
  rotate_left
  · exact Or.inr ⟨a9, rfl, t_out C hQ hA (fun x hx => (hno x hx).elim) (Or.inr ⟨c9, a9, S9, hp, rfl, rfl⟩) (Nat.le_of_ble_eq_true rfl) (Nat.le_of_ble_eq_true rfl)⟩
  refine Or.inl ⟨_, rfl, ?_⟩
  refine aw_eq (lo' := _) (st' := [.int v1]) (L' := (cw lt_C U oa S1)) rfl rfl rfl ?_
  refine a_sipush (v := 255) C dc_Re_readMark_4 (by decide) ?_
  refine a_icmp_eq (tgt := 21) C dc_Re_readMark_7 (by decide) ⟨fun hc => ?_, fun hc => ?_⟩
  · have hp := hp.1 hc
    refine aw_lo (lo' := [some (.ref (oa u)), none, none]) ⟨.inr rfl, .inr rfl, .inr rfl, trivial⟩ ?_
    exact s_Re_readMark_21 C hQ hA hR hno hfl hu S1  hp
  · have hp := hp.2 hc
    refine a_aload_n C dc_Re_readMark_10 rfl rfl ?_
    refine a_iconst (v := 2) C dc_Re_readMark_11 (by decide) ?_
    refine a_aload_n C dc_Re_readMark_12 rfl rfl ?_
    refine c_getI C u 1 dc_Re_readMark_13 hu rfl rfl (Nat.le_of_ble_eq_true rfl) f_Re_35 (Nat.le_of_ble_eq_true rfl) ?_
    refine a_iconst (v := 1) C dc_Re_readMark_16 (by decide) ?_
    refine a_isub C dc_Re_readMark_17 ?_
    refine c_callT (rest := []) (av := .ref (oa u) :: [.int 2, .int ((S1.1 u 1) - 1)]) C dc_Re_readMark_18 (ct_Re_fail u 2 ((S1.1 u 1) - 1) S1 hfl hu hp) cd_C_Re_fail i_Re (Nat.le_of_ble_eq_true rfl) (by rw [hR]; exact Nat.le_of_ble_eq_true rfl) (by rw [hR]; exact Nat.le_of_ble_eq_true rfl) (by rw [hR]; exact Nat.le_of_ble_eq_true rfl) (by rw [hR]; exact Nat.le_of_ble_eq_true rfl) (inv_V C u dc_Re_readMark_18 l_Re_51 im_C_Re_fail se_C_Re_fail cd_C_Re_fail ⟨by decide, by decide⟩ ln_C_Re_fail rfl rfl (cw_obj hu rfl) rfl rfl) (fun oc L1 hL => ?_)
    rcases hL with ⟨S18, hp, rfl, rfl⟩ | ⟨c9, a9, S9, hp, rfl, rfl⟩
    rotate_left
    · exact Or.inr ⟨a9, rfl, t_out C hQ hA (fun x hx => (hno x hx).elim) (Or.inr ⟨c9, a9, S9, hp, rfl, rfl⟩) (Nat.le_of_ble_eq_true rfl) (Nat.le_of_ble_eq_true rfl)⟩
    refine Or.inl ⟨_, rfl, ?_⟩
    refine aw_eq (lo' := _) (st' := []) (L' := (cw lt_C U oa S18)) rfl rfl rfl ?_
    refine aw_lo (lo' := [some (.ref (oa u)), none, none]) ⟨.inr rfl, .inr rfl, .inr rfl, trivial⟩ ?_
    exact s_Re_readMark_21 C hQ hA hR hno hfl hu S18  hp
end C_Re_readMark
section C_Re_readMarkc
variable {D : va_G} {z : Nat → ClassId} {U : ut} {oa : Nat → Nat}
set_option maxRecDepth 100000 in
theorem ct_Re_readMark {l : Launch} (u : Nat)  (S : cs) {K : Int32 → cs → Prop} {T : Nat → cs → Prop} (hfl : l.flags = pinnedFlags ++ [noTraceFlag]) (hu : c_cl U u = 8) (hp : p_Re_readMark U u S K T) : ct gG D z l n_C_Re_readMark c_C_Re_readMark 3 (some .int) 10 1000 [.ref (oa u)] (cw lt_C U oa S) 0 0 (pC_i lt_C U oa K T) := by
  refine ct_of (lo := [some (.ref (oa u)), none, none]) (by decide) g_ok (Nat.le_of_ble_eq_true rfl) rfl ?_
  intro X A hl C hR hQ hA hno
  exact s_Re_readMark_0 C hQ hA hR hno (by rw [hl]; exact hfl) hu S hp
end C_Re_readMarkc
def b_Un_allScanned_33 (U : ut) (u : Nat) (x2 : Int32) (s0 : Int32) (S : cs) (R4 : Int32 → Int32 → cs → Prop) (K : Int32 → cs → Prop) : Prop :=
  R4 s0 (x2 + 1) S
def b_Un_allScanned_32 (U : ut) (u : Nat) (x2 : Int32) (S : cs) (R4 : Int32 → Int32 → cs → Prop) (K : Int32 → cs → Prop) : Prop :=
  b_Un_allScanned_33 U u x2 0 S R4 K
def b_Un_allScanned_4 (U : ut) (u : Nat) (x1 : Int32) (x2 : Int32) (S : cs) (R4 : Int32 → Int32 → cs → Prop) (K : Int32 → cs → Prop) : Prop :=
  ¬ S.2.2 u 1 = NU ∧ (c_cl U (S.2.2 u 1) = 7 ∧ (((S.1 (S.2.2 u 1) 2) ≤ x2 → (narrow .boolean (.int x1) = .int x1 ∧ K x1 S)) ∧ (¬ ((S.1 (S.2.2 u 1) 2) ≤ x2) → ((x1 = 0 → (b_Un_allScanned_32 U u x2 S R4 K)) ∧ (¬ (x1 = 0) → (¬ S.2.2 u 9 = NU ∧ (c_cl U (S.2.2 u 9) = 903 ∧ (vp_in x2 (c_ln U (S.2.2 u 9)) ∧ (((S.1 (S.2.2 u 9) x2.toNatClampNeg) = 0 → (b_Un_allScanned_32 U u x2 S R4 K)) ∧ (¬ ((S.1 (S.2.2 u 9) x2.toNatClampNeg) = 0) → (b_Un_allScanned_33 U u x2 1 S R4 K)))))))))))
def e_Un_allScanned_4 (U : ut) (u : Nat) (x1 : Int32) (x2 : Int32) (S : cs) (K : Int32 → cs → Prop) : Prop :=
  ∃ (I : Int32 → Int32 → cs → Prop) (μ : Int32 → Int32 → cs → Nat), I x1 x2 S ∧ ∀ yx1 yx2 yS, I yx1 yx2 yS → b_Un_allScanned_4 U u yx1 yx2 yS (fun zx1 zx2 zS => I zx1 zx2 zS ∧ μ zx1 zx2 zS < μ yx1 yx2 yS) K
def p_Un_allScanned (U : ut) (u : Nat)  (S : cs) (K : Int32 → cs → Prop) : Prop :=
  e_Un_allScanned_4 U u 1 0 S K
section C_Un_allScanned
variable {D : va_G} {z : Nat → ClassId} {A : Nat → Prop} {X : cx} {L0 : fw} {U : ut} {oa : Nat → Nat} {u : Nat} {K : Int32 → cs → Prop}
set_option maxRecDepth 100000 in
set_option maxHeartbeats 1000000 in
theorem s_Un_allScanned_33 (C : fcx gG D z A X R_Un c_C_Un_allScanned 3 (some .boolean)) (hQ : X.2.2.2.2.2.2.2.2.2.2 = eQ gG D z X.2.2.2.2.2.2.2.1 X.2.2.2.2.1 L0 0 0 (pC_i lt_C U oa K (fun _ _ => False))) (hA : A = owA gG L0 X.2.2.2.2.1.heap.size) (hR : X.2.2.2.1 = { frames := 1, cells := 1, slots := 6, locals := 100 }) (hu : c_cl U u = 11) (x2 : Int32) (s0 : Int32) (S : cs) (R4 : Int32 → Int32 → cs → Prop) (hR4 : ∀ yx1 yx2 yS, R4 yx1 yx2 yS → aw gG D z A X 3 4 [some (.ref (oa u)), some (.int yx1), some (.int yx2)] [] (cw lt_C U oa yS) 0 0) (hp : b_Un_allScanned_33 U u x2 s0 S R4 K) : aw gG D z A X 3 33 [some (.ref (oa u)), none, some (.int x2)] [.int s0] (cw lt_C U oa S) 0 0 := by
  unfold b_Un_allScanned_33 at hp
  refine a_istore_n (lo' := [some (.ref (oa u)), some (.int s0), some (.int x2)]) C dc_Un_allScanned_33 rfl (by decide) rfl ?_
  refine a_iinc (v := x2 + 1) (lo' := [some (.ref (oa u)), some (.int s0), some (.int (x2 + 1))]) C dc_Un_allScanned_34 rfl rfl (by decide) rfl ?_
  refine a_goto (tgt := 4) C dc_Un_allScanned_37 (by decide) ?_
  refine aw_lo (lo' := [some (.ref (oa u)), some (.int s0), some (.int (x2 + 1))]) ⟨.inr rfl, .inr rfl, .inr rfl, trivial⟩ ?_
  exact hR4 s0 (x2 + 1) S hp
set_option maxRecDepth 100000 in
set_option maxHeartbeats 1000000 in
theorem s_Un_allScanned_32 (C : fcx gG D z A X R_Un c_C_Un_allScanned 3 (some .boolean)) (hQ : X.2.2.2.2.2.2.2.2.2.2 = eQ gG D z X.2.2.2.2.2.2.2.1 X.2.2.2.2.1 L0 0 0 (pC_i lt_C U oa K (fun _ _ => False))) (hA : A = owA gG L0 X.2.2.2.2.1.heap.size) (hR : X.2.2.2.1 = { frames := 1, cells := 1, slots := 6, locals := 100 }) (hu : c_cl U u = 11) (x2 : Int32) (S : cs) (R4 : Int32 → Int32 → cs → Prop) (hR4 : ∀ yx1 yx2 yS, R4 yx1 yx2 yS → aw gG D z A X 3 4 [some (.ref (oa u)), some (.int yx1), some (.int yx2)] [] (cw lt_C U oa yS) 0 0) (hp : b_Un_allScanned_32 U u x2 S R4 K) : aw gG D z A X 3 32 [some (.ref (oa u)), none, some (.int x2)] [] (cw lt_C U oa S) 0 0 := by
  unfold b_Un_allScanned_32 at hp
  refine a_iconst (v := 0) C dc_Un_allScanned_32 (by decide) ?_
  refine aw_lo (lo' := [some (.ref (oa u)), none, some (.int x2)]) ⟨.inr rfl, .inr rfl, .inr rfl, trivial⟩ ?_
  exact s_Un_allScanned_33 C hQ hA hR hu x2 0 S R4 hR4 hp
set_option maxRecDepth 100000 in
set_option maxHeartbeats 1000000 in
theorem s_Un_allScanned_4 (C : fcx gG D z A X R_Un c_C_Un_allScanned 3 (some .boolean)) (hQ : X.2.2.2.2.2.2.2.2.2.2 = eQ gG D z X.2.2.2.2.2.2.2.1 X.2.2.2.2.1 L0 0 0 (pC_i lt_C U oa K (fun _ _ => False))) (hA : A = owA gG L0 X.2.2.2.2.1.heap.size) (hR : X.2.2.2.1 = { frames := 1, cells := 1, slots := 6, locals := 100 }) (hu : c_cl U u = 11) (x1 : Int32) (x2 : Int32) (S : cs) (R4 : Int32 → Int32 → cs → Prop) (hR4 : ∀ yx1 yx2 yS, R4 yx1 yx2 yS → aw gG D z A X 3 4 [some (.ref (oa u)), some (.int yx1), some (.int yx2)] [] (cw lt_C U oa yS) 0 0) (hp : b_Un_allScanned_4 U u x1 x2 S R4 K) : aw gG D z A X 3 4 [some (.ref (oa u)), some (.int x1), some (.int x2)] [] (cw lt_C U oa S) 0 0 := by
  unfold b_Un_allScanned_4 at hp
  refine a_iload_n C dc_Un_allScanned_4 rfl rfl ?_
  refine a_aload_n C dc_Un_allScanned_5 rfl rfl ?_
  refine c_getR C u 1 dc_Un_allScanned_6 hu rfl rfl (Nat.le_of_ble_eq_true rfl) f_Un_21 rfl hp.1 ?_
  have hp := hp.2
  have hc1 := hp.1
  have hp := hp.2
  refine c_getIN C (S.2.2 u 1) 2 dc_Un_allScanned_9 hc1 rfl rfl (Nat.le_of_ble_eq_true rfl) f_Un_110 (Nat.le_of_ble_eq_true rfl) ?_
  refine a_icmp_ge (tgt := 40) C dc_Un_allScanned_12 (by decide) ⟨fun hc => ?_, fun hc => ?_⟩
  · have hp := hp.1 hc
    refine a_iload_n C dc_Un_allScanned_40 rfl rfl ?_
    exact a_iret (ty := .boolean) C hQ hA dc_Un_allScanned_41 rfl hp.1 (Or.inl ⟨_, S, hp.2, rfl, rfl⟩)
  · have hp := hp.2 hc
    refine a_iload_n C dc_Un_allScanned_15 rfl rfl ?_
    refine a_if_eq (tgt := 32) C dc_Un_allScanned_16 (by decide) ⟨fun hc => ?_, fun hc => ?_⟩
    · have hp := hp.1 hc
      refine aw_lo (lo' := [some (.ref (oa u)), none, some (.int x2)]) ⟨.inr rfl, .inl rfl, .inr rfl, trivial⟩ ?_
      exact s_Un_allScanned_32 C hQ hA hR hu x2 S R4 hR4 hp
    · have hp := hp.2 hc
      refine a_aload_n C dc_Un_allScanned_19 rfl rfl ?_
      refine c_getR C u 9 dc_Un_allScanned_20 hu rfl rfl (Nat.le_of_ble_eq_true rfl) f_Un_53 rfl hp.1 ?_
      have hp := hp.2
      refine a_iload_n C dc_Un_allScanned_23 rfl rfl ?_
      have hc2 := hp.1
      have hp := hp.2
      refine c_zald C (S.2.2 u 9) dc_Un_allScanned_24 hc2 hp.1 ?_
      have hp := hp.2
      refine a_if_eq (tgt := 32) C dc_Un_allScanned_25 (by decide) ⟨fun hc => ?_, fun hc => ?_⟩
      · have hp := hp.1 hc
        refine aw_lo (lo' := [some (.ref (oa u)), none, some (.int x2)]) ⟨.inr rfl, .inl rfl, .inr rfl, trivial⟩ ?_
        exact s_Un_allScanned_32 C hQ hA hR hu x2 S R4 hR4 hp
      · have hp := hp.2 hc
        refine a_iconst (v := 1) C dc_Un_allScanned_28 (by decide) ?_
        refine a_goto (tgt := 33) C dc_Un_allScanned_29 (by decide) ?_
        refine aw_lo (lo' := [some (.ref (oa u)), none, some (.int x2)]) ⟨.inr rfl, .inl rfl, .inr rfl, trivial⟩ ?_
        exact s_Un_allScanned_33 C hQ hA hR hu x2 1 S R4 hR4 hp
set_option maxRecDepth 100000 in
set_option maxHeartbeats 1000000 in
theorem se_Un_allScanned_4 (C : fcx gG D z A X R_Un c_C_Un_allScanned 3 (some .boolean)) (hQ : X.2.2.2.2.2.2.2.2.2.2 = eQ gG D z X.2.2.2.2.2.2.2.1 X.2.2.2.2.1 L0 0 0 (pC_i lt_C U oa K (fun _ _ => False))) (hA : A = owA gG L0 X.2.2.2.2.1.heap.size) (hR : X.2.2.2.1 = { frames := 1, cells := 1, slots := 6, locals := 100 }) (hu : c_cl U u = 11) (x1 : Int32) (x2 : Int32) (S : cs) (hp : e_Un_allScanned_4 U u x1 x2 S K) : aw gG D z A X 3 4 [some (.ref (oa u)), some (.int x1), some (.int x2)] [] (cw lt_C U oa S) 0 0 := by
  obtain ⟨I, μ, h0, hs⟩ := hp
  have key : ∀ (n : Nat) (yx1 : Int32) (yx2 : Int32) (yS : cs), μ yx1 yx2 yS < n → I yx1 yx2 yS → aw gG D z A X 3 4 [some (.ref (oa u)), some (.int yx1), some (.int yx2)] [] (cw lt_C U oa yS) 0 0 := by
    intro n
    induction n with
    | zero => intro yx1 yx2 yS h; omega
    | succ n ih =>
      intro yx1 yx2 yS hn hI
      exact s_Un_allScanned_4 C hQ hA hR hu yx1 yx2 yS _ (fun zx1 zx2 zS hw => ih zx1 zx2 zS (by omega) hw.1) (hs yx1 yx2 yS hI)
  exact key (μ x1 x2 S + 1) x1 x2 S (Nat.lt_succ_self _) h0
set_option maxRecDepth 100000 in
set_option maxHeartbeats 1000000 in
theorem s_Un_allScanned_0 (C : fcx gG D z A X R_Un c_C_Un_allScanned 3 (some .boolean)) (hQ : X.2.2.2.2.2.2.2.2.2.2 = eQ gG D z X.2.2.2.2.2.2.2.1 X.2.2.2.2.1 L0 0 0 (pC_i lt_C U oa K (fun _ _ => False))) (hA : A = owA gG L0 X.2.2.2.2.1.heap.size) (hR : X.2.2.2.1 = { frames := 1, cells := 1, slots := 6, locals := 100 }) (hu : c_cl U u = 11)  (S : cs) (hp : p_Un_allScanned U u S K) : aw gG D z A X 3 0 [some (.ref (oa u)), none, none] [] (cw lt_C U oa S) 0 0 := by
  unfold p_Un_allScanned at hp
  refine a_iconst (v := 1) C dc_Un_allScanned_0 (by decide) ?_
  refine a_istore_n (lo' := [some (.ref (oa u)), some (.int 1), none]) C dc_Un_allScanned_1 rfl (by decide) rfl ?_
  refine a_iconst (v := 0) C dc_Un_allScanned_2 (by decide) ?_
  refine a_istore_n (lo' := [some (.ref (oa u)), some (.int 1), some (.int 0)]) C dc_Un_allScanned_3 rfl (by decide) rfl ?_
  refine aw_lo (lo' := [some (.ref (oa u)), some (.int 1), some (.int 0)]) ⟨.inr rfl, .inr rfl, .inr rfl, trivial⟩ ?_
  exact se_Un_allScanned_4 C hQ hA hR hu 1 0 S  hp
end C_Un_allScanned
section C_Un_allScannedc
variable {D : va_G} {z : Nat → ClassId} {U : ut} {oa : Nat → Nat}
set_option maxRecDepth 100000 in
theorem ct_Un_allScanned {l : Launch} (u : Nat)  (S : cs) {K : Int32 → cs → Prop} (hu : c_cl U u = 11) (hp : p_Un_allScanned U u S K) : ct gG D z l n_C_Un_allScanned c_C_Un_allScanned 3 (some .boolean) 1 100 [.ref (oa u)] (cw lt_C U oa S) 0 0 (pC_i lt_C U oa K (fun _ _ => False)) := by
  refine ct_of (lo := [some (.ref (oa u)), none, none]) (by decide) g_ok (Nat.le_of_ble_eq_true rfl) rfl ?_
  intro X A _ C hR hQ hA _
  exact s_Un_allScanned_0 C hQ hA hR hu S hp
end C_Un_allScannedc
def b_Un_canCome_127 (U : ut) (u : Nat) (s0 : Int32) (S : cs) (K : Int32 → cs → Prop) : Prop :=
  narrow .boolean (.int s0) = .int s0 ∧ K s0 S
def b_Un_canCome_126 (U : ut) (u : Nat)  (S : cs) (K : Int32 → cs → Prop) : Prop :=
  b_Un_canCome_127 U u 0 S K
def b_Un_canCome_105 (U : ut) (u : Nat) (s0 : Int32) (S : cs) (K : Int32 → cs → Prop) : Prop :=
  narrow .boolean (.int s0) = .int s0 ∧ K s0 S
def b_Un_canCome_104 (U : ut) (u : Nat)  (S : cs) (K : Int32 → cs → Prop) : Prop :=
  b_Un_canCome_105 U u 0 S K
def b_Un_canCome_80 (U : ut) (u : Nat) (s0 : Int32) (S : cs) (K : Int32 → cs → Prop) : Prop :=
  narrow .boolean (.int s0) = .int s0 ∧ K s0 S
def p_Un_canCome (U : ut) (u : Nat) (x1 : Int32) (S : cs) (K : Int32 → cs → Prop) : Prop :=
  (x1 = 192 → ((¬ (S.1 u 6) = 0 → (b_Un_canCome_80 U u 0 S K)) ∧ ((S.1 u 6) = 0 → (b_Un_canCome_80 U u 1 S K)))) ∧ (¬ x1 = 192 → ((x1 = 196 → (K 1 S)) ∧ (¬ x1 = 196 → ((x1 = 217 → (((S.1 u 6) = 0 → (b_Un_canCome_104 U u S K)) ∧ (¬ ((S.1 u 6) = 0) → (p_Un_allScanned U u S (fun v94 S94 => (v94 = 0 → (b_Un_canCome_104 U u S94 K)) ∧ (¬ (v94 = 0) → (b_Un_canCome_105 U u 1 S94 K))))))) ∧ (¬ x1 = 217 → ((x1 = 218 → (narrow .boolean (.int (S.1 u 6)) = .int (S.1 u 6) ∧ K (S.1 u 6) S)) ∧ (¬ x1 = 218 → ((x1 = 219 → (K 1 S)) ∧ (¬ x1 = 219 → ((x1 = 221 → (K 1 S)) ∧ (¬ x1 = 221 → ((x1 = 254 → (K 1 S)) ∧ (¬ x1 = 254 → ((x1 < 224 → (b_Un_canCome_126 U u S K)) ∧ (¬ (x1 < 224) → ((239 < x1 → (b_Un_canCome_126 U u S K)) ∧ (¬ (239 < x1) → (b_Un_canCome_127 U u 1 S K))))))))))))))))))
section C_Un_canCome
variable {D : va_G} {z : Nat → ClassId} {A : Nat → Prop} {X : cx} {L0 : fw} {U : ut} {oa : Nat → Nat} {u : Nat} {K : Int32 → cs → Prop}
set_option maxRecDepth 100000 in
set_option maxHeartbeats 1000000 in
theorem s_Un_canCome_127 (C : fcx gG D z A X R_Un c_C_Un_canCome 2 (some .boolean)) (hQ : X.2.2.2.2.2.2.2.2.2.2 = eQ gG D z X.2.2.2.2.2.2.2.1 X.2.2.2.2.1 L0 0 0 (pC_i lt_C U oa K (fun _ _ => False))) (hA : A = owA gG L0 X.2.2.2.2.1.heap.size) (hR : X.2.2.2.1 = { frames := 2, cells := 1, slots := 6, locals := 200 }) (hu : c_cl U u = 11) (s0 : Int32) (S : cs) (hp : b_Un_canCome_127 U u s0 S K) : aw gG D z A X 2 127 [some (.ref (oa u)), none] [.int s0] (cw lt_C U oa S) 0 0 := by
  unfold b_Un_canCome_127 at hp
  exact a_iret (ty := .boolean) C hQ hA dc_Un_canCome_127 rfl hp.1 (Or.inl ⟨_, S, hp.2, rfl, rfl⟩)
set_option maxRecDepth 100000 in
set_option maxHeartbeats 1000000 in
theorem s_Un_canCome_126 (C : fcx gG D z A X R_Un c_C_Un_canCome 2 (some .boolean)) (hQ : X.2.2.2.2.2.2.2.2.2.2 = eQ gG D z X.2.2.2.2.2.2.2.1 X.2.2.2.2.1 L0 0 0 (pC_i lt_C U oa K (fun _ _ => False))) (hA : A = owA gG L0 X.2.2.2.2.1.heap.size) (hR : X.2.2.2.1 = { frames := 2, cells := 1, slots := 6, locals := 200 }) (hu : c_cl U u = 11)  (S : cs) (hp : b_Un_canCome_126 U u S K) : aw gG D z A X 2 126 [some (.ref (oa u)), none] [] (cw lt_C U oa S) 0 0 := by
  unfold b_Un_canCome_126 at hp
  refine a_iconst (v := 0) C dc_Un_canCome_126 (by decide) ?_
  refine aw_lo (lo' := [some (.ref (oa u)), none]) ⟨.inr rfl, .inr rfl, trivial⟩ ?_
  exact s_Un_canCome_127 C hQ hA hR hu 0 S  hp
set_option maxRecDepth 100000 in
set_option maxHeartbeats 1000000 in
theorem s_Un_canCome_105 (C : fcx gG D z A X R_Un c_C_Un_canCome 2 (some .boolean)) (hQ : X.2.2.2.2.2.2.2.2.2.2 = eQ gG D z X.2.2.2.2.2.2.2.1 X.2.2.2.2.1 L0 0 0 (pC_i lt_C U oa K (fun _ _ => False))) (hA : A = owA gG L0 X.2.2.2.2.1.heap.size) (hR : X.2.2.2.1 = { frames := 2, cells := 1, slots := 6, locals := 200 }) (hu : c_cl U u = 11) (s0 : Int32) (S : cs) (hp : b_Un_canCome_105 U u s0 S K) : aw gG D z A X 2 105 [some (.ref (oa u)), none] [.int s0] (cw lt_C U oa S) 0 0 := by
  unfold b_Un_canCome_105 at hp
  exact a_iret (ty := .boolean) C hQ hA dc_Un_canCome_105 rfl hp.1 (Or.inl ⟨_, S, hp.2, rfl, rfl⟩)
set_option maxRecDepth 100000 in
set_option maxHeartbeats 1000000 in
theorem s_Un_canCome_104 (C : fcx gG D z A X R_Un c_C_Un_canCome 2 (some .boolean)) (hQ : X.2.2.2.2.2.2.2.2.2.2 = eQ gG D z X.2.2.2.2.2.2.2.1 X.2.2.2.2.1 L0 0 0 (pC_i lt_C U oa K (fun _ _ => False))) (hA : A = owA gG L0 X.2.2.2.2.1.heap.size) (hR : X.2.2.2.1 = { frames := 2, cells := 1, slots := 6, locals := 200 }) (hu : c_cl U u = 11)  (S : cs) (hp : b_Un_canCome_104 U u S K) : aw gG D z A X 2 104 [some (.ref (oa u)), none] [] (cw lt_C U oa S) 0 0 := by
  unfold b_Un_canCome_104 at hp
  refine a_iconst (v := 0) C dc_Un_canCome_104 (by decide) ?_
  refine aw_lo (lo' := [some (.ref (oa u)), none]) ⟨.inr rfl, .inr rfl, trivial⟩ ?_
  exact s_Un_canCome_105 C hQ hA hR hu 0 S  hp
set_option maxRecDepth 100000 in
set_option maxHeartbeats 1000000 in
theorem s_Un_canCome_80 (C : fcx gG D z A X R_Un c_C_Un_canCome 2 (some .boolean)) (hQ : X.2.2.2.2.2.2.2.2.2.2 = eQ gG D z X.2.2.2.2.2.2.2.1 X.2.2.2.2.1 L0 0 0 (pC_i lt_C U oa K (fun _ _ => False))) (hA : A = owA gG L0 X.2.2.2.2.1.heap.size) (hR : X.2.2.2.1 = { frames := 2, cells := 1, slots := 6, locals := 200 }) (hu : c_cl U u = 11) (s0 : Int32) (S : cs) (hp : b_Un_canCome_80 U u s0 S K) : aw gG D z A X 2 80 [some (.ref (oa u)), none] [.int s0] (cw lt_C U oa S) 0 0 := by
  unfold b_Un_canCome_80 at hp
  exact a_iret (ty := .boolean) C hQ hA dc_Un_canCome_80 rfl hp.1 (Or.inl ⟨_, S, hp.2, rfl, rfl⟩)
set_option maxRecDepth 100000 in
set_option maxHeartbeats 1000000 in
theorem s_Un_canCome_0 (C : fcx gG D z A X R_Un c_C_Un_canCome 2 (some .boolean)) (hQ : X.2.2.2.2.2.2.2.2.2.2 = eQ gG D z X.2.2.2.2.2.2.2.1 X.2.2.2.2.1 L0 0 0 (pC_i lt_C U oa K (fun _ _ => False))) (hA : A = owA gG L0 X.2.2.2.2.1.heap.size) (hR : X.2.2.2.1 = { frames := 2, cells := 1, slots := 6, locals := 200 }) (hu : c_cl U u = 11) (x1 : Int32) (S : cs) (hp : p_Un_canCome U u x1 S K) : aw gG D z A X 2 0 [some (.ref (oa u)), some (.int x1)] [] (cw lt_C U oa S) 0 0 := by
  unfold p_Un_canCome at hp
  refine a_iload_n C dc_Un_canCome_0 rfl rfl ?_
  refine (Classical.em (x1 = 192)).elim (fun hc => ?_) (fun hk1 => ?_)
  · have hp := hp.1 hc
    refine a_look (off := 67) (tgt := 68) C dc_Un_canCome_1 (by decide) (by rw [hc]; decide) (by decide) ?_
    refine a_aload_n C dc_Un_canCome_68 rfl rfl ?_
    refine c_getI C u 6 dc_Un_canCome_69 hu rfl rfl (Nat.le_of_ble_eq_true rfl) f_Un_99 (Nat.le_of_ble_eq_true rfl) ?_
    refine a_if_ne (tgt := 79) C dc_Un_canCome_72 (by decide) ⟨fun hc => ?_, fun hc => ?_⟩
    · have hp := hp.1 hc
      refine a_iconst (v := 0) C dc_Un_canCome_79 (by decide) ?_
      refine aw_lo (lo' := [some (.ref (oa u)), none]) ⟨.inr rfl, .inl rfl, trivial⟩ ?_
      exact s_Un_canCome_80 C hQ hA hR hu 0 S  hp
    · have hp := hp.2 hc
      refine a_iconst (v := 1) C dc_Un_canCome_75 (by decide) ?_
      refine a_goto (tgt := 80) C dc_Un_canCome_76 (by decide) ?_
      refine aw_lo (lo' := [some (.ref (oa u)), none]) ⟨.inr rfl, .inl rfl, trivial⟩ ?_
      exact s_Un_canCome_80 C hQ hA hR hu 1 S  hp
  · have hp := hp.2 hk1
    refine (Classical.em (x1 = 196)).elim (fun hc => ?_) (fun hk2 => ?_)
    · have hp := hp.1 hc
      refine a_look (off := 105) (tgt := 106) C dc_Un_canCome_1 (by decide) (by rw [hc]; decide) (by decide) ?_
      refine a_iconst (v := 1) C dc_Un_canCome_106 (by decide) ?_
      exact a_iret (ty := .boolean) C hQ hA dc_Un_canCome_107 rfl rfl (Or.inl ⟨_, S, hp, rfl, rfl⟩)
    · have hp := hp.2 hk2
      refine (Classical.em (x1 = 217)).elim (fun hc => ?_) (fun hk3 => ?_)
      · have hp := hp.1 hc
        refine a_look (off := 85) (tgt := 86) C dc_Un_canCome_1 (by decide) (by rw [hc]; decide) (by decide) ?_
        refine a_aload_n C dc_Un_canCome_86 rfl rfl ?_
        refine c_getI C u 6 dc_Un_canCome_87 hu rfl rfl (Nat.le_of_ble_eq_true rfl) f_Un_99 (Nat.le_of_ble_eq_true rfl) ?_
        refine a_if_eq (tgt := 104) C dc_Un_canCome_90 (by decide) ⟨fun hc => ?_, fun hc => ?_⟩
        · have hp := hp.1 hc
          refine aw_lo (lo' := [some (.ref (oa u)), none]) ⟨.inr rfl, .inl rfl, trivial⟩ ?_
          exact s_Un_canCome_104 C hQ hA hR hu S  hp
        · have hp := hp.2 hc
          refine a_aload_n C dc_Un_canCome_93 rfl rfl ?_
          refine c_call (rest := []) (av := .ref (oa u) :: []) C dc_Un_canCome_94 (ct_Un_allScanned u S hu hp) cd_C_Un_allScanned i_Un (Nat.le_of_ble_eq_true rfl) (by rw [hR]; exact Nat.le_of_ble_eq_true rfl) (by rw [hR]; exact Nat.le_of_ble_eq_true rfl) (by rw [hR]; exact Nat.le_of_ble_eq_true rfl) (by rw [hR]; exact Nat.le_of_ble_eq_true rfl) (inv_V C u dc_Un_canCome_94 l_Un_106 im_C_Un_allScanned se_C_Un_allScanned cd_C_Un_allScanned ⟨by decide, by decide⟩ ln_C_Un_allScanned rfl rfl (cw_obj hu rfl) rfl rfl) (fun oc L1 hL => ?_)
          obtain ⟨v94, S94, hp, rfl, rfl⟩ := hL.resolve_right pC_no
          refine ⟨_, rfl, ?_⟩
          refine aw_eq (lo' := _) (st' := [.int v94]) (L' := (cw lt_C U oa S94)) rfl rfl rfl ?_
          refine a_if_eq (tgt := 104) C dc_Un_canCome_97 (by decide) ⟨fun hc => ?_, fun hc => ?_⟩
          · have hp := hp.1 hc
            refine aw_lo (lo' := [some (.ref (oa u)), none]) ⟨.inr rfl, .inl rfl, trivial⟩ ?_
            exact s_Un_canCome_104 C hQ hA hR hu S94  hp
          · have hp := hp.2 hc
            refine a_iconst (v := 1) C dc_Un_canCome_100 (by decide) ?_
            refine a_goto (tgt := 105) C dc_Un_canCome_101 (by decide) ?_
            refine aw_lo (lo' := [some (.ref (oa u)), none]) ⟨.inr rfl, .inl rfl, trivial⟩ ?_
            exact s_Un_canCome_105 C hQ hA hR hu 1 S94  hp
      · have hp := hp.2 hk3
        refine (Classical.em (x1 = 218)).elim (fun hc => ?_) (fun hk4 => ?_)
        · have hp := hp.1 hc
          refine a_look (off := 80) (tgt := 81) C dc_Un_canCome_1 (by decide) (by rw [hc]; decide) (by decide) ?_
          refine a_aload_n C dc_Un_canCome_81 rfl rfl ?_
          refine c_getI C u 6 dc_Un_canCome_82 hu rfl rfl (Nat.le_of_ble_eq_true rfl) f_Un_99 (Nat.le_of_ble_eq_true rfl) ?_
          exact a_iret (ty := .boolean) C hQ hA dc_Un_canCome_85 rfl hp.1 (Or.inl ⟨_, S, hp.2, rfl, rfl⟩)
        · have hp := hp.2 hk4
          refine (Classical.em (x1 = 219)).elim (fun hc => ?_) (fun hk5 => ?_)
          · have hp := hp.1 hc
            refine a_look (off := 105) (tgt := 106) C dc_Un_canCome_1 (by decide) (by rw [hc]; decide) (by decide) ?_
            refine a_iconst (v := 1) C dc_Un_canCome_106 (by decide) ?_
            exact a_iret (ty := .boolean) C hQ hA dc_Un_canCome_107 rfl rfl (Or.inl ⟨_, S, hp, rfl, rfl⟩)
          · have hp := hp.2 hk5
            refine (Classical.em (x1 = 221)).elim (fun hc => ?_) (fun hk6 => ?_)
            · have hp := hp.1 hc
              refine a_look (off := 105) (tgt := 106) C dc_Un_canCome_1 (by decide) (by rw [hc]; decide) (by decide) ?_
              refine a_iconst (v := 1) C dc_Un_canCome_106 (by decide) ?_
              exact a_iret (ty := .boolean) C hQ hA dc_Un_canCome_107 rfl rfl (Or.inl ⟨_, S, hp, rfl, rfl⟩)
            · have hp := hp.2 hk6
              refine (Classical.em (x1 = 254)).elim (fun hc => ?_) (fun hk7 => ?_)
              · have hp := hp.1 hc
                refine a_look (off := 105) (tgt := 106) C dc_Un_canCome_1 (by decide) (by rw [hc]; decide) (by decide) ?_
                refine a_iconst (v := 1) C dc_Un_canCome_106 (by decide) ?_
                exact a_iret (ty := .boolean) C hQ hA dc_Un_canCome_107 rfl rfl (Or.inl ⟨_, S, hp, rfl, rfl⟩)
              · have hp := hp.2 hk7
                refine a_look (off := 107) (tgt := 108) C dc_Un_canCome_1 (by decide) ((lv_osw hk1 (by decide)).trans ((lv_osw hk2 (by decide)).trans ((lv_osw hk3 (by decide)).trans ((lv_osw hk4 (by decide)).trans ((lv_osw hk5 (by decide)).trans ((lv_osw hk6 (by decide)).trans ((lv_osw hk7 (by decide)).trans (rfl)))))))) (by decide) ?_
                refine a_iload_n C dc_Un_canCome_108 rfl rfl ?_
                refine a_sipush (v := 224) C dc_Un_canCome_109 (by decide) ?_
                refine a_icmp_lt (tgt := 126) C dc_Un_canCome_112 (by decide) ⟨fun hc => ?_, fun hc => ?_⟩
                · have hp := hp.1 hc
                  refine aw_lo (lo' := [some (.ref (oa u)), none]) ⟨.inr rfl, .inl rfl, trivial⟩ ?_
                  exact s_Un_canCome_126 C hQ hA hR hu S  hp
                · have hp := hp.2 hc
                  refine a_iload_n C dc_Un_canCome_115 rfl rfl ?_
                  refine a_sipush (v := 239) C dc_Un_canCome_116 (by decide) ?_
                  refine a_icmp_gt (tgt := 126) C dc_Un_canCome_119 (by decide) ⟨fun hc => ?_, fun hc => ?_⟩
                  · have hp := hp.1 hc
                    refine aw_lo (lo' := [some (.ref (oa u)), none]) ⟨.inr rfl, .inl rfl, trivial⟩ ?_
                    exact s_Un_canCome_126 C hQ hA hR hu S  hp
                  · have hp := hp.2 hc
                    refine a_iconst (v := 1) C dc_Un_canCome_122 (by decide) ?_
                    refine a_goto (tgt := 127) C dc_Un_canCome_123 (by decide) ?_
                    refine aw_lo (lo' := [some (.ref (oa u)), none]) ⟨.inr rfl, .inl rfl, trivial⟩ ?_
                    exact s_Un_canCome_127 C hQ hA hR hu 1 S  hp
end C_Un_canCome
section C_Un_canComec
variable {D : va_G} {z : Nat → ClassId} {U : ut} {oa : Nat → Nat}
set_option maxRecDepth 100000 in
theorem ct_Un_canCome {l : Launch} (u : Nat) (x1 : Int32) (S : cs) {K : Int32 → cs → Prop} (hu : c_cl U u = 11) (hp : p_Un_canCome U u x1 S K) : ct gG D z l n_C_Un_canCome c_C_Un_canCome 2 (some .boolean) 2 200 [.ref (oa u), .int x1] (cw lt_C U oa S) 0 0 (pC_i lt_C U oa K (fun _ _ => False)) := by
  refine ct_of (lo := [some (.ref (oa u)), some (.int x1)]) (by decide) g_ok (Nat.le_of_ble_eq_true rfl) rfl ?_
  intro X A _ C hR hQ hA _
  exact s_Un_canCome_0 C hQ hA hR hu x1 S hp
end C_Un_canComec
def p_Re_readTwo (U : ut) (u : Nat)  (S : cs) (K : Int32 → cs → Prop) (T : Nat → cs → Prop) : Prop :=
  p_Re_read U u S (fun v1 S1 => p_Re_read U u S1 (fun v11 S11 => K ((256 * v1) + v11) S11) T) T
section C_Re_readTwo
variable {D : va_G} {z : Nat → ClassId} {A : Nat → Prop} {X : cx} {L0 : fw} {U : ut} {oa : Nat → Nat} {u : Nat} {K : Int32 → cs → Prop} {T : Nat → cs → Prop}
set_option maxRecDepth 100000 in
set_option maxHeartbeats 1000000 in
theorem s_Re_readTwo_0 (C : fcx gG D z A X R_Re c_C_Re_readTwo 2 (some .int)) (hQ : X.2.2.2.2.2.2.2.2.2.2 = eQ gG D z X.2.2.2.2.2.2.2.1 X.2.2.2.2.1 L0 0 0 (pC_i lt_C U oa K T)) (hA : A = owA gG L0 X.2.2.2.2.1.heap.size) (hR : X.2.2.2.1 = { frames := 10, cells := 1, slots := 6, locals := 1000 }) (hno : ∀ x ∈ X.2.2.2.2.2.2.2.2.2.1.exceptionTable.toList, False) (hfl : X.2.1.flags = pinnedFlags ++ [noTraceFlag]) (hu : c_cl U u = 8)  (S : cs) (hp : p_Re_readTwo U u S K T) : aw gG D z A X 2 0 [some (.ref (oa u)), none] [] (cw lt_C U oa S) 0 0 := by
  unfold p_Re_readTwo at hp
  refine a_aload_n C dc_Re_readTwo_0 rfl rfl ?_
  refine c_callT (rest := []) (av := .ref (oa u) :: []) C dc_Re_readTwo_1 (ct_Re_read u S hfl hu hp) cd_C_Re_read i_Re (Nat.le_of_ble_eq_true rfl) (by rw [hR]; exact Nat.le_of_ble_eq_true rfl) (by rw [hR]; exact Nat.le_of_ble_eq_true rfl) (by rw [hR]; exact Nat.le_of_ble_eq_true rfl) (by rw [hR]; exact Nat.le_of_ble_eq_true rfl) (inv_V C u dc_Re_readTwo_1 l_Re_47 im_C_Re_read se_C_Re_read cd_C_Re_read ⟨by decide, by decide⟩ ln_C_Re_read rfl rfl (cw_obj hu rfl) rfl rfl) (fun oc L1 hL => ?_)
  rcases hL with ⟨v1, S1, hp, rfl, rfl⟩ | ⟨c9, a9, S9, hp, rfl, rfl⟩
  rotate_left
  · exact Or.inr ⟨a9, rfl, t_out C hQ hA (fun x hx => (hno x hx).elim) (Or.inr ⟨c9, a9, S9, hp, rfl, rfl⟩) (Nat.le_of_ble_eq_true rfl) (Nat.le_of_ble_eq_true rfl)⟩
  refine Or.inl ⟨_, rfl, ?_⟩
  refine aw_eq (lo' := _) (st' := [.int v1]) (L' := (cw lt_C U oa S1)) rfl rfl rfl ?_
  refine a_istore_n (lo' := [some (.ref (oa u)), some (.int v1)]) C dc_Re_readTwo_4 rfl (by decide) rfl ?_
  refine a_sipush (v := 256) C dc_Re_readTwo_5 (by decide) ?_
  refine a_iload_n C dc_Re_readTwo_8 rfl rfl ?_
  refine a_imul C dc_Re_readTwo_9 ?_
  refine a_aload_n C dc_Re_readTwo_10 rfl rfl ?_
  refine c_callT (rest := [.int (256 * v1)]) (av := .ref (oa u) :: []) C dc_Re_readTwo_11 (ct_Re_read u S1 hfl hu hp) cd_C_Re_read i_Re (Nat.le_of_ble_eq_true rfl) (by rw [hR]; exact Nat.le_of_ble_eq_true rfl) (by rw [hR]; exact Nat.le_of_ble_eq_true rfl) (by rw [hR]; exact Nat.le_of_ble_eq_true rfl) (by rw [hR]; exact Nat.le_of_ble_eq_true rfl) (inv_V C u dc_Re_readTwo_11 l_Re_47 im_C_Re_read se_C_Re_read cd_C_Re_read ⟨by decide, by decide⟩ ln_C_Re_read rfl rfl (cw_obj hu rfl) rfl rfl) (fun oc L1 hL => ?_)
  rcases hL with ⟨v11, S11, hp, rfl, rfl⟩ | ⟨c9, a9, S9, hp, rfl, rfl⟩
  rotate_left
  · exact Or.inr ⟨a9, rfl, t_out C hQ hA (fun x hx => (hno x hx).elim) (Or.inr ⟨c9, a9, S9, hp, rfl, rfl⟩) (Nat.le_of_ble_eq_true rfl) (Nat.le_of_ble_eq_true rfl)⟩
  refine Or.inl ⟨_, rfl, ?_⟩
  refine aw_eq (lo' := _) (st' := [.int v11, .int (256 * v1)]) (L' := (cw lt_C U oa S11)) rfl rfl rfl ?_
  refine a_iadd C dc_Re_readTwo_14 ?_
  exact a_iret (ty := .int) C hQ hA dc_Re_readTwo_15 rfl rfl (Or.inl ⟨_, S11, hp, rfl, rfl⟩)
end C_Re_readTwo
section C_Re_readTwoc
variable {D : va_G} {z : Nat → ClassId} {U : ut} {oa : Nat → Nat}
set_option maxRecDepth 100000 in
theorem ct_Re_readTwo {l : Launch} (u : Nat)  (S : cs) {K : Int32 → cs → Prop} {T : Nat → cs → Prop} (hfl : l.flags = pinnedFlags ++ [noTraceFlag]) (hu : c_cl U u = 8) (hp : p_Re_readTwo U u S K T) : ct gG D z l n_C_Re_readTwo c_C_Re_readTwo 2 (some .int) 10 1000 [.ref (oa u)] (cw lt_C U oa S) 0 0 (pC_i lt_C U oa K T) := by
  refine ct_of (lo := [some (.ref (oa u)), none]) (by decide) g_ok (Nat.le_of_ble_eq_true rfl) rfl ?_
  intro X A hl C hR hQ hA hno
  exact s_Re_readTwo_0 C hQ hA hR hno (by rw [hl]; exact hfl) hu S hp
end C_Re_readTwoc
def b_Un_readWithin_34 (U : ut) (u : Nat) (x3 : Int32) (S : cs) (K : Int32 → cs → Prop) (T : Nat → cs → Prop) : Prop :=
  K x3 S
def p_Un_readWithin (U : ut) (u : Nat) (x1 : Int32) (x2 : Int32) (S : cs) (K : Int32 → cs → Prop) (T : Nat → cs → Prop) : Prop :=
  ¬ S.2.2 u 0 = NU ∧ (c_cl U (S.2.2 u 0) = 8 ∧ (p_Re_read U (S.2.2 u 0) S (fun v4 S4 => p_B_isWithin v4 x1 x2 (fun v11 => (¬ v11 = 0 → (b_Un_readWithin_34 U u v4 S4 K T)) ∧ (v11 = 0 → (¬ S4.2.2 u 0 = NU ∧ (¬ S4.2.2 u 0 = NU ∧ (c_cl U (S4.2.2 u 0) = 8 ∧ (p_Re_fail U (S4.2.2 u 0) 5 ((S4.1 (S4.2.2 u 0) 1) - 1) S4 (fun S31 => b_Un_readWithin_34 U u v4 S31 K T) T))))))) T))
section C_Un_readWithin
variable {D : va_G} {z : Nat → ClassId} {A : Nat → Prop} {X : cx} {L0 : fw} {U : ut} {oa : Nat → Nat} {u : Nat} {K : Int32 → cs → Prop} {T : Nat → cs → Prop}
set_option maxRecDepth 100000 in
set_option maxHeartbeats 1000000 in
theorem s_Un_readWithin_34 (C : fcx gG D z A X R_Un c_C_Un_readWithin 4 (some .int)) (hQ : X.2.2.2.2.2.2.2.2.2.2 = eQ gG D z X.2.2.2.2.2.2.2.1 X.2.2.2.2.1 L0 0 0 (pC_i lt_C U oa K T)) (hA : A = owA gG L0 X.2.2.2.2.1.heap.size) (hR : X.2.2.2.1 = { frames := 10, cells := 1, slots := 6, locals := 1000 }) (hno : ∀ x ∈ X.2.2.2.2.2.2.2.2.2.1.exceptionTable.toList, False) (hfl : X.2.1.flags = pinnedFlags ++ [noTraceFlag]) (hu : c_cl U u = 11) (x3 : Int32) (S : cs) (hp : b_Un_readWithin_34 U u x3 S K T) : aw gG D z A X 4 34 [some (.ref (oa u)), none, none, some (.int x3)] [] (cw lt_C U oa S) 0 0 := by
  unfold b_Un_readWithin_34 at hp
  refine a_iload_n C dc_Un_readWithin_34 rfl rfl ?_
  exact a_iret (ty := .int) C hQ hA dc_Un_readWithin_35 rfl rfl (Or.inl ⟨_, S, hp, rfl, rfl⟩)
set_option maxRecDepth 100000 in
set_option maxHeartbeats 1000000 in
theorem s_Un_readWithin_0 (C : fcx gG D z A X R_Un c_C_Un_readWithin 4 (some .int)) (hQ : X.2.2.2.2.2.2.2.2.2.2 = eQ gG D z X.2.2.2.2.2.2.2.1 X.2.2.2.2.1 L0 0 0 (pC_i lt_C U oa K T)) (hA : A = owA gG L0 X.2.2.2.2.1.heap.size) (hR : X.2.2.2.1 = { frames := 10, cells := 1, slots := 6, locals := 1000 }) (hno : ∀ x ∈ X.2.2.2.2.2.2.2.2.2.1.exceptionTable.toList, False) (hfl : X.2.1.flags = pinnedFlags ++ [noTraceFlag]) (hu : c_cl U u = 11) (x1 : Int32) (x2 : Int32) (S : cs) (hp : p_Un_readWithin U u x1 x2 S K T) : aw gG D z A X 4 0 [some (.ref (oa u)), some (.int x1), some (.int x2), none] [] (cw lt_C U oa S) 0 0 := by
  unfold p_Un_readWithin at hp
  refine a_aload_n C dc_Un_readWithin_0 rfl rfl ?_
  refine c_getR C u 0 dc_Un_readWithin_1 hu rfl rfl (Nat.le_of_ble_eq_true rfl) f_Un_12 rfl hp.1 ?_
  have hp := hp.2
  have hc1 := hp.1
  have hp := hp.2
  refine c_callT (rest := []) (av := .ref (oa (S.2.2 u 0)) :: []) C dc_Un_readWithin_4 (ct_Re_read (S.2.2 u 0) S hfl hc1 hp) cd_C_Re_read i_Re (Nat.le_of_ble_eq_true rfl) (by rw [hR]; exact Nat.le_of_ble_eq_true rfl) (by rw [hR]; exact Nat.le_of_ble_eq_true rfl) (by rw [hR]; exact Nat.le_of_ble_eq_true rfl) (by rw [hR]; exact Nat.le_of_ble_eq_true rfl) (inv_V C (S.2.2 u 0) dc_Un_readWithin_4 l_Un_138 im_C_Re_read se_C_Re_read cd_C_Re_read ⟨by decide, by decide⟩ ln_C_Re_read rfl rfl (cw_obj hc1 rfl) rfl rfl) (fun oc L1 hL => ?_)
  rcases hL with ⟨v4, S4, hp, rfl, rfl⟩ | ⟨c9, a9, S9, hp, rfl, rfl⟩
  rotate_left
  · exact Or.inr ⟨a9, rfl, t_out C hQ hA (fun x hx => (hno x hx).elim) (Or.inr ⟨c9, a9, S9, hp, rfl, rfl⟩) (Nat.le_of_ble_eq_true rfl) (Nat.le_of_ble_eq_true rfl)⟩
  refine Or.inl ⟨_, rfl, ?_⟩
  refine aw_eq (lo' := _) (st' := [.int v4]) (L' := (cw lt_C U oa S4)) rfl rfl rfl ?_
  refine a_istore_n (lo' := [some (.ref (oa u)), some (.int x1), some (.int x2), some (.int v4)]) C dc_Un_readWithin_7 rfl (by decide) rfl ?_
  refine a_iload_n C dc_Un_readWithin_8 rfl rfl ?_
  refine a_iload_n C dc_Un_readWithin_9 rfl rfl ?_
  refine a_iload_n C dc_Un_readWithin_10 rfl rfl ?_
  refine a_callP (rest := []) (av := [.int v4, .int x1, .int x2]) C dc_Un_readWithin_11 (ct_B_isWithin v4 x1 x2 hp) cd_C_B_isWithin i_B (Nat.le_of_ble_eq_true rfl) (by rw [hR]; exact Nat.le_of_ble_eq_true rfl) (by rw [hR]; exact Nat.le_of_ble_eq_true rfl) (by rw [hR]; exact Nat.le_of_ble_eq_true rfl) (by rw [hR]; exact Nat.le_of_ble_eq_true rfl) (inv_SN C dc_Un_readWithin_11 l_Un_141 st_C_B_isWithin i_B cd_C_B_isWithin ⟨by decide, by decide⟩ ln_C_B_isWithin rfl) (fun v11 hp => ?_)
  refine aw_eq (lo' := _) (st' := [.int v11]) (L' := (cw lt_C U oa S4)) rfl rfl rfl ?_
  refine a_if_ne (tgt := 34) C dc_Un_readWithin_14 (by decide) ⟨fun hc => ?_, fun hc => ?_⟩
  · have hp := hp.1 hc
    refine aw_lo (lo' := [some (.ref (oa u)), none, none, some (.int v4)]) ⟨.inr rfl, .inl rfl, .inl rfl, .inr rfl, trivial⟩ ?_
    exact s_Un_readWithin_34 C hQ hA hR hno hfl hu v4 S4  hp
  · have hp := hp.2 hc
    refine a_aload_n C dc_Un_readWithin_17 rfl rfl ?_
    refine c_getR C u 0 dc_Un_readWithin_18 hu rfl rfl (Nat.le_of_ble_eq_true rfl) f_Un_12 rfl hp.1 ?_
    have hp := hp.2
    refine a_iconst (v := 5) C dc_Un_readWithin_21 (by decide) ?_
    refine a_aload_n C dc_Un_readWithin_22 rfl rfl ?_
    refine c_getR C u 0 dc_Un_readWithin_23 hu rfl rfl (Nat.le_of_ble_eq_true rfl) f_Un_12 rfl hp.1 ?_
    have hp := hp.2
    have hc2 := hp.1
    have hp := hp.2
    refine c_getIN C (S4.2.2 u 0) 1 dc_Un_readWithin_26 hc2 rfl rfl (Nat.le_of_ble_eq_true rfl) f_Un_70 (Nat.le_of_ble_eq_true rfl) ?_
    refine a_iconst (v := 1) C dc_Un_readWithin_29 (by decide) ?_
    refine a_isub C dc_Un_readWithin_30 ?_
    refine c_callT (rest := []) (av := .ref (oa (S4.2.2 u 0)) :: [.int 5, .int ((S4.1 (S4.2.2 u 0) 1) - 1)]) C dc_Un_readWithin_31 (ct_Re_fail (S4.2.2 u 0) 5 ((S4.1 (S4.2.2 u 0) 1) - 1) S4 hfl hc2 hp) cd_C_Re_fail i_Re (Nat.le_of_ble_eq_true rfl) (by rw [hR]; exact Nat.le_of_ble_eq_true rfl) (by rw [hR]; exact Nat.le_of_ble_eq_true rfl) (by rw [hR]; exact Nat.le_of_ble_eq_true rfl) (by rw [hR]; exact Nat.le_of_ble_eq_true rfl) (inv_V C (S4.2.2 u 0) dc_Un_readWithin_31 l_Un_74 im_C_Re_fail se_C_Re_fail cd_C_Re_fail ⟨by decide, by decide⟩ ln_C_Re_fail rfl rfl (cw_obj hc2 rfl) rfl rfl) (fun oc L1 hL => ?_)
    rcases hL with ⟨S31, hp, rfl, rfl⟩ | ⟨c9, a9, S9, hp, rfl, rfl⟩
    rotate_left
    · exact Or.inr ⟨a9, rfl, t_out C hQ hA (fun x hx => (hno x hx).elim) (Or.inr ⟨c9, a9, S9, hp, rfl, rfl⟩) (Nat.le_of_ble_eq_true rfl) (Nat.le_of_ble_eq_true rfl)⟩
    refine Or.inl ⟨_, rfl, ?_⟩
    refine aw_eq (lo' := _) (st' := []) (L' := (cw lt_C U oa S31)) rfl rfl rfl ?_
    refine aw_lo (lo' := [some (.ref (oa u)), none, none, some (.int v4)]) ⟨.inr rfl, .inl rfl, .inl rfl, .inr rfl, trivial⟩ ?_
    exact s_Un_readWithin_34 C hQ hA hR hno hfl hu v4 S31  hp
end C_Un_readWithin
section C_Un_readWithinc
variable {D : va_G} {z : Nat → ClassId} {U : ut} {oa : Nat → Nat}
set_option maxRecDepth 100000 in
theorem ct_Un_readWithin {l : Launch} (u : Nat) (x1 : Int32) (x2 : Int32) (S : cs) {K : Int32 → cs → Prop} {T : Nat → cs → Prop} (hfl : l.flags = pinnedFlags ++ [noTraceFlag]) (hu : c_cl U u = 11) (hp : p_Un_readWithin U u x1 x2 S K T) : ct gG D z l n_C_Un_readWithin c_C_Un_readWithin 4 (some .int) 10 1000 [.ref (oa u), .int x1, .int x2] (cw lt_C U oa S) 0 0 (pC_i lt_C U oa K T) := by
  refine ct_of (lo := [some (.ref (oa u)), some (.int x1), some (.int x2), none]) (by decide) g_ok (Nat.le_of_ble_eq_true rfl) rfl ?_
  intro X A hl C hR hQ hA hno
  exact s_Un_readWithin_0 C hQ hA hR hno (by rw [hl]; exact hfl) hu x1 x2 S hp
end C_Un_readWithinc
def b_Un_readSide_35 (U : ut) (u : Nat) (x1 : Int32) (S : cs) (K : Int32 → cs → Prop) (T : Nat → cs → Prop) : Prop :=
  K x1 S
def p_Un_readSide (U : ut) (u : Nat)  (S : cs) (K : Int32 → cs → Prop) (T : Nat → cs → Prop) : Prop :=
  ¬ S.2.2 u 0 = NU ∧ (c_cl U (S.2.2 u 0) = 8 ∧ (p_Re_readTwo U (S.2.2 u 0) S (fun v4 S4 => p_B_isWithin v4 1 64 (fun v12 => (¬ v12 = 0 → (b_Un_readSide_35 U u v4 S4 K T)) ∧ (v12 = 0 → (¬ S4.2.2 u 0 = NU ∧ (¬ S4.2.2 u 0 = NU ∧ (c_cl U (S4.2.2 u 0) = 8 ∧ (p_Re_fail U (S4.2.2 u 0) 5 ((S4.1 (S4.2.2 u 0) 1) - 2) S4 (fun S32 => b_Un_readSide_35 U u v4 S32 K T) T))))))) T))
section C_Un_readSide
variable {D : va_G} {z : Nat → ClassId} {A : Nat → Prop} {X : cx} {L0 : fw} {U : ut} {oa : Nat → Nat} {u : Nat} {K : Int32 → cs → Prop} {T : Nat → cs → Prop}
set_option maxRecDepth 100000 in
set_option maxHeartbeats 1000000 in
theorem s_Un_readSide_35 (C : fcx gG D z A X R_Un c_C_Un_readSide 2 (some .int)) (hQ : X.2.2.2.2.2.2.2.2.2.2 = eQ gG D z X.2.2.2.2.2.2.2.1 X.2.2.2.2.1 L0 0 0 (pC_i lt_C U oa K T)) (hA : A = owA gG L0 X.2.2.2.2.1.heap.size) (hR : X.2.2.2.1 = { frames := 11, cells := 1, slots := 6, locals := 1100 }) (hno : ∀ x ∈ X.2.2.2.2.2.2.2.2.2.1.exceptionTable.toList, False) (hfl : X.2.1.flags = pinnedFlags ++ [noTraceFlag]) (hu : c_cl U u = 11) (x1 : Int32) (S : cs) (hp : b_Un_readSide_35 U u x1 S K T) : aw gG D z A X 2 35 [some (.ref (oa u)), some (.int x1)] [] (cw lt_C U oa S) 0 0 := by
  unfold b_Un_readSide_35 at hp
  refine a_iload_n C dc_Un_readSide_35 rfl rfl ?_
  exact a_iret (ty := .int) C hQ hA dc_Un_readSide_36 rfl rfl (Or.inl ⟨_, S, hp, rfl, rfl⟩)
set_option maxRecDepth 100000 in
set_option maxHeartbeats 1000000 in
theorem s_Un_readSide_0 (C : fcx gG D z A X R_Un c_C_Un_readSide 2 (some .int)) (hQ : X.2.2.2.2.2.2.2.2.2.2 = eQ gG D z X.2.2.2.2.2.2.2.1 X.2.2.2.2.1 L0 0 0 (pC_i lt_C U oa K T)) (hA : A = owA gG L0 X.2.2.2.2.1.heap.size) (hR : X.2.2.2.1 = { frames := 11, cells := 1, slots := 6, locals := 1100 }) (hno : ∀ x ∈ X.2.2.2.2.2.2.2.2.2.1.exceptionTable.toList, False) (hfl : X.2.1.flags = pinnedFlags ++ [noTraceFlag]) (hu : c_cl U u = 11)  (S : cs) (hp : p_Un_readSide U u S K T) : aw gG D z A X 2 0 [some (.ref (oa u)), none] [] (cw lt_C U oa S) 0 0 := by
  unfold p_Un_readSide at hp
  refine a_aload_n C dc_Un_readSide_0 rfl rfl ?_
  refine c_getR C u 0 dc_Un_readSide_1 hu rfl rfl (Nat.le_of_ble_eq_true rfl) f_Un_12 rfl hp.1 ?_
  have hp := hp.2
  have hc1 := hp.1
  have hp := hp.2
  refine c_callT (rest := []) (av := .ref (oa (S.2.2 u 0)) :: []) C dc_Un_readSide_4 (ct_Re_readTwo (S.2.2 u 0) S hfl hc1 hp) cd_C_Re_readTwo i_Re (Nat.le_of_ble_eq_true rfl) (by rw [hR]; exact Nat.le_of_ble_eq_true rfl) (by rw [hR]; exact Nat.le_of_ble_eq_true rfl) (by rw [hR]; exact Nat.le_of_ble_eq_true rfl) (by rw [hR]; exact Nat.le_of_ble_eq_true rfl) (inv_V C (S.2.2 u 0) dc_Un_readSide_4 l_Un_116 im_C_Re_readTwo se_C_Re_readTwo cd_C_Re_readTwo ⟨by decide, by decide⟩ ln_C_Re_readTwo rfl rfl (cw_obj hc1 rfl) rfl rfl) (fun oc L1 hL => ?_)
  rcases hL with ⟨v4, S4, hp, rfl, rfl⟩ | ⟨c9, a9, S9, hp, rfl, rfl⟩
  rotate_left
  · exact Or.inr ⟨a9, rfl, t_out C hQ hA (fun x hx => (hno x hx).elim) (Or.inr ⟨c9, a9, S9, hp, rfl, rfl⟩) (Nat.le_of_ble_eq_true rfl) (Nat.le_of_ble_eq_true rfl)⟩
  refine Or.inl ⟨_, rfl, ?_⟩
  refine aw_eq (lo' := _) (st' := [.int v4]) (L' := (cw lt_C U oa S4)) rfl rfl rfl ?_
  refine a_istore_n (lo' := [some (.ref (oa u)), some (.int v4)]) C dc_Un_readSide_7 rfl (by decide) rfl ?_
  refine a_iload_n C dc_Un_readSide_8 rfl rfl ?_
  refine a_iconst (v := 1) C dc_Un_readSide_9 (by decide) ?_
  refine a_bipush (v := 64) C dc_Un_readSide_10 (by decide) ?_
  refine a_callP (rest := []) (av := [.int v4, .int 1, .int 64]) C dc_Un_readSide_12 (ct_B_isWithin v4 1 64 hp) cd_C_B_isWithin i_B (Nat.le_of_ble_eq_true rfl) (by rw [hR]; exact Nat.le_of_ble_eq_true rfl) (by rw [hR]; exact Nat.le_of_ble_eq_true rfl) (by rw [hR]; exact Nat.le_of_ble_eq_true rfl) (by rw [hR]; exact Nat.le_of_ble_eq_true rfl) (inv_SN C dc_Un_readSide_12 l_Un_141 st_C_B_isWithin i_B cd_C_B_isWithin ⟨by decide, by decide⟩ ln_C_B_isWithin rfl) (fun v12 hp => ?_)
  refine aw_eq (lo' := _) (st' := [.int v12]) (L' := (cw lt_C U oa S4)) rfl rfl rfl ?_
  refine a_if_ne (tgt := 35) C dc_Un_readSide_15 (by decide) ⟨fun hc => ?_, fun hc => ?_⟩
  · have hp := hp.1 hc
    refine aw_lo (lo' := [some (.ref (oa u)), some (.int v4)]) ⟨.inr rfl, .inr rfl, trivial⟩ ?_
    exact s_Un_readSide_35 C hQ hA hR hno hfl hu v4 S4  hp
  · have hp := hp.2 hc
    refine a_aload_n C dc_Un_readSide_18 rfl rfl ?_
    refine c_getR C u 0 dc_Un_readSide_19 hu rfl rfl (Nat.le_of_ble_eq_true rfl) f_Un_12 rfl hp.1 ?_
    have hp := hp.2
    refine a_iconst (v := 5) C dc_Un_readSide_22 (by decide) ?_
    refine a_aload_n C dc_Un_readSide_23 rfl rfl ?_
    refine c_getR C u 0 dc_Un_readSide_24 hu rfl rfl (Nat.le_of_ble_eq_true rfl) f_Un_12 rfl hp.1 ?_
    have hp := hp.2
    have hc2 := hp.1
    have hp := hp.2
    refine c_getIN C (S4.2.2 u 0) 1 dc_Un_readSide_27 hc2 rfl rfl (Nat.le_of_ble_eq_true rfl) f_Un_70 (Nat.le_of_ble_eq_true rfl) ?_
    refine a_iconst (v := 2) C dc_Un_readSide_30 (by decide) ?_
    refine a_isub C dc_Un_readSide_31 ?_
    refine c_callT (rest := []) (av := .ref (oa (S4.2.2 u 0)) :: [.int 5, .int ((S4.1 (S4.2.2 u 0) 1) - 2)]) C dc_Un_readSide_32 (ct_Re_fail (S4.2.2 u 0) 5 ((S4.1 (S4.2.2 u 0) 1) - 2) S4 hfl hc2 hp) cd_C_Re_fail i_Re (Nat.le_of_ble_eq_true rfl) (by rw [hR]; exact Nat.le_of_ble_eq_true rfl) (by rw [hR]; exact Nat.le_of_ble_eq_true rfl) (by rw [hR]; exact Nat.le_of_ble_eq_true rfl) (by rw [hR]; exact Nat.le_of_ble_eq_true rfl) (inv_V C (S4.2.2 u 0) dc_Un_readSide_32 l_Un_74 im_C_Re_fail se_C_Re_fail cd_C_Re_fail ⟨by decide, by decide⟩ ln_C_Re_fail rfl rfl (cw_obj hc2 rfl) rfl rfl) (fun oc L1 hL => ?_)
    rcases hL with ⟨S32, hp, rfl, rfl⟩ | ⟨c9, a9, S9, hp, rfl, rfl⟩
    rotate_left
    · exact Or.inr ⟨a9, rfl, t_out C hQ hA (fun x hx => (hno x hx).elim) (Or.inr ⟨c9, a9, S9, hp, rfl, rfl⟩) (Nat.le_of_ble_eq_true rfl) (Nat.le_of_ble_eq_true rfl)⟩
    refine Or.inl ⟨_, rfl, ?_⟩
    refine aw_eq (lo' := _) (st' := []) (L' := (cw lt_C U oa S32)) rfl rfl rfl ?_
    refine aw_lo (lo' := [some (.ref (oa u)), some (.int v4)]) ⟨.inr rfl, .inr rfl, trivial⟩ ?_
    exact s_Un_readSide_35 C hQ hA hR hno hfl hu v4 S32  hp
end C_Un_readSide
section C_Un_readSidec
variable {D : va_G} {z : Nat → ClassId} {U : ut} {oa : Nat → Nat}
set_option maxRecDepth 100000 in
theorem ct_Un_readSide {l : Launch} (u : Nat)  (S : cs) {K : Int32 → cs → Prop} {T : Nat → cs → Prop} (hfl : l.flags = pinnedFlags ++ [noTraceFlag]) (hu : c_cl U u = 11) (hp : p_Un_readSide U u S K T) : ct gG D z l n_C_Un_readSide c_C_Un_readSide 2 (some .int) 11 1100 [.ref (oa u)] (cw lt_C U oa S) 0 0 (pC_i lt_C U oa K T) := by
  refine ct_of (lo := [some (.ref (oa u)), none]) (by decide) g_ok (Nat.le_of_ble_eq_true rfl) rfl ?_
  intro X A hl C hR hQ hA hno
  exact s_Un_readSide_0 C hQ hA hR hno (by rw [hl]; exact hfl) hu S hp
end C_Un_readSidec
def b_Un_wantLength_16 (U : ut) (u : Nat)  (S : cs) (K : cs → Prop) (T : Nat → cs → Prop) : Prop :=
  K S
def p_Un_wantLength (U : ut) (u : Nat) (x1 : Int32) (S : cs) (K : cs → Prop) (T : Nat → cs → Prop) : Prop :=
  (¬ x1 = 0 → (b_Un_wantLength_16 U u S K T)) ∧ (x1 = 0 → (¬ S.2.2 u 0 = NU ∧ (c_cl U (S.2.2 u 0) = 8 ∧ (p_Re_fail U (S.2.2 u 0) 4 (S.1 u 12) S (fun S13 => b_Un_wantLength_16 U u S13 K T) T))))
section C_Un_wantLength
variable {D : va_G} {z : Nat → ClassId} {A : Nat → Prop} {X : cx} {L0 : fw} {U : ut} {oa : Nat → Nat} {u : Nat} {K : cs → Prop} {T : Nat → cs → Prop}
set_option maxRecDepth 100000 in
set_option maxHeartbeats 1000000 in
theorem s_Un_wantLength_16 (C : fcx gG D z A X R_Un c_C_Un_wantLength 2 (none)) (hQ : X.2.2.2.2.2.2.2.2.2.2 = eQ gG D z X.2.2.2.2.2.2.2.1 X.2.2.2.2.1 L0 0 0 (pC_v lt_C U oa K T)) (hA : A = owA gG L0 X.2.2.2.2.1.heap.size) (hR : X.2.2.2.1 = { frames := 10, cells := 1, slots := 6, locals := 1000 }) (hno : ∀ x ∈ X.2.2.2.2.2.2.2.2.2.1.exceptionTable.toList, False) (hfl : X.2.1.flags = pinnedFlags ++ [noTraceFlag]) (hu : c_cl U u = 11)  (S : cs) (hp : b_Un_wantLength_16 U u S K T) : aw gG D z A X 2 16 [some (.ref (oa u)), none] [] (cw lt_C U oa S) 0 0 := by
  unfold b_Un_wantLength_16 at hp
  exact a_vret C hQ hA dc_Un_wantLength_16 rfl (Or.inl ⟨S, hp, rfl, rfl⟩)
set_option maxRecDepth 100000 in
set_option maxHeartbeats 1000000 in
theorem s_Un_wantLength_0 (C : fcx gG D z A X R_Un c_C_Un_wantLength 2 (none)) (hQ : X.2.2.2.2.2.2.2.2.2.2 = eQ gG D z X.2.2.2.2.2.2.2.1 X.2.2.2.2.1 L0 0 0 (pC_v lt_C U oa K T)) (hA : A = owA gG L0 X.2.2.2.2.1.heap.size) (hR : X.2.2.2.1 = { frames := 10, cells := 1, slots := 6, locals := 1000 }) (hno : ∀ x ∈ X.2.2.2.2.2.2.2.2.2.1.exceptionTable.toList, False) (hfl : X.2.1.flags = pinnedFlags ++ [noTraceFlag]) (hu : c_cl U u = 11) (x1 : Int32) (S : cs) (hp : p_Un_wantLength U u x1 S K T) : aw gG D z A X 2 0 [some (.ref (oa u)), some (.int x1)] [] (cw lt_C U oa S) 0 0 := by
  unfold p_Un_wantLength at hp
  refine a_iload_n C dc_Un_wantLength_0 rfl rfl ?_
  refine a_if_ne (tgt := 16) C dc_Un_wantLength_1 (by decide) ⟨fun hc => ?_, fun hc => ?_⟩
  · have hp := hp.1 hc
    refine aw_lo (lo' := [some (.ref (oa u)), none]) ⟨.inr rfl, .inl rfl, trivial⟩ ?_
    exact s_Un_wantLength_16 C hQ hA hR hno hfl hu S  hp
  · have hp := hp.2 hc
    refine a_aload_n C dc_Un_wantLength_4 rfl rfl ?_
    refine c_getR C u 0 dc_Un_wantLength_5 hu rfl rfl (Nat.le_of_ble_eq_true rfl) f_Un_12 rfl hp.1 ?_
    have hp := hp.2
    refine a_iconst (v := 4) C dc_Un_wantLength_8 (by decide) ?_
    refine a_aload_n C dc_Un_wantLength_9 rfl rfl ?_
    refine c_getI C u 12 dc_Un_wantLength_10 hu rfl rfl (Nat.le_of_ble_eq_true rfl) f_Un_113 (Nat.le_of_ble_eq_true rfl) ?_
    have hc1 := hp.1
    have hp := hp.2
    refine c_callT (rest := []) (av := .ref (oa (S.2.2 u 0)) :: [.int 4, .int (S.1 u 12)]) C dc_Un_wantLength_13 (ct_Re_fail (S.2.2 u 0) 4 (S.1 u 12) S hfl hc1 hp) cd_C_Re_fail i_Re (Nat.le_of_ble_eq_true rfl) (by rw [hR]; exact Nat.le_of_ble_eq_true rfl) (by rw [hR]; exact Nat.le_of_ble_eq_true rfl) (by rw [hR]; exact Nat.le_of_ble_eq_true rfl) (by rw [hR]; exact Nat.le_of_ble_eq_true rfl) (inv_V C (S.2.2 u 0) dc_Un_wantLength_13 l_Un_74 im_C_Re_fail se_C_Re_fail cd_C_Re_fail ⟨by decide, by decide⟩ ln_C_Re_fail rfl rfl (cw_obj hc1 rfl) rfl rfl) (fun oc L1 hL => ?_)
    rcases hL with ⟨S13, hp, rfl, rfl⟩ | ⟨c9, a9, S9, hp, rfl, rfl⟩
    rotate_left
    · exact Or.inr ⟨a9, rfl, t_out C hQ hA (fun x hx => (hno x hx).elim) (Or.inr ⟨c9, a9, S9, hp, rfl, rfl⟩) (Nat.le_of_ble_eq_true rfl) (Nat.le_of_ble_eq_true rfl)⟩
    refine Or.inl ⟨_, rfl, ?_⟩
    refine aw_eq (lo' := _) (st' := []) (L' := (cw lt_C U oa S13)) rfl rfl rfl ?_
    refine aw_lo (lo' := [some (.ref (oa u)), none]) ⟨.inr rfl, .inl rfl, trivial⟩ ?_
    exact s_Un_wantLength_16 C hQ hA hR hno hfl hu S13  hp
end C_Un_wantLength
section C_Un_wantLengthc
variable {D : va_G} {z : Nat → ClassId} {U : ut} {oa : Nat → Nat}
set_option maxRecDepth 100000 in
theorem ct_Un_wantLength {l : Launch} (u : Nat) (x1 : Int32) (S : cs) {K : cs → Prop} {T : Nat → cs → Prop} (hfl : l.flags = pinnedFlags ++ [noTraceFlag]) (hu : c_cl U u = 11) (hp : p_Un_wantLength U u x1 S K T) : ct gG D z l n_C_Un_wantLength c_C_Un_wantLength 2 (none) 10 1000 [.ref (oa u), .int x1] (cw lt_C U oa S) 0 0 (pC_v lt_C U oa K T) := by
  refine ct_of (lo := [some (.ref (oa u)), some (.int x1)]) (by decide) g_ok (Nat.le_of_ble_eq_true rfl) rfl ?_
  intro X A hl C hR hQ hA hno
  exact s_Un_wantLength_0 C hQ hA hR hno (by rw [hl]; exact hfl) hu x1 S hp
end C_Un_wantLengthc
def b_Un_readFrameLayer_97 (U : ut) (u : Nat) (x1 : Int32) (x2 : Int32) (x3 : Int32) (S : cs) (K : cs → Prop) (T : Nat → cs → Prop) : Prop :=
  ¬ S.2.2 u 7 = NU ∧ (c_cl U (S.2.2 u 7) = 902 ∧ (vp_in x1 (c_ln U (S.2.2 u 7)) ∧ (¬ S.2.2 u 1 = NU ∧ (c_cl U (S.2.2 u 1) = 7 ∧ (p_Pi_setFactors U (S.2.2 u 1) x1 (x3 / 16) (x3 - x3 / 16 * 16) (va_up S.1 (S.2.2 u 7) (upd (S.1 (S.2.2 u 7)) x1.toNatClampNeg x2), S.2.1, S.2.2) (fun S117 => ¬ S117.2.2 u 8 = NU ∧ (p_Un_readWithin U u 0 3 S117 (fun v128 S128 => c_cl U (S117.2.2 u 8) = 902 ∧ (vp_in x1 (c_ln U (S117.2.2 u 8)) ∧ (¬ S128.2.2 u 9 = NU ∧ (c_cl U (S128.2.2 u 9) = 903 ∧ (vp_in x1 (c_ln U (S128.2.2 u 9)) ∧ (K (va_up (va_up S128.1 (S117.2.2 u 8) (upd (S128.1 (S117.2.2 u 8)) x1.toNatClampNeg v128)) (S128.2.2 u 9) (upd ((va_up S128.1 (S117.2.2 u 8) (upd (S128.1 (S117.2.2 u 8)) x1.toNatClampNeg v128)) (S128.2.2 u 9)) x1.toNatClampNeg (vp_nar .boolean 0)), S128.2.1, S128.2.2))))))) T)))))))
def b_Un_readFrameLayer_80 (U : ut) (u : Nat) (x1 : Int32) (x2 : Int32) (x3 : Int32) (S : cs) (K : cs → Prop) (T : Nat → cs → Prop) : Prop :=
  ¬ S.2.2 u 0 = NU ∧ (¬ S.2.2 u 0 = NU ∧ (c_cl U (S.2.2 u 0) = 8 ∧ (p_Re_fail U (S.2.2 u 0) 5 ((S.1 (S.2.2 u 0) 1) - 1) S (fun S94 => b_Un_readFrameLayer_97 U u x1 x2 x3 S94 K T) T)))
def b_Un_readFrameLayer_42 (U : ut) (u : Nat) (x1 : Int32) (x2 : Int32) (x3 : Int32) (S : cs) (R10 : Int32 → Int32 → Int32 → cs → Prop) (K : cs → Prop) (T : Nat → cs → Prop) : Prop :=
  R10 x1 x2 (x3 + 1) S
def b_Un_readFrameLayer_10 (U : ut) (u : Nat) (x1 : Int32) (x2 : Int32) (x3 : Int32) (S : cs) (R10 : Int32 → Int32 → Int32 → cs → Prop) (K : cs → Prop) (T : Nat → cs → Prop) : Prop :=
  (x1 ≤ x3 → (¬ S.2.2 u 0 = NU ∧ (c_cl U (S.2.2 u 0) = 8 ∧ (p_Re_read U (S.2.2 u 0) S (fun v52 S52 => p_B_isWithin (v52 / 16) 1 2 (fun v62 => (v62 = 0 → (b_Un_readFrameLayer_80 U u x1 x2 v52 S52 K T)) ∧ (¬ (v62 = 0) → (p_B_isWithin (v52 - v52 / 16 * 16) 1 2 (fun v74 => (¬ v74 = 0 → (b_Un_readFrameLayer_97 U u x1 x2 v52 S52 K T)) ∧ (v74 = 0 → (b_Un_readFrameLayer_80 U u x1 x2 v52 S52 K T))))))) T)))) ∧ (¬ (x1 ≤ x3) → (¬ S.2.2 u 7 = NU ∧ (c_cl U (S.2.2 u 7) = 902 ∧ (vp_in x3 (c_ln U (S.2.2 u 7)) ∧ ((¬ (S.1 (S.2.2 u 7) x3.toNatClampNeg) = x2 → (b_Un_readFrameLayer_42 U u x1 x2 x3 S R10 K T)) ∧ ((S.1 (S.2.2 u 7) x3.toNatClampNeg) = x2 → (¬ S.2.2 u 0 = NU ∧ (¬ S.2.2 u 0 = NU ∧ (c_cl U (S.2.2 u 0) = 8 ∧ (p_Re_fail U (S.2.2 u 0) 5 ((S.1 (S.2.2 u 0) 1) - 1) S (fun S39 => b_Un_readFrameLayer_42 U u x1 x2 x3 S39 R10 K T) T))))))))))
def e_Un_readFrameLayer_10 (U : ut) (u : Nat) (x1 : Int32) (x2 : Int32) (x3 : Int32) (S : cs) (K : cs → Prop) (T : Nat → cs → Prop) : Prop :=
  ∃ (I : Int32 → Int32 → Int32 → cs → Prop) (μ : Int32 → Int32 → Int32 → cs → Nat), I x1 x2 x3 S ∧ ∀ yx1 yx2 yx3 yS, I yx1 yx2 yx3 yS → b_Un_readFrameLayer_10 U u yx1 yx2 yx3 yS (fun zx1 zx2 zx3 zS => I zx1 zx2 zx3 zS ∧ μ zx1 zx2 zx3 zS < μ yx1 yx2 yx3 yS) K T
def p_Un_readFrameLayer (U : ut) (u : Nat) (x1 : Int32) (S : cs) (K : cs → Prop) (T : Nat → cs → Prop) : Prop :=
  ¬ S.2.2 u 0 = NU ∧ (c_cl U (S.2.2 u 0) = 8 ∧ (p_Re_read U (S.2.2 u 0) S (fun v4 S4 => e_Un_readFrameLayer_10 U u x1 v4 0 S4 K T) T))
section C_Un_readFrameLayer
variable {D : va_G} {z : Nat → ClassId} {A : Nat → Prop} {X : cx} {L0 : fw} {U : ut} {oa : Nat → Nat} {u : Nat} {K : cs → Prop} {T : Nat → cs → Prop}
set_option maxRecDepth 100000 in
set_option maxHeartbeats 1000000 in
theorem s_Un_readFrameLayer_97 (C : fcx gG D z A X R_Un c_C_Un_readFrameLayer 4 (none)) (hQ : X.2.2.2.2.2.2.2.2.2.2 = eQ gG D z X.2.2.2.2.2.2.2.1 X.2.2.2.2.1 L0 0 0 (pC_v lt_C U oa K T)) (hA : A = owA gG L0 X.2.2.2.2.1.heap.size) (hR : X.2.2.2.1 = { frames := 11, cells := 1, slots := 6, locals := 1100 }) (hno : ∀ x ∈ X.2.2.2.2.2.2.2.2.2.1.exceptionTable.toList, False) (hfl : X.2.1.flags = pinnedFlags ++ [noTraceFlag]) (hu : c_cl U u = 11) (x1 : Int32) (x2 : Int32) (x3 : Int32) (S : cs) (hp : b_Un_readFrameLayer_97 U u x1 x2 x3 S K T) : aw gG D z A X 4 97 [some (.ref (oa u)), some (.int x1), some (.int x2), some (.int x3)] [] (cw lt_C U oa S) 0 0 := by
  unfold b_Un_readFrameLayer_97 at hp
  refine a_aload_n C dc_Un_readFrameLayer_97 rfl rfl ?_
  refine c_getR C u 7 dc_Un_readFrameLayer_98 hu rfl rfl (Nat.le_of_ble_eq_true rfl) f_Un_47 rfl hp.1 ?_
  have hp := hp.2
  refine a_iload_n C dc_Un_readFrameLayer_101 rfl rfl ?_
  refine a_iload_n C dc_Un_readFrameLayer_102 rfl rfl ?_
  have hc1 := hp.1
  have hp := hp.2
  refine c_iast C (S.2.2 u 7) dc_Un_readFrameLayer_103 hc1 hp.1 ?_
  have hp := hp.2
  refine aw_eq (lo' := _) (st' := _) (L' := (cw lt_C U oa (va_up S.1 (S.2.2 u 7) (upd (S.1 (S.2.2 u 7)) x1.toNatClampNeg x2), S.2.1, S.2.2))) rfl rfl rfl ?_
  refine a_aload_n C dc_Un_readFrameLayer_104 rfl rfl ?_
  refine c_getR C u 1 dc_Un_readFrameLayer_105 hu rfl rfl (Nat.le_of_ble_eq_true rfl) f_Un_21 rfl hp.1 ?_
  have hp := hp.2
  refine a_iload_n C dc_Un_readFrameLayer_108 rfl rfl ?_
  refine a_iload_n C dc_Un_readFrameLayer_109 rfl rfl ?_
  refine a_bipush (v := 16) C dc_Un_readFrameLayer_110 (by decide) ?_
  refine a_idiv C dc_Un_readFrameLayer_112 (by decide) ?_
  refine a_iload_n C dc_Un_readFrameLayer_113 rfl rfl ?_
  refine a_bipush (v := 16) C dc_Un_readFrameLayer_114 (by decide) ?_
  refine a_irem C dc_Un_readFrameLayer_116 (by decide) ?_
  have hc2 := hp.1
  have hp := hp.2
  refine c_call (rest := []) (av := .ref (oa (S.2.2 u 1)) :: [.int x1, .int (x3 / 16), .int (x3 - x3 / 16 * 16)]) C dc_Un_readFrameLayer_117 (ct_Pi_setFactors (S.2.2 u 1) x1 (x3 / 16) (x3 - x3 / 16 * 16) (va_up S.1 (S.2.2 u 7) (upd (S.1 (S.2.2 u 7)) x1.toNatClampNeg x2), S.2.1, S.2.2) hc2 hp) cd_C_Pi_setFactors i_Pi (Nat.le_of_ble_eq_true rfl) (by rw [hR]; exact Nat.le_of_ble_eq_true rfl) (by rw [hR]; exact Nat.le_of_ble_eq_true rfl) (by rw [hR]; exact Nat.le_of_ble_eq_true rfl) (by rw [hR]; exact Nat.le_of_ble_eq_true rfl) (inv_V C (S.2.2 u 1) dc_Un_readFrameLayer_117 l_Un_185 im_C_Pi_setFactors se_C_Pi_setFactors cd_C_Pi_setFactors ⟨by decide, by decide⟩ ln_C_Pi_setFactors rfl rfl (cw_obj hc2 rfl) rfl rfl) (fun oc L1 hL => ?_)
  obtain ⟨S117, hp, rfl, rfl⟩ := hL.resolve_right pC_no
  refine ⟨_, rfl, ?_⟩
  refine aw_eq (lo' := _) (st' := []) (L' := (cw lt_C U oa S117)) rfl rfl rfl ?_
  refine a_aload_n C dc_Un_readFrameLayer_120 rfl rfl ?_
  refine c_getR C u 8 dc_Un_readFrameLayer_121 hu rfl rfl (Nat.le_of_ble_eq_true rfl) f_Un_50 rfl hp.1 ?_
  have hp := hp.2
  refine a_iload_n C dc_Un_readFrameLayer_124 rfl rfl ?_
  refine a_aload_n C dc_Un_readFrameLayer_125 rfl rfl ?_
  refine a_iconst (v := 0) C dc_Un_readFrameLayer_126 (by decide) ?_
  refine a_iconst (v := 3) C dc_Un_readFrameLayer_127 (by decide) ?_
  refine c_callT (rest := [.int x1, .ref (oa (S117.2.2 u 8))]) (av := .ref (oa u) :: [.int 0, .int 3]) C dc_Un_readFrameLayer_128 (ct_Un_readWithin u 0 3 S117 hfl hu hp) cd_C_Un_readWithin i_Un (Nat.le_of_ble_eq_true rfl) (by rw [hR]; exact Nat.le_of_ble_eq_true rfl) (by rw [hR]; exact Nat.le_of_ble_eq_true rfl) (by rw [hR]; exact Nat.le_of_ble_eq_true rfl) (by rw [hR]; exact Nat.le_of_ble_eq_true rfl) (inv_V C u dc_Un_readFrameLayer_128 l_Un_151 im_C_Un_readWithin se_C_Un_readWithin cd_C_Un_readWithin ⟨by decide, by decide⟩ ln_C_Un_readWithin rfl rfl (cw_obj hu rfl) rfl rfl) (fun oc L1 hL => ?_)
  rcases hL with ⟨v128, S128, hp, rfl, rfl⟩ | ⟨c9, a9, S9, hp, rfl, rfl⟩
  rotate_left
  · exact Or.inr ⟨a9, rfl, t_out C hQ hA (fun x hx => (hno x hx).elim) (Or.inr ⟨c9, a9, S9, hp, rfl, rfl⟩) (Nat.le_of_ble_eq_true rfl) (Nat.le_of_ble_eq_true rfl)⟩
  refine Or.inl ⟨_, rfl, ?_⟩
  refine aw_eq (lo' := _) (st' := [.int v128, .int x1, .ref (oa (S117.2.2 u 8))]) (L' := (cw lt_C U oa S128)) rfl rfl rfl ?_
  have hc3 := hp.1
  have hp := hp.2
  refine c_iast C (S117.2.2 u 8) dc_Un_readFrameLayer_131 hc3 hp.1 ?_
  have hp := hp.2
  refine aw_eq (lo' := _) (st' := _) (L' := (cw lt_C U oa (va_up S128.1 (S117.2.2 u 8) (upd (S128.1 (S117.2.2 u 8)) x1.toNatClampNeg v128), S128.2.1, S128.2.2))) rfl rfl rfl ?_
  refine a_aload_n C dc_Un_readFrameLayer_132 rfl rfl ?_
  refine c_getR C u 9 dc_Un_readFrameLayer_133 hu rfl rfl (Nat.le_of_ble_eq_true rfl) f_Un_53 rfl hp.1 ?_
  have hp := hp.2
  refine a_iload_n C dc_Un_readFrameLayer_136 rfl rfl ?_
  refine a_iconst (v := 0) C dc_Un_readFrameLayer_137 (by decide) ?_
  have hc4 := hp.1
  have hp := hp.2
  refine c_zast C (S128.2.2 u 9) dc_Un_readFrameLayer_138 hc4 hp.1 ?_
  have hp := hp.2
  refine aw_eq (lo' := _) (st' := _) (L' := (cw lt_C U oa (va_up (va_up S128.1 (S117.2.2 u 8) (upd (S128.1 (S117.2.2 u 8)) x1.toNatClampNeg v128)) (S128.2.2 u 9) (upd ((va_up S128.1 (S117.2.2 u 8) (upd (S128.1 (S117.2.2 u 8)) x1.toNatClampNeg v128)) (S128.2.2 u 9)) x1.toNatClampNeg (vp_nar .boolean 0)), S128.2.1, S128.2.2))) rfl rfl rfl ?_
  exact a_vret C hQ hA dc_Un_readFrameLayer_139 rfl (Or.inl ⟨(va_up (va_up S128.1 (S117.2.2 u 8) (upd (S128.1 (S117.2.2 u 8)) x1.toNatClampNeg v128)) (S128.2.2 u 9) (upd ((va_up S128.1 (S117.2.2 u 8) (upd (S128.1 (S117.2.2 u 8)) x1.toNatClampNeg v128)) (S128.2.2 u 9)) x1.toNatClampNeg (vp_nar .boolean 0)), S128.2.1, S128.2.2), hp, rfl, rfl⟩)
set_option maxRecDepth 100000 in
set_option maxHeartbeats 1000000 in
theorem s_Un_readFrameLayer_80 (C : fcx gG D z A X R_Un c_C_Un_readFrameLayer 4 (none)) (hQ : X.2.2.2.2.2.2.2.2.2.2 = eQ gG D z X.2.2.2.2.2.2.2.1 X.2.2.2.2.1 L0 0 0 (pC_v lt_C U oa K T)) (hA : A = owA gG L0 X.2.2.2.2.1.heap.size) (hR : X.2.2.2.1 = { frames := 11, cells := 1, slots := 6, locals := 1100 }) (hno : ∀ x ∈ X.2.2.2.2.2.2.2.2.2.1.exceptionTable.toList, False) (hfl : X.2.1.flags = pinnedFlags ++ [noTraceFlag]) (hu : c_cl U u = 11) (x1 : Int32) (x2 : Int32) (x3 : Int32) (S : cs) (hp : b_Un_readFrameLayer_80 U u x1 x2 x3 S K T) : aw gG D z A X 4 80 [some (.ref (oa u)), some (.int x1), some (.int x2), some (.int x3)] [] (cw lt_C U oa S) 0 0 := by
  unfold b_Un_readFrameLayer_80 at hp
  refine a_aload_n C dc_Un_readFrameLayer_80 rfl rfl ?_
  refine c_getR C u 0 dc_Un_readFrameLayer_81 hu rfl rfl (Nat.le_of_ble_eq_true rfl) f_Un_12 rfl hp.1 ?_
  have hp := hp.2
  refine a_iconst (v := 5) C dc_Un_readFrameLayer_84 (by decide) ?_
  refine a_aload_n C dc_Un_readFrameLayer_85 rfl rfl ?_
  refine c_getR C u 0 dc_Un_readFrameLayer_86 hu rfl rfl (Nat.le_of_ble_eq_true rfl) f_Un_12 rfl hp.1 ?_
  have hp := hp.2
  have hc5 := hp.1
  have hp := hp.2
  refine c_getIN C (S.2.2 u 0) 1 dc_Un_readFrameLayer_89 hc5 rfl rfl (Nat.le_of_ble_eq_true rfl) f_Un_70 (Nat.le_of_ble_eq_true rfl) ?_
  refine a_iconst (v := 1) C dc_Un_readFrameLayer_92 (by decide) ?_
  refine a_isub C dc_Un_readFrameLayer_93 ?_
  refine c_callT (rest := []) (av := .ref (oa (S.2.2 u 0)) :: [.int 5, .int ((S.1 (S.2.2 u 0) 1) - 1)]) C dc_Un_readFrameLayer_94 (ct_Re_fail (S.2.2 u 0) 5 ((S.1 (S.2.2 u 0) 1) - 1) S hfl hc5 hp) cd_C_Re_fail i_Re (Nat.le_of_ble_eq_true rfl) (by rw [hR]; exact Nat.le_of_ble_eq_true rfl) (by rw [hR]; exact Nat.le_of_ble_eq_true rfl) (by rw [hR]; exact Nat.le_of_ble_eq_true rfl) (by rw [hR]; exact Nat.le_of_ble_eq_true rfl) (inv_V C (S.2.2 u 0) dc_Un_readFrameLayer_94 l_Un_74 im_C_Re_fail se_C_Re_fail cd_C_Re_fail ⟨by decide, by decide⟩ ln_C_Re_fail rfl rfl (cw_obj hc5 rfl) rfl rfl) (fun oc L1 hL => ?_)
  rcases hL with ⟨S94, hp, rfl, rfl⟩ | ⟨c9, a9, S9, hp, rfl, rfl⟩
  rotate_left
  · exact Or.inr ⟨a9, rfl, t_out C hQ hA (fun x hx => (hno x hx).elim) (Or.inr ⟨c9, a9, S9, hp, rfl, rfl⟩) (Nat.le_of_ble_eq_true rfl) (Nat.le_of_ble_eq_true rfl)⟩
  refine Or.inl ⟨_, rfl, ?_⟩
  refine aw_eq (lo' := _) (st' := []) (L' := (cw lt_C U oa S94)) rfl rfl rfl ?_
  refine aw_lo (lo' := [some (.ref (oa u)), some (.int x1), some (.int x2), some (.int x3)]) ⟨.inr rfl, .inr rfl, .inr rfl, .inr rfl, trivial⟩ ?_
  exact s_Un_readFrameLayer_97 C hQ hA hR hno hfl hu x1 x2 x3 S94  hp
set_option maxRecDepth 100000 in
set_option maxHeartbeats 1000000 in
theorem s_Un_readFrameLayer_42 (C : fcx gG D z A X R_Un c_C_Un_readFrameLayer 4 (none)) (hQ : X.2.2.2.2.2.2.2.2.2.2 = eQ gG D z X.2.2.2.2.2.2.2.1 X.2.2.2.2.1 L0 0 0 (pC_v lt_C U oa K T)) (hA : A = owA gG L0 X.2.2.2.2.1.heap.size) (hR : X.2.2.2.1 = { frames := 11, cells := 1, slots := 6, locals := 1100 }) (hno : ∀ x ∈ X.2.2.2.2.2.2.2.2.2.1.exceptionTable.toList, False) (hfl : X.2.1.flags = pinnedFlags ++ [noTraceFlag]) (hu : c_cl U u = 11) (x1 : Int32) (x2 : Int32) (x3 : Int32) (S : cs) (R10 : Int32 → Int32 → Int32 → cs → Prop) (hR10 : ∀ yx1 yx2 yx3 yS, R10 yx1 yx2 yx3 yS → aw gG D z A X 4 10 [some (.ref (oa u)), some (.int yx1), some (.int yx2), some (.int yx3)] [] (cw lt_C U oa yS) 0 0) (hp : b_Un_readFrameLayer_42 U u x1 x2 x3 S R10 K T) : aw gG D z A X 4 42 [some (.ref (oa u)), some (.int x1), some (.int x2), some (.int x3)] [] (cw lt_C U oa S) 0 0 := by
  unfold b_Un_readFrameLayer_42 at hp
  refine a_iinc (v := x3 + 1) (lo' := [some (.ref (oa u)), some (.int x1), some (.int x2), some (.int (x3 + 1))]) C dc_Un_readFrameLayer_42 rfl rfl (by decide) rfl ?_
  refine a_goto (tgt := 10) C dc_Un_readFrameLayer_45 (by decide) ?_
  refine aw_lo (lo' := [some (.ref (oa u)), some (.int x1), some (.int x2), some (.int (x3 + 1))]) ⟨.inr rfl, .inr rfl, .inr rfl, .inr rfl, trivial⟩ ?_
  exact hR10 x1 x2 (x3 + 1) S hp
set_option maxRecDepth 100000 in
set_option maxHeartbeats 1000000 in
theorem s_Un_readFrameLayer_10 (C : fcx gG D z A X R_Un c_C_Un_readFrameLayer 4 (none)) (hQ : X.2.2.2.2.2.2.2.2.2.2 = eQ gG D z X.2.2.2.2.2.2.2.1 X.2.2.2.2.1 L0 0 0 (pC_v lt_C U oa K T)) (hA : A = owA gG L0 X.2.2.2.2.1.heap.size) (hR : X.2.2.2.1 = { frames := 11, cells := 1, slots := 6, locals := 1100 }) (hno : ∀ x ∈ X.2.2.2.2.2.2.2.2.2.1.exceptionTable.toList, False) (hfl : X.2.1.flags = pinnedFlags ++ [noTraceFlag]) (hu : c_cl U u = 11) (x1 : Int32) (x2 : Int32) (x3 : Int32) (S : cs) (R10 : Int32 → Int32 → Int32 → cs → Prop) (hR10 : ∀ yx1 yx2 yx3 yS, R10 yx1 yx2 yx3 yS → aw gG D z A X 4 10 [some (.ref (oa u)), some (.int yx1), some (.int yx2), some (.int yx3)] [] (cw lt_C U oa yS) 0 0) (hp : b_Un_readFrameLayer_10 U u x1 x2 x3 S R10 K T) : aw gG D z A X 4 10 [some (.ref (oa u)), some (.int x1), some (.int x2), some (.int x3)] [] (cw lt_C U oa S) 0 0 := by
  unfold b_Un_readFrameLayer_10 at hp
  refine a_iload_n C dc_Un_readFrameLayer_10 rfl rfl ?_
  refine a_iload_n C dc_Un_readFrameLayer_11 rfl rfl ?_
  refine a_icmp_ge (tgt := 48) C dc_Un_readFrameLayer_12 (by decide) ⟨fun hc => ?_, fun hc => ?_⟩
  · have hp := hp.1 hc
    refine a_aload_n C dc_Un_readFrameLayer_48 rfl rfl ?_
    refine c_getR C u 0 dc_Un_readFrameLayer_49 hu rfl rfl (Nat.le_of_ble_eq_true rfl) f_Un_12 rfl hp.1 ?_
    have hp := hp.2
    have hc6 := hp.1
    have hp := hp.2
    refine c_callT (rest := []) (av := .ref (oa (S.2.2 u 0)) :: []) C dc_Un_readFrameLayer_52 (ct_Re_read (S.2.2 u 0) S hfl hc6 hp) cd_C_Re_read i_Re (Nat.le_of_ble_eq_true rfl) (by rw [hR]; exact Nat.le_of_ble_eq_true rfl) (by rw [hR]; exact Nat.le_of_ble_eq_true rfl) (by rw [hR]; exact Nat.le_of_ble_eq_true rfl) (by rw [hR]; exact Nat.le_of_ble_eq_true rfl) (inv_V C (S.2.2 u 0) dc_Un_readFrameLayer_52 l_Un_138 im_C_Re_read se_C_Re_read cd_C_Re_read ⟨by decide, by decide⟩ ln_C_Re_read rfl rfl (cw_obj hc6 rfl) rfl rfl) (fun oc L1 hL => ?_)
    rcases hL with ⟨v52, S52, hp, rfl, rfl⟩ | ⟨c9, a9, S9, hp, rfl, rfl⟩
    rotate_left
    · exact Or.inr ⟨a9, rfl, t_out C hQ hA (fun x hx => (hno x hx).elim) (Or.inr ⟨c9, a9, S9, hp, rfl, rfl⟩) (Nat.le_of_ble_eq_true rfl) (Nat.le_of_ble_eq_true rfl)⟩
    refine Or.inl ⟨_, rfl, ?_⟩
    refine aw_eq (lo' := _) (st' := [.int v52]) (L' := (cw lt_C U oa S52)) rfl rfl rfl ?_
    refine a_istore_n (lo' := [some (.ref (oa u)), some (.int x1), some (.int x2), some (.int v52)]) C dc_Un_readFrameLayer_55 rfl (by decide) rfl ?_
    refine a_iload_n C dc_Un_readFrameLayer_56 rfl rfl ?_
    refine a_bipush (v := 16) C dc_Un_readFrameLayer_57 (by decide) ?_
    refine a_idiv C dc_Un_readFrameLayer_59 (by decide) ?_
    refine a_iconst (v := 1) C dc_Un_readFrameLayer_60 (by decide) ?_
    refine a_iconst (v := 2) C dc_Un_readFrameLayer_61 (by decide) ?_
    refine a_callP (rest := []) (av := [.int (v52 / 16), .int 1, .int 2]) C dc_Un_readFrameLayer_62 (ct_B_isWithin (v52 / 16) 1 2 hp) cd_C_B_isWithin i_B (Nat.le_of_ble_eq_true rfl) (by rw [hR]; exact Nat.le_of_ble_eq_true rfl) (by rw [hR]; exact Nat.le_of_ble_eq_true rfl) (by rw [hR]; exact Nat.le_of_ble_eq_true rfl) (by rw [hR]; exact Nat.le_of_ble_eq_true rfl) (inv_SN C dc_Un_readFrameLayer_62 l_Un_141 st_C_B_isWithin i_B cd_C_B_isWithin ⟨by decide, by decide⟩ ln_C_B_isWithin rfl) (fun v62 hp => ?_)
    refine aw_eq (lo' := _) (st' := [.int v62]) (L' := (cw lt_C U oa S52)) rfl rfl rfl ?_
    refine a_if_eq (tgt := 80) C dc_Un_readFrameLayer_65 (by decide) ⟨fun hc => ?_, fun hc => ?_⟩
    · have hp := hp.1 hc
      refine aw_lo (lo' := [some (.ref (oa u)), some (.int x1), some (.int x2), some (.int v52)]) ⟨.inr rfl, .inr rfl, .inr rfl, .inr rfl, trivial⟩ ?_
      exact s_Un_readFrameLayer_80 C hQ hA hR hno hfl hu x1 x2 v52 S52  hp
    · have hp := hp.2 hc
      refine a_iload_n C dc_Un_readFrameLayer_68 rfl rfl ?_
      refine a_bipush (v := 16) C dc_Un_readFrameLayer_69 (by decide) ?_
      refine a_irem C dc_Un_readFrameLayer_71 (by decide) ?_
      refine a_iconst (v := 1) C dc_Un_readFrameLayer_72 (by decide) ?_
      refine a_iconst (v := 2) C dc_Un_readFrameLayer_73 (by decide) ?_
      refine a_callP (rest := []) (av := [.int (v52 - v52 / 16 * 16), .int 1, .int 2]) C dc_Un_readFrameLayer_74 (ct_B_isWithin (v52 - v52 / 16 * 16) 1 2 hp) cd_C_B_isWithin i_B (Nat.le_of_ble_eq_true rfl) (by rw [hR]; exact Nat.le_of_ble_eq_true rfl) (by rw [hR]; exact Nat.le_of_ble_eq_true rfl) (by rw [hR]; exact Nat.le_of_ble_eq_true rfl) (by rw [hR]; exact Nat.le_of_ble_eq_true rfl) (inv_SN C dc_Un_readFrameLayer_74 l_Un_141 st_C_B_isWithin i_B cd_C_B_isWithin ⟨by decide, by decide⟩ ln_C_B_isWithin rfl) (fun v74 hp => ?_)
      refine aw_eq (lo' := _) (st' := [.int v74]) (L' := (cw lt_C U oa S52)) rfl rfl rfl ?_
      refine a_if_ne (tgt := 97) C dc_Un_readFrameLayer_77 (by decide) ⟨fun hc => ?_, fun hc => ?_⟩
      · have hp := hp.1 hc
        refine aw_lo (lo' := [some (.ref (oa u)), some (.int x1), some (.int x2), some (.int v52)]) ⟨.inr rfl, .inr rfl, .inr rfl, .inr rfl, trivial⟩ ?_
        exact s_Un_readFrameLayer_97 C hQ hA hR hno hfl hu x1 x2 v52 S52  hp
      · have hp := hp.2 hc
        refine aw_lo (lo' := [some (.ref (oa u)), some (.int x1), some (.int x2), some (.int v52)]) ⟨.inr rfl, .inr rfl, .inr rfl, .inr rfl, trivial⟩ ?_
        exact s_Un_readFrameLayer_80 C hQ hA hR hno hfl hu x1 x2 v52 S52  hp
  · have hp := hp.2 hc
    refine a_aload_n C dc_Un_readFrameLayer_15 rfl rfl ?_
    refine c_getR C u 7 dc_Un_readFrameLayer_16 hu rfl rfl (Nat.le_of_ble_eq_true rfl) f_Un_47 rfl hp.1 ?_
    have hp := hp.2
    refine a_iload_n C dc_Un_readFrameLayer_19 rfl rfl ?_
    have hc7 := hp.1
    have hp := hp.2
    refine c_iald C (S.2.2 u 7) dc_Un_readFrameLayer_20 hc7 hp.1 ?_
    have hp := hp.2
    refine a_iload_n C dc_Un_readFrameLayer_21 rfl rfl ?_
    refine a_icmp_ne (tgt := 42) C dc_Un_readFrameLayer_22 (by decide) ⟨fun hc => ?_, fun hc => ?_⟩
    · have hp := hp.1 hc
      refine aw_lo (lo' := [some (.ref (oa u)), some (.int x1), some (.int x2), some (.int x3)]) ⟨.inr rfl, .inr rfl, .inr rfl, .inr rfl, trivial⟩ ?_
      exact s_Un_readFrameLayer_42 C hQ hA hR hno hfl hu x1 x2 x3 S R10 hR10 hp
    · have hp := hp.2 hc
      refine a_aload_n C dc_Un_readFrameLayer_25 rfl rfl ?_
      refine c_getR C u 0 dc_Un_readFrameLayer_26 hu rfl rfl (Nat.le_of_ble_eq_true rfl) f_Un_12 rfl hp.1 ?_
      have hp := hp.2
      refine a_iconst (v := 5) C dc_Un_readFrameLayer_29 (by decide) ?_
      refine a_aload_n C dc_Un_readFrameLayer_30 rfl rfl ?_
      refine c_getR C u 0 dc_Un_readFrameLayer_31 hu rfl rfl (Nat.le_of_ble_eq_true rfl) f_Un_12 rfl hp.1 ?_
      have hp := hp.2
      have hc8 := hp.1
      have hp := hp.2
      refine c_getIN C (S.2.2 u 0) 1 dc_Un_readFrameLayer_34 hc8 rfl rfl (Nat.le_of_ble_eq_true rfl) f_Un_70 (Nat.le_of_ble_eq_true rfl) ?_
      refine a_iconst (v := 1) C dc_Un_readFrameLayer_37 (by decide) ?_
      refine a_isub C dc_Un_readFrameLayer_38 ?_
      refine c_callT (rest := []) (av := .ref (oa (S.2.2 u 0)) :: [.int 5, .int ((S.1 (S.2.2 u 0) 1) - 1)]) C dc_Un_readFrameLayer_39 (ct_Re_fail (S.2.2 u 0) 5 ((S.1 (S.2.2 u 0) 1) - 1) S hfl hc8 hp) cd_C_Re_fail i_Re (Nat.le_of_ble_eq_true rfl) (by rw [hR]; exact Nat.le_of_ble_eq_true rfl) (by rw [hR]; exact Nat.le_of_ble_eq_true rfl) (by rw [hR]; exact Nat.le_of_ble_eq_true rfl) (by rw [hR]; exact Nat.le_of_ble_eq_true rfl) (inv_V C (S.2.2 u 0) dc_Un_readFrameLayer_39 l_Un_74 im_C_Re_fail se_C_Re_fail cd_C_Re_fail ⟨by decide, by decide⟩ ln_C_Re_fail rfl rfl (cw_obj hc8 rfl) rfl rfl) (fun oc L1 hL => ?_)
      rcases hL with ⟨S39, hp, rfl, rfl⟩ | ⟨c9, a9, S9, hp, rfl, rfl⟩
      rotate_left
      · exact Or.inr ⟨a9, rfl, t_out C hQ hA (fun x hx => (hno x hx).elim) (Or.inr ⟨c9, a9, S9, hp, rfl, rfl⟩) (Nat.le_of_ble_eq_true rfl) (Nat.le_of_ble_eq_true rfl)⟩
      refine Or.inl ⟨_, rfl, ?_⟩
      refine aw_eq (lo' := _) (st' := []) (L' := (cw lt_C U oa S39)) rfl rfl rfl ?_
      refine aw_lo (lo' := [some (.ref (oa u)), some (.int x1), some (.int x2), some (.int x3)]) ⟨.inr rfl, .inr rfl, .inr rfl, .inr rfl, trivial⟩ ?_
      exact s_Un_readFrameLayer_42 C hQ hA hR hno hfl hu x1 x2 x3 S39 R10 hR10 hp
set_option maxRecDepth 100000 in
set_option maxHeartbeats 1000000 in
theorem se_Un_readFrameLayer_10 (C : fcx gG D z A X R_Un c_C_Un_readFrameLayer 4 (none)) (hQ : X.2.2.2.2.2.2.2.2.2.2 = eQ gG D z X.2.2.2.2.2.2.2.1 X.2.2.2.2.1 L0 0 0 (pC_v lt_C U oa K T)) (hA : A = owA gG L0 X.2.2.2.2.1.heap.size) (hR : X.2.2.2.1 = { frames := 11, cells := 1, slots := 6, locals := 1100 }) (hno : ∀ x ∈ X.2.2.2.2.2.2.2.2.2.1.exceptionTable.toList, False) (hfl : X.2.1.flags = pinnedFlags ++ [noTraceFlag]) (hu : c_cl U u = 11) (x1 : Int32) (x2 : Int32) (x3 : Int32) (S : cs) (hp : e_Un_readFrameLayer_10 U u x1 x2 x3 S K T) : aw gG D z A X 4 10 [some (.ref (oa u)), some (.int x1), some (.int x2), some (.int x3)] [] (cw lt_C U oa S) 0 0 := by
  obtain ⟨I, μ, h0, hs⟩ := hp
  have key : ∀ (n : Nat) (yx1 : Int32) (yx2 : Int32) (yx3 : Int32) (yS : cs), μ yx1 yx2 yx3 yS < n → I yx1 yx2 yx3 yS → aw gG D z A X 4 10 [some (.ref (oa u)), some (.int yx1), some (.int yx2), some (.int yx3)] [] (cw lt_C U oa yS) 0 0 := by
    intro n
    induction n with
    | zero => intro yx1 yx2 yx3 yS h; omega
    | succ n ih =>
      intro yx1 yx2 yx3 yS hn hI
      exact s_Un_readFrameLayer_10 C hQ hA hR hno hfl hu yx1 yx2 yx3 yS _ (fun zx1 zx2 zx3 zS hw => ih zx1 zx2 zx3 zS (by omega) hw.1) (hs yx1 yx2 yx3 yS hI)
  exact key (μ x1 x2 x3 S + 1) x1 x2 x3 S (Nat.lt_succ_self _) h0
set_option maxRecDepth 100000 in
set_option maxHeartbeats 1000000 in
theorem s_Un_readFrameLayer_0 (C : fcx gG D z A X R_Un c_C_Un_readFrameLayer 4 (none)) (hQ : X.2.2.2.2.2.2.2.2.2.2 = eQ gG D z X.2.2.2.2.2.2.2.1 X.2.2.2.2.1 L0 0 0 (pC_v lt_C U oa K T)) (hA : A = owA gG L0 X.2.2.2.2.1.heap.size) (hR : X.2.2.2.1 = { frames := 11, cells := 1, slots := 6, locals := 1100 }) (hno : ∀ x ∈ X.2.2.2.2.2.2.2.2.2.1.exceptionTable.toList, False) (hfl : X.2.1.flags = pinnedFlags ++ [noTraceFlag]) (hu : c_cl U u = 11) (x1 : Int32) (S : cs) (hp : p_Un_readFrameLayer U u x1 S K T) : aw gG D z A X 4 0 [some (.ref (oa u)), some (.int x1), none, none] [] (cw lt_C U oa S) 0 0 := by
  unfold p_Un_readFrameLayer at hp
  refine a_aload_n C dc_Un_readFrameLayer_0 rfl rfl ?_
  refine c_getR C u 0 dc_Un_readFrameLayer_1 hu rfl rfl (Nat.le_of_ble_eq_true rfl) f_Un_12 rfl hp.1 ?_
  have hp := hp.2
  have hc9 := hp.1
  have hp := hp.2
  refine c_callT (rest := []) (av := .ref (oa (S.2.2 u 0)) :: []) C dc_Un_readFrameLayer_4 (ct_Re_read (S.2.2 u 0) S hfl hc9 hp) cd_C_Re_read i_Re (Nat.le_of_ble_eq_true rfl) (by rw [hR]; exact Nat.le_of_ble_eq_true rfl) (by rw [hR]; exact Nat.le_of_ble_eq_true rfl) (by rw [hR]; exact Nat.le_of_ble_eq_true rfl) (by rw [hR]; exact Nat.le_of_ble_eq_true rfl) (inv_V C (S.2.2 u 0) dc_Un_readFrameLayer_4 l_Un_138 im_C_Re_read se_C_Re_read cd_C_Re_read ⟨by decide, by decide⟩ ln_C_Re_read rfl rfl (cw_obj hc9 rfl) rfl rfl) (fun oc L1 hL => ?_)
  rcases hL with ⟨v4, S4, hp, rfl, rfl⟩ | ⟨c9, a9, S9, hp, rfl, rfl⟩
  rotate_left
  · exact Or.inr ⟨a9, rfl, t_out C hQ hA (fun x hx => (hno x hx).elim) (Or.inr ⟨c9, a9, S9, hp, rfl, rfl⟩) (Nat.le_of_ble_eq_true rfl) (Nat.le_of_ble_eq_true rfl)⟩
  refine Or.inl ⟨_, rfl, ?_⟩
  refine aw_eq (lo' := _) (st' := [.int v4]) (L' := (cw lt_C U oa S4)) rfl rfl rfl ?_
  refine a_istore_n (lo' := [some (.ref (oa u)), some (.int x1), some (.int v4), none]) C dc_Un_readFrameLayer_7 rfl (by decide) rfl ?_
  refine a_iconst (v := 0) C dc_Un_readFrameLayer_8 (by decide) ?_
  refine a_istore_n (lo' := [some (.ref (oa u)), some (.int x1), some (.int v4), some (.int 0)]) C dc_Un_readFrameLayer_9 rfl (by decide) rfl ?_
  refine aw_lo (lo' := [some (.ref (oa u)), some (.int x1), some (.int v4), some (.int 0)]) ⟨.inr rfl, .inr rfl, .inr rfl, .inr rfl, trivial⟩ ?_
  exact se_Un_readFrameLayer_10 C hQ hA hR hno hfl hu x1 v4 0 S4  hp
end C_Un_readFrameLayer
section C_Un_readFrameLayerc
variable {D : va_G} {z : Nat → ClassId} {U : ut} {oa : Nat → Nat}
set_option maxRecDepth 100000 in
theorem ct_Un_readFrameLayer {l : Launch} (u : Nat) (x1 : Int32) (S : cs) {K : cs → Prop} {T : Nat → cs → Prop} (hfl : l.flags = pinnedFlags ++ [noTraceFlag]) (hu : c_cl U u = 11) (hp : p_Un_readFrameLayer U u x1 S K T) : ct gG D z l n_C_Un_readFrameLayer c_C_Un_readFrameLayer 4 (none) 11 1100 [.ref (oa u), .int x1] (cw lt_C U oa S) 0 0 (pC_v lt_C U oa K T) := by
  refine ct_of (lo := [some (.ref (oa u)), some (.int x1), none, none]) (by decide) g_ok (Nat.le_of_ble_eq_true rfl) rfl ?_
  intro X A hl C hR hQ hA hno
  exact s_Un_readFrameLayer_0 C hQ hA hR hno (by rw [hl]; exact hfl) hu x1 S hp
end C_Un_readFrameLayerc
def b_Un_readFrame_83 (U : ut) (u : Nat) (x3 : Int32) (x4 : Int32) (S : cs) (R83 : Int32 → Int32 → cs → Prop) (K : cs → Prop) (T : Nat → cs → Prop) : Prop :=
  (x3 ≤ x4 → (¬ S.2.2 u 1 = NU ∧ (c_cl U (S.2.2 u 1) = 7 ∧ (p_Pi_measure U (S.2.2 u 1) S (fun S105 => K (va_up S105.1 u (upd (S105.1 u) 6 1), S105.2.1, S105.2.2)))))) ∧ (¬ (x3 ≤ x4) → (p_Un_readFrameLayer U u x4 S (fun S92 => R83 x3 (x4 + 1) S92) T))
def e_Un_readFrame_83 (U : ut) (u : Nat) (x3 : Int32) (x4 : Int32) (S : cs) (K : cs → Prop) (T : Nat → cs → Prop) : Prop :=
  ∃ (I : Int32 → Int32 → cs → Prop) (μ : Int32 → Int32 → cs → Nat), I x3 x4 S ∧ ∀ yx3 yx4 yS, I yx3 yx4 yS → b_Un_readFrame_83 U u yx3 yx4 yS (fun zx3 zx4 zS => I zx3 zx4 zS ∧ μ zx3 zx4 zS < μ yx3 yx4 yS) K T
def b_Un_readFrame_67 (U : ut) (u : Nat) (x1 : Int32) (x2 : Int32) (x3 : Int32) (s1 : Int32) (S : cs) (K : cs → Prop) (T : Nat → cs → Prop) : Prop :=
  p_Un_wantLength U u s1 S (fun S67 => ¬ S67.2.2 u 1 = NU ∧ (c_cl U (S67.2.2 u 1) = 7 ∧ (p_Pi_begin U (S67.2.2 u 1) x2 x1 x3 S67 (fun S77 => e_Un_readFrame_83 U u x3 0 S77 K T)))) T
def b_Un_readFrame_48 (U : ut) (u : Nat) (x1 : Int32) (x2 : Int32) (x3 : Int32) (S : cs) (K : cs → Prop) (T : Nat → cs → Prop) : Prop :=
  (¬ (S.1 u 13) = (8 + (3 * x3)) → (b_Un_readFrame_67 U u x1 x2 x3 0 S K T)) ∧ ((S.1 u 13) = (8 + (3 * x3)) → (b_Un_readFrame_67 U u x1 x2 x3 1 S K T))
def p_Un_readFrame (U : ut) (u : Nat)  (S : cs) (K : cs → Prop) (T : Nat → cs → Prop) : Prop :=
  p_Un_readWithin U u 8 8 S (fun v5 S5 => p_Un_readSide U u S5 (fun v10 S10 => p_Un_readSide U u S10 (fun v15 S15 => p_Un_readWithin U u 1 3 S15 (fun v22 S22 => (¬ v22 = 2 → (b_Un_readFrame_48 U u v10 v15 v22 S22 K T)) ∧ (v22 = 2 → (¬ S22.2.2 u 0 = NU ∧ (¬ S22.2.2 u 0 = NU ∧ (c_cl U (S22.2.2 u 0) = 8 ∧ (p_Re_fail U (S22.2.2 u 0) 5 ((S22.1 (S22.2.2 u 0) 1) - 1) S22 (fun S45 => b_Un_readFrame_48 U u v10 v15 v22 S45 K T) T)))))) T) T) T) T
section C_Un_readFrame
variable {D : va_G} {z : Nat → ClassId} {A : Nat → Prop} {X : cx} {L0 : fw} {U : ut} {oa : Nat → Nat} {u : Nat} {K : cs → Prop} {T : Nat → cs → Prop}
set_option maxRecDepth 100000 in
set_option maxHeartbeats 1000000 in
theorem s_Un_readFrame_83 (C : fcx gG D z A X R_Un c_C_Un_readFrame 5 (none)) (hQ : X.2.2.2.2.2.2.2.2.2.2 = eQ gG D z X.2.2.2.2.2.2.2.1 X.2.2.2.2.1 L0 0 0 (pC_v lt_C U oa K T)) (hA : A = owA gG L0 X.2.2.2.2.1.heap.size) (hR : X.2.2.2.1 = { frames := 12, cells := 1, slots := 6, locals := 1200 }) (hno : ∀ x ∈ X.2.2.2.2.2.2.2.2.2.1.exceptionTable.toList, False) (hfl : X.2.1.flags = pinnedFlags ++ [noTraceFlag]) (hu : c_cl U u = 11) (x3 : Int32) (x4 : Int32) (S : cs) (R83 : Int32 → Int32 → cs → Prop) (hR83 : ∀ yx3 yx4 yS, R83 yx3 yx4 yS → aw gG D z A X 5 83 [some (.ref (oa u)), none, none, some (.int yx3), some (.int yx4)] [] (cw lt_C U oa yS) 0 0) (hp : b_Un_readFrame_83 U u x3 x4 S R83 K T) : aw gG D z A X 5 83 [some (.ref (oa u)), none, none, some (.int x3), some (.int x4)] [] (cw lt_C U oa S) 0 0 := by
  unfold b_Un_readFrame_83 at hp
  refine a_iload C dc_Un_readFrame_83 rfl ?_
  refine a_iload_n C dc_Un_readFrame_85 rfl rfl ?_
  refine a_icmp_ge (tgt := 101) C dc_Un_readFrame_86 (by decide) ⟨fun hc => ?_, fun hc => ?_⟩
  · have hp := hp.1 hc
    refine a_aload_n C dc_Un_readFrame_101 rfl rfl ?_
    refine c_getR C u 1 dc_Un_readFrame_102 hu rfl rfl (Nat.le_of_ble_eq_true rfl) f_Un_21 rfl hp.1 ?_
    have hp := hp.2
    have hc1 := hp.1
    have hp := hp.2
    refine c_call (rest := []) (av := .ref (oa (S.2.2 u 1)) :: []) C dc_Un_readFrame_105 (ct_Pi_measure (S.2.2 u 1) S hc1 hp) cd_C_Pi_measure i_Pi (Nat.le_of_ble_eq_true rfl) (by rw [hR]; exact Nat.le_of_ble_eq_true rfl) (by rw [hR]; exact Nat.le_of_ble_eq_true rfl) (by rw [hR]; exact Nat.le_of_ble_eq_true rfl) (by rw [hR]; exact Nat.le_of_ble_eq_true rfl) (inv_V C (S.2.2 u 1) dc_Un_readFrame_105 l_Un_182 im_C_Pi_measure se_C_Pi_measure cd_C_Pi_measure ⟨by decide, by decide⟩ ln_C_Pi_measure rfl rfl (cw_obj hc1 rfl) rfl rfl) (fun oc L1 hL => ?_)
    obtain ⟨S105, hp, rfl, rfl⟩ := hL.resolve_right pC_no
    refine ⟨_, rfl, ?_⟩
    refine aw_eq (lo' := _) (st' := []) (L' := (cw lt_C U oa S105)) rfl rfl rfl ?_
    refine a_aload_n C dc_Un_readFrame_108 rfl rfl ?_
    refine a_iconst (v := 1) C dc_Un_readFrame_109 (by decide) ?_
    refine c_putI (ty := .boolean) C u 6 dc_Un_readFrame_110 hu rfl rfl (Nat.le_of_ble_eq_true rfl) f_Un_99 (Nat.le_of_ble_eq_true rfl) rfl rfl rfl rfl ?_
    refine aw_eq (lo' := _) (st' := _) (L' := (cw lt_C U oa (va_up S105.1 u (upd (S105.1 u) 6 1), S105.2.1, S105.2.2))) rfl rfl rfl ?_
    exact a_vret C hQ hA dc_Un_readFrame_113 rfl (Or.inl ⟨(va_up S105.1 u (upd (S105.1 u) 6 1), S105.2.1, S105.2.2), hp, rfl, rfl⟩)
  · have hp := hp.2 hc
    refine a_aload_n C dc_Un_readFrame_89 rfl rfl ?_
    refine a_iload C dc_Un_readFrame_90 rfl ?_
    refine c_callT (rest := []) (av := .ref (oa u) :: [.int x4]) C dc_Un_readFrame_92 (ct_Un_readFrameLayer u x4 S hfl hu hp) cd_C_Un_readFrameLayer i_Un (Nat.le_of_ble_eq_true rfl) (by rw [hR]; exact Nat.le_of_ble_eq_true rfl) (by rw [hR]; exact Nat.le_of_ble_eq_true rfl) (by rw [hR]; exact Nat.le_of_ble_eq_true rfl) (by rw [hR]; exact Nat.le_of_ble_eq_true rfl) (inv_V C u dc_Un_readFrame_92 l_Un_179 im_C_Un_readFrameLayer se_C_Un_readFrameLayer cd_C_Un_readFrameLayer ⟨by decide, by decide⟩ ln_C_Un_readFrameLayer rfl rfl (cw_obj hu rfl) rfl rfl) (fun oc L1 hL => ?_)
    rcases hL with ⟨S92, hp, rfl, rfl⟩ | ⟨c9, a9, S9, hp, rfl, rfl⟩
    rotate_left
    · exact Or.inr ⟨a9, rfl, t_out C hQ hA (fun x hx => (hno x hx).elim) (Or.inr ⟨c9, a9, S9, hp, rfl, rfl⟩) (Nat.le_of_ble_eq_true rfl) (Nat.le_of_ble_eq_true rfl)⟩
    refine Or.inl ⟨_, rfl, ?_⟩
    refine aw_eq (lo' := _) (st' := []) (L' := (cw lt_C U oa S92)) rfl rfl rfl ?_
    refine a_iinc (v := x4 + 1) (lo' := [some (.ref (oa u)), none, none, some (.int x3), some (.int (x4 + 1))]) C dc_Un_readFrame_95 rfl rfl (by decide) rfl ?_
    refine a_goto (tgt := 83) C dc_Un_readFrame_98 (by decide) ?_
    refine aw_lo (lo' := [some (.ref (oa u)), none, none, some (.int x3), some (.int (x4 + 1))]) ⟨.inr rfl, .inr rfl, .inr rfl, .inr rfl, .inr rfl, trivial⟩ ?_
    exact hR83 x3 (x4 + 1) S92 hp
set_option maxRecDepth 100000 in
set_option maxHeartbeats 1000000 in
theorem se_Un_readFrame_83 (C : fcx gG D z A X R_Un c_C_Un_readFrame 5 (none)) (hQ : X.2.2.2.2.2.2.2.2.2.2 = eQ gG D z X.2.2.2.2.2.2.2.1 X.2.2.2.2.1 L0 0 0 (pC_v lt_C U oa K T)) (hA : A = owA gG L0 X.2.2.2.2.1.heap.size) (hR : X.2.2.2.1 = { frames := 12, cells := 1, slots := 6, locals := 1200 }) (hno : ∀ x ∈ X.2.2.2.2.2.2.2.2.2.1.exceptionTable.toList, False) (hfl : X.2.1.flags = pinnedFlags ++ [noTraceFlag]) (hu : c_cl U u = 11) (x3 : Int32) (x4 : Int32) (S : cs) (hp : e_Un_readFrame_83 U u x3 x4 S K T) : aw gG D z A X 5 83 [some (.ref (oa u)), none, none, some (.int x3), some (.int x4)] [] (cw lt_C U oa S) 0 0 := by
  obtain ⟨I, μ, h0, hs⟩ := hp
  have key : ∀ (n : Nat) (yx3 : Int32) (yx4 : Int32) (yS : cs), μ yx3 yx4 yS < n → I yx3 yx4 yS → aw gG D z A X 5 83 [some (.ref (oa u)), none, none, some (.int yx3), some (.int yx4)] [] (cw lt_C U oa yS) 0 0 := by
    intro n
    induction n with
    | zero => intro yx3 yx4 yS h; omega
    | succ n ih =>
      intro yx3 yx4 yS hn hI
      exact s_Un_readFrame_83 C hQ hA hR hno hfl hu yx3 yx4 yS _ (fun zx3 zx4 zS hw => ih zx3 zx4 zS (by omega) hw.1) (hs yx3 yx4 yS hI)
  exact key (μ x3 x4 S + 1) x3 x4 S (Nat.lt_succ_self _) h0
set_option maxRecDepth 100000 in
set_option maxHeartbeats 1000000 in
theorem s_Un_readFrame_67 (C : fcx gG D z A X R_Un c_C_Un_readFrame 5 (none)) (hQ : X.2.2.2.2.2.2.2.2.2.2 = eQ gG D z X.2.2.2.2.2.2.2.1 X.2.2.2.2.1 L0 0 0 (pC_v lt_C U oa K T)) (hA : A = owA gG L0 X.2.2.2.2.1.heap.size) (hR : X.2.2.2.1 = { frames := 12, cells := 1, slots := 6, locals := 1200 }) (hno : ∀ x ∈ X.2.2.2.2.2.2.2.2.2.1.exceptionTable.toList, False) (hfl : X.2.1.flags = pinnedFlags ++ [noTraceFlag]) (hu : c_cl U u = 11) (x1 : Int32) (x2 : Int32) (x3 : Int32) (s1 : Int32) (S : cs) (hp : b_Un_readFrame_67 U u x1 x2 x3 s1 S K T) : aw gG D z A X 5 67 [some (.ref (oa u)), some (.int x1), some (.int x2), some (.int x3), none] [.int s1, .ref (oa u)] (cw lt_C U oa S) 0 0 := by
  unfold b_Un_readFrame_67 at hp
  refine c_callT (rest := []) (av := .ref (oa u) :: [.int s1]) C dc_Un_readFrame_67 (ct_Un_wantLength u s1 S hfl hu hp) cd_C_Un_wantLength i_Un (Nat.le_of_ble_eq_true rfl) (by rw [hR]; exact Nat.le_of_ble_eq_true rfl) (by rw [hR]; exact Nat.le_of_ble_eq_true rfl) (by rw [hR]; exact Nat.le_of_ble_eq_true rfl) (by rw [hR]; exact Nat.le_of_ble_eq_true rfl) (inv_V C u dc_Un_readFrame_67 l_Un_128 im_C_Un_wantLength se_C_Un_wantLength cd_C_Un_wantLength ⟨by decide, by decide⟩ ln_C_Un_wantLength rfl rfl (cw_obj hu rfl) rfl rfl) (fun oc L1 hL => ?_)
  rcases hL with ⟨S67, hp, rfl, rfl⟩ | ⟨c9, a9, S9, hp, rfl, rfl⟩
  rotate_left
  · exact Or.inr ⟨a9, rfl, t_out C hQ hA (fun x hx => (hno x hx).elim) (Or.inr ⟨c9, a9, S9, hp, rfl, rfl⟩) (Nat.le_of_ble_eq_true rfl) (Nat.le_of_ble_eq_true rfl)⟩
  refine Or.inl ⟨_, rfl, ?_⟩
  refine aw_eq (lo' := _) (st' := []) (L' := (cw lt_C U oa S67)) rfl rfl rfl ?_
  refine a_aload_n C dc_Un_readFrame_70 rfl rfl ?_
  refine c_getR C u 1 dc_Un_readFrame_71 hu rfl rfl (Nat.le_of_ble_eq_true rfl) f_Un_21 rfl hp.1 ?_
  have hp := hp.2
  refine a_iload_n C dc_Un_readFrame_74 rfl rfl ?_
  refine a_iload_n C dc_Un_readFrame_75 rfl rfl ?_
  refine a_iload_n C dc_Un_readFrame_76 rfl rfl ?_
  have hc2 := hp.1
  have hp := hp.2
  refine c_call (rest := []) (av := .ref (oa (S67.2.2 u 1)) :: [.int x2, .int x1, .int x3]) C dc_Un_readFrame_77 (ct_Pi_begin (S67.2.2 u 1) x2 x1 x3 S67 hc2 hp) cd_C_Pi_begin i_Pi (Nat.le_of_ble_eq_true rfl) (by rw [hR]; exact Nat.le_of_ble_eq_true rfl) (by rw [hR]; exact Nat.le_of_ble_eq_true rfl) (by rw [hR]; exact Nat.le_of_ble_eq_true rfl) (by rw [hR]; exact Nat.le_of_ble_eq_true rfl) (inv_V C (S67.2.2 u 1) dc_Un_readFrame_77 l_Un_176 im_C_Pi_begin se_C_Pi_begin cd_C_Pi_begin ⟨by decide, by decide⟩ ln_C_Pi_begin rfl rfl (cw_obj hc2 rfl) rfl rfl) (fun oc L1 hL => ?_)
  obtain ⟨S77, hp, rfl, rfl⟩ := hL.resolve_right pC_no
  refine ⟨_, rfl, ?_⟩
  refine aw_eq (lo' := _) (st' := []) (L' := (cw lt_C U oa S77)) rfl rfl rfl ?_
  refine a_iconst (v := 0) C dc_Un_readFrame_80 (by decide) ?_
  refine a_istore (lo' := [some (.ref (oa u)), some (.int x1), some (.int x2), some (.int x3), some (.int 0)]) C dc_Un_readFrame_81 (by decide) rfl ?_
  refine aw_lo (lo' := [some (.ref (oa u)), none, none, some (.int x3), some (.int 0)]) ⟨.inr rfl, .inl rfl, .inl rfl, .inr rfl, .inr rfl, trivial⟩ ?_
  exact se_Un_readFrame_83 C hQ hA hR hno hfl hu x3 0 S77  hp
set_option maxRecDepth 100000 in
set_option maxHeartbeats 1000000 in
theorem s_Un_readFrame_48 (C : fcx gG D z A X R_Un c_C_Un_readFrame 5 (none)) (hQ : X.2.2.2.2.2.2.2.2.2.2 = eQ gG D z X.2.2.2.2.2.2.2.1 X.2.2.2.2.1 L0 0 0 (pC_v lt_C U oa K T)) (hA : A = owA gG L0 X.2.2.2.2.1.heap.size) (hR : X.2.2.2.1 = { frames := 12, cells := 1, slots := 6, locals := 1200 }) (hno : ∀ x ∈ X.2.2.2.2.2.2.2.2.2.1.exceptionTable.toList, False) (hfl : X.2.1.flags = pinnedFlags ++ [noTraceFlag]) (hu : c_cl U u = 11) (x1 : Int32) (x2 : Int32) (x3 : Int32) (S : cs) (hp : b_Un_readFrame_48 U u x1 x2 x3 S K T) : aw gG D z A X 5 48 [some (.ref (oa u)), some (.int x1), some (.int x2), some (.int x3), none] [] (cw lt_C U oa S) 0 0 := by
  unfold b_Un_readFrame_48 at hp
  refine a_aload_n C dc_Un_readFrame_48 rfl rfl ?_
  refine a_aload_n C dc_Un_readFrame_49 rfl rfl ?_
  refine c_getI C u 13 dc_Un_readFrame_50 hu rfl rfl (Nat.le_of_ble_eq_true rfl) f_Un_119 (Nat.le_of_ble_eq_true rfl) ?_
  refine a_bipush (v := 8) C dc_Un_readFrame_53 (by decide) ?_
  refine a_iconst (v := 3) C dc_Un_readFrame_55 (by decide) ?_
  refine a_iload_n C dc_Un_readFrame_56 rfl rfl ?_
  refine a_imul C dc_Un_readFrame_57 ?_
  refine a_iadd C dc_Un_readFrame_58 ?_
  refine a_icmp_ne (tgt := 66) C dc_Un_readFrame_59 (by decide) ⟨fun hc => ?_, fun hc => ?_⟩
  · have hp := hp.1 hc
    refine a_iconst (v := 0) C dc_Un_readFrame_66 (by decide) ?_
    refine aw_lo (lo' := [some (.ref (oa u)), some (.int x1), some (.int x2), some (.int x3), none]) ⟨.inr rfl, .inr rfl, .inr rfl, .inr rfl, .inr rfl, trivial⟩ ?_
    exact s_Un_readFrame_67 C hQ hA hR hno hfl hu x1 x2 x3 0 S  hp
  · have hp := hp.2 hc
    refine a_iconst (v := 1) C dc_Un_readFrame_62 (by decide) ?_
    refine a_goto (tgt := 67) C dc_Un_readFrame_63 (by decide) ?_
    refine aw_lo (lo' := [some (.ref (oa u)), some (.int x1), some (.int x2), some (.int x3), none]) ⟨.inr rfl, .inr rfl, .inr rfl, .inr rfl, .inr rfl, trivial⟩ ?_
    exact s_Un_readFrame_67 C hQ hA hR hno hfl hu x1 x2 x3 1 S  hp
set_option maxRecDepth 100000 in
set_option maxHeartbeats 1000000 in
theorem s_Un_readFrame_0 (C : fcx gG D z A X R_Un c_C_Un_readFrame 5 (none)) (hQ : X.2.2.2.2.2.2.2.2.2.2 = eQ gG D z X.2.2.2.2.2.2.2.1 X.2.2.2.2.1 L0 0 0 (pC_v lt_C U oa K T)) (hA : A = owA gG L0 X.2.2.2.2.1.heap.size) (hR : X.2.2.2.1 = { frames := 12, cells := 1, slots := 6, locals := 1200 }) (hno : ∀ x ∈ X.2.2.2.2.2.2.2.2.2.1.exceptionTable.toList, False) (hfl : X.2.1.flags = pinnedFlags ++ [noTraceFlag]) (hu : c_cl U u = 11)  (S : cs) (hp : p_Un_readFrame U u S K T) : aw gG D z A X 5 0 [some (.ref (oa u)), none, none, none, none] [] (cw lt_C U oa S) 0 0 := by
  unfold p_Un_readFrame at hp
  refine a_aload_n C dc_Un_readFrame_0 rfl rfl ?_
  refine a_bipush (v := 8) C dc_Un_readFrame_1 (by decide) ?_
  refine a_bipush (v := 8) C dc_Un_readFrame_3 (by decide) ?_
  refine c_callT (rest := []) (av := .ref (oa u) :: [.int 8, .int 8]) C dc_Un_readFrame_5 (ct_Un_readWithin u 8 8 S hfl hu hp) cd_C_Un_readWithin i_Un (Nat.le_of_ble_eq_true rfl) (by rw [hR]; exact Nat.le_of_ble_eq_true rfl) (by rw [hR]; exact Nat.le_of_ble_eq_true rfl) (by rw [hR]; exact Nat.le_of_ble_eq_true rfl) (by rw [hR]; exact Nat.le_of_ble_eq_true rfl) (inv_V C u dc_Un_readFrame_5 l_Un_151 im_C_Un_readWithin se_C_Un_readWithin cd_C_Un_readWithin ⟨by decide, by decide⟩ ln_C_Un_readWithin rfl rfl (cw_obj hu rfl) rfl rfl) (fun oc L1 hL => ?_)
  rcases hL with ⟨v5, S5, hp, rfl, rfl⟩ | ⟨c9, a9, S9, hp, rfl, rfl⟩
  rotate_left
  · exact Or.inr ⟨a9, rfl, t_out C hQ hA (fun x hx => (hno x hx).elim) (Or.inr ⟨c9, a9, S9, hp, rfl, rfl⟩) (Nat.le_of_ble_eq_true rfl) (Nat.le_of_ble_eq_true rfl)⟩
  refine Or.inl ⟨_, rfl, ?_⟩
  refine aw_eq (lo' := _) (st' := [.int v5]) (L' := (cw lt_C U oa S5)) rfl rfl rfl ?_
  refine a_pop C dc_Un_readFrame_8 rfl ?_
  refine a_aload_n C dc_Un_readFrame_9 rfl rfl ?_
  refine c_callT (rest := []) (av := .ref (oa u) :: []) C dc_Un_readFrame_10 (ct_Un_readSide u S5 hfl hu hp) cd_C_Un_readSide i_Un (Nat.le_of_ble_eq_true rfl) (by rw [hR]; exact Nat.le_of_ble_eq_true rfl) (by rw [hR]; exact Nat.le_of_ble_eq_true rfl) (by rw [hR]; exact Nat.le_of_ble_eq_true rfl) (by rw [hR]; exact Nat.le_of_ble_eq_true rfl) (inv_V C u dc_Un_readFrame_10 l_Un_173 im_C_Un_readSide se_C_Un_readSide cd_C_Un_readSide ⟨by decide, by decide⟩ ln_C_Un_readSide rfl rfl (cw_obj hu rfl) rfl rfl) (fun oc L1 hL => ?_)
  rcases hL with ⟨v10, S10, hp, rfl, rfl⟩ | ⟨c9, a9, S9, hp, rfl, rfl⟩
  rotate_left
  · exact Or.inr ⟨a9, rfl, t_out C hQ hA (fun x hx => (hno x hx).elim) (Or.inr ⟨c9, a9, S9, hp, rfl, rfl⟩) (Nat.le_of_ble_eq_true rfl) (Nat.le_of_ble_eq_true rfl)⟩
  refine Or.inl ⟨_, rfl, ?_⟩
  refine aw_eq (lo' := _) (st' := [.int v10]) (L' := (cw lt_C U oa S10)) rfl rfl rfl ?_
  refine a_istore_n (lo' := [some (.ref (oa u)), some (.int v10), none, none, none]) C dc_Un_readFrame_13 rfl (by decide) rfl ?_
  refine a_aload_n C dc_Un_readFrame_14 rfl rfl ?_
  refine c_callT (rest := []) (av := .ref (oa u) :: []) C dc_Un_readFrame_15 (ct_Un_readSide u S10 hfl hu hp) cd_C_Un_readSide i_Un (Nat.le_of_ble_eq_true rfl) (by rw [hR]; exact Nat.le_of_ble_eq_true rfl) (by rw [hR]; exact Nat.le_of_ble_eq_true rfl) (by rw [hR]; exact Nat.le_of_ble_eq_true rfl) (by rw [hR]; exact Nat.le_of_ble_eq_true rfl) (inv_V C u dc_Un_readFrame_15 l_Un_173 im_C_Un_readSide se_C_Un_readSide cd_C_Un_readSide ⟨by decide, by decide⟩ ln_C_Un_readSide rfl rfl (cw_obj hu rfl) rfl rfl) (fun oc L1 hL => ?_)
  rcases hL with ⟨v15, S15, hp, rfl, rfl⟩ | ⟨c9, a9, S9, hp, rfl, rfl⟩
  rotate_left
  · exact Or.inr ⟨a9, rfl, t_out C hQ hA (fun x hx => (hno x hx).elim) (Or.inr ⟨c9, a9, S9, hp, rfl, rfl⟩) (Nat.le_of_ble_eq_true rfl) (Nat.le_of_ble_eq_true rfl)⟩
  refine Or.inl ⟨_, rfl, ?_⟩
  refine aw_eq (lo' := _) (st' := [.int v15]) (L' := (cw lt_C U oa S15)) rfl rfl rfl ?_
  refine a_istore_n (lo' := [some (.ref (oa u)), some (.int v10), some (.int v15), none, none]) C dc_Un_readFrame_18 rfl (by decide) rfl ?_
  refine a_aload_n C dc_Un_readFrame_19 rfl rfl ?_
  refine a_iconst (v := 1) C dc_Un_readFrame_20 (by decide) ?_
  refine a_iconst (v := 3) C dc_Un_readFrame_21 (by decide) ?_
  refine c_callT (rest := []) (av := .ref (oa u) :: [.int 1, .int 3]) C dc_Un_readFrame_22 (ct_Un_readWithin u 1 3 S15 hfl hu hp) cd_C_Un_readWithin i_Un (Nat.le_of_ble_eq_true rfl) (by rw [hR]; exact Nat.le_of_ble_eq_true rfl) (by rw [hR]; exact Nat.le_of_ble_eq_true rfl) (by rw [hR]; exact Nat.le_of_ble_eq_true rfl) (by rw [hR]; exact Nat.le_of_ble_eq_true rfl) (inv_V C u dc_Un_readFrame_22 l_Un_151 im_C_Un_readWithin se_C_Un_readWithin cd_C_Un_readWithin ⟨by decide, by decide⟩ ln_C_Un_readWithin rfl rfl (cw_obj hu rfl) rfl rfl) (fun oc L1 hL => ?_)
  rcases hL with ⟨v22, S22, hp, rfl, rfl⟩ | ⟨c9, a9, S9, hp, rfl, rfl⟩
  rotate_left
  · exact Or.inr ⟨a9, rfl, t_out C hQ hA (fun x hx => (hno x hx).elim) (Or.inr ⟨c9, a9, S9, hp, rfl, rfl⟩) (Nat.le_of_ble_eq_true rfl) (Nat.le_of_ble_eq_true rfl)⟩
  refine Or.inl ⟨_, rfl, ?_⟩
  refine aw_eq (lo' := _) (st' := [.int v22]) (L' := (cw lt_C U oa S22)) rfl rfl rfl ?_
  refine a_istore_n (lo' := [some (.ref (oa u)), some (.int v10), some (.int v15), some (.int v22), none]) C dc_Un_readFrame_25 rfl (by decide) rfl ?_
  refine a_iload_n C dc_Un_readFrame_26 rfl rfl ?_
  refine a_iconst (v := 2) C dc_Un_readFrame_27 (by decide) ?_
  refine a_icmp_ne (tgt := 48) C dc_Un_readFrame_28 (by decide) ⟨fun hc => ?_, fun hc => ?_⟩
  · have hp := hp.1 hc
    refine aw_lo (lo' := [some (.ref (oa u)), some (.int v10), some (.int v15), some (.int v22), none]) ⟨.inr rfl, .inr rfl, .inr rfl, .inr rfl, .inr rfl, trivial⟩ ?_
    exact s_Un_readFrame_48 C hQ hA hR hno hfl hu v10 v15 v22 S22  hp
  · have hp := hp.2 hc
    refine a_aload_n C dc_Un_readFrame_31 rfl rfl ?_
    refine c_getR C u 0 dc_Un_readFrame_32 hu rfl rfl (Nat.le_of_ble_eq_true rfl) f_Un_12 rfl hp.1 ?_
    have hp := hp.2
    refine a_iconst (v := 5) C dc_Un_readFrame_35 (by decide) ?_
    refine a_aload_n C dc_Un_readFrame_36 rfl rfl ?_
    refine c_getR C u 0 dc_Un_readFrame_37 hu rfl rfl (Nat.le_of_ble_eq_true rfl) f_Un_12 rfl hp.1 ?_
    have hp := hp.2
    have hc3 := hp.1
    have hp := hp.2
    refine c_getIN C (S22.2.2 u 0) 1 dc_Un_readFrame_40 hc3 rfl rfl (Nat.le_of_ble_eq_true rfl) f_Un_70 (Nat.le_of_ble_eq_true rfl) ?_
    refine a_iconst (v := 1) C dc_Un_readFrame_43 (by decide) ?_
    refine a_isub C dc_Un_readFrame_44 ?_
    refine c_callT (rest := []) (av := .ref (oa (S22.2.2 u 0)) :: [.int 5, .int ((S22.1 (S22.2.2 u 0) 1) - 1)]) C dc_Un_readFrame_45 (ct_Re_fail (S22.2.2 u 0) 5 ((S22.1 (S22.2.2 u 0) 1) - 1) S22 hfl hc3 hp) cd_C_Re_fail i_Re (Nat.le_of_ble_eq_true rfl) (by rw [hR]; exact Nat.le_of_ble_eq_true rfl) (by rw [hR]; exact Nat.le_of_ble_eq_true rfl) (by rw [hR]; exact Nat.le_of_ble_eq_true rfl) (by rw [hR]; exact Nat.le_of_ble_eq_true rfl) (inv_V C (S22.2.2 u 0) dc_Un_readFrame_45 l_Un_74 im_C_Re_fail se_C_Re_fail cd_C_Re_fail ⟨by decide, by decide⟩ ln_C_Re_fail rfl rfl (cw_obj hc3 rfl) rfl rfl) (fun oc L1 hL => ?_)
    rcases hL with ⟨S45, hp, rfl, rfl⟩ | ⟨c9, a9, S9, hp, rfl, rfl⟩
    rotate_left
    · exact Or.inr ⟨a9, rfl, t_out C hQ hA (fun x hx => (hno x hx).elim) (Or.inr ⟨c9, a9, S9, hp, rfl, rfl⟩) (Nat.le_of_ble_eq_true rfl) (Nat.le_of_ble_eq_true rfl)⟩
    refine Or.inl ⟨_, rfl, ?_⟩
    refine aw_eq (lo' := _) (st' := []) (L' := (cw lt_C U oa S45)) rfl rfl rfl ?_
    refine aw_lo (lo' := [some (.ref (oa u)), some (.int v10), some (.int v15), some (.int v22), none]) ⟨.inr rfl, .inr rfl, .inr rfl, .inr rfl, .inr rfl, trivial⟩ ?_
    exact s_Un_readFrame_48 C hQ hA hR hno hfl hu v10 v15 v22 S45  hp
end C_Un_readFrame
section C_Un_readFramec
variable {D : va_G} {z : Nat → ClassId} {U : ut} {oa : Nat → Nat}
set_option maxRecDepth 100000 in
theorem ct_Un_readFrame {l : Launch} (u : Nat)  (S : cs) {K : cs → Prop} {T : Nat → cs → Prop} (hfl : l.flags = pinnedFlags ++ [noTraceFlag]) (hu : c_cl U u = 11) (hp : p_Un_readFrame U u S K T) : ct gG D z l n_C_Un_readFrame c_C_Un_readFrame 5 (none) 12 1200 [.ref (oa u)] (cw lt_C U oa S) 0 0 (pC_v lt_C U oa K T) := by
  refine ct_of (lo := [some (.ref (oa u)), none, none, none, none]) (by decide) g_ok (Nat.le_of_ble_eq_true rfl) rfl ?_
  intro X A hl C hR hQ hA hno
  exact s_Un_readFrame_0 C hQ hA hR hno (by rw [hl]; exact hfl) hu S hp
end C_Un_readFramec
