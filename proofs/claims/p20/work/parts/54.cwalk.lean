def b_Re_readBit_56 (U : ut) (u : Nat)  (S : cs) (K : Int32 → cs → Prop) (T : Nat → cs → Prop) : Prop :=
  K ((((va_up S.1 u (upd (S.1 u) 4 ((S.1 u 4) - 1))) u 2) >>> (((va_up S.1 u (upd (S.1 u) 4 ((S.1 u 4) - 1))) u 4) &&& 31 : Int32) : Int32) &&& 1) (va_up S.1 u (upd (S.1 u) 4 ((S.1 u 4) - 1)), S.2.1, S.2.2)
def b_Re_readBit_50 (U : ut) (u : Nat)  (S : cs) (K : Int32 → cs → Prop) (T : Nat → cs → Prop) : Prop :=
  b_Re_readBit_56 U u (va_up S.1 u (upd (S.1 u) 4 8), S.2.1, S.2.2) K T
def p_Re_readBit (U : ut) (u : Nat)  (S : cs) (K : Int32 → cs → Prop) (T : Nat → cs → Prop) : Prop :=
  (¬ (S.1 u 4) = 0 → (b_Re_readBit_56 U u S K T)) ∧ ((S.1 u 4) = 0 → (p_Re_read U u (va_up S.1 u (upd (S.1 u) 3 (S.1 u 1)), S.2.1, S.2.2) (fun v17 S17 => (¬ ((va_up S17.1 u (upd (S17.1 u) 2 v17)) u 2) = 255 → (b_Re_readBit_50 U u (va_up S17.1 u (upd (S17.1 u) 2 v17), S17.2.1, S17.2.2) K T)) ∧ (((va_up S17.1 u (upd (S17.1 u) 2 v17)) u 2) = 255 → (p_Re_read U u (va_up S17.1 u (upd (S17.1 u) 2 v17), S17.2.1, S17.2.2) (fun v34 S34 => (v34 = 0 → (b_Re_readBit_50 U u S34 K T)) ∧ (¬ (v34 = 0) → (p_Re_fail U u 7 (S34.1 u 3) S34 (fun S47 => b_Re_readBit_50 U u S47 K T) T))) T))) T))
section C_Re_readBit
variable {D : va_G} {z : Nat → ClassId} {A : Nat → Prop} {X : cx} {L0 : fw} {U : ut} {oa : Nat → Nat} {u : Nat} {K : Int32 → cs → Prop} {T : Nat → cs → Prop}
set_option maxRecDepth 100000 in
set_option maxHeartbeats 1000000 in
theorem s_Re_readBit_56 (C : fcx gG D z A X R_Re c_C_Re_readBit 1 (some .int)) (hQ : X.2.2.2.2.2.2.2.2.2.2 = eQ gG D z X.2.2.2.2.2.2.2.1 X.2.2.2.2.1 L0 0 0 (pC_i lt_C U oa K T)) (hA : A = owA gG L0 X.2.2.2.2.1.heap.size) (hR : X.2.2.2.1 = { frames := 10, cells := 1, slots := 6, locals := 1000 }) (hno : ∀ x ∈ X.2.2.2.2.2.2.2.2.2.1.exceptionTable.toList, False) (hfl : X.2.1.flags = pinnedFlags ++ [noTraceFlag]) (hu : c_cl U u = 8)  (S : cs) (hp : b_Re_readBit_56 U u S K T) : aw gG D z A X 1 56 [some (.ref (oa u))] [] (cw lt_C U oa S) 0 0 := by
  unfold b_Re_readBit_56 at hp
  refine a_aload_n C dc_Re_readBit_56 rfl rfl ?_
  refine a_dup C dc_Re_readBit_57 rfl ?_
  refine c_getI C u 4 dc_Re_readBit_58 hu rfl rfl (Nat.le_of_ble_eq_true rfl) f_Re_55 (Nat.le_of_ble_eq_true rfl) ?_
  refine a_iconst (v := 1) C dc_Re_readBit_61 (by decide) ?_
  refine a_isub C dc_Re_readBit_62 ?_
  refine c_putI (ty := .int) C u 4 dc_Re_readBit_63 hu rfl rfl (Nat.le_of_ble_eq_true rfl) f_Re_55 (Nat.le_of_ble_eq_true rfl) rfl rfl rfl rfl ?_
  refine aw_eq (lo' := _) (st' := _) (L' := (cw lt_C U oa (va_up S.1 u (upd (S.1 u) 4 ((S.1 u 4) - 1)), S.2.1, S.2.2))) rfl rfl rfl ?_
  refine a_aload_n C dc_Re_readBit_66 rfl rfl ?_
  refine c_getI C u 2 dc_Re_readBit_67 hu rfl rfl (Nat.le_of_ble_eq_true rfl) f_Re_61 (Nat.le_of_ble_eq_true rfl) ?_
  refine a_aload_n C dc_Re_readBit_70 rfl rfl ?_
  refine c_getI C u 4 dc_Re_readBit_71 hu rfl rfl (Nat.le_of_ble_eq_true rfl) f_Re_55 (Nat.le_of_ble_eq_true rfl) ?_
  refine a_ishr C dc_Re_readBit_74 ?_
  refine a_iconst (v := 1) C dc_Re_readBit_75 (by decide) ?_
  refine a_iand C dc_Re_readBit_76 ?_
  exact a_iret (ty := .int) C hQ hA dc_Re_readBit_77 rfl rfl (Or.inl ⟨_, (va_up S.1 u (upd (S.1 u) 4 ((S.1 u 4) - 1)), S.2.1, S.2.2), hp, rfl, rfl⟩)
set_option maxRecDepth 100000 in
set_option maxHeartbeats 1000000 in
theorem s_Re_readBit_50 (C : fcx gG D z A X R_Re c_C_Re_readBit 1 (some .int)) (hQ : X.2.2.2.2.2.2.2.2.2.2 = eQ gG D z X.2.2.2.2.2.2.2.1 X.2.2.2.2.1 L0 0 0 (pC_i lt_C U oa K T)) (hA : A = owA gG L0 X.2.2.2.2.1.heap.size) (hR : X.2.2.2.1 = { frames := 10, cells := 1, slots := 6, locals := 1000 }) (hno : ∀ x ∈ X.2.2.2.2.2.2.2.2.2.1.exceptionTable.toList, False) (hfl : X.2.1.flags = pinnedFlags ++ [noTraceFlag]) (hu : c_cl U u = 8)  (S : cs) (hp : b_Re_readBit_50 U u S K T) : aw gG D z A X 1 50 [some (.ref (oa u))] [] (cw lt_C U oa S) 0 0 := by
  unfold b_Re_readBit_50 at hp
  refine a_aload_n C dc_Re_readBit_50 rfl rfl ?_
  refine a_bipush (v := 8) C dc_Re_readBit_51 (by decide) ?_
  refine c_putI (ty := .int) C u 4 dc_Re_readBit_53 hu rfl rfl (Nat.le_of_ble_eq_true rfl) f_Re_55 (Nat.le_of_ble_eq_true rfl) rfl rfl rfl rfl ?_
  refine aw_eq (lo' := _) (st' := _) (L' := (cw lt_C U oa (va_up S.1 u (upd (S.1 u) 4 8), S.2.1, S.2.2))) rfl rfl rfl ?_
  refine aw_lo (lo' := [some (.ref (oa u))]) ⟨.inr rfl, trivial⟩ ?_
  exact s_Re_readBit_56 C hQ hA hR hno hfl hu (va_up S.1 u (upd (S.1 u) 4 8), S.2.1, S.2.2)  hp
set_option maxRecDepth 100000 in
set_option maxHeartbeats 1000000 in
theorem s_Re_readBit_0 (C : fcx gG D z A X R_Re c_C_Re_readBit 1 (some .int)) (hQ : X.2.2.2.2.2.2.2.2.2.2 = eQ gG D z X.2.2.2.2.2.2.2.1 X.2.2.2.2.1 L0 0 0 (pC_i lt_C U oa K T)) (hA : A = owA gG L0 X.2.2.2.2.1.heap.size) (hR : X.2.2.2.1 = { frames := 10, cells := 1, slots := 6, locals := 1000 }) (hno : ∀ x ∈ X.2.2.2.2.2.2.2.2.2.1.exceptionTable.toList, False) (hfl : X.2.1.flags = pinnedFlags ++ [noTraceFlag]) (hu : c_cl U u = 8)  (S : cs) (hp : p_Re_readBit U u S K T) : aw gG D z A X 1 0 [some (.ref (oa u))] [] (cw lt_C U oa S) 0 0 := by
  unfold p_Re_readBit at hp
  refine a_aload_n C dc_Re_readBit_0 rfl rfl ?_
  refine c_getI C u 4 dc_Re_readBit_1 hu rfl rfl (Nat.le_of_ble_eq_true rfl) f_Re_55 (Nat.le_of_ble_eq_true rfl) ?_
  refine a_if_ne (tgt := 56) C dc_Re_readBit_4 (by decide) ⟨fun hc => ?_, fun hc => ?_⟩
  · have hp := hp.1 hc
    refine aw_lo (lo' := [some (.ref (oa u))]) ⟨.inr rfl, trivial⟩ ?_
    exact s_Re_readBit_56 C hQ hA hR hno hfl hu S  hp
  · have hp := hp.2 hc
    refine a_aload_n C dc_Re_readBit_7 rfl rfl ?_
    refine a_aload_n C dc_Re_readBit_8 rfl rfl ?_
    refine c_getI C u 1 dc_Re_readBit_9 hu rfl rfl (Nat.le_of_ble_eq_true rfl) f_Re_35 (Nat.le_of_ble_eq_true rfl) ?_
    refine c_putI (ty := .int) C u 3 dc_Re_readBit_12 hu rfl rfl (Nat.le_of_ble_eq_true rfl) f_Re_58 (Nat.le_of_ble_eq_true rfl) rfl rfl rfl rfl ?_
    refine aw_eq (lo' := _) (st' := _) (L' := (cw lt_C U oa (va_up S.1 u (upd (S.1 u) 3 (S.1 u 1)), S.2.1, S.2.2))) rfl rfl rfl ?_
    refine a_aload_n C dc_Re_readBit_15 rfl rfl ?_
    refine a_aload_n C dc_Re_readBit_16 rfl rfl ?_
    refine c_callT (rest := [.ref (oa u)]) (av := .ref (oa u) :: []) C dc_Re_readBit_17 (ct_Re_read u (va_up S.1 u (upd (S.1 u) 3 (S.1 u 1)), S.2.1, S.2.2) hfl hu hp) cd_C_Re_read i_Re (Nat.le_of_ble_eq_true rfl) (by rw [hR]; exact Nat.le_of_ble_eq_true rfl) (by rw [hR]; exact Nat.le_of_ble_eq_true rfl) (by rw [hR]; exact Nat.le_of_ble_eq_true rfl) (by rw [hR]; exact Nat.le_of_ble_eq_true rfl) (inv_V C u dc_Re_readBit_17 l_Re_47 im_C_Re_read se_C_Re_read cd_C_Re_read ⟨by decide, by decide⟩ ln_C_Re_read rfl rfl (cw_obj hu rfl) rfl rfl) (fun oc L1 hL => ?_)
    rcases hL with ⟨v17, S17, hp, rfl, rfl⟩ | ⟨c9, a9, S9, hp, rfl, rfl⟩
    rotate_left
    · exact Or.inr ⟨a9, rfl, t_out C hQ hA (fun x hx => (hno x hx).elim) (Or.inr ⟨c9, a9, S9, hp, rfl, rfl⟩) (Nat.le_of_ble_eq_true rfl) (Nat.le_of_ble_eq_true rfl)⟩
    refine Or.inl ⟨_, rfl, ?_⟩
    refine aw_eq (lo' := _) (st' := [.int v17, .ref (oa u)]) (L' := (cw lt_C U oa S17)) rfl rfl rfl ?_
    refine c_putI (ty := .int) C u 2 dc_Re_readBit_20 hu rfl rfl (Nat.le_of_ble_eq_true rfl) f_Re_61 (Nat.le_of_ble_eq_true rfl) rfl rfl rfl rfl ?_
    refine aw_eq (lo' := _) (st' := _) (L' := (cw lt_C U oa (va_up S17.1 u (upd (S17.1 u) 2 v17), S17.2.1, S17.2.2))) rfl rfl rfl ?_
    refine a_aload_n C dc_Re_readBit_23 rfl rfl ?_
    refine c_getI C u 2 dc_Re_readBit_24 hu rfl rfl (Nat.le_of_ble_eq_true rfl) f_Re_61 (Nat.le_of_ble_eq_true rfl) ?_
    refine a_sipush (v := 255) C dc_Re_readBit_27 (by decide) ?_
    refine a_icmp_ne (tgt := 50) C dc_Re_readBit_30 (by decide) ⟨fun hc => ?_, fun hc => ?_⟩
    · have hp := hp.1 hc
      refine aw_lo (lo' := [some (.ref (oa u))]) ⟨.inr rfl, trivial⟩ ?_
      exact s_Re_readBit_50 C hQ hA hR hno hfl hu (va_up S17.1 u (upd (S17.1 u) 2 v17), S17.2.1, S17.2.2)  hp
    · have hp := hp.2 hc
      refine a_aload_n C dc_Re_readBit_33 rfl rfl ?_
      refine c_callT (rest := []) (av := .ref (oa u) :: []) C dc_Re_readBit_34 (ct_Re_read u (va_up S17.1 u (upd (S17.1 u) 2 v17), S17.2.1, S17.2.2) hfl hu hp) cd_C_Re_read i_Re (Nat.le_of_ble_eq_true rfl) (by rw [hR]; exact Nat.le_of_ble_eq_true rfl) (by rw [hR]; exact Nat.le_of_ble_eq_true rfl) (by rw [hR]; exact Nat.le_of_ble_eq_true rfl) (by rw [hR]; exact Nat.le_of_ble_eq_true rfl) (inv_V C u dc_Re_readBit_34 l_Re_47 im_C_Re_read se_C_Re_read cd_C_Re_read ⟨by decide, by decide⟩ ln_C_Re_read rfl rfl (cw_obj hu rfl) rfl rfl) (fun oc L1 hL => ?_)
      rcases hL with ⟨v34, S34, hp, rfl, rfl⟩ | ⟨c9, a9, S9, hp, rfl, rfl⟩
      rotate_left
      · exact Or.inr ⟨a9, rfl, t_out C hQ hA (fun x hx => (hno x hx).elim) (Or.inr ⟨c9, a9, S9, hp, rfl, rfl⟩) (Nat.le_of_ble_eq_true rfl) (Nat.le_of_ble_eq_true rfl)⟩
      refine Or.inl ⟨_, rfl, ?_⟩
      refine aw_eq (lo' := _) (st' := [.int v34]) (L' := (cw lt_C U oa S34)) rfl rfl rfl ?_
      refine a_if_eq (tgt := 50) C dc_Re_readBit_37 (by decide) ⟨fun hc => ?_, fun hc => ?_⟩
      · have hp := hp.1 hc
        refine aw_lo (lo' := [some (.ref (oa u))]) ⟨.inr rfl, trivial⟩ ?_
        exact s_Re_readBit_50 C hQ hA hR hno hfl hu S34  hp
      · have hp := hp.2 hc
        refine a_aload_n C dc_Re_readBit_40 rfl rfl ?_
        refine a_bipush (v := 7) C dc_Re_readBit_41 (by decide) ?_
        refine a_aload_n C dc_Re_readBit_43 rfl rfl ?_
        refine c_getI C u 3 dc_Re_readBit_44 hu rfl rfl (Nat.le_of_ble_eq_true rfl) f_Re_58 (Nat.le_of_ble_eq_true rfl) ?_
        refine c_callT (rest := []) (av := .ref (oa u) :: [.int 7, .int (S34.1 u 3)]) C dc_Re_readBit_47 (ct_Re_fail u 7 (S34.1 u 3) S34 hfl hu hp) cd_C_Re_fail i_Re (Nat.le_of_ble_eq_true rfl) (by rw [hR]; exact Nat.le_of_ble_eq_true rfl) (by rw [hR]; exact Nat.le_of_ble_eq_true rfl) (by rw [hR]; exact Nat.le_of_ble_eq_true rfl) (by rw [hR]; exact Nat.le_of_ble_eq_true rfl) (inv_V C u dc_Re_readBit_47 l_Re_51 im_C_Re_fail se_C_Re_fail cd_C_Re_fail ⟨by decide, by decide⟩ ln_C_Re_fail rfl rfl (cw_obj hu rfl) rfl rfl) (fun oc L1 hL => ?_)
        rcases hL with ⟨S47, hp, rfl, rfl⟩ | ⟨c9, a9, S9, hp, rfl, rfl⟩
        rotate_left
        · exact Or.inr ⟨a9, rfl, t_out C hQ hA (fun x hx => (hno x hx).elim) (Or.inr ⟨c9, a9, S9, hp, rfl, rfl⟩) (Nat.le_of_ble_eq_true rfl) (Nat.le_of_ble_eq_true rfl)⟩
        refine Or.inl ⟨_, rfl, ?_⟩
        refine aw_eq (lo' := _) (st' := []) (L' := (cw lt_C U oa S47)) rfl rfl rfl ?_
        refine aw_lo (lo' := [some (.ref (oa u))]) ⟨.inr rfl, trivial⟩ ?_
        exact s_Re_readBit_50 C hQ hA hR hno hfl hu S47  hp
end C_Re_readBit
section C_Re_readBitc
variable {D : va_G} {z : Nat → ClassId} {U : ut} {oa : Nat → Nat}
set_option maxRecDepth 100000 in
theorem ct_Re_readBit {l : Launch} (u : Nat)  (S : cs) {K : Int32 → cs → Prop} {T : Nat → cs → Prop} (hfl : l.flags = pinnedFlags ++ [noTraceFlag]) (hu : c_cl U u = 8) (hp : p_Re_readBit U u S K T) : ct gG D z l n_C_Re_readBit c_C_Re_readBit 1 (some .int) 10 1000 [.ref (oa u)] (cw lt_C U oa S) 0 0 (pC_i lt_C U oa K T) := by
  refine ct_of (lo := [some (.ref (oa u))]) (by decide) g_ok (Nat.le_of_ble_eq_true rfl) rfl ?_
  intro X A hl C hR hQ hA hno
  exact s_Re_readBit_0 C hQ hA hR hno (by rw [hl]; exact hfl) hu S hp
end C_Re_readBitc
def b_Co_symbolOf_40 (U : ut) (u : Nat) (s0 : Int32) (S : cs) (K : Int32 → cs → Prop) : Prop :=
  K s0 S
def b_Co_symbolOf_39 (U : ut) (u : Nat)  (S : cs) (K : Int32 → cs → Prop) : Prop :=
  b_Co_symbolOf_40 U u (-1) S K
def p_Co_symbolOf (U : ut) (u : Nat) (x1 : Int32) (x2 : Int32) (S : cs) (K : Int32 → cs → Prop) : Prop :=
  ¬ S.2.2 u 2 = NU ∧ (c_cl U (S.2.2 u 2) = 902 ∧ (vp_in x2 (c_ln U (S.2.2 u 2)) ∧ (((x1 - (S.1 (S.2.2 u 2) x2.toNatClampNeg)) < 0 → (b_Co_symbolOf_39 U u S K)) ∧ (¬ ((x1 - (S.1 (S.2.2 u 2) x2.toNatClampNeg)) < 0) → (¬ S.2.2 u 1 = NU ∧ (c_cl U (S.2.2 u 1) = 902 ∧ (vp_in x2 (c_ln U (S.2.2 u 1)) ∧ (((S.1 (S.2.2 u 1) x2.toNatClampNeg) ≤ (x1 - (S.1 (S.2.2 u 2) x2.toNatClampNeg)) → (b_Co_symbolOf_39 U u S K)) ∧ (¬ ((S.1 (S.2.2 u 1) x2.toNatClampNeg) ≤ (x1 - (S.1 (S.2.2 u 2) x2.toNatClampNeg))) → (¬ S.2.2 u 4 = NU ∧ (¬ S.2.2 u 3 = NU ∧ (c_cl U (S.2.2 u 3) = 902 ∧ (vp_in x2 (c_ln U (S.2.2 u 3)) ∧ (c_cl U (S.2.2 u 4) = 902 ∧ (vp_in ((S.1 (S.2.2 u 3) x2.toNatClampNeg) + (x1 - (S.1 (S.2.2 u 2) x2.toNatClampNeg))) (c_ln U (S.2.2 u 4)) ∧ (b_Co_symbolOf_40 U u (S.1 (S.2.2 u 4) ((S.1 (S.2.2 u 3) x2.toNatClampNeg) + (x1 - (S.1 (S.2.2 u 2) x2.toNatClampNeg))).toNatClampNeg) S K))))))))))))))))
section C_Co_symbolOf
variable {D : va_G} {z : Nat → ClassId} {A : Nat → Prop} {X : cx} {L0 : fw} {U : ut} {oa : Nat → Nat} {u : Nat} {K : Int32 → cs → Prop}
set_option maxRecDepth 100000 in
set_option maxHeartbeats 1000000 in
theorem s_Co_symbolOf_40 (C : fcx gG D z A X R_Co c_C_Co_symbolOf 4 (some .int)) (hQ : X.2.2.2.2.2.2.2.2.2.2 = eQ gG D z X.2.2.2.2.2.2.2.1 X.2.2.2.2.1 L0 0 0 (pC_i lt_C U oa K (fun _ _ => False))) (hA : A = owA gG L0 X.2.2.2.2.1.heap.size) (hR : X.2.2.2.1 = { frames := 1, cells := 1, slots := 6, locals := 100 }) (hu : c_cl U u = 3) (s0 : Int32) (S : cs) (hp : b_Co_symbolOf_40 U u s0 S K) : aw gG D z A X 4 40 [some (.ref (oa u)), none, none, none] [.int s0] (cw lt_C U oa S) 0 0 := by
  unfold b_Co_symbolOf_40 at hp
  exact a_iret (ty := .int) C hQ hA dc_Co_symbolOf_40 rfl rfl (Or.inl ⟨_, S, hp, rfl, rfl⟩)
set_option maxRecDepth 100000 in
set_option maxHeartbeats 1000000 in
theorem s_Co_symbolOf_39 (C : fcx gG D z A X R_Co c_C_Co_symbolOf 4 (some .int)) (hQ : X.2.2.2.2.2.2.2.2.2.2 = eQ gG D z X.2.2.2.2.2.2.2.1 X.2.2.2.2.1 L0 0 0 (pC_i lt_C U oa K (fun _ _ => False))) (hA : A = owA gG L0 X.2.2.2.2.1.heap.size) (hR : X.2.2.2.1 = { frames := 1, cells := 1, slots := 6, locals := 100 }) (hu : c_cl U u = 3)  (S : cs) (hp : b_Co_symbolOf_39 U u S K) : aw gG D z A X 4 39 [some (.ref (oa u)), none, none, none] [] (cw lt_C U oa S) 0 0 := by
  unfold b_Co_symbolOf_39 at hp
  refine a_iconst (v := (-1)) C dc_Co_symbolOf_39 (by decide) ?_
  refine aw_lo (lo' := [some (.ref (oa u)), none, none, none]) ⟨.inr rfl, .inr rfl, .inr rfl, .inr rfl, trivial⟩ ?_
  exact s_Co_symbolOf_40 C hQ hA hR hu (-1) S  hp
set_option maxRecDepth 100000 in
set_option maxHeartbeats 1000000 in
theorem s_Co_symbolOf_0 (C : fcx gG D z A X R_Co c_C_Co_symbolOf 4 (some .int)) (hQ : X.2.2.2.2.2.2.2.2.2.2 = eQ gG D z X.2.2.2.2.2.2.2.1 X.2.2.2.2.1 L0 0 0 (pC_i lt_C U oa K (fun _ _ => False))) (hA : A = owA gG L0 X.2.2.2.2.1.heap.size) (hR : X.2.2.2.1 = { frames := 1, cells := 1, slots := 6, locals := 100 }) (hu : c_cl U u = 3) (x1 : Int32) (x2 : Int32) (S : cs) (hp : p_Co_symbolOf U u x1 x2 S K) : aw gG D z A X 4 0 [some (.ref (oa u)), some (.int x1), some (.int x2), none] [] (cw lt_C U oa S) 0 0 := by
  unfold p_Co_symbolOf at hp
  refine a_iload_n C dc_Co_symbolOf_0 rfl rfl ?_
  refine a_aload_n C dc_Co_symbolOf_1 rfl rfl ?_
  refine c_getR C u 2 dc_Co_symbolOf_2 hu rfl rfl (Nat.le_of_ble_eq_true rfl) f_Co_15 rfl hp.1 ?_
  have hp := hp.2
  refine a_iload_n C dc_Co_symbolOf_5 rfl rfl ?_
  have hc1 := hp.1
  have hp := hp.2
  refine c_iald C (S.2.2 u 2) dc_Co_symbolOf_6 hc1 hp.1 ?_
  have hp := hp.2
  refine a_isub C dc_Co_symbolOf_7 ?_
  refine a_istore_n (lo' := [some (.ref (oa u)), some (.int x1), some (.int x2), some (.int (x1 - (S.1 (S.2.2 u 2) x2.toNatClampNeg)))]) C dc_Co_symbolOf_8 rfl (by decide) rfl ?_
  refine a_iload_n C dc_Co_symbolOf_9 rfl rfl ?_
  refine a_if_lt (tgt := 39) C dc_Co_symbolOf_10 (by decide) ⟨fun hc => ?_, fun hc => ?_⟩
  · have hp := hp.1 hc
    refine aw_lo (lo' := [some (.ref (oa u)), none, none, none]) ⟨.inr rfl, .inl rfl, .inl rfl, .inl rfl, trivial⟩ ?_
    exact s_Co_symbolOf_39 C hQ hA hR hu S  hp
  · have hp := hp.2 hc
    refine a_iload_n C dc_Co_symbolOf_13 rfl rfl ?_
    refine a_aload_n C dc_Co_symbolOf_14 rfl rfl ?_
    refine c_getR C u 1 dc_Co_symbolOf_15 hu rfl rfl (Nat.le_of_ble_eq_true rfl) f_Co_9 rfl hp.1 ?_
    have hp := hp.2
    refine a_iload_n C dc_Co_symbolOf_18 rfl rfl ?_
    have hc2 := hp.1
    have hp := hp.2
    refine c_iald C (S.2.2 u 1) dc_Co_symbolOf_19 hc2 hp.1 ?_
    have hp := hp.2
    refine a_icmp_ge (tgt := 39) C dc_Co_symbolOf_20 (by decide) ⟨fun hc => ?_, fun hc => ?_⟩
    · have hp := hp.1 hc
      refine aw_lo (lo' := [some (.ref (oa u)), none, none, none]) ⟨.inr rfl, .inl rfl, .inl rfl, .inl rfl, trivial⟩ ?_
      exact s_Co_symbolOf_39 C hQ hA hR hu S  hp
    · have hp := hp.2 hc
      refine a_aload_n C dc_Co_symbolOf_23 rfl rfl ?_
      refine c_getR C u 4 dc_Co_symbolOf_24 hu rfl rfl (Nat.le_of_ble_eq_true rfl) f_Co_21 rfl hp.1 ?_
      have hp := hp.2
      refine a_aload_n C dc_Co_symbolOf_27 rfl rfl ?_
      refine c_getR C u 3 dc_Co_symbolOf_28 hu rfl rfl (Nat.le_of_ble_eq_true rfl) f_Co_18 rfl hp.1 ?_
      have hp := hp.2
      refine a_iload_n C dc_Co_symbolOf_31 rfl rfl ?_
      have hc3 := hp.1
      have hp := hp.2
      refine c_iald C (S.2.2 u 3) dc_Co_symbolOf_32 hc3 hp.1 ?_
      have hp := hp.2
      refine a_iload_n C dc_Co_symbolOf_33 rfl rfl ?_
      refine a_iadd C dc_Co_symbolOf_34 ?_
      have hc4 := hp.1
      have hp := hp.2
      refine c_iald C (S.2.2 u 4) dc_Co_symbolOf_35 hc4 hp.1 ?_
      have hp := hp.2
      refine a_goto (tgt := 40) C dc_Co_symbolOf_36 (by decide) ?_
      refine aw_lo (lo' := [some (.ref (oa u)), none, none, none]) ⟨.inr rfl, .inl rfl, .inl rfl, .inl rfl, trivial⟩ ?_
      exact s_Co_symbolOf_40 C hQ hA hR hu (S.1 (S.2.2 u 4) ((S.1 (S.2.2 u 3) x2.toNatClampNeg) + (x1 - (S.1 (S.2.2 u 2) x2.toNatClampNeg))).toNatClampNeg) S  hp
end C_Co_symbolOf
section C_Co_symbolOfc
variable {D : va_G} {z : Nat → ClassId} {U : ut} {oa : Nat → Nat}
set_option maxRecDepth 100000 in
theorem ct_Co_symbolOf {l : Launch} (u : Nat) (x1 : Int32) (x2 : Int32) (S : cs) {K : Int32 → cs → Prop} (hu : c_cl U u = 3) (hp : p_Co_symbolOf U u x1 x2 S K) : ct gG D z l n_C_Co_symbolOf c_C_Co_symbolOf 4 (some .int) 1 100 [.ref (oa u), .int x1, .int x2] (cw lt_C U oa S) 0 0 (pC_i lt_C U oa K (fun _ _ => False)) := by
  refine ct_of (lo := [some (.ref (oa u)), some (.int x1), some (.int x2), none]) (by decide) g_ok (Nat.le_of_ble_eq_true rfl) rfl ?_
  intro X A _ C hR hQ hA _
  exact s_Co_symbolOf_0 C hQ hA hR hu x1 x2 S hp
end C_Co_symbolOfc
def b_Re_readSymbol_73 (U : ut) (u : Nat) (x3 : Int32) (S : cs) (K : Int32 → cs → Prop) (T : Nat → cs → Prop) : Prop :=
  K x3 S
def b_Re_readSymbol_58 (U : ut) (u : Nat) (x3 : Int32) (S : cs) (K : Int32 → cs → Prop) (T : Nat → cs → Prop) : Prop :=
  (¬ x3 = (-1) → (b_Re_readSymbol_73 U u x3 S K T)) ∧ (x3 = (-1) → (p_Re_fail U u 7 (S.1 u 5) S (fun S70 => b_Re_readSymbol_73 U u x3 S70 K T) T))
def b_Re_readSymbol_23 (U : ut) (u : Nat) (x1 : Nat) (x2 : Int32) (x3 : Int32) (x4 : Int32) (S : cs) (R23 : Nat → Int32 → Int32 → Int32 → cs → Prop) (K : Int32 → cs → Prop) (T : Nat → cs → Prop) : Prop :=
  (16 < x4 → (b_Re_readSymbol_58 U u x3 S K T)) ∧ (¬ (16 < x4) → ((¬ x3 = (-1) → (b_Re_readSymbol_58 U u x3 S K T)) ∧ (x3 = (-1) → (p_Re_readBit U u S (fun v39 S39 => c_cl U x1 = 3 ∧ (p_Co_symbolOf U x1 ((2 * x2) + v39) x4 S39 (fun v48 S48 => R23 x1 ((2 * x2) + v39) v48 (x4 + 1) S48))) T))))
def e_Re_readSymbol_23 (U : ut) (u : Nat) (x1 : Nat) (x2 : Int32) (x3 : Int32) (x4 : Int32) (S : cs) (K : Int32 → cs → Prop) (T : Nat → cs → Prop) : Prop :=
  ∃ (I : Nat → Int32 → Int32 → Int32 → cs → Prop) (μ : Nat → Int32 → Int32 → Int32 → cs → Nat), I x1 x2 x3 x4 S ∧ ∀ yx1 yx2 yx3 yx4 yS, I yx1 yx2 yx3 yx4 yS → b_Re_readSymbol_23 U u yx1 yx2 yx3 yx4 yS (fun zx1 zx2 zx3 zx4 zS => I zx1 zx2 zx3 zx4 zS ∧ μ zx1 zx2 zx3 zx4 zS < μ yx1 yx2 yx3 yx4 yS) K T
def p_Re_readSymbol (U : ut) (u : Nat) (x1 : Nat) (S : cs) (K : Int32 → cs → Prop) (T : Nat → cs → Prop) : Prop :=
  p_Re_readBit U u S (fun v1 S1 => c_cl U x1 = 3 ∧ (p_Co_symbolOf U x1 v1 1 (va_up S1.1 u (upd (S1.1 u) 5 (S1.1 u 3)), S1.2.1, S1.2.2) (fun v16 S16 => e_Re_readSymbol_23 U u x1 v1 v16 2 S16 K T))) T
section C_Re_readSymbol
variable {D : va_G} {z : Nat → ClassId} {A : Nat → Prop} {X : cx} {L0 : fw} {U : ut} {oa : Nat → Nat} {u : Nat} {K : Int32 → cs → Prop} {T : Nat → cs → Prop}
set_option maxRecDepth 100000 in
set_option maxHeartbeats 1000000 in
theorem s_Re_readSymbol_73 (C : fcx gG D z A X R_Re c_C_Re_readSymbol 5 (some .int)) (hQ : X.2.2.2.2.2.2.2.2.2.2 = eQ gG D z X.2.2.2.2.2.2.2.1 X.2.2.2.2.1 L0 0 0 (pC_i lt_C U oa K T)) (hA : A = owA gG L0 X.2.2.2.2.1.heap.size) (hR : X.2.2.2.1 = { frames := 11, cells := 1, slots := 6, locals := 1100 }) (hno : ∀ x ∈ X.2.2.2.2.2.2.2.2.2.1.exceptionTable.toList, False) (hfl : X.2.1.flags = pinnedFlags ++ [noTraceFlag]) (hu : c_cl U u = 8) (x3 : Int32) (S : cs) (hp : b_Re_readSymbol_73 U u x3 S K T) : aw gG D z A X 5 73 [some (.ref (oa u)), none, none, some (.int x3), none] [] (cw lt_C U oa S) 0 0 := by
  unfold b_Re_readSymbol_73 at hp
  refine a_iload_n C dc_Re_readSymbol_73 rfl rfl ?_
  exact a_iret (ty := .int) C hQ hA dc_Re_readSymbol_74 rfl rfl (Or.inl ⟨_, S, hp, rfl, rfl⟩)
set_option maxRecDepth 100000 in
set_option maxHeartbeats 1000000 in
theorem s_Re_readSymbol_58 (C : fcx gG D z A X R_Re c_C_Re_readSymbol 5 (some .int)) (hQ : X.2.2.2.2.2.2.2.2.2.2 = eQ gG D z X.2.2.2.2.2.2.2.1 X.2.2.2.2.1 L0 0 0 (pC_i lt_C U oa K T)) (hA : A = owA gG L0 X.2.2.2.2.1.heap.size) (hR : X.2.2.2.1 = { frames := 11, cells := 1, slots := 6, locals := 1100 }) (hno : ∀ x ∈ X.2.2.2.2.2.2.2.2.2.1.exceptionTable.toList, False) (hfl : X.2.1.flags = pinnedFlags ++ [noTraceFlag]) (hu : c_cl U u = 8) (x3 : Int32) (S : cs) (hp : b_Re_readSymbol_58 U u x3 S K T) : aw gG D z A X 5 58 [some (.ref (oa u)), none, none, some (.int x3), none] [] (cw lt_C U oa S) 0 0 := by
  unfold b_Re_readSymbol_58 at hp
  refine a_iload_n C dc_Re_readSymbol_58 rfl rfl ?_
  refine a_iconst (v := (-1)) C dc_Re_readSymbol_59 (by decide) ?_
  refine a_icmp_ne (tgt := 73) C dc_Re_readSymbol_60 (by decide) ⟨fun hc => ?_, fun hc => ?_⟩
  · have hp := hp.1 hc
    refine aw_lo (lo' := [some (.ref (oa u)), none, none, some (.int x3), none]) ⟨.inr rfl, .inr rfl, .inr rfl, .inr rfl, .inr rfl, trivial⟩ ?_
    exact s_Re_readSymbol_73 C hQ hA hR hno hfl hu x3 S  hp
  · have hp := hp.2 hc
    refine a_aload_n C dc_Re_readSymbol_63 rfl rfl ?_
    refine a_bipush (v := 7) C dc_Re_readSymbol_64 (by decide) ?_
    refine a_aload_n C dc_Re_readSymbol_66 rfl rfl ?_
    refine c_getI C u 5 dc_Re_readSymbol_67 hu rfl rfl (Nat.le_of_ble_eq_true rfl) f_Re_67 (Nat.le_of_ble_eq_true rfl) ?_
    refine c_callT (rest := []) (av := .ref (oa u) :: [.int 7, .int (S.1 u 5)]) C dc_Re_readSymbol_70 (ct_Re_fail u 7 (S.1 u 5) S hfl hu hp) cd_C_Re_fail i_Re (Nat.le_of_ble_eq_true rfl) (by rw [hR]; exact Nat.le_of_ble_eq_true rfl) (by rw [hR]; exact Nat.le_of_ble_eq_true rfl) (by rw [hR]; exact Nat.le_of_ble_eq_true rfl) (by rw [hR]; exact Nat.le_of_ble_eq_true rfl) (inv_V C u dc_Re_readSymbol_70 l_Re_51 im_C_Re_fail se_C_Re_fail cd_C_Re_fail ⟨by decide, by decide⟩ ln_C_Re_fail rfl rfl (cw_obj hu rfl) rfl rfl) (fun oc L1 hL => ?_)
    rcases hL with ⟨S70, hp, rfl, rfl⟩ | ⟨c9, a9, S9, hp, rfl, rfl⟩
    rotate_left
    · exact Or.inr ⟨a9, rfl, t_out C hQ hA (fun x hx => (hno x hx).elim) (Or.inr ⟨c9, a9, S9, hp, rfl, rfl⟩) (Nat.le_of_ble_eq_true rfl) (Nat.le_of_ble_eq_true rfl)⟩
    refine Or.inl ⟨_, rfl, ?_⟩
    refine aw_eq (lo' := _) (st' := []) (L' := (cw lt_C U oa S70)) rfl rfl rfl ?_
    refine aw_lo (lo' := [some (.ref (oa u)), none, none, some (.int x3), none]) ⟨.inr rfl, .inr rfl, .inr rfl, .inr rfl, .inr rfl, trivial⟩ ?_
    exact s_Re_readSymbol_73 C hQ hA hR hno hfl hu x3 S70  hp
set_option maxRecDepth 100000 in
set_option maxHeartbeats 1000000 in
theorem s_Re_readSymbol_23 (C : fcx gG D z A X R_Re c_C_Re_readSymbol 5 (some .int)) (hQ : X.2.2.2.2.2.2.2.2.2.2 = eQ gG D z X.2.2.2.2.2.2.2.1 X.2.2.2.2.1 L0 0 0 (pC_i lt_C U oa K T)) (hA : A = owA gG L0 X.2.2.2.2.1.heap.size) (hR : X.2.2.2.1 = { frames := 11, cells := 1, slots := 6, locals := 1100 }) (hno : ∀ x ∈ X.2.2.2.2.2.2.2.2.2.1.exceptionTable.toList, False) (hfl : X.2.1.flags = pinnedFlags ++ [noTraceFlag]) (hu : c_cl U u = 8) (x1 : Nat) (x2 : Int32) (x3 : Int32) (x4 : Int32) (S : cs) (R23 : Nat → Int32 → Int32 → Int32 → cs → Prop) (hR23 : ∀ yx1 yx2 yx3 yx4 yS, R23 yx1 yx2 yx3 yx4 yS → aw gG D z A X 5 23 [some (.ref (oa u)), some (.ref (oa yx1)), some (.int yx2), some (.int yx3), some (.int yx4)] [] (cw lt_C U oa yS) 0 0) (hp : b_Re_readSymbol_23 U u x1 x2 x3 x4 S R23 K T) : aw gG D z A X 5 23 [some (.ref (oa u)), some (.ref (oa x1)), some (.int x2), some (.int x3), some (.int x4)] [] (cw lt_C U oa S) 0 0 := by
  unfold b_Re_readSymbol_23 at hp
  refine a_iload C dc_Re_readSymbol_23 rfl ?_
  refine a_bipush (v := 16) C dc_Re_readSymbol_25 (by decide) ?_
  refine a_icmp_gt (tgt := 58) C dc_Re_readSymbol_27 (by decide) ⟨fun hc => ?_, fun hc => ?_⟩
  · have hp := hp.1 hc
    refine aw_lo (lo' := [some (.ref (oa u)), none, none, some (.int x3), none]) ⟨.inr rfl, .inl rfl, .inl rfl, .inr rfl, .inl rfl, trivial⟩ ?_
    exact s_Re_readSymbol_58 C hQ hA hR hno hfl hu x3 S  hp
  · have hp := hp.2 hc
    refine a_iload_n C dc_Re_readSymbol_30 rfl rfl ?_
    refine a_iconst (v := (-1)) C dc_Re_readSymbol_31 (by decide) ?_
    refine a_icmp_ne (tgt := 58) C dc_Re_readSymbol_32 (by decide) ⟨fun hc => ?_, fun hc => ?_⟩
    · have hp := hp.1 hc
      refine aw_lo (lo' := [some (.ref (oa u)), none, none, some (.int x3), none]) ⟨.inr rfl, .inl rfl, .inl rfl, .inr rfl, .inl rfl, trivial⟩ ?_
      exact s_Re_readSymbol_58 C hQ hA hR hno hfl hu x3 S  hp
    · have hp := hp.2 hc
      refine a_iconst (v := 2) C dc_Re_readSymbol_35 (by decide) ?_
      refine a_iload_n C dc_Re_readSymbol_36 rfl rfl ?_
      refine a_imul C dc_Re_readSymbol_37 ?_
      refine a_aload_n C dc_Re_readSymbol_38 rfl rfl ?_
      refine c_callT (rest := [.int (2 * x2)]) (av := .ref (oa u) :: []) C dc_Re_readSymbol_39 (ct_Re_readBit u S hfl hu hp) cd_C_Re_readBit i_Re (Nat.le_of_ble_eq_true rfl) (by rw [hR]; exact Nat.le_of_ble_eq_true rfl) (by rw [hR]; exact Nat.le_of_ble_eq_true rfl) (by rw [hR]; exact Nat.le_of_ble_eq_true rfl) (by rw [hR]; exact Nat.le_of_ble_eq_true rfl) (inv_V C u dc_Re_readSymbol_39 l_Re_64 im_C_Re_readBit se_C_Re_readBit cd_C_Re_readBit ⟨by decide, by decide⟩ ln_C_Re_readBit rfl rfl (cw_obj hu rfl) rfl rfl) (fun oc L1 hL => ?_)
      rcases hL with ⟨v39, S39, hp, rfl, rfl⟩ | ⟨c9, a9, S9, hp, rfl, rfl⟩
      rotate_left
      · exact Or.inr ⟨a9, rfl, t_out C hQ hA (fun x hx => (hno x hx).elim) (Or.inr ⟨c9, a9, S9, hp, rfl, rfl⟩) (Nat.le_of_ble_eq_true rfl) (Nat.le_of_ble_eq_true rfl)⟩
      refine Or.inl ⟨_, rfl, ?_⟩
      refine aw_eq (lo' := _) (st' := [.int v39, .int (2 * x2)]) (L' := (cw lt_C U oa S39)) rfl rfl rfl ?_
      refine a_iadd C dc_Re_readSymbol_42 ?_
      refine a_istore_n (lo' := [some (.ref (oa u)), some (.ref (oa x1)), some (.int ((2 * x2) + v39)), some (.int x3), some (.int x4)]) C dc_Re_readSymbol_43 rfl (by decide) rfl ?_
      refine a_aload_n C dc_Re_readSymbol_44 rfl rfl ?_
      refine a_iload_n C dc_Re_readSymbol_45 rfl rfl ?_
      refine a_iload C dc_Re_readSymbol_46 rfl ?_
      have hc1 := hp.1
      have hp := hp.2
      refine c_call (rest := []) (av := .ref (oa x1) :: [.int ((2 * x2) + v39), .int x4]) C dc_Re_readSymbol_48 (ct_Co_symbolOf x1 ((2 * x2) + v39) x4 S39 hc1 hp) cd_C_Co_symbolOf i_Co (Nat.le_of_ble_eq_true rfl) (by rw [hR]; exact Nat.le_of_ble_eq_true rfl) (by rw [hR]; exact Nat.le_of_ble_eq_true rfl) (by rw [hR]; exact Nat.le_of_ble_eq_true rfl) (by rw [hR]; exact Nat.le_of_ble_eq_true rfl) (inv_V C x1 dc_Re_readSymbol_48 l_Re_70 im_C_Co_symbolOf se_C_Co_symbolOf cd_C_Co_symbolOf ⟨by decide, by decide⟩ ln_C_Co_symbolOf rfl rfl (cw_obj hc1 rfl) rfl rfl) (fun oc L1 hL => ?_)
      obtain ⟨v48, S48, hp, rfl, rfl⟩ := hL.resolve_right pC_no
      refine ⟨_, rfl, ?_⟩
      refine aw_eq (lo' := _) (st' := [.int v48]) (L' := (cw lt_C U oa S48)) rfl rfl rfl ?_
      refine a_istore_n (lo' := [some (.ref (oa u)), some (.ref (oa x1)), some (.int ((2 * x2) + v39)), some (.int v48), some (.int x4)]) C dc_Re_readSymbol_51 rfl (by decide) rfl ?_
      refine a_iinc (v := x4 + 1) (lo' := [some (.ref (oa u)), some (.ref (oa x1)), some (.int ((2 * x2) + v39)), some (.int v48), some (.int (x4 + 1))]) C dc_Re_readSymbol_52 rfl rfl (by decide) rfl ?_
      refine a_goto (tgt := 23) C dc_Re_readSymbol_55 (by decide) ?_
      refine aw_lo (lo' := [some (.ref (oa u)), some (.ref (oa x1)), some (.int ((2 * x2) + v39)), some (.int v48), some (.int (x4 + 1))]) ⟨.inr rfl, .inr rfl, .inr rfl, .inr rfl, .inr rfl, trivial⟩ ?_
      exact hR23 x1 ((2 * x2) + v39) v48 (x4 + 1) S48 hp
set_option maxRecDepth 100000 in
set_option maxHeartbeats 1000000 in
theorem se_Re_readSymbol_23 (C : fcx gG D z A X R_Re c_C_Re_readSymbol 5 (some .int)) (hQ : X.2.2.2.2.2.2.2.2.2.2 = eQ gG D z X.2.2.2.2.2.2.2.1 X.2.2.2.2.1 L0 0 0 (pC_i lt_C U oa K T)) (hA : A = owA gG L0 X.2.2.2.2.1.heap.size) (hR : X.2.2.2.1 = { frames := 11, cells := 1, slots := 6, locals := 1100 }) (hno : ∀ x ∈ X.2.2.2.2.2.2.2.2.2.1.exceptionTable.toList, False) (hfl : X.2.1.flags = pinnedFlags ++ [noTraceFlag]) (hu : c_cl U u = 8) (x1 : Nat) (x2 : Int32) (x3 : Int32) (x4 : Int32) (S : cs) (hp : e_Re_readSymbol_23 U u x1 x2 x3 x4 S K T) : aw gG D z A X 5 23 [some (.ref (oa u)), some (.ref (oa x1)), some (.int x2), some (.int x3), some (.int x4)] [] (cw lt_C U oa S) 0 0 := by
  obtain ⟨I, μ, h0, hs⟩ := hp
  have key : ∀ (n : Nat) (yx1 : Nat) (yx2 : Int32) (yx3 : Int32) (yx4 : Int32) (yS : cs), μ yx1 yx2 yx3 yx4 yS < n → I yx1 yx2 yx3 yx4 yS → aw gG D z A X 5 23 [some (.ref (oa u)), some (.ref (oa yx1)), some (.int yx2), some (.int yx3), some (.int yx4)] [] (cw lt_C U oa yS) 0 0 := by
    intro n
    induction n with
    | zero => intro yx1 yx2 yx3 yx4 yS h; omega
    | succ n ih =>
      intro yx1 yx2 yx3 yx4 yS hn hI
      exact s_Re_readSymbol_23 C hQ hA hR hno hfl hu yx1 yx2 yx3 yx4 yS _ (fun zx1 zx2 zx3 zx4 zS hw => ih zx1 zx2 zx3 zx4 zS (by omega) hw.1) (hs yx1 yx2 yx3 yx4 yS hI)
  exact key (μ x1 x2 x3 x4 S + 1) x1 x2 x3 x4 S (Nat.lt_succ_self _) h0
set_option maxRecDepth 100000 in
set_option maxHeartbeats 1000000 in
theorem s_Re_readSymbol_0 (C : fcx gG D z A X R_Re c_C_Re_readSymbol 5 (some .int)) (hQ : X.2.2.2.2.2.2.2.2.2.2 = eQ gG D z X.2.2.2.2.2.2.2.1 X.2.2.2.2.1 L0 0 0 (pC_i lt_C U oa K T)) (hA : A = owA gG L0 X.2.2.2.2.1.heap.size) (hR : X.2.2.2.1 = { frames := 11, cells := 1, slots := 6, locals := 1100 }) (hno : ∀ x ∈ X.2.2.2.2.2.2.2.2.2.1.exceptionTable.toList, False) (hfl : X.2.1.flags = pinnedFlags ++ [noTraceFlag]) (hu : c_cl U u = 8) (x1 : Nat) (S : cs) (hp : p_Re_readSymbol U u x1 S K T) : aw gG D z A X 5 0 [some (.ref (oa u)), some (.ref (oa x1)), none, none, none] [] (cw lt_C U oa S) 0 0 := by
  unfold p_Re_readSymbol at hp
  refine a_aload_n C dc_Re_readSymbol_0 rfl rfl ?_
  refine c_callT (rest := []) (av := .ref (oa u) :: []) C dc_Re_readSymbol_1 (ct_Re_readBit u S hfl hu hp) cd_C_Re_readBit i_Re (Nat.le_of_ble_eq_true rfl) (by rw [hR]; exact Nat.le_of_ble_eq_true rfl) (by rw [hR]; exact Nat.le_of_ble_eq_true rfl) (by rw [hR]; exact Nat.le_of_ble_eq_true rfl) (by rw [hR]; exact Nat.le_of_ble_eq_true rfl) (inv_V C u dc_Re_readSymbol_1 l_Re_64 im_C_Re_readBit se_C_Re_readBit cd_C_Re_readBit ⟨by decide, by decide⟩ ln_C_Re_readBit rfl rfl (cw_obj hu rfl) rfl rfl) (fun oc L1 hL => ?_)
  rcases hL with ⟨v1, S1, hp, rfl, rfl⟩ | ⟨c9, a9, S9, hp, rfl, rfl⟩
  rotate_left
  · exact Or.inr ⟨a9, rfl, t_out C hQ hA (fun x hx => (hno x hx).elim) (Or.inr ⟨c9, a9, S9, hp, rfl, rfl⟩) (Nat.le_of_ble_eq_true rfl) (Nat.le_of_ble_eq_true rfl)⟩
  refine Or.inl ⟨_, rfl, ?_⟩
  refine aw_eq (lo' := _) (st' := [.int v1]) (L' := (cw lt_C U oa S1)) rfl rfl rfl ?_
  refine a_istore_n (lo' := [some (.ref (oa u)), some (.ref (oa x1)), some (.int v1), none, none]) C dc_Re_readSymbol_4 rfl (by decide) rfl ?_
  refine a_aload_n C dc_Re_readSymbol_5 rfl rfl ?_
  refine a_aload_n C dc_Re_readSymbol_6 rfl rfl ?_
  refine c_getI C u 3 dc_Re_readSymbol_7 hu rfl rfl (Nat.le_of_ble_eq_true rfl) f_Re_58 (Nat.le_of_ble_eq_true rfl) ?_
  refine c_putI (ty := .int) C u 5 dc_Re_readSymbol_10 hu rfl rfl (Nat.le_of_ble_eq_true rfl) f_Re_67 (Nat.le_of_ble_eq_true rfl) rfl rfl rfl rfl ?_
  refine aw_eq (lo' := _) (st' := _) (L' := (cw lt_C U oa (va_up S1.1 u (upd (S1.1 u) 5 (S1.1 u 3)), S1.2.1, S1.2.2))) rfl rfl rfl ?_
  refine a_aload_n C dc_Re_readSymbol_13 rfl rfl ?_
  refine a_iload_n C dc_Re_readSymbol_14 rfl rfl ?_
  refine a_iconst (v := 1) C dc_Re_readSymbol_15 (by decide) ?_
  have hc2 := hp.1
  have hp := hp.2
  refine c_call (rest := []) (av := .ref (oa x1) :: [.int v1, .int 1]) C dc_Re_readSymbol_16 (ct_Co_symbolOf x1 v1 1 (va_up S1.1 u (upd (S1.1 u) 5 (S1.1 u 3)), S1.2.1, S1.2.2) hc2 hp) cd_C_Co_symbolOf i_Co (Nat.le_of_ble_eq_true rfl) (by rw [hR]; exact Nat.le_of_ble_eq_true rfl) (by rw [hR]; exact Nat.le_of_ble_eq_true rfl) (by rw [hR]; exact Nat.le_of_ble_eq_true rfl) (by rw [hR]; exact Nat.le_of_ble_eq_true rfl) (inv_V C x1 dc_Re_readSymbol_16 l_Re_70 im_C_Co_symbolOf se_C_Co_symbolOf cd_C_Co_symbolOf ⟨by decide, by decide⟩ ln_C_Co_symbolOf rfl rfl (cw_obj hc2 rfl) rfl rfl) (fun oc L1 hL => ?_)
  obtain ⟨v16, S16, hp, rfl, rfl⟩ := hL.resolve_right pC_no
  refine ⟨_, rfl, ?_⟩
  refine aw_eq (lo' := _) (st' := [.int v16]) (L' := (cw lt_C U oa S16)) rfl rfl rfl ?_
  refine a_istore_n (lo' := [some (.ref (oa u)), some (.ref (oa x1)), some (.int v1), some (.int v16), none]) C dc_Re_readSymbol_19 rfl (by decide) rfl ?_
  refine a_iconst (v := 2) C dc_Re_readSymbol_20 (by decide) ?_
  refine a_istore (lo' := [some (.ref (oa u)), some (.ref (oa x1)), some (.int v1), some (.int v16), some (.int 2)]) C dc_Re_readSymbol_21 (by decide) rfl ?_
  refine aw_lo (lo' := [some (.ref (oa u)), some (.ref (oa x1)), some (.int v1), some (.int v16), some (.int 2)]) ⟨.inr rfl, .inr rfl, .inr rfl, .inr rfl, .inr rfl, trivial⟩ ?_
  exact se_Re_readSymbol_23 C hQ hA hR hno hfl hu x1 v1 v16 2 S16  hp
end C_Re_readSymbol
section C_Re_readSymbolc
variable {D : va_G} {z : Nat → ClassId} {U : ut} {oa : Nat → Nat}
set_option maxRecDepth 100000 in
theorem ct_Re_readSymbol {l : Launch} (u : Nat) (x1 : Nat) (S : cs) {K : Int32 → cs → Prop} {T : Nat → cs → Prop} (hfl : l.flags = pinnedFlags ++ [noTraceFlag]) (hu : c_cl U u = 8) (hp : p_Re_readSymbol U u x1 S K T) : ct gG D z l n_C_Re_readSymbol c_C_Re_readSymbol 5 (some .int) 11 1100 [.ref (oa u), .ref (oa x1)] (cw lt_C U oa S) 0 0 (pC_i lt_C U oa K T) := by
  refine ct_of (lo := [some (.ref (oa u)), some (.ref (oa x1)), none, none, none]) (by decide) g_ok (Nat.le_of_ble_eq_true rfl) rfl ?_
  intro X A hl C hR hQ hA hno
  exact s_Re_readSymbol_0 C hQ hA hR hno (by rw [hl]; exact hfl) hu x1 S hp
end C_Re_readSymbolc
def b_Re_readNumber_44 (U : ut) (u : Nat) (s0 : Int32) (S : cs) (K : Int32 → cs → Prop) (T : Nat → cs → Prop) : Prop :=
  K s0 S
def b_Re_readNumber_4 (U : ut) (u : Nat) (x1 : Int32) (x2 : Int32) (x3 : Int32) (S : cs) (R4 : Int32 → Int32 → Int32 → cs → Prop) (K : Int32 → cs → Prop) (T : Nat → cs → Prop) : Prop :=
  (x1 ≤ x3 → ((((1 : Int32) <<< (x1 &&& 31 : Int32) : Int32) ≤ (2 * x2) → (b_Re_readNumber_44 U u x2 S K T)) ∧ (¬ (((1 : Int32) <<< (x1 &&& 31 : Int32) : Int32) ≤ (2 * x2)) → (b_Re_readNumber_44 U u ((x2 - ((1 : Int32) <<< (x1 &&& 31 : Int32) : Int32)) + 1) S K T)))) ∧ (¬ (x1 ≤ x3) → (p_Re_readBit U u S (fun v13 S13 => R4 x1 ((2 * x2) + v13) (x3 + 1) S13) T))
def e_Re_readNumber_4 (U : ut) (u : Nat) (x1 : Int32) (x2 : Int32) (x3 : Int32) (S : cs) (K : Int32 → cs → Prop) (T : Nat → cs → Prop) : Prop :=
  ∃ (I : Int32 → Int32 → Int32 → cs → Prop) (μ : Int32 → Int32 → Int32 → cs → Nat), I x1 x2 x3 S ∧ ∀ yx1 yx2 yx3 yS, I yx1 yx2 yx3 yS → b_Re_readNumber_4 U u yx1 yx2 yx3 yS (fun zx1 zx2 zx3 zS => I zx1 zx2 zx3 zS ∧ μ zx1 zx2 zx3 zS < μ yx1 yx2 yx3 yS) K T
def p_Re_readNumber (U : ut) (u : Nat) (x1 : Int32) (S : cs) (K : Int32 → cs → Prop) (T : Nat → cs → Prop) : Prop :=
  e_Re_readNumber_4 U u x1 0 0 S K T
section C_Re_readNumber
variable {D : va_G} {z : Nat → ClassId} {A : Nat → Prop} {X : cx} {L0 : fw} {U : ut} {oa : Nat → Nat} {u : Nat} {K : Int32 → cs → Prop} {T : Nat → cs → Prop}
set_option maxRecDepth 100000 in
set_option maxHeartbeats 1000000 in
theorem s_Re_readNumber_44 (C : fcx gG D z A X R_Re c_C_Re_readNumber 4 (some .int)) (hQ : X.2.2.2.2.2.2.2.2.2.2 = eQ gG D z X.2.2.2.2.2.2.2.1 X.2.2.2.2.1 L0 0 0 (pC_i lt_C U oa K T)) (hA : A = owA gG L0 X.2.2.2.2.1.heap.size) (hR : X.2.2.2.1 = { frames := 11, cells := 1, slots := 6, locals := 1100 }) (hno : ∀ x ∈ X.2.2.2.2.2.2.2.2.2.1.exceptionTable.toList, False) (hfl : X.2.1.flags = pinnedFlags ++ [noTraceFlag]) (hu : c_cl U u = 8) (s0 : Int32) (S : cs) (hp : b_Re_readNumber_44 U u s0 S K T) : aw gG D z A X 4 44 [some (.ref (oa u)), none, none, none] [.int s0] (cw lt_C U oa S) 0 0 := by
  unfold b_Re_readNumber_44 at hp
  exact a_iret (ty := .int) C hQ hA dc_Re_readNumber_44 rfl rfl (Or.inl ⟨_, S, hp, rfl, rfl⟩)
set_option maxRecDepth 100000 in
set_option maxHeartbeats 1000000 in
theorem s_Re_readNumber_4 (C : fcx gG D z A X R_Re c_C_Re_readNumber 4 (some .int)) (hQ : X.2.2.2.2.2.2.2.2.2.2 = eQ gG D z X.2.2.2.2.2.2.2.1 X.2.2.2.2.1 L0 0 0 (pC_i lt_C U oa K T)) (hA : A = owA gG L0 X.2.2.2.2.1.heap.size) (hR : X.2.2.2.1 = { frames := 11, cells := 1, slots := 6, locals := 1100 }) (hno : ∀ x ∈ X.2.2.2.2.2.2.2.2.2.1.exceptionTable.toList, False) (hfl : X.2.1.flags = pinnedFlags ++ [noTraceFlag]) (hu : c_cl U u = 8) (x1 : Int32) (x2 : Int32) (x3 : Int32) (S : cs) (R4 : Int32 → Int32 → Int32 → cs → Prop) (hR4 : ∀ yx1 yx2 yx3 yS, R4 yx1 yx2 yx3 yS → aw gG D z A X 4 4 [some (.ref (oa u)), some (.int yx1), some (.int yx2), some (.int yx3)] [] (cw lt_C U oa yS) 0 0) (hp : b_Re_readNumber_4 U u x1 x2 x3 S R4 K T) : aw gG D z A X 4 4 [some (.ref (oa u)), some (.int x1), some (.int x2), some (.int x3)] [] (cw lt_C U oa S) 0 0 := by
  unfold b_Re_readNumber_4 at hp
  refine a_iload_n C dc_Re_readNumber_4 rfl rfl ?_
  refine a_iload_n C dc_Re_readNumber_5 rfl rfl ?_
  refine a_icmp_ge (tgt := 24) C dc_Re_readNumber_6 (by decide) ⟨fun hc => ?_, fun hc => ?_⟩
  · have hp := hp.1 hc
    refine a_iconst (v := 2) C dc_Re_readNumber_24 (by decide) ?_
    refine a_iload_n C dc_Re_readNumber_25 rfl rfl ?_
    refine a_imul C dc_Re_readNumber_26 ?_
    refine a_iconst (v := 1) C dc_Re_readNumber_27 (by decide) ?_
    refine a_iload_n C dc_Re_readNumber_28 rfl rfl ?_
    refine a_ishl C dc_Re_readNumber_29 ?_
    refine a_icmp_ge (tgt := 43) C dc_Re_readNumber_30 (by decide) ⟨fun hc => ?_, fun hc => ?_⟩
    · have hp := hp.1 hc
      refine a_iload_n C dc_Re_readNumber_43 rfl rfl ?_
      refine aw_lo (lo' := [some (.ref (oa u)), none, none, none]) ⟨.inr rfl, .inl rfl, .inl rfl, .inl rfl, trivial⟩ ?_
      exact s_Re_readNumber_44 C hQ hA hR hno hfl hu x2 S  hp
    · have hp := hp.2 hc
      refine a_iload_n C dc_Re_readNumber_33 rfl rfl ?_
      refine a_iconst (v := 1) C dc_Re_readNumber_34 (by decide) ?_
      refine a_iload_n C dc_Re_readNumber_35 rfl rfl ?_
      refine a_ishl C dc_Re_readNumber_36 ?_
      refine a_isub C dc_Re_readNumber_37 ?_
      refine a_iconst (v := 1) C dc_Re_readNumber_38 (by decide) ?_
      refine a_iadd C dc_Re_readNumber_39 ?_
      refine a_goto (tgt := 44) C dc_Re_readNumber_40 (by decide) ?_
      refine aw_lo (lo' := [some (.ref (oa u)), none, none, none]) ⟨.inr rfl, .inl rfl, .inl rfl, .inl rfl, trivial⟩ ?_
      exact s_Re_readNumber_44 C hQ hA hR hno hfl hu ((x2 - ((1 : Int32) <<< (x1 &&& 31 : Int32) : Int32)) + 1) S  hp
  · have hp := hp.2 hc
    refine a_iconst (v := 2) C dc_Re_readNumber_9 (by decide) ?_
    refine a_iload_n C dc_Re_readNumber_10 rfl rfl ?_
    refine a_imul C dc_Re_readNumber_11 ?_
    refine a_aload_n C dc_Re_readNumber_12 rfl rfl ?_
    refine c_callT (rest := [.int (2 * x2)]) (av := .ref (oa u) :: []) C dc_Re_readNumber_13 (ct_Re_readBit u S hfl hu hp) cd_C_Re_readBit i_Re (Nat.le_of_ble_eq_true rfl) (by rw [hR]; exact Nat.le_of_ble_eq_true rfl) (by rw [hR]; exact Nat.le_of_ble_eq_true rfl) (by rw [hR]; exact Nat.le_of_ble_eq_true rfl) (by rw [hR]; exact Nat.le_of_ble_eq_true rfl) (inv_V C u dc_Re_readNumber_13 l_Re_64 im_C_Re_readBit se_C_Re_readBit cd_C_Re_readBit ⟨by decide, by decide⟩ ln_C_Re_readBit rfl rfl (cw_obj hu rfl) rfl rfl) (fun oc L1 hL => ?_)
    rcases hL with ⟨v13, S13, hp, rfl, rfl⟩ | ⟨c9, a9, S9, hp, rfl, rfl⟩
    rotate_left
    · exact Or.inr ⟨a9, rfl, t_out C hQ hA (fun x hx => (hno x hx).elim) (Or.inr ⟨c9, a9, S9, hp, rfl, rfl⟩) (Nat.le_of_ble_eq_true rfl) (Nat.le_of_ble_eq_true rfl)⟩
    refine Or.inl ⟨_, rfl, ?_⟩
    refine aw_eq (lo' := _) (st' := [.int v13, .int (2 * x2)]) (L' := (cw lt_C U oa S13)) rfl rfl rfl ?_
    refine a_iadd C dc_Re_readNumber_16 ?_
    refine a_istore_n (lo' := [some (.ref (oa u)), some (.int x1), some (.int ((2 * x2) + v13)), some (.int x3)]) C dc_Re_readNumber_17 rfl (by decide) rfl ?_
    refine a_iinc (v := x3 + 1) (lo' := [some (.ref (oa u)), some (.int x1), some (.int ((2 * x2) + v13)), some (.int (x3 + 1))]) C dc_Re_readNumber_18 rfl rfl (by decide) rfl ?_
    refine a_goto (tgt := 4) C dc_Re_readNumber_21 (by decide) ?_
    refine aw_lo (lo' := [some (.ref (oa u)), some (.int x1), some (.int ((2 * x2) + v13)), some (.int (x3 + 1))]) ⟨.inr rfl, .inr rfl, .inr rfl, .inr rfl, trivial⟩ ?_
    exact hR4 x1 ((2 * x2) + v13) (x3 + 1) S13 hp
set_option maxRecDepth 100000 in
set_option maxHeartbeats 1000000 in
theorem se_Re_readNumber_4 (C : fcx gG D z A X R_Re c_C_Re_readNumber 4 (some .int)) (hQ : X.2.2.2.2.2.2.2.2.2.2 = eQ gG D z X.2.2.2.2.2.2.2.1 X.2.2.2.2.1 L0 0 0 (pC_i lt_C U oa K T)) (hA : A = owA gG L0 X.2.2.2.2.1.heap.size) (hR : X.2.2.2.1 = { frames := 11, cells := 1, slots := 6, locals := 1100 }) (hno : ∀ x ∈ X.2.2.2.2.2.2.2.2.2.1.exceptionTable.toList, False) (hfl : X.2.1.flags = pinnedFlags ++ [noTraceFlag]) (hu : c_cl U u = 8) (x1 : Int32) (x2 : Int32) (x3 : Int32) (S : cs) (hp : e_Re_readNumber_4 U u x1 x2 x3 S K T) : aw gG D z A X 4 4 [some (.ref (oa u)), some (.int x1), some (.int x2), some (.int x3)] [] (cw lt_C U oa S) 0 0 := by
  obtain ⟨I, μ, h0, hs⟩ := hp
  have key : ∀ (n : Nat) (yx1 : Int32) (yx2 : Int32) (yx3 : Int32) (yS : cs), μ yx1 yx2 yx3 yS < n → I yx1 yx2 yx3 yS → aw gG D z A X 4 4 [some (.ref (oa u)), some (.int yx1), some (.int yx2), some (.int yx3)] [] (cw lt_C U oa yS) 0 0 := by
    intro n
    induction n with
    | zero => intro yx1 yx2 yx3 yS h; omega
    | succ n ih =>
      intro yx1 yx2 yx3 yS hn hI
      exact s_Re_readNumber_4 C hQ hA hR hno hfl hu yx1 yx2 yx3 yS _ (fun zx1 zx2 zx3 zS hw => ih zx1 zx2 zx3 zS (by omega) hw.1) (hs yx1 yx2 yx3 yS hI)
  exact key (μ x1 x2 x3 S + 1) x1 x2 x3 S (Nat.lt_succ_self _) h0
set_option maxRecDepth 100000 in
set_option maxHeartbeats 1000000 in
theorem s_Re_readNumber_0 (C : fcx gG D z A X R_Re c_C_Re_readNumber 4 (some .int)) (hQ : X.2.2.2.2.2.2.2.2.2.2 = eQ gG D z X.2.2.2.2.2.2.2.1 X.2.2.2.2.1 L0 0 0 (pC_i lt_C U oa K T)) (hA : A = owA gG L0 X.2.2.2.2.1.heap.size) (hR : X.2.2.2.1 = { frames := 11, cells := 1, slots := 6, locals := 1100 }) (hno : ∀ x ∈ X.2.2.2.2.2.2.2.2.2.1.exceptionTable.toList, False) (hfl : X.2.1.flags = pinnedFlags ++ [noTraceFlag]) (hu : c_cl U u = 8) (x1 : Int32) (S : cs) (hp : p_Re_readNumber U u x1 S K T) : aw gG D z A X 4 0 [some (.ref (oa u)), some (.int x1), none, none] [] (cw lt_C U oa S) 0 0 := by
  unfold p_Re_readNumber at hp
  refine a_iconst (v := 0) C dc_Re_readNumber_0 (by decide) ?_
  refine a_istore_n (lo' := [some (.ref (oa u)), some (.int x1), some (.int 0), none]) C dc_Re_readNumber_1 rfl (by decide) rfl ?_
  refine a_iconst (v := 0) C dc_Re_readNumber_2 (by decide) ?_
  refine a_istore_n (lo' := [some (.ref (oa u)), some (.int x1), some (.int 0), some (.int 0)]) C dc_Re_readNumber_3 rfl (by decide) rfl ?_
  refine aw_lo (lo' := [some (.ref (oa u)), some (.int x1), some (.int 0), some (.int 0)]) ⟨.inr rfl, .inr rfl, .inr rfl, .inr rfl, trivial⟩ ?_
  exact se_Re_readNumber_4 C hQ hA hR hno hfl hu x1 0 0 S  hp
end C_Re_readNumber
section C_Re_readNumberc
variable {D : va_G} {z : Nat → ClassId} {U : ut} {oa : Nat → Nat}
set_option maxRecDepth 100000 in
theorem ct_Re_readNumber {l : Launch} (u : Nat) (x1 : Int32) (S : cs) {K : Int32 → cs → Prop} {T : Nat → cs → Prop} (hfl : l.flags = pinnedFlags ++ [noTraceFlag]) (hu : c_cl U u = 8) (hp : p_Re_readNumber U u x1 S K T) : ct gG D z l n_C_Re_readNumber c_C_Re_readNumber 4 (some .int) 11 1100 [.ref (oa u), .int x1] (cw lt_C U oa S) 0 0 (pC_i lt_C U oa K T) := by
  refine ct_of (lo := [some (.ref (oa u)), some (.int x1), none, none]) (by decide) g_ok (Nat.le_of_ble_eq_true rfl) rfl ?_
  intro X A hl C hR hQ hA hno
  exact s_Re_readNumber_0 C hQ hA hR hno (by rw [hl]; exact hfl) hu x1 S hp
end C_Re_readNumberc
def b_Un_readBlock_219 (U : ut) (u : Nat)  (S : cs) (K : cs → Prop) (T : Nat → cs → Prop) : Prop :=
  K S
def b_Un_readBlock_213 (U : ut) (u : Nat) (x3 : Int32) (x5 : Nat) (x6 : Int32) (x7 : Int32) (S : cs) (R122 : Int32 → Nat → Int32 → Int32 → cs → Prop) (K : cs → Prop) (T : Nat → cs → Prop) : Prop :=
  R122 x3 x5 x6 (x7 + 1) S
def b_Un_readBlock_122 (U : ut) (u : Nat) (x3 : Int32) (x5 : Nat) (x6 : Int32) (x7 : Int32) (S : cs) (R122 : Int32 → Nat → Int32 → Int32 → cs → Prop) (K : cs → Prop) (T : Nat → cs → Prop) : Prop :=
  (64 ≤ x7 → (b_Un_readBlock_219 U u S K T)) ∧ (¬ (64 ≤ x7) → ((x6 = 0 → (b_Un_readBlock_219 U u S K T)) ∧ (¬ (x6 = 0) → (¬ S.2.2 u 0 = NU ∧ (c_cl U (S.2.2 u 0) = 8 ∧ (p_Re_readSymbol U (S.2.2 u 0) x5 S (fun v140 S140 => ((x7 + (v140 / 16)) < 64 → (((v140 - v140 / 16 * 16) ≤ 0 → (b_Un_readBlock_213 U u x3 x5 v140 (x7 + (v140 / 16)) S140 R122 K T)) ∧ (¬ ((v140 - v140 / 16 * 16) ≤ 0) → (¬ S140.2.2 u 1 = NU ∧ (c_cl U (S140.2.2 u 1) = 7 ∧ (¬ S140.2.2 (S140.2.2 u 1) 13 = NU ∧ (¬ S140.2.2 u 0 = NU ∧ (c_cl U (S140.2.2 u 0) = 8 ∧ (p_Re_readNumber U (S140.2.2 u 0) (v140 - v140 / 16 * 16) S140 (fun v209 S209 => c_cl U (S140.2.2 (S140.2.2 u 1) 13) = 902 ∧ (vp_in (x3 + (x7 + (v140 / 16))) (c_ln U (S140.2.2 (S140.2.2 u 1) 13)) ∧ (b_Un_readBlock_213 U u x3 x5 v140 (x7 + (v140 / 16)) (va_up S209.1 (S140.2.2 (S140.2.2 u 1) 13) (upd (S209.1 (S140.2.2 (S140.2.2 u 1) 13)) (x3 + (x7 + (v140 / 16))).toNatClampNeg v209), S209.2.1, S209.2.2) R122 K T))) T))))))))) ∧ (¬ ((x7 + (v140 / 16)) < 64) → (¬ S140.2.2 u 0 = NU ∧ (¬ S140.2.2 u 0 = NU ∧ (c_cl U (S140.2.2 u 0) = 8 ∧ (p_Re_fail U (S140.2.2 u 0) 7 (S140.1 (S140.2.2 u 0) 5) S140 (fun S175 => b_Un_readBlock_213 U u x3 x5 v140 (x7 + (v140 / 16)) S175 R122 K T) T)))))) T))))))
def e_Un_readBlock_122 (U : ut) (u : Nat) (x3 : Int32) (x5 : Nat) (x6 : Int32) (x7 : Int32) (S : cs) (K : cs → Prop) (T : Nat → cs → Prop) : Prop :=
  ∃ (I : Int32 → Nat → Int32 → Int32 → cs → Prop) (μ : Int32 → Nat → Int32 → Int32 → cs → Nat), I x3 x5 x6 x7 S ∧ ∀ yx3 yx5 yx6 yx7 yS, I yx3 yx5 yx6 yx7 yS → b_Un_readBlock_122 U u yx3 yx5 yx6 yx7 yS (fun zx3 zx5 zx6 zx7 zS => I zx3 zx5 zx6 zx7 zS ∧ μ zx3 zx5 zx6 zx7 zS < μ yx3 yx5 yx6 yx7 yS) K T
def b_Un_readBlock_85 (U : ut) (u : Nat) (x2 : Int32) (x3 : Int32) (S : cs) (K : cs → Prop) (T : Nat → cs → Prop) : Prop :=
  ¬ S.2.2 u 1 = NU ∧ (c_cl U (S.2.2 u 1) = 7 ∧ (¬ S.2.2 (S.2.2 u 1) 13 = NU ∧ (¬ S.2.2 u 10 = NU ∧ (c_cl U (S.2.2 u 10) = 902 ∧ (vp_in x2 (c_ln U (S.2.2 u 10)) ∧ (c_cl U (S.2.2 (S.2.2 u 1) 13) = 902 ∧ (vp_in x3 (c_ln U (S.2.2 (S.2.2 u 1) 13)) ∧ (¬ S.2.2 u 5 = NU ∧ (¬ S.2.2 u 2 = NU ∧ (c_cl U (S.2.2 u 2) = 10 ∧ (¬ S.2.2 (S.2.2 u 2) 3 = NU ∧ (c_cl U (S.2.2 (S.2.2 u 2) 3) = 902 ∧ (vp_in x2 (c_ln U (S.2.2 (S.2.2 u 2) 3)) ∧ (c_cl U (S.2.2 u 5) = 951 ∧ (vp_in ((va_up S.1 (S.2.2 (S.2.2 u 1) 13) (upd (S.1 (S.2.2 (S.2.2 u 1) 13)) x3.toNatClampNeg (S.1 (S.2.2 u 10) x2.toNatClampNeg))) (S.2.2 (S.2.2 u 2) 3) x2.toNatClampNeg) (c_ln U (S.2.2 u 5)) ∧ ¬ S.2.2 (S.2.2 u 5) ((va_up S.1 (S.2.2 (S.2.2 u 1) 13) (upd (S.1 (S.2.2 (S.2.2 u 1) 13)) x3.toNatClampNeg (S.1 (S.2.2 u 10) x2.toNatClampNeg))) (S.2.2 (S.2.2 u 2) 3) x2.toNatClampNeg).toNatClampNeg = NU ∧ (e_Un_readBlock_122 U u x3 (S.2.2 (S.2.2 u 5) ((va_up S.1 (S.2.2 (S.2.2 u 1) 13) (upd (S.1 (S.2.2 (S.2.2 u 1) 13)) x3.toNatClampNeg (S.1 (S.2.2 u 10) x2.toNatClampNeg))) (S.2.2 (S.2.2 u 2) 3) x2.toNatClampNeg).toNatClampNeg) (-1) 1 (va_up S.1 (S.2.2 (S.2.2 u 1) 13) (upd (S.1 (S.2.2 (S.2.2 u 1) 13)) x3.toNatClampNeg (S.1 (S.2.2 u 10) x2.toNatClampNeg)), S.2.1, S.2.2) K T))))))))))))))))
def p_Un_readBlock (U : ut) (u : Nat) (x1 : Int32) (S : cs) (K : cs → Prop) (T : Nat → cs → Prop) : Prop :=
  ¬ S.2.2 u 0 = NU ∧ (¬ S.2.2 u 5 = NU ∧ (¬ S.2.2 u 2 = NU ∧ (c_cl U (S.2.2 u 2) = 10 ∧ (¬ S.2.2 (S.2.2 u 2) 2 = NU ∧ (c_cl U (S.2.2 (S.2.2 u 2) 2) = 902 ∧ (vp_in (x1 / 64) (c_ln U (S.2.2 (S.2.2 u 2) 2)) ∧ (c_cl U (S.2.2 u 5) = 951 ∧ (vp_in (S.1 (S.2.2 (S.2.2 u 2) 2) (x1 / 64).toNatClampNeg) (c_ln U (S.2.2 u 5)) ∧ ¬ S.2.2 (S.2.2 u 5) (S.1 (S.2.2 (S.2.2 u 2) 2) (x1 / 64).toNatClampNeg).toNatClampNeg = NU ∧ (c_cl U (S.2.2 u 0) = 8 ∧ (p_Re_readSymbol U (S.2.2 u 0) (S.2.2 (S.2.2 u 5) (S.1 (S.2.2 (S.2.2 u 2) 2) (x1 / 64).toNatClampNeg).toNatClampNeg) S (fun v28 S28 => ¬ S28.2.2 u 10 = NU ∧ (c_cl U (S28.2.2 u 10) = 902 ∧ (vp_in (x1 / 64) (c_ln U (S28.2.2 u 10)) ∧ (¬ S28.2.2 u 0 = NU ∧ (c_cl U (S28.2.2 u 0) = 8 ∧ (p_Re_readNumber U (S28.2.2 u 0) v28 S28 (fun v46 S46 => vp_in (x1 / 64) (c_ln U (S28.2.2 u 10)) ∧ (¬ S46.2.2 u 10 = NU ∧ (c_cl U (S46.2.2 u 10) = 902 ∧ (vp_in (x1 / 64) (c_ln U (S46.2.2 u 10)) ∧ (p_B_isWithin ((va_up S46.1 (S28.2.2 u 10) (upd (S46.1 (S28.2.2 u 10)) (x1 / 64).toNatClampNeg ((S28.1 (S28.2.2 u 10) (x1 / 64).toNatClampNeg) + v46))) (S46.2.2 u 10) (x1 / 64).toNatClampNeg) (-2047) 2047 (fun v63 => (¬ v63 = 0 → (b_Un_readBlock_85 U u (x1 / 64) (64 * x1) (va_up S46.1 (S28.2.2 u 10) (upd (S46.1 (S28.2.2 u 10)) (x1 / 64).toNatClampNeg ((S28.1 (S28.2.2 u 10) (x1 / 64).toNatClampNeg) + v46)), S46.2.1, S46.2.2) K T)) ∧ (v63 = 0 → (¬ S46.2.2 u 0 = NU ∧ (¬ S46.2.2 u 0 = NU ∧ (c_cl U (S46.2.2 u 0) = 8 ∧ (p_Re_fail U (S46.2.2 u 0) 7 ((va_up S46.1 (S28.2.2 u 10) (upd (S46.1 (S28.2.2 u 10)) (x1 / 64).toNatClampNeg ((S28.1 (S28.2.2 u 10) (x1 / 64).toNatClampNeg) + v46))) (S46.2.2 u 0) 5) (va_up S46.1 (S28.2.2 u 10) (upd (S46.1 (S28.2.2 u 10)) (x1 / 64).toNatClampNeg ((S28.1 (S28.2.2 u 10) (x1 / 64).toNatClampNeg) + v46)), S46.2.1, S46.2.2) (fun S82 => b_Un_readBlock_85 U u (x1 / 64) (64 * x1) S82 K T) T))))))))))) T)))))) T))))))))))
section C_Un_readBlock
variable {D : va_G} {z : Nat → ClassId} {A : Nat → Prop} {X : cx} {L0 : fw} {U : ut} {oa : Nat → Nat} {u : Nat} {K : cs → Prop} {T : Nat → cs → Prop}
set_option maxRecDepth 100000 in
set_option maxHeartbeats 1000000 in
theorem s_Un_readBlock_219 (C : fcx gG D z A X R_Un c_C_Un_readBlock 8 (none)) (hQ : X.2.2.2.2.2.2.2.2.2.2 = eQ gG D z X.2.2.2.2.2.2.2.1 X.2.2.2.2.1 L0 0 0 (pC_v lt_C U oa K T)) (hA : A = owA gG L0 X.2.2.2.2.1.heap.size) (hR : X.2.2.2.1 = { frames := 12, cells := 1, slots := 6, locals := 1200 }) (hno : ∀ x ∈ X.2.2.2.2.2.2.2.2.2.1.exceptionTable.toList, False) (hfl : X.2.1.flags = pinnedFlags ++ [noTraceFlag]) (hu : c_cl U u = 11)  (S : cs) (hp : b_Un_readBlock_219 U u S K T) : aw gG D z A X 8 219 [some (.ref (oa u)), none, none, none, none, none, none, none] [] (cw lt_C U oa S) 0 0 := by
  unfold b_Un_readBlock_219 at hp
  exact a_vret C hQ hA dc_Un_readBlock_219 rfl (Or.inl ⟨S, hp, rfl, rfl⟩)
set_option maxRecDepth 100000 in
set_option maxHeartbeats 1000000 in
theorem s_Un_readBlock_213 (C : fcx gG D z A X R_Un c_C_Un_readBlock 8 (none)) (hQ : X.2.2.2.2.2.2.2.2.2.2 = eQ gG D z X.2.2.2.2.2.2.2.1 X.2.2.2.2.1 L0 0 0 (pC_v lt_C U oa K T)) (hA : A = owA gG L0 X.2.2.2.2.1.heap.size) (hR : X.2.2.2.1 = { frames := 12, cells := 1, slots := 6, locals := 1200 }) (hno : ∀ x ∈ X.2.2.2.2.2.2.2.2.2.1.exceptionTable.toList, False) (hfl : X.2.1.flags = pinnedFlags ++ [noTraceFlag]) (hu : c_cl U u = 11) (x3 : Int32) (x5 : Nat) (x6 : Int32) (x7 : Int32) (S : cs) (R122 : Int32 → Nat → Int32 → Int32 → cs → Prop) (hR122 : ∀ yx3 yx5 yx6 yx7 yS, R122 yx3 yx5 yx6 yx7 yS → aw gG D z A X 8 122 [some (.ref (oa u)), none, none, some (.int yx3), none, some (.ref (oa yx5)), some (.int yx6), some (.int yx7)] [] (cw lt_C U oa yS) 0 0) (hp : b_Un_readBlock_213 U u x3 x5 x6 x7 S R122 K T) : aw gG D z A X 8 213 [some (.ref (oa u)), none, none, some (.int x3), none, some (.ref (oa x5)), some (.int x6), some (.int x7)] [] (cw lt_C U oa S) 0 0 := by
  unfold b_Un_readBlock_213 at hp
  refine a_iinc (v := x7 + 1) (lo' := [some (.ref (oa u)), none, none, some (.int x3), none, some (.ref (oa x5)), some (.int x6), some (.int (x7 + 1))]) C dc_Un_readBlock_213 rfl rfl (by decide) rfl ?_
  refine a_goto (tgt := 122) C dc_Un_readBlock_216 (by decide) ?_
  refine aw_lo (lo' := [some (.ref (oa u)), none, none, some (.int x3), none, some (.ref (oa x5)), some (.int x6), some (.int (x7 + 1))]) ⟨.inr rfl, .inr rfl, .inr rfl, .inr rfl, .inr rfl, .inr rfl, .inr rfl, .inr rfl, trivial⟩ ?_
  exact hR122 x3 x5 x6 (x7 + 1) S hp
set_option maxRecDepth 100000 in
set_option maxHeartbeats 1000000 in
theorem s_Un_readBlock_122 (C : fcx gG D z A X R_Un c_C_Un_readBlock 8 (none)) (hQ : X.2.2.2.2.2.2.2.2.2.2 = eQ gG D z X.2.2.2.2.2.2.2.1 X.2.2.2.2.1 L0 0 0 (pC_v lt_C U oa K T)) (hA : A = owA gG L0 X.2.2.2.2.1.heap.size) (hR : X.2.2.2.1 = { frames := 12, cells := 1, slots := 6, locals := 1200 }) (hno : ∀ x ∈ X.2.2.2.2.2.2.2.2.2.1.exceptionTable.toList, False) (hfl : X.2.1.flags = pinnedFlags ++ [noTraceFlag]) (hu : c_cl U u = 11) (x3 : Int32) (x5 : Nat) (x6 : Int32) (x7 : Int32) (S : cs) (R122 : Int32 → Nat → Int32 → Int32 → cs → Prop) (hR122 : ∀ yx3 yx5 yx6 yx7 yS, R122 yx3 yx5 yx6 yx7 yS → aw gG D z A X 8 122 [some (.ref (oa u)), none, none, some (.int yx3), none, some (.ref (oa yx5)), some (.int yx6), some (.int yx7)] [] (cw lt_C U oa yS) 0 0) (hp : b_Un_readBlock_122 U u x3 x5 x6 x7 S R122 K T) : aw gG D z A X 8 122 [some (.ref (oa u)), none, none, some (.int x3), none, some (.ref (oa x5)), some (.int x6), some (.int x7)] [] (cw lt_C U oa S) 0 0 := by
  unfold b_Un_readBlock_122 at hp
  refine a_iload C dc_Un_readBlock_122 rfl ?_
  refine a_bipush (v := 64) C dc_Un_readBlock_124 (by decide) ?_
  refine a_icmp_ge (tgt := 219) C dc_Un_readBlock_126 (by decide) ⟨fun hc => ?_, fun hc => ?_⟩
  · have hp := hp.1 hc
    refine aw_lo (lo' := [some (.ref (oa u)), none, none, none, none, none, none, none]) ⟨.inr rfl, .inr rfl, .inr rfl, .inl rfl, .inr rfl, .inl rfl, .inl rfl, .inl rfl, trivial⟩ ?_
    exact s_Un_readBlock_219 C hQ hA hR hno hfl hu S  hp
  · have hp := hp.2 hc
    refine a_iload C dc_Un_readBlock_129 rfl ?_
    refine a_if_eq (tgt := 219) C dc_Un_readBlock_131 (by decide) ⟨fun hc => ?_, fun hc => ?_⟩
    · have hp := hp.1 hc
      refine aw_lo (lo' := [some (.ref (oa u)), none, none, none, none, none, none, none]) ⟨.inr rfl, .inr rfl, .inr rfl, .inl rfl, .inr rfl, .inl rfl, .inl rfl, .inl rfl, trivial⟩ ?_
      exact s_Un_readBlock_219 C hQ hA hR hno hfl hu S  hp
    · have hp := hp.2 hc
      refine a_aload_n C dc_Un_readBlock_134 rfl rfl ?_
      refine c_getR C u 0 dc_Un_readBlock_135 hu rfl rfl (Nat.le_of_ble_eq_true rfl) f_Un_12 rfl hp.1 ?_
      have hp := hp.2
      refine a_aload C dc_Un_readBlock_138 rfl ?_
      have hc1 := hp.1
      have hp := hp.2
      refine c_callT (rest := []) (av := .ref (oa (S.2.2 u 0)) :: [.ref (oa x5)]) C dc_Un_readBlock_140 (ct_Re_readSymbol (S.2.2 u 0) x5 S hfl hc1 hp) cd_C_Re_readSymbol i_Re (Nat.le_of_ble_eq_true rfl) (by rw [hR]; exact Nat.le_of_ble_eq_true rfl) (by rw [hR]; exact Nat.le_of_ble_eq_true rfl) (by rw [hR]; exact Nat.le_of_ble_eq_true rfl) (by rw [hR]; exact Nat.le_of_ble_eq_true rfl) (inv_V C (S.2.2 u 0) dc_Un_readBlock_140 l_Un_240 im_C_Re_readSymbol se_C_Re_readSymbol cd_C_Re_readSymbol ⟨by decide, by decide⟩ ln_C_Re_readSymbol rfl rfl (cw_obj hc1 rfl) rfl rfl) (fun oc L1 hL => ?_)
      rcases hL with ⟨v140, S140, hp, rfl, rfl⟩ | ⟨c9, a9, S9, hp, rfl, rfl⟩
      rotate_left
      · exact Or.inr ⟨a9, rfl, t_out C hQ hA (fun x hx => (hno x hx).elim) (Or.inr ⟨c9, a9, S9, hp, rfl, rfl⟩) (Nat.le_of_ble_eq_true rfl) (Nat.le_of_ble_eq_true rfl)⟩
      refine Or.inl ⟨_, rfl, ?_⟩
      refine aw_eq (lo' := _) (st' := [.int v140]) (L' := (cw lt_C U oa S140)) rfl rfl rfl ?_
      refine a_istore (lo' := [some (.ref (oa u)), none, none, some (.int x3), none, some (.ref (oa x5)), some (.int v140), some (.int x7)]) C dc_Un_readBlock_143 (by decide) rfl ?_
      refine a_iload C dc_Un_readBlock_145 rfl ?_
      refine a_iload C dc_Un_readBlock_147 rfl ?_
      refine a_bipush (v := 16) C dc_Un_readBlock_149 (by decide) ?_
      refine a_idiv C dc_Un_readBlock_151 (by decide) ?_
      refine a_iadd C dc_Un_readBlock_152 ?_
      refine a_istore (lo' := [some (.ref (oa u)), none, none, some (.int x3), none, some (.ref (oa x5)), some (.int v140), some (.int (x7 + (v140 / 16)))]) C dc_Un_readBlock_153 (by decide) rfl ?_
      refine a_iload C dc_Un_readBlock_155 rfl ?_
      refine a_bipush (v := 64) C dc_Un_readBlock_157 (by decide) ?_
      refine a_icmp_lt (tgt := 181) C dc_Un_readBlock_159 (by decide) ⟨fun hc => ?_, fun hc => ?_⟩
      · have hp := hp.1 hc
        refine a_iload C dc_Un_readBlock_181 rfl ?_
        refine a_bipush (v := 16) C dc_Un_readBlock_183 (by decide) ?_
        refine a_irem C dc_Un_readBlock_185 (by decide) ?_
        refine a_if_le (tgt := 213) C dc_Un_readBlock_186 (by decide) ⟨fun hc => ?_, fun hc => ?_⟩
        · have hp := hp.1 hc
          refine aw_lo (lo' := [some (.ref (oa u)), none, none, some (.int x3), none, some (.ref (oa x5)), some (.int v140), some (.int (x7 + (v140 / 16)))]) ⟨.inr rfl, .inr rfl, .inr rfl, .inr rfl, .inr rfl, .inr rfl, .inr rfl, .inr rfl, trivial⟩ ?_
          exact s_Un_readBlock_213 C hQ hA hR hno hfl hu x3 x5 v140 (x7 + (v140 / 16)) S140 R122 hR122 hp
        · have hp := hp.2 hc
          refine a_aload_n C dc_Un_readBlock_189 rfl rfl ?_
          refine c_getR C u 1 dc_Un_readBlock_190 hu rfl rfl (Nat.le_of_ble_eq_true rfl) f_Un_21 rfl hp.1 ?_
          have hp := hp.2
          have hc2 := hp.1
          have hp := hp.2
          refine c_getRN C (S140.2.2 u 1) 13 dc_Un_readBlock_193 hc2 rfl rfl (Nat.le_of_ble_eq_true rfl) f_Un_250 rfl hp.1 ?_
          have hp := hp.2
          refine a_iload_n C dc_Un_readBlock_196 rfl rfl ?_
          refine a_iload C dc_Un_readBlock_197 rfl ?_
          refine a_iadd C dc_Un_readBlock_199 ?_
          refine a_aload_n C dc_Un_readBlock_200 rfl rfl ?_
          refine c_getR C u 0 dc_Un_readBlock_201 hu rfl rfl (Nat.le_of_ble_eq_true rfl) f_Un_12 rfl hp.1 ?_
          have hp := hp.2
          refine a_iload C dc_Un_readBlock_204 rfl ?_
          refine a_bipush (v := 16) C dc_Un_readBlock_206 (by decide) ?_
          refine a_irem C dc_Un_readBlock_208 (by decide) ?_
          have hc3 := hp.1
          have hp := hp.2
          refine c_callT (rest := [.int (x3 + (x7 + (v140 / 16))), .ref (oa (S140.2.2 (S140.2.2 u 1) 13))]) (av := .ref (oa (S140.2.2 u 0)) :: [.int (v140 - v140 / 16 * 16)]) C dc_Un_readBlock_209 (ct_Re_readNumber (S140.2.2 u 0) (v140 - v140 / 16 * 16) S140 hfl hc3 hp) cd_C_Re_readNumber i_Re (Nat.le_of_ble_eq_true rfl) (by rw [hR]; exact Nat.le_of_ble_eq_true rfl) (by rw [hR]; exact Nat.le_of_ble_eq_true rfl) (by rw [hR]; exact Nat.le_of_ble_eq_true rfl) (by rw [hR]; exact Nat.le_of_ble_eq_true rfl) (inv_V C (S140.2.2 u 0) dc_Un_readBlock_209 l_Un_244 im_C_Re_readNumber se_C_Re_readNumber cd_C_Re_readNumber ⟨by decide, by decide⟩ ln_C_Re_readNumber rfl rfl (cw_obj hc3 rfl) rfl rfl) (fun oc L1 hL => ?_)
          rcases hL with ⟨v209, S209, hp, rfl, rfl⟩ | ⟨c9, a9, S9, hp, rfl, rfl⟩
          rotate_left
          · exact Or.inr ⟨a9, rfl, t_out C hQ hA (fun x hx => (hno x hx).elim) (Or.inr ⟨c9, a9, S9, hp, rfl, rfl⟩) (Nat.le_of_ble_eq_true rfl) (Nat.le_of_ble_eq_true rfl)⟩
          refine Or.inl ⟨_, rfl, ?_⟩
          refine aw_eq (lo' := _) (st' := [.int v209, .int (x3 + (x7 + (v140 / 16))), .ref (oa (S140.2.2 (S140.2.2 u 1) 13))]) (L' := (cw lt_C U oa S209)) rfl rfl rfl ?_
          have hc4 := hp.1
          have hp := hp.2
          refine c_iast C (S140.2.2 (S140.2.2 u 1) 13) dc_Un_readBlock_212 hc4 hp.1 ?_
          have hp := hp.2
          refine aw_eq (lo' := _) (st' := _) (L' := (cw lt_C U oa (va_up S209.1 (S140.2.2 (S140.2.2 u 1) 13) (upd (S209.1 (S140.2.2 (S140.2.2 u 1) 13)) (x3 + (x7 + (v140 / 16))).toNatClampNeg v209), S209.2.1, S209.2.2))) rfl rfl rfl ?_
          refine aw_lo (lo' := [some (.ref (oa u)), none, none, some (.int x3), none, some (.ref (oa x5)), some (.int v140), some (.int (x7 + (v140 / 16)))]) ⟨.inr rfl, .inr rfl, .inr rfl, .inr rfl, .inr rfl, .inr rfl, .inr rfl, .inr rfl, trivial⟩ ?_
          exact s_Un_readBlock_213 C hQ hA hR hno hfl hu x3 x5 v140 (x7 + (v140 / 16)) (va_up S209.1 (S140.2.2 (S140.2.2 u 1) 13) (upd (S209.1 (S140.2.2 (S140.2.2 u 1) 13)) (x3 + (x7 + (v140 / 16))).toNatClampNeg v209), S209.2.1, S209.2.2) R122 hR122 hp
      · have hp := hp.2 hc
        refine a_aload_n C dc_Un_readBlock_162 rfl rfl ?_
        refine c_getR C u 0 dc_Un_readBlock_163 hu rfl rfl (Nat.le_of_ble_eq_true rfl) f_Un_12 rfl hp.1 ?_
        have hp := hp.2
        refine a_bipush (v := 7) C dc_Un_readBlock_166 (by decide) ?_
        refine a_aload_n C dc_Un_readBlock_168 rfl rfl ?_
        refine c_getR C u 0 dc_Un_readBlock_169 hu rfl rfl (Nat.le_of_ble_eq_true rfl) f_Un_12 rfl hp.1 ?_
        have hp := hp.2
        have hc5 := hp.1
        have hp := hp.2
        refine c_getIN C (S140.2.2 u 0) 5 dc_Un_readBlock_172 hc5 rfl rfl (Nat.le_of_ble_eq_true rfl) f_Un_247 (Nat.le_of_ble_eq_true rfl) ?_
        refine c_callT (rest := []) (av := .ref (oa (S140.2.2 u 0)) :: [.int 7, .int (S140.1 (S140.2.2 u 0) 5)]) C dc_Un_readBlock_175 (ct_Re_fail (S140.2.2 u 0) 7 (S140.1 (S140.2.2 u 0) 5) S140 hfl hc5 hp) cd_C_Re_fail i_Re (Nat.le_of_ble_eq_true rfl) (by rw [hR]; exact Nat.le_of_ble_eq_true rfl) (by rw [hR]; exact Nat.le_of_ble_eq_true rfl) (by rw [hR]; exact Nat.le_of_ble_eq_true rfl) (by rw [hR]; exact Nat.le_of_ble_eq_true rfl) (inv_V C (S140.2.2 u 0) dc_Un_readBlock_175 l_Un_74 im_C_Re_fail se_C_Re_fail cd_C_Re_fail ⟨by decide, by decide⟩ ln_C_Re_fail rfl rfl (cw_obj hc5 rfl) rfl rfl) (fun oc L1 hL => ?_)
        rcases hL with ⟨S175, hp, rfl, rfl⟩ | ⟨c9, a9, S9, hp, rfl, rfl⟩
        rotate_left
        · exact Or.inr ⟨a9, rfl, t_out C hQ hA (fun x hx => (hno x hx).elim) (Or.inr ⟨c9, a9, S9, hp, rfl, rfl⟩) (Nat.le_of_ble_eq_true rfl) (Nat.le_of_ble_eq_true rfl)⟩
        refine Or.inl ⟨_, rfl, ?_⟩
        refine aw_eq (lo' := _) (st' := []) (L' := (cw lt_C U oa S175)) rfl rfl rfl ?_
        refine a_goto (tgt := 213) C dc_Un_readBlock_178 (by decide) ?_
        refine aw_lo (lo' := [some (.ref (oa u)), none, none, some (.int x3), none, some (.ref (oa x5)), some (.int v140), some (.int (x7 + (v140 / 16)))]) ⟨.inr rfl, .inr rfl, .inr rfl, .inr rfl, .inr rfl, .inr rfl, .inr rfl, .inr rfl, trivial⟩ ?_
        exact s_Un_readBlock_213 C hQ hA hR hno hfl hu x3 x5 v140 (x7 + (v140 / 16)) S175 R122 hR122 hp
set_option maxRecDepth 100000 in
set_option maxHeartbeats 1000000 in
theorem se_Un_readBlock_122 (C : fcx gG D z A X R_Un c_C_Un_readBlock 8 (none)) (hQ : X.2.2.2.2.2.2.2.2.2.2 = eQ gG D z X.2.2.2.2.2.2.2.1 X.2.2.2.2.1 L0 0 0 (pC_v lt_C U oa K T)) (hA : A = owA gG L0 X.2.2.2.2.1.heap.size) (hR : X.2.2.2.1 = { frames := 12, cells := 1, slots := 6, locals := 1200 }) (hno : ∀ x ∈ X.2.2.2.2.2.2.2.2.2.1.exceptionTable.toList, False) (hfl : X.2.1.flags = pinnedFlags ++ [noTraceFlag]) (hu : c_cl U u = 11) (x3 : Int32) (x5 : Nat) (x6 : Int32) (x7 : Int32) (S : cs) (hp : e_Un_readBlock_122 U u x3 x5 x6 x7 S K T) : aw gG D z A X 8 122 [some (.ref (oa u)), none, none, some (.int x3), none, some (.ref (oa x5)), some (.int x6), some (.int x7)] [] (cw lt_C U oa S) 0 0 := by
  obtain ⟨I, μ, h0, hs⟩ := hp
  have key : ∀ (n : Nat) (yx3 : Int32) (yx5 : Nat) (yx6 : Int32) (yx7 : Int32) (yS : cs), μ yx3 yx5 yx6 yx7 yS < n → I yx3 yx5 yx6 yx7 yS → aw gG D z A X 8 122 [some (.ref (oa u)), none, none, some (.int yx3), none, some (.ref (oa yx5)), some (.int yx6), some (.int yx7)] [] (cw lt_C U oa yS) 0 0 := by
    intro n
    induction n with
    | zero => intro yx3 yx5 yx6 yx7 yS h; omega
    | succ n ih =>
      intro yx3 yx5 yx6 yx7 yS hn hI
      exact s_Un_readBlock_122 C hQ hA hR hno hfl hu yx3 yx5 yx6 yx7 yS _ (fun zx3 zx5 zx6 zx7 zS hw => ih zx3 zx5 zx6 zx7 zS (by omega) hw.1) (hs yx3 yx5 yx6 yx7 yS hI)
  exact key (μ x3 x5 x6 x7 S + 1) x3 x5 x6 x7 S (Nat.lt_succ_self _) h0
set_option maxRecDepth 100000 in
set_option maxHeartbeats 1000000 in
theorem s_Un_readBlock_85 (C : fcx gG D z A X R_Un c_C_Un_readBlock 8 (none)) (hQ : X.2.2.2.2.2.2.2.2.2.2 = eQ gG D z X.2.2.2.2.2.2.2.1 X.2.2.2.2.1 L0 0 0 (pC_v lt_C U oa K T)) (hA : A = owA gG L0 X.2.2.2.2.1.heap.size) (hR : X.2.2.2.1 = { frames := 12, cells := 1, slots := 6, locals := 1200 }) (hno : ∀ x ∈ X.2.2.2.2.2.2.2.2.2.1.exceptionTable.toList, False) (hfl : X.2.1.flags = pinnedFlags ++ [noTraceFlag]) (hu : c_cl U u = 11) (x2 : Int32) (x3 : Int32) (S : cs) (hp : b_Un_readBlock_85 U u x2 x3 S K T) : aw gG D z A X 8 85 [some (.ref (oa u)), none, some (.int x2), some (.int x3), none, none, none, none] [] (cw lt_C U oa S) 0 0 := by
  unfold b_Un_readBlock_85 at hp
  refine a_aload_n C dc_Un_readBlock_85 rfl rfl ?_
  refine c_getR C u 1 dc_Un_readBlock_86 hu rfl rfl (Nat.le_of_ble_eq_true rfl) f_Un_21 rfl hp.1 ?_
  have hp := hp.2
  have hc6 := hp.1
  have hp := hp.2
  refine c_getRN C (S.2.2 u 1) 13 dc_Un_readBlock_89 hc6 rfl rfl (Nat.le_of_ble_eq_true rfl) f_Un_250 rfl hp.1 ?_
  have hp := hp.2
  refine a_iload_n C dc_Un_readBlock_92 rfl rfl ?_
  refine a_aload_n C dc_Un_readBlock_93 rfl rfl ?_
  refine c_getR C u 10 dc_Un_readBlock_94 hu rfl rfl (Nat.le_of_ble_eq_true rfl) f_Un_56 rfl hp.1 ?_
  have hp := hp.2
  refine a_iload_n C dc_Un_readBlock_97 rfl rfl ?_
  have hc7 := hp.1
  have hp := hp.2
  refine c_iald C (S.2.2 u 10) dc_Un_readBlock_98 hc7 hp.1 ?_
  have hp := hp.2
  have hc8 := hp.1
  have hp := hp.2
  refine c_iast C (S.2.2 (S.2.2 u 1) 13) dc_Un_readBlock_99 hc8 hp.1 ?_
  have hp := hp.2
  refine aw_eq (lo' := _) (st' := _) (L' := (cw lt_C U oa (va_up S.1 (S.2.2 (S.2.2 u 1) 13) (upd (S.1 (S.2.2 (S.2.2 u 1) 13)) x3.toNatClampNeg (S.1 (S.2.2 u 10) x2.toNatClampNeg)), S.2.1, S.2.2))) rfl rfl rfl ?_
  refine a_aload_n C dc_Un_readBlock_100 rfl rfl ?_
  refine c_getR C u 5 dc_Un_readBlock_101 hu rfl rfl (Nat.le_of_ble_eq_true rfl) f_Un_43 rfl hp.1 ?_
  have hp := hp.2
  refine a_aload_n C dc_Un_readBlock_104 rfl rfl ?_
  refine c_getR C u 2 dc_Un_readBlock_105 hu rfl rfl (Nat.le_of_ble_eq_true rfl) f_Un_28 rfl hp.1 ?_
  have hp := hp.2
  have hc9 := hp.1
  have hp := hp.2
  refine c_getRN C (S.2.2 u 2) 3 dc_Un_readBlock_108 hc9 rfl rfl (Nat.le_of_ble_eq_true rfl) f_Un_253 rfl hp.1 ?_
  have hp := hp.2
  refine a_iload_n C dc_Un_readBlock_111 rfl rfl ?_
  have hc10 := hp.1
  have hp := hp.2
  refine c_iald C (S.2.2 (S.2.2 u 2) 3) dc_Un_readBlock_112 hc10 hp.1 ?_
  have hp := hp.2
  have hc11 := hp.1
  have hp := hp.2
  refine c_aald C (S.2.2 u 5) 1 dc_Un_readBlock_113 hc11 rfl (by decide) rfl hp.1 hp.2.1 ?_
  have hp := hp.2.2
  refine a_astore (lo' := [some (.ref (oa u)), none, some (.int x2), some (.int x3), none, some (.ref (oa (S.2.2 (S.2.2 u 5) ((va_up S.1 (S.2.2 (S.2.2 u 1) 13) (upd (S.1 (S.2.2 (S.2.2 u 1) 13)) x3.toNatClampNeg (S.1 (S.2.2 u 10) x2.toNatClampNeg))) (S.2.2 (S.2.2 u 2) 3) x2.toNatClampNeg).toNatClampNeg))), none, none]) C dc_Un_readBlock_114 (by decide) rfl ?_
  refine a_iconst (v := (-1)) C dc_Un_readBlock_116 (by decide) ?_
  refine a_istore (lo' := [some (.ref (oa u)), none, some (.int x2), some (.int x3), none, some (.ref (oa (S.2.2 (S.2.2 u 5) ((va_up S.1 (S.2.2 (S.2.2 u 1) 13) (upd (S.1 (S.2.2 (S.2.2 u 1) 13)) x3.toNatClampNeg (S.1 (S.2.2 u 10) x2.toNatClampNeg))) (S.2.2 (S.2.2 u 2) 3) x2.toNatClampNeg).toNatClampNeg))), some (.int (-1)), none]) C dc_Un_readBlock_117 (by decide) rfl ?_
  refine a_iconst (v := 1) C dc_Un_readBlock_119 (by decide) ?_
  refine a_istore (lo' := [some (.ref (oa u)), none, some (.int x2), some (.int x3), none, some (.ref (oa (S.2.2 (S.2.2 u 5) ((va_up S.1 (S.2.2 (S.2.2 u 1) 13) (upd (S.1 (S.2.2 (S.2.2 u 1) 13)) x3.toNatClampNeg (S.1 (S.2.2 u 10) x2.toNatClampNeg))) (S.2.2 (S.2.2 u 2) 3) x2.toNatClampNeg).toNatClampNeg))), some (.int (-1)), some (.int 1)]) C dc_Un_readBlock_120 (by decide) rfl ?_
  refine aw_lo (lo' := [some (.ref (oa u)), none, none, some (.int x3), none, some (.ref (oa (S.2.2 (S.2.2 u 5) ((va_up S.1 (S.2.2 (S.2.2 u 1) 13) (upd (S.1 (S.2.2 (S.2.2 u 1) 13)) x3.toNatClampNeg (S.1 (S.2.2 u 10) x2.toNatClampNeg))) (S.2.2 (S.2.2 u 2) 3) x2.toNatClampNeg).toNatClampNeg))), some (.int (-1)), some (.int 1)]) ⟨.inr rfl, .inr rfl, .inl rfl, .inr rfl, .inr rfl, .inr rfl, .inr rfl, .inr rfl, trivial⟩ ?_
  exact se_Un_readBlock_122 C hQ hA hR hno hfl hu x3 (S.2.2 (S.2.2 u 5) ((va_up S.1 (S.2.2 (S.2.2 u 1) 13) (upd (S.1 (S.2.2 (S.2.2 u 1) 13)) x3.toNatClampNeg (S.1 (S.2.2 u 10) x2.toNatClampNeg))) (S.2.2 (S.2.2 u 2) 3) x2.toNatClampNeg).toNatClampNeg) (-1) 1 (va_up S.1 (S.2.2 (S.2.2 u 1) 13) (upd (S.1 (S.2.2 (S.2.2 u 1) 13)) x3.toNatClampNeg (S.1 (S.2.2 u 10) x2.toNatClampNeg)), S.2.1, S.2.2)  hp
set_option maxRecDepth 100000 in
set_option maxHeartbeats 1000000 in
theorem s_Un_readBlock_0 (C : fcx gG D z A X R_Un c_C_Un_readBlock 8 (none)) (hQ : X.2.2.2.2.2.2.2.2.2.2 = eQ gG D z X.2.2.2.2.2.2.2.1 X.2.2.2.2.1 L0 0 0 (pC_v lt_C U oa K T)) (hA : A = owA gG L0 X.2.2.2.2.1.heap.size) (hR : X.2.2.2.1 = { frames := 12, cells := 1, slots := 6, locals := 1200 }) (hno : ∀ x ∈ X.2.2.2.2.2.2.2.2.2.1.exceptionTable.toList, False) (hfl : X.2.1.flags = pinnedFlags ++ [noTraceFlag]) (hu : c_cl U u = 11) (x1 : Int32) (S : cs) (hp : p_Un_readBlock U u x1 S K T) : aw gG D z A X 8 0 [some (.ref (oa u)), some (.int x1), none, none, none, none, none, none] [] (cw lt_C U oa S) 0 0 := by
  unfold p_Un_readBlock at hp
  refine a_iload_n C dc_Un_readBlock_0 rfl rfl ?_
  refine a_bipush (v := 64) C dc_Un_readBlock_1 (by decide) ?_
  refine a_idiv C dc_Un_readBlock_3 (by decide) ?_
  refine a_istore_n (lo' := [some (.ref (oa u)), some (.int x1), some (.int (x1 / 64)), none, none, none, none, none]) C dc_Un_readBlock_4 rfl (by decide) rfl ?_
  refine a_bipush (v := 64) C dc_Un_readBlock_5 (by decide) ?_
  refine a_iload_n C dc_Un_readBlock_7 rfl rfl ?_
  refine a_imul C dc_Un_readBlock_8 ?_
  refine a_istore_n (lo' := [some (.ref (oa u)), some (.int x1), some (.int (x1 / 64)), some (.int (64 * x1)), none, none, none, none]) C dc_Un_readBlock_9 rfl (by decide) rfl ?_
  refine a_aload_n C dc_Un_readBlock_10 rfl rfl ?_
  refine c_getR C u 0 dc_Un_readBlock_11 hu rfl rfl (Nat.le_of_ble_eq_true rfl) f_Un_12 rfl hp.1 ?_
  have hp := hp.2
  refine a_aload_n C dc_Un_readBlock_14 rfl rfl ?_
  refine c_getR C u 5 dc_Un_readBlock_15 hu rfl rfl (Nat.le_of_ble_eq_true rfl) f_Un_43 rfl hp.1 ?_
  have hp := hp.2
  refine a_aload_n C dc_Un_readBlock_18 rfl rfl ?_
  refine c_getR C u 2 dc_Un_readBlock_19 hu rfl rfl (Nat.le_of_ble_eq_true rfl) f_Un_28 rfl hp.1 ?_
  have hp := hp.2
  have hc12 := hp.1
  have hp := hp.2
  refine c_getRN C (S.2.2 u 2) 2 dc_Un_readBlock_22 hc12 rfl rfl (Nat.le_of_ble_eq_true rfl) f_Un_237 rfl hp.1 ?_
  have hp := hp.2
  refine a_iload_n C dc_Un_readBlock_25 rfl rfl ?_
  have hc13 := hp.1
  have hp := hp.2
  refine c_iald C (S.2.2 (S.2.2 u 2) 2) dc_Un_readBlock_26 hc13 hp.1 ?_
  have hp := hp.2
  have hc14 := hp.1
  have hp := hp.2
  refine c_aald C (S.2.2 u 5) 1 dc_Un_readBlock_27 hc14 rfl (by decide) rfl hp.1 hp.2.1 ?_
  have hp := hp.2.2
  have hc15 := hp.1
  have hp := hp.2
  refine c_callT (rest := []) (av := .ref (oa (S.2.2 u 0)) :: [.ref (oa (S.2.2 (S.2.2 u 5) (S.1 (S.2.2 (S.2.2 u 2) 2) (x1 / 64).toNatClampNeg).toNatClampNeg))]) C dc_Un_readBlock_28 (ct_Re_readSymbol (S.2.2 u 0) (S.2.2 (S.2.2 u 5) (S.1 (S.2.2 (S.2.2 u 2) 2) (x1 / 64).toNatClampNeg).toNatClampNeg) S hfl hc15 hp) cd_C_Re_readSymbol i_Re (Nat.le_of_ble_eq_true rfl) (by rw [hR]; exact Nat.le_of_ble_eq_true rfl) (by rw [hR]; exact Nat.le_of_ble_eq_true rfl) (by rw [hR]; exact Nat.le_of_ble_eq_true rfl) (by rw [hR]; exact Nat.le_of_ble_eq_true rfl) (inv_V C (S.2.2 u 0) dc_Un_readBlock_28 l_Un_240 im_C_Re_readSymbol se_C_Re_readSymbol cd_C_Re_readSymbol ⟨by decide, by decide⟩ ln_C_Re_readSymbol rfl rfl (cw_obj hc15 rfl) rfl rfl) (fun oc L1 hL => ?_)
  rcases hL with ⟨v28, S28, hp, rfl, rfl⟩ | ⟨c9, a9, S9, hp, rfl, rfl⟩
  rotate_left
  · exact Or.inr ⟨a9, rfl, t_out C hQ hA (fun x hx => (hno x hx).elim) (Or.inr ⟨c9, a9, S9, hp, rfl, rfl⟩) (Nat.le_of_ble_eq_true rfl) (Nat.le_of_ble_eq_true rfl)⟩
  refine Or.inl ⟨_, rfl, ?_⟩
  refine aw_eq (lo' := _) (st' := [.int v28]) (L' := (cw lt_C U oa S28)) rfl rfl rfl ?_
  refine a_istore (lo' := [some (.ref (oa u)), some (.int x1), some (.int (x1 / 64)), some (.int (64 * x1)), some (.int v28), none, none, none]) C dc_Un_readBlock_31 (by decide) rfl ?_
  refine a_aload_n C dc_Un_readBlock_33 rfl rfl ?_
  refine c_getR C u 10 dc_Un_readBlock_34 hu rfl rfl (Nat.le_of_ble_eq_true rfl) f_Un_56 rfl hp.1 ?_
  have hp := hp.2
  refine a_iload_n C dc_Un_readBlock_37 rfl rfl ?_
  refine a_dup2 C dc_Un_readBlock_38 rfl rfl ?_
  have hc16 := hp.1
  have hp := hp.2
  refine c_iald C (S28.2.2 u 10) dc_Un_readBlock_39 hc16 hp.1 ?_
  have hp := hp.2
  refine a_aload_n C dc_Un_readBlock_40 rfl rfl ?_
  refine c_getR C u 0 dc_Un_readBlock_41 hu rfl rfl (Nat.le_of_ble_eq_true rfl) f_Un_12 rfl hp.1 ?_
  have hp := hp.2
  refine a_iload C dc_Un_readBlock_44 rfl ?_
  have hc17 := hp.1
  have hp := hp.2
  refine c_callT (rest := [.int (S28.1 (S28.2.2 u 10) (x1 / 64).toNatClampNeg), .int (x1 / 64), .ref (oa (S28.2.2 u 10))]) (av := .ref (oa (S28.2.2 u 0)) :: [.int v28]) C dc_Un_readBlock_46 (ct_Re_readNumber (S28.2.2 u 0) v28 S28 hfl hc17 hp) cd_C_Re_readNumber i_Re (Nat.le_of_ble_eq_true rfl) (by rw [hR]; exact Nat.le_of_ble_eq_true rfl) (by rw [hR]; exact Nat.le_of_ble_eq_true rfl) (by rw [hR]; exact Nat.le_of_ble_eq_true rfl) (by rw [hR]; exact Nat.le_of_ble_eq_true rfl) (inv_V C (S28.2.2 u 0) dc_Un_readBlock_46 l_Un_244 im_C_Re_readNumber se_C_Re_readNumber cd_C_Re_readNumber ⟨by decide, by decide⟩ ln_C_Re_readNumber rfl rfl (cw_obj hc17 rfl) rfl rfl) (fun oc L1 hL => ?_)
  rcases hL with ⟨v46, S46, hp, rfl, rfl⟩ | ⟨c9, a9, S9, hp, rfl, rfl⟩
  rotate_left
  · exact Or.inr ⟨a9, rfl, t_out C hQ hA (fun x hx => (hno x hx).elim) (Or.inr ⟨c9, a9, S9, hp, rfl, rfl⟩) (Nat.le_of_ble_eq_true rfl) (Nat.le_of_ble_eq_true rfl)⟩
  refine Or.inl ⟨_, rfl, ?_⟩
  refine aw_eq (lo' := _) (st' := [.int v46, .int (S28.1 (S28.2.2 u 10) (x1 / 64).toNatClampNeg), .int (x1 / 64), .ref (oa (S28.2.2 u 10))]) (L' := (cw lt_C U oa S46)) rfl rfl rfl ?_
  refine a_iadd C dc_Un_readBlock_49 ?_
  refine c_iast C (S28.2.2 u 10) dc_Un_readBlock_50 hc16 hp.1 ?_
  have hp := hp.2
  refine aw_eq (lo' := _) (st' := _) (L' := (cw lt_C U oa (va_up S46.1 (S28.2.2 u 10) (upd (S46.1 (S28.2.2 u 10)) (x1 / 64).toNatClampNeg ((S28.1 (S28.2.2 u 10) (x1 / 64).toNatClampNeg) + v46)), S46.2.1, S46.2.2))) rfl rfl rfl ?_
  refine a_aload_n C dc_Un_readBlock_51 rfl rfl ?_
  refine c_getR C u 10 dc_Un_readBlock_52 hu rfl rfl (Nat.le_of_ble_eq_true rfl) f_Un_56 rfl hp.1 ?_
  have hp := hp.2
  refine a_iload_n C dc_Un_readBlock_55 rfl rfl ?_
  have hc18 := hp.1
  have hp := hp.2
  refine c_iald C (S46.2.2 u 10) dc_Un_readBlock_56 hc18 hp.1 ?_
  have hp := hp.2
  refine a_sipush (v := (-2047)) C dc_Un_readBlock_57 (by decide) ?_
  refine a_sipush (v := 2047) C dc_Un_readBlock_60 (by decide) ?_
  refine a_callP (rest := []) (av := [.int ((va_up S46.1 (S28.2.2 u 10) (upd (S46.1 (S28.2.2 u 10)) (x1 / 64).toNatClampNeg ((S28.1 (S28.2.2 u 10) (x1 / 64).toNatClampNeg) + v46))) (S46.2.2 u 10) (x1 / 64).toNatClampNeg), .int (-2047), .int 2047]) C dc_Un_readBlock_63 (ct_B_isWithin ((va_up S46.1 (S28.2.2 u 10) (upd (S46.1 (S28.2.2 u 10)) (x1 / 64).toNatClampNeg ((S28.1 (S28.2.2 u 10) (x1 / 64).toNatClampNeg) + v46))) (S46.2.2 u 10) (x1 / 64).toNatClampNeg) (-2047) 2047 hp) cd_C_B_isWithin i_B (Nat.le_of_ble_eq_true rfl) (by rw [hR]; exact Nat.le_of_ble_eq_true rfl) (by rw [hR]; exact Nat.le_of_ble_eq_true rfl) (by rw [hR]; exact Nat.le_of_ble_eq_true rfl) (by rw [hR]; exact Nat.le_of_ble_eq_true rfl) (inv_SN C dc_Un_readBlock_63 l_Un_141 st_C_B_isWithin i_B cd_C_B_isWithin ⟨by decide, by decide⟩ ln_C_B_isWithin rfl) (fun v63 hp => ?_)
  refine aw_eq (lo' := _) (st' := [.int v63]) (L' := (cw lt_C U oa (va_up S46.1 (S28.2.2 u 10) (upd (S46.1 (S28.2.2 u 10)) (x1 / 64).toNatClampNeg ((S28.1 (S28.2.2 u 10) (x1 / 64).toNatClampNeg) + v46)), S46.2.1, S46.2.2))) rfl rfl rfl ?_
  refine a_if_ne (tgt := 85) C dc_Un_readBlock_66 (by decide) ⟨fun hc => ?_, fun hc => ?_⟩
  · have hp := hp.1 hc
    refine aw_lo (lo' := [some (.ref (oa u)), none, some (.int (x1 / 64)), some (.int (64 * x1)), none, none, none, none]) ⟨.inr rfl, .inl rfl, .inr rfl, .inr rfl, .inl rfl, .inr rfl, .inr rfl, .inr rfl, trivial⟩ ?_
    exact s_Un_readBlock_85 C hQ hA hR hno hfl hu (x1 / 64) (64 * x1) (va_up S46.1 (S28.2.2 u 10) (upd (S46.1 (S28.2.2 u 10)) (x1 / 64).toNatClampNeg ((S28.1 (S28.2.2 u 10) (x1 / 64).toNatClampNeg) + v46)), S46.2.1, S46.2.2)  hp
  · have hp := hp.2 hc
    refine a_aload_n C dc_Un_readBlock_69 rfl rfl ?_
    refine c_getR C u 0 dc_Un_readBlock_70 hu rfl rfl (Nat.le_of_ble_eq_true rfl) f_Un_12 rfl hp.1 ?_
    have hp := hp.2
    refine a_bipush (v := 7) C dc_Un_readBlock_73 (by decide) ?_
    refine a_aload_n C dc_Un_readBlock_75 rfl rfl ?_
    refine c_getR C u 0 dc_Un_readBlock_76 hu rfl rfl (Nat.le_of_ble_eq_true rfl) f_Un_12 rfl hp.1 ?_
    have hp := hp.2
    have hc19 := hp.1
    have hp := hp.2
    refine c_getIN C (S46.2.2 u 0) 5 dc_Un_readBlock_79 hc19 rfl rfl (Nat.le_of_ble_eq_true rfl) f_Un_247 (Nat.le_of_ble_eq_true rfl) ?_
    refine c_callT (rest := []) (av := .ref (oa (S46.2.2 u 0)) :: [.int 7, .int ((va_up S46.1 (S28.2.2 u 10) (upd (S46.1 (S28.2.2 u 10)) (x1 / 64).toNatClampNeg ((S28.1 (S28.2.2 u 10) (x1 / 64).toNatClampNeg) + v46))) (S46.2.2 u 0) 5)]) C dc_Un_readBlock_82 (ct_Re_fail (S46.2.2 u 0) 7 ((va_up S46.1 (S28.2.2 u 10) (upd (S46.1 (S28.2.2 u 10)) (x1 / 64).toNatClampNeg ((S28.1 (S28.2.2 u 10) (x1 / 64).toNatClampNeg) + v46))) (S46.2.2 u 0) 5) (va_up S46.1 (S28.2.2 u 10) (upd (S46.1 (S28.2.2 u 10)) (x1 / 64).toNatClampNeg ((S28.1 (S28.2.2 u 10) (x1 / 64).toNatClampNeg) + v46)), S46.2.1, S46.2.2) hfl hc19 hp) cd_C_Re_fail i_Re (Nat.le_of_ble_eq_true rfl) (by rw [hR]; exact Nat.le_of_ble_eq_true rfl) (by rw [hR]; exact Nat.le_of_ble_eq_true rfl) (by rw [hR]; exact Nat.le_of_ble_eq_true rfl) (by rw [hR]; exact Nat.le_of_ble_eq_true rfl) (inv_V C (S46.2.2 u 0) dc_Un_readBlock_82 l_Un_74 im_C_Re_fail se_C_Re_fail cd_C_Re_fail ⟨by decide, by decide⟩ ln_C_Re_fail rfl rfl (cw_obj hc19 rfl) rfl rfl) (fun oc L1 hL => ?_)
    rcases hL with ⟨S82, hp, rfl, rfl⟩ | ⟨c9, a9, S9, hp, rfl, rfl⟩
    rotate_left
    · exact Or.inr ⟨a9, rfl, t_out C hQ hA (fun x hx => (hno x hx).elim) (Or.inr ⟨c9, a9, S9, hp, rfl, rfl⟩) (Nat.le_of_ble_eq_true rfl) (Nat.le_of_ble_eq_true rfl)⟩
    refine Or.inl ⟨_, rfl, ?_⟩
    refine aw_eq (lo' := _) (st' := []) (L' := (cw lt_C U oa S82)) rfl rfl rfl ?_
    refine aw_lo (lo' := [some (.ref (oa u)), none, some (.int (x1 / 64)), some (.int (64 * x1)), none, none, none, none]) ⟨.inr rfl, .inl rfl, .inr rfl, .inr rfl, .inl rfl, .inr rfl, .inr rfl, .inr rfl, trivial⟩ ?_
    exact s_Un_readBlock_85 C hQ hA hR hno hfl hu (x1 / 64) (64 * x1) S82  hp
end C_Un_readBlock
section C_Un_readBlockc
variable {D : va_G} {z : Nat → ClassId} {U : ut} {oa : Nat → Nat}
set_option maxRecDepth 100000 in
theorem ct_Un_readBlock {l : Launch} (u : Nat) (x1 : Int32) (S : cs) {K : cs → Prop} {T : Nat → cs → Prop} (hfl : l.flags = pinnedFlags ++ [noTraceFlag]) (hu : c_cl U u = 11) (hp : p_Un_readBlock U u x1 S K T) : ct gG D z l n_C_Un_readBlock c_C_Un_readBlock 8 (none) 12 1200 [.ref (oa u), .int x1] (cw lt_C U oa S) 0 0 (pC_v lt_C U oa K T) := by
  refine ct_of (lo := [some (.ref (oa u)), some (.int x1), none, none, none, none, none, none]) (by decide) g_ok (Nat.le_of_ble_eq_true rfl) rfl ?_
  intro X A hl C hR hQ hA hno
  exact s_Un_readBlock_0 C hQ hA hR hno (by rw [hl]; exact hfl) hu x1 S hp
end C_Un_readBlockc
def b_Un_readData_67 (U : ut) (u : Nat) (x1 : Int32) (x2 : Int32) (x3 : Int32) (S : cs) (R19 : Int32 → Int32 → cs → Prop) (R67 : Int32 → Int32 → Int32 → cs → Prop) (K : cs → Prop) (T : Nat → cs → Prop) : Prop :=
  ¬ S.2.2 u 2 = NU ∧ (c_cl U (S.2.2 u 2) = 10 ∧ (((S.1 (S.2.2 u 2) 5) ≤ x3 → (R19 x1 (x2 + 1) S)) ∧ (¬ ((S.1 (S.2.2 u 2) 5) ≤ x3) → (¬ S.2.2 u 2 = NU ∧ (¬ S.2.2 (S.2.2 u 2) 7 = NU ∧ (¬ S.2.2 u 2 = NU ∧ (c_cl U (S.2.2 (S.2.2 u 2) 7) = 902 ∧ (vp_in (((S.1 (S.2.2 u 2) 5) * x2) + x3) (c_ln U (S.2.2 (S.2.2 u 2) 7)) ∧ (p_Un_readBlock U u (S.1 (S.2.2 (S.2.2 u 2) 7) (((S.1 (S.2.2 u 2) 5) * x2) + x3).toNatClampNeg) S (fun S98 => R67 x1 x2 (x3 + 1) S98) T)))))))))
def e_Un_readData_67 (U : ut) (u : Nat) (x1 : Int32) (x2 : Int32) (x3 : Int32) (S : cs) (R19 : Int32 → Int32 → cs → Prop) (K : cs → Prop) (T : Nat → cs → Prop) : Prop :=
  ∃ (I : Int32 → Int32 → Int32 → cs → Prop) (μ : Int32 → Int32 → Int32 → cs → Nat), I x1 x2 x3 S ∧ ∀ yx1 yx2 yx3 yS, I yx1 yx2 yx3 yS → b_Un_readData_67 U u yx1 yx2 yx3 yS R19 (fun zx1 zx2 zx3 zS => I zx1 zx2 zx3 zS ∧ μ zx1 zx2 zx3 zS < μ yx1 yx2 yx3 yS) K T
def b_Un_readData_65 (U : ut) (u : Nat) (x1 : Int32) (x2 : Int32) (S : cs) (R19 : Int32 → Int32 → cs → Prop) (K : cs → Prop) (T : Nat → cs → Prop) : Prop :=
  e_Un_readData_67 U u x1 x2 0 S R19 K T
def b_Un_readData_19 (U : ut) (u : Nat) (x1 : Int32) (x2 : Int32) (S : cs) (R19 : Int32 → Int32 → cs → Prop) (K : cs → Prop) (T : Nat → cs → Prop) : Prop :=
  ¬ S.2.2 u 2 = NU ∧ (c_cl U (S.2.2 u 2) = 10 ∧ (((S.1 (S.2.2 u 2) 4) ≤ x2 → (K S)) ∧ (¬ ((S.1 (S.2.2 u 2) 4) ≤ x2) → (((S.1 u 11) ≤ 0 → (b_Un_readData_65 U u x1 x2 S R19 K T)) ∧ (¬ ((S.1 u 11) ≤ 0) → ((x2 ≤ 0 → (b_Un_readData_65 U u x1 x2 S R19 K T)) ∧ (¬ (x2 ≤ 0) → (¬ (S.1 u 11) = 0 ∧ ((¬ (x2 - x2 / (S.1 u 11) * (S.1 u 11)) = 0 → (b_Un_readData_65 U u x1 x2 S R19 K T)) ∧ ((x2 - x2 / (S.1 u 11) * (S.1 u 11)) = 0 → (p_Un_readAgain U u (208 + (x1 - x1 / 8 * 8)) S (fun S59 => b_Un_readData_65 U u (x1 + 1) x2 S59 R19 K T) T)))))))))))
def e_Un_readData_19 (U : ut) (u : Nat) (x1 : Int32) (x2 : Int32) (S : cs) (K : cs → Prop) (T : Nat → cs → Prop) : Prop :=
  ∃ (I : Int32 → Int32 → cs → Prop) (μ : Int32 → Int32 → cs → Nat), I x1 x2 S ∧ ∀ yx1 yx2 yS, I yx1 yx2 yS → b_Un_readData_19 U u yx1 yx2 yS (fun zx1 zx2 zS => I zx1 zx2 zS ∧ μ zx1 zx2 zS < μ yx1 yx2 yS) K T
def p_Un_readData (U : ut) (u : Nat)  (S : cs) (K : cs → Prop) (T : Nat → cs → Prop) : Prop :=
  ¬ S.2.2 u 0 = NU ∧ (c_cl U (S.2.2 u 0) = 8 ∧ (p_Re_dropBits U (S.2.2 u 0) S (fun S4 => ¬ S4.2.2 u 10 = NU ∧ (p_Ar_fillI U (S4.2.2 u 10) 0 S4 (fun S12 => e_Un_readData_19 U u 0 0 S12 K T)))))
section C_Un_readData
variable {D : va_G} {z : Nat → ClassId} {A : Nat → Prop} {X : cx} {L0 : fw} {U : ut} {oa : Nat → Nat} {u : Nat} {K : cs → Prop} {T : Nat → cs → Prop}
set_option maxRecDepth 100000 in
set_option maxHeartbeats 1000000 in
theorem s_Un_readData_67 (C : fcx gG D z A X R_Un c_C_Un_readData 4 (none)) (hQ : X.2.2.2.2.2.2.2.2.2.2 = eQ gG D z X.2.2.2.2.2.2.2.1 X.2.2.2.2.1 L0 0 0 (pC_v lt_C U oa K T)) (hA : A = owA gG L0 X.2.2.2.2.1.heap.size) (hR : X.2.2.2.1 = { frames := 13, cells := 1, slots := 6, locals := 1300 }) (hno : ∀ x ∈ X.2.2.2.2.2.2.2.2.2.1.exceptionTable.toList, False) (hfl : X.2.1.flags = pinnedFlags ++ [noTraceFlag]) (hu : c_cl U u = 11) (x1 : Int32) (x2 : Int32) (x3 : Int32) (S : cs) (R19 : Int32 → Int32 → cs → Prop) (hR19 : ∀ yx1 yx2 yS, R19 yx1 yx2 yS → aw gG D z A X 4 19 [some (.ref (oa u)), some (.int yx1), some (.int yx2), none] [] (cw lt_C U oa yS) 0 0) (R67 : Int32 → Int32 → Int32 → cs → Prop) (hR67 : ∀ yx1 yx2 yx3 yS, R67 yx1 yx2 yx3 yS → aw gG D z A X 4 67 [some (.ref (oa u)), some (.int yx1), some (.int yx2), some (.int yx3)] [] (cw lt_C U oa yS) 0 0) (hp : b_Un_readData_67 U u x1 x2 x3 S R19 R67 K T) : aw gG D z A X 4 67 [some (.ref (oa u)), some (.int x1), some (.int x2), some (.int x3)] [] (cw lt_C U oa S) 0 0 := by
  unfold b_Un_readData_67 at hp
  refine a_iload_n C dc_Un_readData_67 rfl rfl ?_
  refine a_aload_n C dc_Un_readData_68 rfl rfl ?_
  refine c_getR C u 2 dc_Un_readData_69 hu rfl rfl (Nat.le_of_ble_eq_true rfl) f_Un_28 rfl hp.1 ?_
  have hp := hp.2
  have hc1 := hp.1
  have hp := hp.2
  refine c_getIN C (S.2.2 u 2) 5 dc_Un_readData_72 hc1 rfl rfl (Nat.le_of_ble_eq_true rfl) f_Un_228 (Nat.le_of_ble_eq_true rfl) ?_
  refine a_icmp_ge (tgt := 107) C dc_Un_readData_75 (by decide) ⟨fun hc => ?_, fun hc => ?_⟩
  · have hp := hp.1 hc
    refine a_iinc (v := x2 + 1) (lo' := [some (.ref (oa u)), some (.int x1), some (.int (x2 + 1)), some (.int x3)]) C dc_Un_readData_107 rfl rfl (by decide) rfl ?_
    refine a_goto (tgt := 19) C dc_Un_readData_110 (by decide) ?_
    refine aw_lo (lo' := [some (.ref (oa u)), some (.int x1), some (.int (x2 + 1)), none]) ⟨.inr rfl, .inr rfl, .inr rfl, .inl rfl, trivial⟩ ?_
    exact hR19 x1 (x2 + 1) S hp
  · have hp := hp.2 hc
    refine a_aload_n C dc_Un_readData_78 rfl rfl ?_
    refine a_aload_n C dc_Un_readData_79 rfl rfl ?_
    refine c_getR C u 2 dc_Un_readData_80 hu rfl rfl (Nat.le_of_ble_eq_true rfl) f_Un_28 rfl hp.1 ?_
    have hp := hp.2
    refine c_getRN C (S.2.2 u 2) 7 dc_Un_readData_83 hc1 rfl rfl (Nat.le_of_ble_eq_true rfl) f_Un_231 rfl hp.1 ?_
    have hp := hp.2
    refine a_aload_n C dc_Un_readData_86 rfl rfl ?_
    refine c_getR C u 2 dc_Un_readData_87 hu rfl rfl (Nat.le_of_ble_eq_true rfl) f_Un_28 rfl hp.1 ?_
    have hp := hp.2
    refine c_getIN C (S.2.2 u 2) 5 dc_Un_readData_90 hc1 rfl rfl (Nat.le_of_ble_eq_true rfl) f_Un_228 (Nat.le_of_ble_eq_true rfl) ?_
    refine a_iload_n C dc_Un_readData_93 rfl rfl ?_
    refine a_imul C dc_Un_readData_94 ?_
    refine a_iload_n C dc_Un_readData_95 rfl rfl ?_
    refine a_iadd C dc_Un_readData_96 ?_
    have hc2 := hp.1
    have hp := hp.2
    refine c_iald C (S.2.2 (S.2.2 u 2) 7) dc_Un_readData_97 hc2 hp.1 ?_
    have hp := hp.2
    refine c_callT (rest := []) (av := .ref (oa u) :: [.int (S.1 (S.2.2 (S.2.2 u 2) 7) (((S.1 (S.2.2 u 2) 5) * x2) + x3).toNatClampNeg)]) C dc_Un_readData_98 (ct_Un_readBlock u (S.1 (S.2.2 (S.2.2 u 2) 7) (((S.1 (S.2.2 u 2) 5) * x2) + x3).toNatClampNeg) S hfl hu hp) cd_C_Un_readBlock i_Un (Nat.le_of_ble_eq_true rfl) (by rw [hR]; exact Nat.le_of_ble_eq_true rfl) (by rw [hR]; exact Nat.le_of_ble_eq_true rfl) (by rw [hR]; exact Nat.le_of_ble_eq_true rfl) (by rw [hR]; exact Nat.le_of_ble_eq_true rfl) (inv_V C u dc_Un_readData_98 l_Un_234 im_C_Un_readBlock se_C_Un_readBlock cd_C_Un_readBlock ⟨by decide, by decide⟩ ln_C_Un_readBlock rfl rfl (cw_obj hu rfl) rfl rfl) (fun oc L1 hL => ?_)
    rcases hL with ⟨S98, hp, rfl, rfl⟩ | ⟨c9, a9, S9, hp, rfl, rfl⟩
    rotate_left
    · exact Or.inr ⟨a9, rfl, t_out C hQ hA (fun x hx => (hno x hx).elim) (Or.inr ⟨c9, a9, S9, hp, rfl, rfl⟩) (Nat.le_of_ble_eq_true rfl) (Nat.le_of_ble_eq_true rfl)⟩
    refine Or.inl ⟨_, rfl, ?_⟩
    refine aw_eq (lo' := _) (st' := []) (L' := (cw lt_C U oa S98)) rfl rfl rfl ?_
    refine a_iinc (v := x3 + 1) (lo' := [some (.ref (oa u)), some (.int x1), some (.int x2), some (.int (x3 + 1))]) C dc_Un_readData_101 rfl rfl (by decide) rfl ?_
    refine a_goto (tgt := 67) C dc_Un_readData_104 (by decide) ?_
    refine aw_lo (lo' := [some (.ref (oa u)), some (.int x1), some (.int x2), some (.int (x3 + 1))]) ⟨.inr rfl, .inr rfl, .inr rfl, .inr rfl, trivial⟩ ?_
    exact hR67 x1 x2 (x3 + 1) S98 hp
set_option maxRecDepth 100000 in
set_option maxHeartbeats 1000000 in
theorem se_Un_readData_67 (C : fcx gG D z A X R_Un c_C_Un_readData 4 (none)) (hQ : X.2.2.2.2.2.2.2.2.2.2 = eQ gG D z X.2.2.2.2.2.2.2.1 X.2.2.2.2.1 L0 0 0 (pC_v lt_C U oa K T)) (hA : A = owA gG L0 X.2.2.2.2.1.heap.size) (hR : X.2.2.2.1 = { frames := 13, cells := 1, slots := 6, locals := 1300 }) (hno : ∀ x ∈ X.2.2.2.2.2.2.2.2.2.1.exceptionTable.toList, False) (hfl : X.2.1.flags = pinnedFlags ++ [noTraceFlag]) (hu : c_cl U u = 11) (x1 : Int32) (x2 : Int32) (x3 : Int32) (S : cs) (R19 : Int32 → Int32 → cs → Prop) (hR19 : ∀ yx1 yx2 yS, R19 yx1 yx2 yS → aw gG D z A X 4 19 [some (.ref (oa u)), some (.int yx1), some (.int yx2), none] [] (cw lt_C U oa yS) 0 0) (hp : e_Un_readData_67 U u x1 x2 x3 S R19 K T) : aw gG D z A X 4 67 [some (.ref (oa u)), some (.int x1), some (.int x2), some (.int x3)] [] (cw lt_C U oa S) 0 0 := by
  obtain ⟨I, μ, h0, hs⟩ := hp
  have key : ∀ (n : Nat) (yx1 : Int32) (yx2 : Int32) (yx3 : Int32) (yS : cs), μ yx1 yx2 yx3 yS < n → I yx1 yx2 yx3 yS → aw gG D z A X 4 67 [some (.ref (oa u)), some (.int yx1), some (.int yx2), some (.int yx3)] [] (cw lt_C U oa yS) 0 0 := by
    intro n
    induction n with
    | zero => intro yx1 yx2 yx3 yS h; omega
    | succ n ih =>
      intro yx1 yx2 yx3 yS hn hI
      exact s_Un_readData_67 C hQ hA hR hno hfl hu yx1 yx2 yx3 yS R19 hR19 _ (fun zx1 zx2 zx3 zS hw => ih zx1 zx2 zx3 zS (by omega) hw.1) (hs yx1 yx2 yx3 yS hI)
  exact key (μ x1 x2 x3 S + 1) x1 x2 x3 S (Nat.lt_succ_self _) h0
set_option maxRecDepth 100000 in
set_option maxHeartbeats 1000000 in
theorem s_Un_readData_65 (C : fcx gG D z A X R_Un c_C_Un_readData 4 (none)) (hQ : X.2.2.2.2.2.2.2.2.2.2 = eQ gG D z X.2.2.2.2.2.2.2.1 X.2.2.2.2.1 L0 0 0 (pC_v lt_C U oa K T)) (hA : A = owA gG L0 X.2.2.2.2.1.heap.size) (hR : X.2.2.2.1 = { frames := 13, cells := 1, slots := 6, locals := 1300 }) (hno : ∀ x ∈ X.2.2.2.2.2.2.2.2.2.1.exceptionTable.toList, False) (hfl : X.2.1.flags = pinnedFlags ++ [noTraceFlag]) (hu : c_cl U u = 11) (x1 : Int32) (x2 : Int32) (S : cs) (R19 : Int32 → Int32 → cs → Prop) (hR19 : ∀ yx1 yx2 yS, R19 yx1 yx2 yS → aw gG D z A X 4 19 [some (.ref (oa u)), some (.int yx1), some (.int yx2), none] [] (cw lt_C U oa yS) 0 0) (hp : b_Un_readData_65 U u x1 x2 S R19 K T) : aw gG D z A X 4 65 [some (.ref (oa u)), some (.int x1), some (.int x2), none] [] (cw lt_C U oa S) 0 0 := by
  unfold b_Un_readData_65 at hp
  refine a_iconst (v := 0) C dc_Un_readData_65 (by decide) ?_
  refine a_istore_n (lo' := [some (.ref (oa u)), some (.int x1), some (.int x2), some (.int 0)]) C dc_Un_readData_66 rfl (by decide) rfl ?_
  refine aw_lo (lo' := [some (.ref (oa u)), some (.int x1), some (.int x2), some (.int 0)]) ⟨.inr rfl, .inr rfl, .inr rfl, .inr rfl, trivial⟩ ?_
  exact se_Un_readData_67 C hQ hA hR hno hfl hu x1 x2 0 S R19 hR19 hp
set_option maxRecDepth 100000 in
set_option maxHeartbeats 1000000 in
theorem s_Un_readData_19 (C : fcx gG D z A X R_Un c_C_Un_readData 4 (none)) (hQ : X.2.2.2.2.2.2.2.2.2.2 = eQ gG D z X.2.2.2.2.2.2.2.1 X.2.2.2.2.1 L0 0 0 (pC_v lt_C U oa K T)) (hA : A = owA gG L0 X.2.2.2.2.1.heap.size) (hR : X.2.2.2.1 = { frames := 13, cells := 1, slots := 6, locals := 1300 }) (hno : ∀ x ∈ X.2.2.2.2.2.2.2.2.2.1.exceptionTable.toList, False) (hfl : X.2.1.flags = pinnedFlags ++ [noTraceFlag]) (hu : c_cl U u = 11) (x1 : Int32) (x2 : Int32) (S : cs) (R19 : Int32 → Int32 → cs → Prop) (hR19 : ∀ yx1 yx2 yS, R19 yx1 yx2 yS → aw gG D z A X 4 19 [some (.ref (oa u)), some (.int yx1), some (.int yx2), none] [] (cw lt_C U oa yS) 0 0) (hp : b_Un_readData_19 U u x1 x2 S R19 K T) : aw gG D z A X 4 19 [some (.ref (oa u)), some (.int x1), some (.int x2), none] [] (cw lt_C U oa S) 0 0 := by
  unfold b_Un_readData_19 at hp
  refine a_iload_n C dc_Un_readData_19 rfl rfl ?_
  refine a_aload_n C dc_Un_readData_20 rfl rfl ?_
  refine c_getR C u 2 dc_Un_readData_21 hu rfl rfl (Nat.le_of_ble_eq_true rfl) f_Un_28 rfl hp.1 ?_
  have hp := hp.2
  have hc3 := hp.1
  have hp := hp.2
  refine c_getIN C (S.2.2 u 2) 4 dc_Un_readData_24 hc3 rfl rfl (Nat.le_of_ble_eq_true rfl) f_Un_222 (Nat.le_of_ble_eq_true rfl) ?_
  refine a_icmp_ge (tgt := 113) C dc_Un_readData_27 (by decide) ⟨fun hc => ?_, fun hc => ?_⟩
  · have hp := hp.1 hc
    exact a_vret C hQ hA dc_Un_readData_113 rfl (Or.inl ⟨S, hp, rfl, rfl⟩)
  · have hp := hp.2 hc
    refine a_aload_n C dc_Un_readData_30 rfl rfl ?_
    refine c_getI C u 11 dc_Un_readData_31 hu rfl rfl (Nat.le_of_ble_eq_true rfl) f_Un_102 (Nat.le_of_ble_eq_true rfl) ?_
    refine a_if_le (tgt := 65) C dc_Un_readData_34 (by decide) ⟨fun hc => ?_, fun hc => ?_⟩
    · have hp := hp.1 hc
      refine aw_lo (lo' := [some (.ref (oa u)), some (.int x1), some (.int x2), none]) ⟨.inr rfl, .inr rfl, .inr rfl, .inr rfl, trivial⟩ ?_
      exact s_Un_readData_65 C hQ hA hR hno hfl hu x1 x2 S R19 hR19 hp
    · have hp := hp.2 hc
      refine a_iload_n C dc_Un_readData_37 rfl rfl ?_
      refine a_if_le (tgt := 65) C dc_Un_readData_38 (by decide) ⟨fun hc => ?_, fun hc => ?_⟩
      · have hp := hp.1 hc
        refine aw_lo (lo' := [some (.ref (oa u)), some (.int x1), some (.int x2), none]) ⟨.inr rfl, .inr rfl, .inr rfl, .inr rfl, trivial⟩ ?_
        exact s_Un_readData_65 C hQ hA hR hno hfl hu x1 x2 S R19 hR19 hp
      · have hp := hp.2 hc
        refine a_iload_n C dc_Un_readData_41 rfl rfl ?_
        refine a_aload_n C dc_Un_readData_42 rfl rfl ?_
        refine c_getI C u 11 dc_Un_readData_43 hu rfl rfl (Nat.le_of_ble_eq_true rfl) f_Un_102 (Nat.le_of_ble_eq_true rfl) ?_
        refine a_irem C dc_Un_readData_46 hp.1 ?_
        have hp := hp.2
        refine a_if_ne (tgt := 65) C dc_Un_readData_47 (by decide) ⟨fun hc => ?_, fun hc => ?_⟩
        · have hp := hp.1 hc
          refine aw_lo (lo' := [some (.ref (oa u)), some (.int x1), some (.int x2), none]) ⟨.inr rfl, .inr rfl, .inr rfl, .inr rfl, trivial⟩ ?_
          exact s_Un_readData_65 C hQ hA hR hno hfl hu x1 x2 S R19 hR19 hp
        · have hp := hp.2 hc
          refine a_aload_n C dc_Un_readData_50 rfl rfl ?_
          refine a_sipush (v := 208) C dc_Un_readData_51 (by decide) ?_
          refine a_iload_n C dc_Un_readData_54 rfl rfl ?_
          refine a_bipush (v := 8) C dc_Un_readData_55 (by decide) ?_
          refine a_irem C dc_Un_readData_57 (by decide) ?_
          refine a_iadd C dc_Un_readData_58 ?_
          refine c_callT (rest := []) (av := .ref (oa u) :: [.int (208 + (x1 - x1 / 8 * 8))]) C dc_Un_readData_59 (ct_Un_readAgain u (208 + (x1 - x1 / 8 * 8)) S hfl hu hp) cd_C_Un_readAgain i_Un (Nat.le_of_ble_eq_true rfl) (by rw [hR]; exact Nat.le_of_ble_eq_true rfl) (by rw [hR]; exact Nat.le_of_ble_eq_true rfl) (by rw [hR]; exact Nat.le_of_ble_eq_true rfl) (by rw [hR]; exact Nat.le_of_ble_eq_true rfl) (inv_V C u dc_Un_readData_59 l_Un_225 im_C_Un_readAgain se_C_Un_readAgain cd_C_Un_readAgain ⟨by decide, by decide⟩ ln_C_Un_readAgain rfl rfl (cw_obj hu rfl) rfl rfl) (fun oc L1 hL => ?_)
          rcases hL with ⟨S59, hp, rfl, rfl⟩ | ⟨c9, a9, S9, hp, rfl, rfl⟩
          rotate_left
          · exact Or.inr ⟨a9, rfl, t_out C hQ hA (fun x hx => (hno x hx).elim) (Or.inr ⟨c9, a9, S9, hp, rfl, rfl⟩) (Nat.le_of_ble_eq_true rfl) (Nat.le_of_ble_eq_true rfl)⟩
          refine Or.inl ⟨_, rfl, ?_⟩
          refine aw_eq (lo' := _) (st' := []) (L' := (cw lt_C U oa S59)) rfl rfl rfl ?_
          refine a_iinc (v := x1 + 1) (lo' := [some (.ref (oa u)), some (.int (x1 + 1)), some (.int x2), none]) C dc_Un_readData_62 rfl rfl (by decide) rfl ?_
          refine aw_lo (lo' := [some (.ref (oa u)), some (.int (x1 + 1)), some (.int x2), none]) ⟨.inr rfl, .inr rfl, .inr rfl, .inr rfl, trivial⟩ ?_
          exact s_Un_readData_65 C hQ hA hR hno hfl hu (x1 + 1) x2 S59 R19 hR19 hp
set_option maxRecDepth 100000 in
set_option maxHeartbeats 1000000 in
theorem se_Un_readData_19 (C : fcx gG D z A X R_Un c_C_Un_readData 4 (none)) (hQ : X.2.2.2.2.2.2.2.2.2.2 = eQ gG D z X.2.2.2.2.2.2.2.1 X.2.2.2.2.1 L0 0 0 (pC_v lt_C U oa K T)) (hA : A = owA gG L0 X.2.2.2.2.1.heap.size) (hR : X.2.2.2.1 = { frames := 13, cells := 1, slots := 6, locals := 1300 }) (hno : ∀ x ∈ X.2.2.2.2.2.2.2.2.2.1.exceptionTable.toList, False) (hfl : X.2.1.flags = pinnedFlags ++ [noTraceFlag]) (hu : c_cl U u = 11) (x1 : Int32) (x2 : Int32) (S : cs) (hp : e_Un_readData_19 U u x1 x2 S K T) : aw gG D z A X 4 19 [some (.ref (oa u)), some (.int x1), some (.int x2), none] [] (cw lt_C U oa S) 0 0 := by
  obtain ⟨I, μ, h0, hs⟩ := hp
  have key : ∀ (n : Nat) (yx1 : Int32) (yx2 : Int32) (yS : cs), μ yx1 yx2 yS < n → I yx1 yx2 yS → aw gG D z A X 4 19 [some (.ref (oa u)), some (.int yx1), some (.int yx2), none] [] (cw lt_C U oa yS) 0 0 := by
    intro n
    induction n with
    | zero => intro yx1 yx2 yS h; omega
    | succ n ih =>
      intro yx1 yx2 yS hn hI
      exact s_Un_readData_19 C hQ hA hR hno hfl hu yx1 yx2 yS _ (fun zx1 zx2 zS hw => ih zx1 zx2 zS (by omega) hw.1) (hs yx1 yx2 yS hI)
  exact key (μ x1 x2 S + 1) x1 x2 S (Nat.lt_succ_self _) h0
set_option maxRecDepth 100000 in
set_option maxHeartbeats 1000000 in
theorem s_Un_readData_0 (C : fcx gG D z A X R_Un c_C_Un_readData 4 (none)) (hQ : X.2.2.2.2.2.2.2.2.2.2 = eQ gG D z X.2.2.2.2.2.2.2.1 X.2.2.2.2.1 L0 0 0 (pC_v lt_C U oa K T)) (hA : A = owA gG L0 X.2.2.2.2.1.heap.size) (hR : X.2.2.2.1 = { frames := 13, cells := 1, slots := 6, locals := 1300 }) (hno : ∀ x ∈ X.2.2.2.2.2.2.2.2.2.1.exceptionTable.toList, False) (hfl : X.2.1.flags = pinnedFlags ++ [noTraceFlag]) (hu : c_cl U u = 11)  (S : cs) (hp : p_Un_readData U u S K T) : aw gG D z A X 4 0 [some (.ref (oa u)), none, none, none] [] (cw lt_C U oa S) 0 0 := by
  unfold p_Un_readData at hp
  refine a_aload_n C dc_Un_readData_0 rfl rfl ?_
  refine c_getR C u 0 dc_Un_readData_1 hu rfl rfl (Nat.le_of_ble_eq_true rfl) f_Un_12 rfl hp.1 ?_
  have hp := hp.2
  have hc4 := hp.1
  have hp := hp.2
  refine c_call (rest := []) (av := .ref (oa (S.2.2 u 0)) :: []) C dc_Un_readData_4 (ct_Re_dropBits (S.2.2 u 0) S hc4 hp) cd_C_Re_dropBits i_Re (Nat.le_of_ble_eq_true rfl) (by rw [hR]; exact Nat.le_of_ble_eq_true rfl) (by rw [hR]; exact Nat.le_of_ble_eq_true rfl) (by rw [hR]; exact Nat.le_of_ble_eq_true rfl) (by rw [hR]; exact Nat.le_of_ble_eq_true rfl) (inv_V C (S.2.2 u 0) dc_Un_readData_4 l_Un_213 im_C_Re_dropBits se_C_Re_dropBits cd_C_Re_dropBits ⟨by decide, by decide⟩ ln_C_Re_dropBits rfl rfl (cw_obj hc4 rfl) rfl rfl) (fun oc L1 hL => ?_)
  obtain ⟨S4, hp, rfl, rfl⟩ := hL.resolve_right pC_no
  refine ⟨_, rfl, ?_⟩
  refine aw_eq (lo' := _) (st' := []) (L' := (cw lt_C U oa S4)) rfl rfl rfl ?_
  refine a_aload_n C dc_Un_readData_7 rfl rfl ?_
  refine c_getR C u 10 dc_Un_readData_8 hu rfl rfl (Nat.le_of_ble_eq_true rfl) f_Un_56 rfl hp.1 ?_
  have hp := hp.2
  refine a_iconst (v := 0) C dc_Un_readData_11 (by decide) ?_
  refine c_call (rest := []) (av := [.ref (oa (S4.2.2 u 10)), .int 0]) C dc_Un_readData_12 (ct_Ar_fillI (S4.2.2 u 10) 0 S4  hp) cd_C_Ar_fillI i_Ar (Nat.le_of_ble_eq_true rfl) (by rw [hR]; exact Nat.le_of_ble_eq_true rfl) (by rw [hR]; exact Nat.le_of_ble_eq_true rfl) (by rw [hR]; exact Nat.le_of_ble_eq_true rfl) (by rw [hR]; exact Nat.le_of_ble_eq_true rfl) (inv_S C dc_Un_readData_12 l_Un_216 st_C_Ar_fillI i_Ar cd_C_Ar_fillI ⟨by decide, by decide⟩ ln_C_Ar_fillI rfl) (fun oc L1 hL => ?_)
  obtain ⟨S12, hp, rfl, rfl⟩ := hL.resolve_right pC_no
  refine ⟨_, rfl, ?_⟩
  refine aw_eq (lo' := _) (st' := []) (L' := (cw lt_C U oa S12)) rfl rfl rfl ?_
  refine a_iconst (v := 0) C dc_Un_readData_15 (by decide) ?_
  refine a_istore_n (lo' := [some (.ref (oa u)), some (.int 0), none, none]) C dc_Un_readData_16 rfl (by decide) rfl ?_
  refine a_iconst (v := 0) C dc_Un_readData_17 (by decide) ?_
  refine a_istore_n (lo' := [some (.ref (oa u)), some (.int 0), some (.int 0), none]) C dc_Un_readData_18 rfl (by decide) rfl ?_
  refine aw_lo (lo' := [some (.ref (oa u)), some (.int 0), some (.int 0), none]) ⟨.inr rfl, .inr rfl, .inr rfl, .inr rfl, trivial⟩ ?_
  exact se_Un_readData_19 C hQ hA hR hno hfl hu 0 0 S12  hp
end C_Un_readData
section C_Un_readDatac
variable {D : va_G} {z : Nat → ClassId} {U : ut} {oa : Nat → Nat}
set_option maxRecDepth 100000 in
theorem ct_Un_readData {l : Launch} (u : Nat)  (S : cs) {K : cs → Prop} {T : Nat → cs → Prop} (hfl : l.flags = pinnedFlags ++ [noTraceFlag]) (hu : c_cl U u = 11) (hp : p_Un_readData U u S K T) : ct gG D z l n_C_Un_readData c_C_Un_readData 4 (none) 13 1300 [.ref (oa u)] (cw lt_C U oa S) 0 0 (pC_v lt_C U oa K T) := by
  refine ct_of (lo := [some (.ref (oa u)), none, none, none]) (by decide) g_ok (Nat.le_of_ble_eq_true rfl) rfl ?_
  intro X A hl C hR hQ hA hno
  exact s_Un_readData_0 C hQ hA hR hno (by rw [hl]; exact hfl) hu S hp
end C_Un_readDatac
def b_Un_readRow_156 (U : ut) (u : Nat)  (S : cs) (K : cs → Prop) (T : Nat → cs → Prop) : Prop :=
  K S
def b_Un_readRow_120 (U : ut) (u : Nat)  (S : cs) (K : cs → Prop) (T : Nat → cs → Prop) : Prop :=
  ¬ S.2.2 u 0 = NU ∧ (c_cl U (S.2.2 u 0) = 8 ∧ (¬ S.2.2 (S.2.2 u 0) 0 = NU ∧ (¬ S.2.2 u 0 = NU ∧ (c_cl U (S.2.2 (S.2.2 u 0) 0) = 9 ∧ (p_Ro_has U (S.2.2 (S.2.2 u 0) 0) (S.1 (S.2.2 u 0) 1) S (fun v134 S134 => (v134 = 0 → (b_Un_readRow_156 U u S134 K T)) ∧ (¬ (v134 = 0) → (¬ S134.2.2 u 0 = NU ∧ (¬ S134.2.2 u 0 = NU ∧ (c_cl U (S134.2.2 u 0) = 8 ∧ (p_Re_fail U (S134.2.2 u 0) 8 (S134.1 (S134.2.2 u 0) 1) S134 (fun S153 => b_Un_readRow_156 U u S153 K T) T)))))))))))
def b_Un_readRow_114 (U : ut) (u : Nat) (x1 : Int32) (x2 : Int32) (S : cs) (R38 : Int32 → Int32 → cs → Prop) (K : cs → Prop) (T : Nat → cs → Prop) : Prop :=
  R38 x1 (x2 + 1) S
def b_Un_readRow_103 (U : ut) (u : Nat) (x1 : Int32) (x2 : Int32) (x3 : Int32) (S : cs) (R38 : Int32 → Int32 → cs → Prop) (K : cs → Prop) (T : Nat → cs → Prop) : Prop :=
  (¬ x3 = 218 → (b_Un_readRow_114 U u x1 x2 S R38 K T)) ∧ (x3 = 218 → (p_Un_readData U u S (fun S111 => b_Un_readRow_114 U u x1 x2 S111 R38 K T) T))
def b_Un_readRow_94 (U : ut) (u : Nat) (x1 : Int32) (x2 : Int32) (x3 : Int32) (S : cs) (R38 : Int32 → Int32 → cs → Prop) (K : cs → Prop) (T : Nat → cs → Prop) : Prop :=
  (x1 = 0 → (b_Un_readRow_103 U u x1 x2 x3 S R38 K T)) ∧ (¬ (x1 = 0) → (p_Un_readSection U u x3 S (fun S100 => b_Un_readRow_103 U u x1 x2 x3 S100 R38 K T) T))
def b_Un_readRow_68 (U : ut) (u : Nat) (x2 : Int32) (x3 : Int32) (s0 : Int32) (S : cs) (R38 : Int32 → Int32 → cs → Prop) (K : cs → Prop) (T : Nat → cs → Prop) : Prop :=
  p_Un_canCome U u x3 S (fun v71 S71 => (¬ v71 = 0 → (b_Un_readRow_94 U u s0 x2 x3 S71 R38 K T)) ∧ (v71 = 0 → (¬ S71.2.2 u 0 = NU ∧ (¬ S71.2.2 u 0 = NU ∧ (c_cl U (S71.2.2 u 0) = 8 ∧ (p_Re_fail U (S71.2.2 u 0) 3 ((S71.1 (S71.2.2 u 0) 1) - 1) S71 (fun S91 => b_Un_readRow_94 U u s0 x2 x3 S91 R38 K T) T))))))
def b_Un_readRow_38 (U : ut) (u : Nat) (x1 : Int32) (x2 : Int32) (S : cs) (R38 : Int32 → Int32 → cs → Prop) (K : cs → Prop) (T : Nat → cs → Prop) : Prop :=
  (x1 = 0 → (b_Un_readRow_120 U u S K T)) ∧ (¬ (x1 = 0) → ((32768 ≤ x2 → (b_Un_readRow_120 U u S K T)) ∧ (¬ (32768 ≤ x2) → (¬ S.2.2 u 0 = NU ∧ (c_cl U (S.2.2 u 0) = 8 ∧ (p_Re_readMark U (S.2.2 u 0) S (fun v52 S52 => (v52 = 217 → (b_Un_readRow_68 U u x2 v52 0 S52 R38 K T)) ∧ (¬ (v52 = 217) → (b_Un_readRow_68 U u x2 v52 1 S52 R38 K T))) T))))))
def e_Un_readRow_38 (U : ut) (u : Nat) (x1 : Int32) (x2 : Int32) (S : cs) (K : cs → Prop) (T : Nat → cs → Prop) : Prop :=
  ∃ (I : Int32 → Int32 → cs → Prop) (μ : Int32 → Int32 → cs → Nat), I x1 x2 S ∧ ∀ yx1 yx2 yS, I yx1 yx2 yS → b_Un_readRow_38 U u yx1 yx2 yS (fun zx1 zx2 zS => I zx1 zx2 zS ∧ μ zx1 zx2 zS < μ yx1 yx2 yS) K T
def b_Un_readRow_34 (U : ut) (u : Nat)  (S : cs) (K : cs → Prop) (T : Nat → cs → Prop) : Prop :=
  e_Un_readRow_38 U u 1 0 S K T
def p_Un_readRow (U : ut) (u : Nat)  (S : cs) (K : cs → Prop) (T : Nat → cs → Prop) : Prop :=
  p_Un_begin U u S (fun S1 => ¬ S1.2.2 u 0 = NU ∧ (c_cl U (S1.2.2 u 0) = 8 ∧ (p_Re_readMark U (S1.2.2 u 0) S1 (fun v8 S8 => (v8 = 216 → (b_Un_readRow_34 U u S8 K T)) ∧ (¬ (v8 = 216) → (¬ S8.2.2 u 0 = NU ∧ (¬ S8.2.2 u 0 = NU ∧ (c_cl U (S8.2.2 u 0) = 8 ∧ (p_Re_fail U (S8.2.2 u 0) 3 ((S8.1 (S8.2.2 u 0) 1) - 1) S8 (fun S31 => b_Un_readRow_34 U u S31 K T) T)))))) T)))
section C_Un_readRow
variable {D : va_G} {z : Nat → ClassId} {A : Nat → Prop} {X : cx} {L0 : fw} {U : ut} {oa : Nat → Nat} {u : Nat} {K : cs → Prop} {T : Nat → cs → Prop}
set_option maxRecDepth 100000 in
set_option maxHeartbeats 1000000 in
theorem s_Un_readRow_156 (C : fcx gG D z A X R_Un c_C_Un_readRow 4 (none)) (hQ : X.2.2.2.2.2.2.2.2.2.2 = eQ gG D z X.2.2.2.2.2.2.2.1 X.2.2.2.2.1 L0 0 0 (pC_v lt_C U oa K T)) (hA : A = owA gG L0 X.2.2.2.2.1.heap.size) (hR : X.2.2.2.1 = { frames := 14, cells := 1, slots := 6, locals := 1400 }) (hno : ∀ x ∈ X.2.2.2.2.2.2.2.2.2.1.exceptionTable.toList, False) (hfl : X.2.1.flags = pinnedFlags ++ [noTraceFlag]) (hu : c_cl U u = 11)  (S : cs) (hp : b_Un_readRow_156 U u S K T) : aw gG D z A X 4 156 [some (.ref (oa u)), none, none, none] [] (cw lt_C U oa S) 0 0 := by
  unfold b_Un_readRow_156 at hp
  exact a_vret C hQ hA dc_Un_readRow_156 rfl (Or.inl ⟨S, hp, rfl, rfl⟩)
set_option maxRecDepth 100000 in
set_option maxHeartbeats 1000000 in
theorem s_Un_readRow_120 (C : fcx gG D z A X R_Un c_C_Un_readRow 4 (none)) (hQ : X.2.2.2.2.2.2.2.2.2.2 = eQ gG D z X.2.2.2.2.2.2.2.1 X.2.2.2.2.1 L0 0 0 (pC_v lt_C U oa K T)) (hA : A = owA gG L0 X.2.2.2.2.1.heap.size) (hR : X.2.2.2.1 = { frames := 14, cells := 1, slots := 6, locals := 1400 }) (hno : ∀ x ∈ X.2.2.2.2.2.2.2.2.2.1.exceptionTable.toList, False) (hfl : X.2.1.flags = pinnedFlags ++ [noTraceFlag]) (hu : c_cl U u = 11)  (S : cs) (hp : b_Un_readRow_120 U u S K T) : aw gG D z A X 4 120 [some (.ref (oa u)), none, none, none] [] (cw lt_C U oa S) 0 0 := by
  unfold b_Un_readRow_120 at hp
  refine a_aload_n C dc_Un_readRow_120 rfl rfl ?_
  refine c_getR C u 0 dc_Un_readRow_121 hu rfl rfl (Nat.le_of_ble_eq_true rfl) f_Un_12 rfl hp.1 ?_
  have hp := hp.2
  have hc1 := hp.1
  have hp := hp.2
  refine c_getRN C (S.2.2 u 0) 0 dc_Un_readRow_124 hc1 rfl rfl (Nat.le_of_ble_eq_true rfl) f_Un_90 rfl hp.1 ?_
  have hp := hp.2
  refine a_aload_n C dc_Un_readRow_127 rfl rfl ?_
  refine c_getR C u 0 dc_Un_readRow_128 hu rfl rfl (Nat.le_of_ble_eq_true rfl) f_Un_12 rfl hp.1 ?_
  have hp := hp.2
  refine c_getIN C (S.2.2 u 0) 1 dc_Un_readRow_131 hc1 rfl rfl (Nat.le_of_ble_eq_true rfl) f_Un_70 (Nat.le_of_ble_eq_true rfl) ?_
  have hc2 := hp.1
  have hp := hp.2
  refine c_call (rest := []) (av := .ref (oa (S.2.2 (S.2.2 u 0) 0)) :: [.int (S.1 (S.2.2 u 0) 1)]) C dc_Un_readRow_134 (ct_Ro_has (S.2.2 (S.2.2 u 0) 0) (S.1 (S.2.2 u 0) 1) S hc2 hp) cd_C_Ro_has i_Ro (Nat.le_of_ble_eq_true rfl) (by rw [hR]; exact Nat.le_of_ble_eq_true rfl) (by rw [hR]; exact Nat.le_of_ble_eq_true rfl) (by rw [hR]; exact Nat.le_of_ble_eq_true rfl) (by rw [hR]; exact Nat.le_of_ble_eq_true rfl) (inv_V C (S.2.2 (S.2.2 u 0) 0) dc_Un_readRow_134 l_Un_94 im_C_Ro_has se_C_Ro_has cd_C_Ro_has ⟨by decide, by decide⟩ ln_C_Ro_has rfl rfl (cw_obj hc2 rfl) rfl rfl) (fun oc L1 hL => ?_)
  obtain ⟨v134, S134, hp, rfl, rfl⟩ := hL.resolve_right pC_no
  refine ⟨_, rfl, ?_⟩
  refine aw_eq (lo' := _) (st' := [.int v134]) (L' := (cw lt_C U oa S134)) rfl rfl rfl ?_
  refine a_if_eq (tgt := 156) C dc_Un_readRow_137 (by decide) ⟨fun hc => ?_, fun hc => ?_⟩
  · have hp := hp.1 hc
    refine aw_lo (lo' := [some (.ref (oa u)), none, none, none]) ⟨.inr rfl, .inr rfl, .inr rfl, .inr rfl, trivial⟩ ?_
    exact s_Un_readRow_156 C hQ hA hR hno hfl hu S134  hp
  · have hp := hp.2 hc
    refine a_aload_n C dc_Un_readRow_140 rfl rfl ?_
    refine c_getR C u 0 dc_Un_readRow_141 hu rfl rfl (Nat.le_of_ble_eq_true rfl) f_Un_12 rfl hp.1 ?_
    have hp := hp.2
    refine a_bipush (v := 8) C dc_Un_readRow_144 (by decide) ?_
    refine a_aload_n C dc_Un_readRow_146 rfl rfl ?_
    refine c_getR C u 0 dc_Un_readRow_147 hu rfl rfl (Nat.le_of_ble_eq_true rfl) f_Un_12 rfl hp.1 ?_
    have hp := hp.2
    have hc3 := hp.1
    have hp := hp.2
    refine c_getIN C (S134.2.2 u 0) 1 dc_Un_readRow_150 hc3 rfl rfl (Nat.le_of_ble_eq_true rfl) f_Un_70 (Nat.le_of_ble_eq_true rfl) ?_
    refine c_callT (rest := []) (av := .ref (oa (S134.2.2 u 0)) :: [.int 8, .int (S134.1 (S134.2.2 u 0) 1)]) C dc_Un_readRow_153 (ct_Re_fail (S134.2.2 u 0) 8 (S134.1 (S134.2.2 u 0) 1) S134 hfl hc3 hp) cd_C_Re_fail i_Re (Nat.le_of_ble_eq_true rfl) (by rw [hR]; exact Nat.le_of_ble_eq_true rfl) (by rw [hR]; exact Nat.le_of_ble_eq_true rfl) (by rw [hR]; exact Nat.le_of_ble_eq_true rfl) (by rw [hR]; exact Nat.le_of_ble_eq_true rfl) (inv_V C (S134.2.2 u 0) dc_Un_readRow_153 l_Un_74 im_C_Re_fail se_C_Re_fail cd_C_Re_fail ⟨by decide, by decide⟩ ln_C_Re_fail rfl rfl (cw_obj hc3 rfl) rfl rfl) (fun oc L1 hL => ?_)
    rcases hL with ⟨S153, hp, rfl, rfl⟩ | ⟨c9, a9, S9, hp, rfl, rfl⟩
    rotate_left
    · exact Or.inr ⟨a9, rfl, t_out C hQ hA (fun x hx => (hno x hx).elim) (Or.inr ⟨c9, a9, S9, hp, rfl, rfl⟩) (Nat.le_of_ble_eq_true rfl) (Nat.le_of_ble_eq_true rfl)⟩
    refine Or.inl ⟨_, rfl, ?_⟩
    refine aw_eq (lo' := _) (st' := []) (L' := (cw lt_C U oa S153)) rfl rfl rfl ?_
    refine aw_lo (lo' := [some (.ref (oa u)), none, none, none]) ⟨.inr rfl, .inr rfl, .inr rfl, .inr rfl, trivial⟩ ?_
    exact s_Un_readRow_156 C hQ hA hR hno hfl hu S153  hp
set_option maxRecDepth 100000 in
set_option maxHeartbeats 1000000 in
theorem s_Un_readRow_114 (C : fcx gG D z A X R_Un c_C_Un_readRow 4 (none)) (hQ : X.2.2.2.2.2.2.2.2.2.2 = eQ gG D z X.2.2.2.2.2.2.2.1 X.2.2.2.2.1 L0 0 0 (pC_v lt_C U oa K T)) (hA : A = owA gG L0 X.2.2.2.2.1.heap.size) (hR : X.2.2.2.1 = { frames := 14, cells := 1, slots := 6, locals := 1400 }) (hno : ∀ x ∈ X.2.2.2.2.2.2.2.2.2.1.exceptionTable.toList, False) (hfl : X.2.1.flags = pinnedFlags ++ [noTraceFlag]) (hu : c_cl U u = 11) (x1 : Int32) (x2 : Int32) (S : cs) (R38 : Int32 → Int32 → cs → Prop) (hR38 : ∀ yx1 yx2 yS, R38 yx1 yx2 yS → aw gG D z A X 4 38 [some (.ref (oa u)), some (.int yx1), some (.int yx2), none] [] (cw lt_C U oa yS) 0 0) (hp : b_Un_readRow_114 U u x1 x2 S R38 K T) : aw gG D z A X 4 114 [some (.ref (oa u)), some (.int x1), some (.int x2), none] [] (cw lt_C U oa S) 0 0 := by
  unfold b_Un_readRow_114 at hp
  refine a_iinc (v := x2 + 1) (lo' := [some (.ref (oa u)), some (.int x1), some (.int (x2 + 1)), none]) C dc_Un_readRow_114 rfl rfl (by decide) rfl ?_
  refine a_goto (tgt := 38) C dc_Un_readRow_117 (by decide) ?_
  refine aw_lo (lo' := [some (.ref (oa u)), some (.int x1), some (.int (x2 + 1)), none]) ⟨.inr rfl, .inr rfl, .inr rfl, .inr rfl, trivial⟩ ?_
  exact hR38 x1 (x2 + 1) S hp
set_option maxRecDepth 100000 in
set_option maxHeartbeats 1000000 in
theorem s_Un_readRow_103 (C : fcx gG D z A X R_Un c_C_Un_readRow 4 (none)) (hQ : X.2.2.2.2.2.2.2.2.2.2 = eQ gG D z X.2.2.2.2.2.2.2.1 X.2.2.2.2.1 L0 0 0 (pC_v lt_C U oa K T)) (hA : A = owA gG L0 X.2.2.2.2.1.heap.size) (hR : X.2.2.2.1 = { frames := 14, cells := 1, slots := 6, locals := 1400 }) (hno : ∀ x ∈ X.2.2.2.2.2.2.2.2.2.1.exceptionTable.toList, False) (hfl : X.2.1.flags = pinnedFlags ++ [noTraceFlag]) (hu : c_cl U u = 11) (x1 : Int32) (x2 : Int32) (x3 : Int32) (S : cs) (R38 : Int32 → Int32 → cs → Prop) (hR38 : ∀ yx1 yx2 yS, R38 yx1 yx2 yS → aw gG D z A X 4 38 [some (.ref (oa u)), some (.int yx1), some (.int yx2), none] [] (cw lt_C U oa yS) 0 0) (hp : b_Un_readRow_103 U u x1 x2 x3 S R38 K T) : aw gG D z A X 4 103 [some (.ref (oa u)), some (.int x1), some (.int x2), some (.int x3)] [] (cw lt_C U oa S) 0 0 := by
  unfold b_Un_readRow_103 at hp
  refine a_iload_n C dc_Un_readRow_103 rfl rfl ?_
  refine a_sipush (v := 218) C dc_Un_readRow_104 (by decide) ?_
  refine a_icmp_ne (tgt := 114) C dc_Un_readRow_107 (by decide) ⟨fun hc => ?_, fun hc => ?_⟩
  · have hp := hp.1 hc
    refine aw_lo (lo' := [some (.ref (oa u)), some (.int x1), some (.int x2), none]) ⟨.inr rfl, .inr rfl, .inr rfl, .inl rfl, trivial⟩ ?_
    exact s_Un_readRow_114 C hQ hA hR hno hfl hu x1 x2 S R38 hR38 hp
  · have hp := hp.2 hc
    refine a_aload_n C dc_Un_readRow_110 rfl rfl ?_
    refine c_callT (rest := []) (av := .ref (oa u) :: []) C dc_Un_readRow_111 (ct_Un_readData u S hfl hu hp) cd_C_Un_readData i_Un (Nat.le_of_ble_eq_true rfl) (by rw [hR]; exact Nat.le_of_ble_eq_true rfl) (by rw [hR]; exact Nat.le_of_ble_eq_true rfl) (by rw [hR]; exact Nat.le_of_ble_eq_true rfl) (by rw [hR]; exact Nat.le_of_ble_eq_true rfl) (inv_V C u dc_Un_readRow_111 l_Un_87 im_C_Un_readData se_C_Un_readData cd_C_Un_readData ⟨by decide, by decide⟩ ln_C_Un_readData rfl rfl (cw_obj hu rfl) rfl rfl) (fun oc L1 hL => ?_)
    rcases hL with ⟨S111, hp, rfl, rfl⟩ | ⟨c9, a9, S9, hp, rfl, rfl⟩
    rotate_left
    · exact Or.inr ⟨a9, rfl, t_out C hQ hA (fun x hx => (hno x hx).elim) (Or.inr ⟨c9, a9, S9, hp, rfl, rfl⟩) (Nat.le_of_ble_eq_true rfl) (Nat.le_of_ble_eq_true rfl)⟩
    refine Or.inl ⟨_, rfl, ?_⟩
    refine aw_eq (lo' := _) (st' := []) (L' := (cw lt_C U oa S111)) rfl rfl rfl ?_
    refine aw_lo (lo' := [some (.ref (oa u)), some (.int x1), some (.int x2), none]) ⟨.inr rfl, .inr rfl, .inr rfl, .inl rfl, trivial⟩ ?_
    exact s_Un_readRow_114 C hQ hA hR hno hfl hu x1 x2 S111 R38 hR38 hp
set_option maxRecDepth 100000 in
set_option maxHeartbeats 1000000 in
theorem s_Un_readRow_94 (C : fcx gG D z A X R_Un c_C_Un_readRow 4 (none)) (hQ : X.2.2.2.2.2.2.2.2.2.2 = eQ gG D z X.2.2.2.2.2.2.2.1 X.2.2.2.2.1 L0 0 0 (pC_v lt_C U oa K T)) (hA : A = owA gG L0 X.2.2.2.2.1.heap.size) (hR : X.2.2.2.1 = { frames := 14, cells := 1, slots := 6, locals := 1400 }) (hno : ∀ x ∈ X.2.2.2.2.2.2.2.2.2.1.exceptionTable.toList, False) (hfl : X.2.1.flags = pinnedFlags ++ [noTraceFlag]) (hu : c_cl U u = 11) (x1 : Int32) (x2 : Int32) (x3 : Int32) (S : cs) (R38 : Int32 → Int32 → cs → Prop) (hR38 : ∀ yx1 yx2 yS, R38 yx1 yx2 yS → aw gG D z A X 4 38 [some (.ref (oa u)), some (.int yx1), some (.int yx2), none] [] (cw lt_C U oa yS) 0 0) (hp : b_Un_readRow_94 U u x1 x2 x3 S R38 K T) : aw gG D z A X 4 94 [some (.ref (oa u)), some (.int x1), some (.int x2), some (.int x3)] [] (cw lt_C U oa S) 0 0 := by
  unfold b_Un_readRow_94 at hp
  refine a_iload_n C dc_Un_readRow_94 rfl rfl ?_
  refine a_if_eq (tgt := 103) C dc_Un_readRow_95 (by decide) ⟨fun hc => ?_, fun hc => ?_⟩
  · have hp := hp.1 hc
    refine aw_lo (lo' := [some (.ref (oa u)), some (.int x1), some (.int x2), some (.int x3)]) ⟨.inr rfl, .inr rfl, .inr rfl, .inr rfl, trivial⟩ ?_
    exact s_Un_readRow_103 C hQ hA hR hno hfl hu x1 x2 x3 S R38 hR38 hp
  · have hp := hp.2 hc
    refine a_aload_n C dc_Un_readRow_98 rfl rfl ?_
    refine a_iload_n C dc_Un_readRow_99 rfl rfl ?_
    refine c_callT (rest := []) (av := .ref (oa u) :: [.int x3]) C dc_Un_readRow_100 (ct_Un_readSection u x3 S hfl hu hp) cd_C_Un_readSection i_Un (Nat.le_of_ble_eq_true rfl) (by rw [hR]; exact Nat.le_of_ble_eq_true rfl) (by rw [hR]; exact Nat.le_of_ble_eq_true rfl) (by rw [hR]; exact Nat.le_of_ble_eq_true rfl) (by rw [hR]; exact Nat.le_of_ble_eq_true rfl) (inv_V C u dc_Un_readRow_100 l_Un_83 im_C_Un_readSection se_C_Un_readSection cd_C_Un_readSection ⟨by decide, by decide⟩ ln_C_Un_readSection rfl rfl (cw_obj hu rfl) rfl rfl) (fun oc L1 hL => ?_)
    rcases hL with ⟨S100, hp, rfl, rfl⟩ | ⟨c9, a9, S9, hp, rfl, rfl⟩
    rotate_left
    · exact Or.inr ⟨a9, rfl, t_out C hQ hA (fun x hx => (hno x hx).elim) (Or.inr ⟨c9, a9, S9, hp, rfl, rfl⟩) (Nat.le_of_ble_eq_true rfl) (Nat.le_of_ble_eq_true rfl)⟩
    refine Or.inl ⟨_, rfl, ?_⟩
    refine aw_eq (lo' := _) (st' := []) (L' := (cw lt_C U oa S100)) rfl rfl rfl ?_
    refine aw_lo (lo' := [some (.ref (oa u)), some (.int x1), some (.int x2), some (.int x3)]) ⟨.inr rfl, .inr rfl, .inr rfl, .inr rfl, trivial⟩ ?_
    exact s_Un_readRow_103 C hQ hA hR hno hfl hu x1 x2 x3 S100 R38 hR38 hp
set_option maxRecDepth 100000 in
set_option maxHeartbeats 1000000 in
theorem s_Un_readRow_68 (C : fcx gG D z A X R_Un c_C_Un_readRow 4 (none)) (hQ : X.2.2.2.2.2.2.2.2.2.2 = eQ gG D z X.2.2.2.2.2.2.2.1 X.2.2.2.2.1 L0 0 0 (pC_v lt_C U oa K T)) (hA : A = owA gG L0 X.2.2.2.2.1.heap.size) (hR : X.2.2.2.1 = { frames := 14, cells := 1, slots := 6, locals := 1400 }) (hno : ∀ x ∈ X.2.2.2.2.2.2.2.2.2.1.exceptionTable.toList, False) (hfl : X.2.1.flags = pinnedFlags ++ [noTraceFlag]) (hu : c_cl U u = 11) (x2 : Int32) (x3 : Int32) (s0 : Int32) (S : cs) (R38 : Int32 → Int32 → cs → Prop) (hR38 : ∀ yx1 yx2 yS, R38 yx1 yx2 yS → aw gG D z A X 4 38 [some (.ref (oa u)), some (.int yx1), some (.int yx2), none] [] (cw lt_C U oa yS) 0 0) (hp : b_Un_readRow_68 U u x2 x3 s0 S R38 K T) : aw gG D z A X 4 68 [some (.ref (oa u)), none, some (.int x2), some (.int x3)] [.int s0] (cw lt_C U oa S) 0 0 := by
  unfold b_Un_readRow_68 at hp
  refine a_istore_n (lo' := [some (.ref (oa u)), some (.int s0), some (.int x2), some (.int x3)]) C dc_Un_readRow_68 rfl (by decide) rfl ?_
  refine a_aload_n C dc_Un_readRow_69 rfl rfl ?_
  refine a_iload_n C dc_Un_readRow_70 rfl rfl ?_
  refine c_call (rest := []) (av := .ref (oa u) :: [.int x3]) C dc_Un_readRow_71 (ct_Un_canCome u x3 S hu hp) cd_C_Un_canCome i_Un (Nat.le_of_ble_eq_true rfl) (by rw [hR]; exact Nat.le_of_ble_eq_true rfl) (by rw [hR]; exact Nat.le_of_ble_eq_true rfl) (by rw [hR]; exact Nat.le_of_ble_eq_true rfl) (by rw [hR]; exact Nat.le_of_ble_eq_true rfl) (inv_V C u dc_Un_readRow_71 l_Un_79 im_C_Un_canCome se_C_Un_canCome cd_C_Un_canCome ⟨by decide, by decide⟩ ln_C_Un_canCome rfl rfl (cw_obj hu rfl) rfl rfl) (fun oc L1 hL => ?_)
  obtain ⟨v71, S71, hp, rfl, rfl⟩ := hL.resolve_right pC_no
  refine ⟨_, rfl, ?_⟩
  refine aw_eq (lo' := _) (st' := [.int v71]) (L' := (cw lt_C U oa S71)) rfl rfl rfl ?_
  refine a_if_ne (tgt := 94) C dc_Un_readRow_74 (by decide) ⟨fun hc => ?_, fun hc => ?_⟩
  · have hp := hp.1 hc
    refine aw_lo (lo' := [some (.ref (oa u)), some (.int s0), some (.int x2), some (.int x3)]) ⟨.inr rfl, .inr rfl, .inr rfl, .inr rfl, trivial⟩ ?_
    exact s_Un_readRow_94 C hQ hA hR hno hfl hu s0 x2 x3 S71 R38 hR38 hp
  · have hp := hp.2 hc
    refine a_aload_n C dc_Un_readRow_77 rfl rfl ?_
    refine c_getR C u 0 dc_Un_readRow_78 hu rfl rfl (Nat.le_of_ble_eq_true rfl) f_Un_12 rfl hp.1 ?_
    have hp := hp.2
    refine a_iconst (v := 3) C dc_Un_readRow_81 (by decide) ?_
    refine a_aload_n C dc_Un_readRow_82 rfl rfl ?_
    refine c_getR C u 0 dc_Un_readRow_83 hu rfl rfl (Nat.le_of_ble_eq_true rfl) f_Un_12 rfl hp.1 ?_
    have hp := hp.2
    have hc4 := hp.1
    have hp := hp.2
    refine c_getIN C (S71.2.2 u 0) 1 dc_Un_readRow_86 hc4 rfl rfl (Nat.le_of_ble_eq_true rfl) f_Un_70 (Nat.le_of_ble_eq_true rfl) ?_
    refine a_iconst (v := 1) C dc_Un_readRow_89 (by decide) ?_
    refine a_isub C dc_Un_readRow_90 ?_
    refine c_callT (rest := []) (av := .ref (oa (S71.2.2 u 0)) :: [.int 3, .int ((S71.1 (S71.2.2 u 0) 1) - 1)]) C dc_Un_readRow_91 (ct_Re_fail (S71.2.2 u 0) 3 ((S71.1 (S71.2.2 u 0) 1) - 1) S71 hfl hc4 hp) cd_C_Re_fail i_Re (Nat.le_of_ble_eq_true rfl) (by rw [hR]; exact Nat.le_of_ble_eq_true rfl) (by rw [hR]; exact Nat.le_of_ble_eq_true rfl) (by rw [hR]; exact Nat.le_of_ble_eq_true rfl) (by rw [hR]; exact Nat.le_of_ble_eq_true rfl) (inv_V C (S71.2.2 u 0) dc_Un_readRow_91 l_Un_74 im_C_Re_fail se_C_Re_fail cd_C_Re_fail ⟨by decide, by decide⟩ ln_C_Re_fail rfl rfl (cw_obj hc4 rfl) rfl rfl) (fun oc L1 hL => ?_)
    rcases hL with ⟨S91, hp, rfl, rfl⟩ | ⟨c9, a9, S9, hp, rfl, rfl⟩
    rotate_left
    · exact Or.inr ⟨a9, rfl, t_out C hQ hA (fun x hx => (hno x hx).elim) (Or.inr ⟨c9, a9, S9, hp, rfl, rfl⟩) (Nat.le_of_ble_eq_true rfl) (Nat.le_of_ble_eq_true rfl)⟩
    refine Or.inl ⟨_, rfl, ?_⟩
    refine aw_eq (lo' := _) (st' := []) (L' := (cw lt_C U oa S91)) rfl rfl rfl ?_
    refine aw_lo (lo' := [some (.ref (oa u)), some (.int s0), some (.int x2), some (.int x3)]) ⟨.inr rfl, .inr rfl, .inr rfl, .inr rfl, trivial⟩ ?_
    exact s_Un_readRow_94 C hQ hA hR hno hfl hu s0 x2 x3 S91 R38 hR38 hp
set_option maxRecDepth 100000 in
set_option maxHeartbeats 1000000 in
theorem s_Un_readRow_38 (C : fcx gG D z A X R_Un c_C_Un_readRow 4 (none)) (hQ : X.2.2.2.2.2.2.2.2.2.2 = eQ gG D z X.2.2.2.2.2.2.2.1 X.2.2.2.2.1 L0 0 0 (pC_v lt_C U oa K T)) (hA : A = owA gG L0 X.2.2.2.2.1.heap.size) (hR : X.2.2.2.1 = { frames := 14, cells := 1, slots := 6, locals := 1400 }) (hno : ∀ x ∈ X.2.2.2.2.2.2.2.2.2.1.exceptionTable.toList, False) (hfl : X.2.1.flags = pinnedFlags ++ [noTraceFlag]) (hu : c_cl U u = 11) (x1 : Int32) (x2 : Int32) (S : cs) (R38 : Int32 → Int32 → cs → Prop) (hR38 : ∀ yx1 yx2 yS, R38 yx1 yx2 yS → aw gG D z A X 4 38 [some (.ref (oa u)), some (.int yx1), some (.int yx2), none] [] (cw lt_C U oa yS) 0 0) (hp : b_Un_readRow_38 U u x1 x2 S R38 K T) : aw gG D z A X 4 38 [some (.ref (oa u)), some (.int x1), some (.int x2), none] [] (cw lt_C U oa S) 0 0 := by
  unfold b_Un_readRow_38 at hp
  refine a_iload_n C dc_Un_readRow_38 rfl rfl ?_
  refine a_if_eq (tgt := 120) C dc_Un_readRow_39 (by decide) ⟨fun hc => ?_, fun hc => ?_⟩
  · have hp := hp.1 hc
    refine aw_lo (lo' := [some (.ref (oa u)), none, none, none]) ⟨.inr rfl, .inl rfl, .inl rfl, .inr rfl, trivial⟩ ?_
    exact s_Un_readRow_120 C hQ hA hR hno hfl hu S  hp
  · have hp := hp.2 hc
    refine a_iload_n C dc_Un_readRow_42 rfl rfl ?_
    refine a_ldc (v := 32768) C dc_Un_readRow_43 k_Un_78 ?_
    refine a_icmp_ge (tgt := 120) C dc_Un_readRow_45 (by decide) ⟨fun hc => ?_, fun hc => ?_⟩
    · have hp := hp.1 hc
      refine aw_lo (lo' := [some (.ref (oa u)), none, none, none]) ⟨.inr rfl, .inl rfl, .inl rfl, .inr rfl, trivial⟩ ?_
      exact s_Un_readRow_120 C hQ hA hR hno hfl hu S  hp
    · have hp := hp.2 hc
      refine a_aload_n C dc_Un_readRow_48 rfl rfl ?_
      refine c_getR C u 0 dc_Un_readRow_49 hu rfl rfl (Nat.le_of_ble_eq_true rfl) f_Un_12 rfl hp.1 ?_
      have hp := hp.2
      have hc5 := hp.1
      have hp := hp.2
      refine c_callT (rest := []) (av := .ref (oa (S.2.2 u 0)) :: []) C dc_Un_readRow_52 (ct_Re_readMark (S.2.2 u 0) S hfl hc5 hp) cd_C_Re_readMark i_Re (Nat.le_of_ble_eq_true rfl) (by rw [hR]; exact Nat.le_of_ble_eq_true rfl) (by rw [hR]; exact Nat.le_of_ble_eq_true rfl) (by rw [hR]; exact Nat.le_of_ble_eq_true rfl) (by rw [hR]; exact Nat.le_of_ble_eq_true rfl) (inv_V C (S.2.2 u 0) dc_Un_readRow_52 l_Un_66 im_C_Re_readMark se_C_Re_readMark cd_C_Re_readMark ⟨by decide, by decide⟩ ln_C_Re_readMark rfl rfl (cw_obj hc5 rfl) rfl rfl) (fun oc L1 hL => ?_)
      rcases hL with ⟨v52, S52, hp, rfl, rfl⟩ | ⟨c9, a9, S9, hp, rfl, rfl⟩
      rotate_left
      · exact Or.inr ⟨a9, rfl, t_out C hQ hA (fun x hx => (hno x hx).elim) (Or.inr ⟨c9, a9, S9, hp, rfl, rfl⟩) (Nat.le_of_ble_eq_true rfl) (Nat.le_of_ble_eq_true rfl)⟩
      refine Or.inl ⟨_, rfl, ?_⟩
      refine aw_eq (lo' := _) (st' := [.int v52]) (L' := (cw lt_C U oa S52)) rfl rfl rfl ?_
      refine a_istore_n (lo' := [some (.ref (oa u)), some (.int x1), some (.int x2), some (.int v52)]) C dc_Un_readRow_55 rfl (by decide) rfl ?_
      refine a_iload_n C dc_Un_readRow_56 rfl rfl ?_
      refine a_sipush (v := 217) C dc_Un_readRow_57 (by decide) ?_
      refine a_icmp_eq (tgt := 67) C dc_Un_readRow_60 (by decide) ⟨fun hc => ?_, fun hc => ?_⟩
      · have hp := hp.1 hc
        refine a_iconst (v := 0) C dc_Un_readRow_67 (by decide) ?_
        refine aw_lo (lo' := [some (.ref (oa u)), none, some (.int x2), some (.int v52)]) ⟨.inr rfl, .inl rfl, .inr rfl, .inr rfl, trivial⟩ ?_
        exact s_Un_readRow_68 C hQ hA hR hno hfl hu x2 v52 0 S52 R38 hR38 hp
      · have hp := hp.2 hc
        refine a_iconst (v := 1) C dc_Un_readRow_63 (by decide) ?_
        refine a_goto (tgt := 68) C dc_Un_readRow_64 (by decide) ?_
        refine aw_lo (lo' := [some (.ref (oa u)), none, some (.int x2), some (.int v52)]) ⟨.inr rfl, .inl rfl, .inr rfl, .inr rfl, trivial⟩ ?_
        exact s_Un_readRow_68 C hQ hA hR hno hfl hu x2 v52 1 S52 R38 hR38 hp
set_option maxRecDepth 100000 in
set_option maxHeartbeats 1000000 in
theorem se_Un_readRow_38 (C : fcx gG D z A X R_Un c_C_Un_readRow 4 (none)) (hQ : X.2.2.2.2.2.2.2.2.2.2 = eQ gG D z X.2.2.2.2.2.2.2.1 X.2.2.2.2.1 L0 0 0 (pC_v lt_C U oa K T)) (hA : A = owA gG L0 X.2.2.2.2.1.heap.size) (hR : X.2.2.2.1 = { frames := 14, cells := 1, slots := 6, locals := 1400 }) (hno : ∀ x ∈ X.2.2.2.2.2.2.2.2.2.1.exceptionTable.toList, False) (hfl : X.2.1.flags = pinnedFlags ++ [noTraceFlag]) (hu : c_cl U u = 11) (x1 : Int32) (x2 : Int32) (S : cs) (hp : e_Un_readRow_38 U u x1 x2 S K T) : aw gG D z A X 4 38 [some (.ref (oa u)), some (.int x1), some (.int x2), none] [] (cw lt_C U oa S) 0 0 := by
  obtain ⟨I, μ, h0, hs⟩ := hp
  have key : ∀ (n : Nat) (yx1 : Int32) (yx2 : Int32) (yS : cs), μ yx1 yx2 yS < n → I yx1 yx2 yS → aw gG D z A X 4 38 [some (.ref (oa u)), some (.int yx1), some (.int yx2), none] [] (cw lt_C U oa yS) 0 0 := by
    intro n
    induction n with
    | zero => intro yx1 yx2 yS h; omega
    | succ n ih =>
      intro yx1 yx2 yS hn hI
      exact s_Un_readRow_38 C hQ hA hR hno hfl hu yx1 yx2 yS _ (fun zx1 zx2 zS hw => ih zx1 zx2 zS (by omega) hw.1) (hs yx1 yx2 yS hI)
  exact key (μ x1 x2 S + 1) x1 x2 S (Nat.lt_succ_self _) h0
set_option maxRecDepth 100000 in
set_option maxHeartbeats 1000000 in
theorem s_Un_readRow_34 (C : fcx gG D z A X R_Un c_C_Un_readRow 4 (none)) (hQ : X.2.2.2.2.2.2.2.2.2.2 = eQ gG D z X.2.2.2.2.2.2.2.1 X.2.2.2.2.1 L0 0 0 (pC_v lt_C U oa K T)) (hA : A = owA gG L0 X.2.2.2.2.1.heap.size) (hR : X.2.2.2.1 = { frames := 14, cells := 1, slots := 6, locals := 1400 }) (hno : ∀ x ∈ X.2.2.2.2.2.2.2.2.2.1.exceptionTable.toList, False) (hfl : X.2.1.flags = pinnedFlags ++ [noTraceFlag]) (hu : c_cl U u = 11)  (S : cs) (hp : b_Un_readRow_34 U u S K T) : aw gG D z A X 4 34 [some (.ref (oa u)), none, none, none] [] (cw lt_C U oa S) 0 0 := by
  unfold b_Un_readRow_34 at hp
  refine a_iconst (v := 1) C dc_Un_readRow_34 (by decide) ?_
  refine a_istore_n (lo' := [some (.ref (oa u)), some (.int 1), none, none]) C dc_Un_readRow_35 rfl (by decide) rfl ?_
  refine a_iconst (v := 0) C dc_Un_readRow_36 (by decide) ?_
  refine a_istore_n (lo' := [some (.ref (oa u)), some (.int 1), some (.int 0), none]) C dc_Un_readRow_37 rfl (by decide) rfl ?_
  refine aw_lo (lo' := [some (.ref (oa u)), some (.int 1), some (.int 0), none]) ⟨.inr rfl, .inr rfl, .inr rfl, .inr rfl, trivial⟩ ?_
  exact se_Un_readRow_38 C hQ hA hR hno hfl hu 1 0 S  hp
set_option maxRecDepth 100000 in
set_option maxHeartbeats 1000000 in
theorem s_Un_readRow_0 (C : fcx gG D z A X R_Un c_C_Un_readRow 4 (none)) (hQ : X.2.2.2.2.2.2.2.2.2.2 = eQ gG D z X.2.2.2.2.2.2.2.1 X.2.2.2.2.1 L0 0 0 (pC_v lt_C U oa K T)) (hA : A = owA gG L0 X.2.2.2.2.1.heap.size) (hR : X.2.2.2.1 = { frames := 14, cells := 1, slots := 6, locals := 1400 }) (hno : ∀ x ∈ X.2.2.2.2.2.2.2.2.2.1.exceptionTable.toList, False) (hfl : X.2.1.flags = pinnedFlags ++ [noTraceFlag]) (hu : c_cl U u = 11)  (S : cs) (hp : p_Un_readRow U u S K T) : aw gG D z A X 4 0 [some (.ref (oa u)), none, none, none] [] (cw lt_C U oa S) 0 0 := by
  unfold p_Un_readRow at hp
  refine a_aload_n C dc_Un_readRow_0 rfl rfl ?_
  refine c_call (rest := []) (av := .ref (oa u) :: []) C dc_Un_readRow_1 (ct_Un_begin u S hu hp) cd_C_Un_begin i_Un (Nat.le_of_ble_eq_true rfl) (by rw [hR]; exact Nat.le_of_ble_eq_true rfl) (by rw [hR]; exact Nat.le_of_ble_eq_true rfl) (by rw [hR]; exact Nat.le_of_ble_eq_true rfl) (by rw [hR]; exact Nat.le_of_ble_eq_true rfl) (inv_V C u dc_Un_readRow_1 l_Un_63 im_C_Un_begin se_C_Un_begin cd_C_Un_begin ⟨by decide, by decide⟩ ln_C_Un_begin rfl rfl (cw_obj hu rfl) rfl rfl) (fun oc L1 hL => ?_)
  obtain ⟨S1, hp, rfl, rfl⟩ := hL.resolve_right pC_no
  refine ⟨_, rfl, ?_⟩
  refine aw_eq (lo' := _) (st' := []) (L' := (cw lt_C U oa S1)) rfl rfl rfl ?_
  refine a_aload_n C dc_Un_readRow_4 rfl rfl ?_
  refine c_getR C u 0 dc_Un_readRow_5 hu rfl rfl (Nat.le_of_ble_eq_true rfl) f_Un_12 rfl hp.1 ?_
  have hp := hp.2
  have hc6 := hp.1
  have hp := hp.2
  refine c_callT (rest := []) (av := .ref (oa (S1.2.2 u 0)) :: []) C dc_Un_readRow_8 (ct_Re_readMark (S1.2.2 u 0) S1 hfl hc6 hp) cd_C_Re_readMark i_Re (Nat.le_of_ble_eq_true rfl) (by rw [hR]; exact Nat.le_of_ble_eq_true rfl) (by rw [hR]; exact Nat.le_of_ble_eq_true rfl) (by rw [hR]; exact Nat.le_of_ble_eq_true rfl) (by rw [hR]; exact Nat.le_of_ble_eq_true rfl) (inv_V C (S1.2.2 u 0) dc_Un_readRow_8 l_Un_66 im_C_Re_readMark se_C_Re_readMark cd_C_Re_readMark ⟨by decide, by decide⟩ ln_C_Re_readMark rfl rfl (cw_obj hc6 rfl) rfl rfl) (fun oc L1 hL => ?_)
  rcases hL with ⟨v8, S8, hp, rfl, rfl⟩ | ⟨c9, a9, S9, hp, rfl, rfl⟩
  rotate_left
  · exact Or.inr ⟨a9, rfl, t_out C hQ hA (fun x hx => (hno x hx).elim) (Or.inr ⟨c9, a9, S9, hp, rfl, rfl⟩) (Nat.le_of_ble_eq_true rfl) (Nat.le_of_ble_eq_true rfl)⟩
  refine Or.inl ⟨_, rfl, ?_⟩
  refine aw_eq (lo' := _) (st' := [.int v8]) (L' := (cw lt_C U oa S8)) rfl rfl rfl ?_
  refine a_sipush (v := 216) C dc_Un_readRow_11 (by decide) ?_
  refine a_icmp_eq (tgt := 34) C dc_Un_readRow_14 (by decide) ⟨fun hc => ?_, fun hc => ?_⟩
  · have hp := hp.1 hc
    refine aw_lo (lo' := [some (.ref (oa u)), none, none, none]) ⟨.inr rfl, .inr rfl, .inr rfl, .inr rfl, trivial⟩ ?_
    exact s_Un_readRow_34 C hQ hA hR hno hfl hu S8  hp
  · have hp := hp.2 hc
    refine a_aload_n C dc_Un_readRow_17 rfl rfl ?_
    refine c_getR C u 0 dc_Un_readRow_18 hu rfl rfl (Nat.le_of_ble_eq_true rfl) f_Un_12 rfl hp.1 ?_
    have hp := hp.2
    refine a_iconst (v := 3) C dc_Un_readRow_21 (by decide) ?_
    refine a_aload_n C dc_Un_readRow_22 rfl rfl ?_
    refine c_getR C u 0 dc_Un_readRow_23 hu rfl rfl (Nat.le_of_ble_eq_true rfl) f_Un_12 rfl hp.1 ?_
    have hp := hp.2
    have hc7 := hp.1
    have hp := hp.2
    refine c_getIN C (S8.2.2 u 0) 1 dc_Un_readRow_26 hc7 rfl rfl (Nat.le_of_ble_eq_true rfl) f_Un_70 (Nat.le_of_ble_eq_true rfl) ?_
    refine a_iconst (v := 1) C dc_Un_readRow_29 (by decide) ?_
    refine a_isub C dc_Un_readRow_30 ?_
    refine c_callT (rest := []) (av := .ref (oa (S8.2.2 u 0)) :: [.int 3, .int ((S8.1 (S8.2.2 u 0) 1) - 1)]) C dc_Un_readRow_31 (ct_Re_fail (S8.2.2 u 0) 3 ((S8.1 (S8.2.2 u 0) 1) - 1) S8 hfl hc7 hp) cd_C_Re_fail i_Re (Nat.le_of_ble_eq_true rfl) (by rw [hR]; exact Nat.le_of_ble_eq_true rfl) (by rw [hR]; exact Nat.le_of_ble_eq_true rfl) (by rw [hR]; exact Nat.le_of_ble_eq_true rfl) (by rw [hR]; exact Nat.le_of_ble_eq_true rfl) (inv_V C (S8.2.2 u 0) dc_Un_readRow_31 l_Un_74 im_C_Re_fail se_C_Re_fail cd_C_Re_fail ⟨by decide, by decide⟩ ln_C_Re_fail rfl rfl (cw_obj hc7 rfl) rfl rfl) (fun oc L1 hL => ?_)
    rcases hL with ⟨S31, hp, rfl, rfl⟩ | ⟨c9, a9, S9, hp, rfl, rfl⟩
    rotate_left
    · exact Or.inr ⟨a9, rfl, t_out C hQ hA (fun x hx => (hno x hx).elim) (Or.inr ⟨c9, a9, S9, hp, rfl, rfl⟩) (Nat.le_of_ble_eq_true rfl) (Nat.le_of_ble_eq_true rfl)⟩
    refine Or.inl ⟨_, rfl, ?_⟩
    refine aw_eq (lo' := _) (st' := []) (L' := (cw lt_C U oa S31)) rfl rfl rfl ?_
    refine aw_lo (lo' := [some (.ref (oa u)), none, none, none]) ⟨.inr rfl, .inr rfl, .inr rfl, .inr rfl, trivial⟩ ?_
    exact s_Un_readRow_34 C hQ hA hR hno hfl hu S31  hp
end C_Un_readRow
section C_Un_readRowc
variable {D : va_G} {z : Nat → ClassId} {U : ut} {oa : Nat → Nat}
set_option maxRecDepth 100000 in
theorem ct_Un_readRow {l : Launch} (u : Nat)  (S : cs) {K : cs → Prop} {T : Nat → cs → Prop} (hfl : l.flags = pinnedFlags ++ [noTraceFlag]) (hu : c_cl U u = 11) (hp : p_Un_readRow U u S K T) : ct gG D z l n_C_Un_readRow c_C_Un_readRow 4 (none) 14 1400 [.ref (oa u)] (cw lt_C U oa S) 0 0 (pC_v lt_C U oa K T) := by
  refine ct_of (lo := [some (.ref (oa u)), none, none, none]) (by decide) g_ok (Nat.le_of_ble_eq_true rfl) rfl ?_
  intro X A hl C hR hQ hA hno
  exact s_Un_readRow_0 C hQ hA hR hno (by rw [hl]; exact hfl) hu S hp
end C_Un_readRowc
def p_Un_handOver (U : ut) (u : Nat) (x1 : Nat) (S : cs) (K : Nat → cs → Prop) : Prop :=
  ¬ S.2.2 u 1 = NU ∧ (c_cl U (S.2.2 u 1) = 7 ∧ (¬ x1 = NU ∧ (K (S.2.2 u 1) (va_up S.1 (S.2.2 u 1) (upd (S.1 (S.2.2 u 1)) 17 1), S.2.1, va_up S.2.2 u (va_up (S.2.2 u) 1 x1)))))
section C_Un_handOver
variable {D : va_G} {z : Nat → ClassId} {A : Nat → Prop} {X : cx} {L0 : fw} {U : ut} {oa : Nat → Nat} {u : Nat} {K : Nat → cs → Prop}
set_option maxRecDepth 100000 in
set_option maxHeartbeats 1000000 in
theorem s_Un_handOver_0 (C : fcx gG D z A X R_Un c_C_Un_handOver 3 (some (.object "BlockPicture$Picture"))) (hQ : X.2.2.2.2.2.2.2.2.2.2 = eQ gG D z X.2.2.2.2.2.2.2.1 X.2.2.2.2.1 L0 0 0 (pC_o lt_C U oa K (fun _ _ => False))) (hA : A = owA gG L0 X.2.2.2.2.1.heap.size) (hR : X.2.2.2.1 = { frames := 1, cells := 1, slots := 6, locals := 100 }) (hu : c_cl U u = 11) (x1 : Nat) (S : cs) (hp : p_Un_handOver U u x1 S K) : aw gG D z A X 3 0 [some (.ref (oa u)), some (.ref (oa x1)), none] [] (cw lt_C U oa S) 0 0 := by
  unfold p_Un_handOver at hp
  refine a_aload_n C dc_Un_handOver_0 rfl rfl ?_
  refine c_getR C u 1 dc_Un_handOver_1 hu rfl rfl (Nat.le_of_ble_eq_true rfl) f_Un_21 rfl hp.1 ?_
  have hp := hp.2
  refine a_astore_n (lo' := [some (.ref (oa u)), some (.ref (oa x1)), some (.ref (oa (S.2.2 u 1)))]) C dc_Un_handOver_4 rfl (by decide) rfl ?_
  refine a_aload_n C dc_Un_handOver_5 rfl rfl ?_
  refine a_iconst (v := 1) C dc_Un_handOver_6 (by decide) ?_
  have hc1 := hp.1
  have hp := hp.2
  refine c_putIN (ty := .boolean) C (S.2.2 u 1) 17 dc_Un_handOver_7 hc1 rfl rfl (Nat.le_of_ble_eq_true rfl) f_Un_59 (Nat.le_of_ble_eq_true rfl) rfl rfl rfl rfl ?_
  refine aw_eq (lo' := _) (st' := _) (L' := (cw lt_C U oa (va_up S.1 (S.2.2 u 1) (upd (S.1 (S.2.2 u 1)) 17 1), S.2.1, S.2.2))) rfl rfl rfl ?_
  refine a_aload_n C dc_Un_handOver_10 rfl rfl ?_
  refine a_aload_n C dc_Un_handOver_11 rfl rfl ?_
  refine c_putR (ty := .object "BlockPicture$Picture") C u 1 dc_Un_handOver_12 hu rfl rfl (Nat.le_of_ble_eq_true rfl) f_Un_21 rfl rfl (fun _ => rfl) (fun _ => rfl) rfl rfl hp.1 ?_
  have hp := hp.2
  refine aw_eq (lo' := _) (st' := _) (L' := (cw lt_C U oa (va_up S.1 (S.2.2 u 1) (upd (S.1 (S.2.2 u 1)) 17 1), S.2.1, va_up S.2.2 u (va_up (S.2.2 u) 1 x1)))) rfl rfl rfl ?_
  refine a_aload_n C dc_Un_handOver_15 rfl rfl ?_
  exact a_aret C hQ hA dc_Un_handOver_16 rfl (Or.inl ⟨_, (va_up S.1 (S.2.2 u 1) (upd (S.1 (S.2.2 u 1)) 17 1), S.2.1, va_up S.2.2 u (va_up (S.2.2 u) 1 x1)), hp, rfl, rfl⟩)
end C_Un_handOver
section C_Un_handOverc
variable {D : va_G} {z : Nat → ClassId} {U : ut} {oa : Nat → Nat}
set_option maxRecDepth 100000 in
theorem ct_Un_handOver {l : Launch} (u : Nat) (x1 : Nat) (S : cs) {K : Nat → cs → Prop} (hu : c_cl U u = 11) (hp : p_Un_handOver U u x1 S K) : ct gG D z l n_C_Un_handOver c_C_Un_handOver 3 (some (.object "BlockPicture$Picture")) 1 100 [.ref (oa u), .ref (oa x1)] (cw lt_C U oa S) 0 0 (pC_o lt_C U oa K (fun _ _ => False)) := by
  refine ct_of (lo := [some (.ref (oa u)), some (.ref (oa x1)), none]) (by decide) g_ok (Nat.le_of_ble_eq_true rfl) rfl ?_
  intro X A _ C hR hQ hA _
  exact s_Un_handOver_0 C hQ hA hR hu x1 S hp
end C_Un_handOverc
def p_B_place (U : ut) (u : Nat)  (S : cs) (K : Int32 → cs → Prop) : Prop :=
  K (S.1 u 8) S
section C_B_place
variable {D : va_G} {z : Nat → ClassId} {A : Nat → Prop} {X : cx} {L0 : fw} {U : ut} {oa : Nat → Nat} {u : Nat} {K : Int32 → cs → Prop}
set_option maxRecDepth 100000 in
set_option maxHeartbeats 1000000 in
theorem s_B_place_0 (C : fcx gG D z A X R_B c_C_B_place 1 (some .int)) (hQ : X.2.2.2.2.2.2.2.2.2.2 = eQ gG D z X.2.2.2.2.2.2.2.1 X.2.2.2.2.1 L0 0 0 (pC_i lt_C U oa K (fun _ _ => False))) (hA : A = owA gG L0 X.2.2.2.2.1.heap.size) (hR : X.2.2.2.1 = { frames := 1, cells := 1, slots := 6, locals := 100 }) (hu : c_cl U u = 1)  (S : cs) (hp : p_B_place U u S K) : aw gG D z A X 1 0 [some (.ref (oa u))] [] (cw lt_C U oa S) 0 0 := by
  unfold p_B_place at hp
  refine a_aload_n C dc_B_place_0 rfl rfl ?_
  refine c_getI C u 8 dc_B_place_1 hu rfl rfl (Nat.le_of_ble_eq_true rfl) f_B_61 (Nat.le_of_ble_eq_true rfl) ?_
  exact a_iret (ty := .int) C hQ hA dc_B_place_4 rfl rfl (Or.inl ⟨_, S, hp, rfl, rfl⟩)
end C_B_place
section C_B_placec
variable {D : va_G} {z : Nat → ClassId} {U : ut} {oa : Nat → Nat}
set_option maxRecDepth 100000 in
theorem ct_B_place {l : Launch} (u : Nat)  (S : cs) {K : Int32 → cs → Prop} (hu : c_cl U u = 1) (hp : p_B_place U u S K) : ct gG D z l n_C_B_place c_C_B_place 1 (some .int) 1 100 [.ref (oa u)] (cw lt_C U oa S) 0 0 (pC_i lt_C U oa K (fun _ _ => False)) := by
  refine ct_of (lo := [some (.ref (oa u))]) (by decide) g_ok (Nat.le_of_ble_eq_true rfl) rfl ?_
  intro X A _ C hR hQ hA _
  exact s_B_place_0 C hQ hA hR hu S hp
end C_B_placec
def b_B_about_75 (U : ut) (u : Nat) (s0 : Int32) (S : cs) (K : Int32 → cs → Prop) (T : Nat → cs → Prop) : Prop :=
  K s0 S
def p_B_about (U : ut) (u : Nat) (x1 : Int32) (S : cs) (K : Int32 → cs → Prop) (T : Nat → cs → Prop) : Prop :=
  p_B_isWithin x1 0 2 (fun v3 => (¬ v3 = 0 → (¬ S.2.2 u 7 = NU ∧ (c_cl U (S.2.2 u 7) = 7 ∧ ((¬ (S.1 (S.2.2 u 7) 17) = 0 → ((¬ x1 = 0 → ((¬ x1 = 1 → (¬ S.2.2 u 7 = NU ∧ (b_B_about_75 U u (S.1 (S.2.2 u 7) 2) S K T))) ∧ (x1 = 1 → (¬ S.2.2 u 7 = NU ∧ (b_B_about_75 U u (S.1 (S.2.2 u 7) 1) S K T))))) ∧ (x1 = 0 → (¬ S.2.2 u 7 = NU ∧ (b_B_about_75 U u (S.1 (S.2.2 u 7) 0) S K T))))) ∧ ((S.1 (S.2.2 u 7) 17) = 0 → (T 13 S)))))) ∧ (v3 = 0 → (T 14 S)))
section C_B_about
variable {D : va_G} {z : Nat → ClassId} {A : Nat → Prop} {X : cx} {L0 : fw} {U : ut} {oa : Nat → Nat} {u : Nat} {K : Int32 → cs → Prop} {T : Nat → cs → Prop}
set_option maxRecDepth 100000 in
set_option maxHeartbeats 1000000 in
theorem s_B_about_75 (C : fcx gG D z A X R_B c_C_B_about 2 (some .int)) (hQ : X.2.2.2.2.2.2.2.2.2.2 = eQ gG D z X.2.2.2.2.2.2.2.1 X.2.2.2.2.1 L0 0 0 (pC_i lt_C U oa K T)) (hA : A = owA gG L0 X.2.2.2.2.1.heap.size) (hR : X.2.2.2.1 = { frames := 9, cells := 1, slots := 6, locals := 900 }) (hno : ∀ x ∈ X.2.2.2.2.2.2.2.2.2.1.exceptionTable.toList, False) (hfl : X.2.1.flags = pinnedFlags ++ [noTraceFlag]) (hu : c_cl U u = 1) (s0 : Int32) (S : cs) (hp : b_B_about_75 U u s0 S K T) : aw gG D z A X 2 75 [some (.ref (oa u)), none] [.int s0] (cw lt_C U oa S) 0 0 := by
  unfold b_B_about_75 at hp
  exact a_iret (ty := .int) C hQ hA dc_B_about_75 rfl rfl (Or.inl ⟨_, S, hp, rfl, rfl⟩)
set_option maxRecDepth 100000 in
set_option maxHeartbeats 1000000 in
theorem s_B_about_0 (C : fcx gG D z A X R_B c_C_B_about 2 (some .int)) (hQ : X.2.2.2.2.2.2.2.2.2.2 = eQ gG D z X.2.2.2.2.2.2.2.1 X.2.2.2.2.1 L0 0 0 (pC_i lt_C U oa K T)) (hA : A = owA gG L0 X.2.2.2.2.1.heap.size) (hR : X.2.2.2.1 = { frames := 9, cells := 1, slots := 6, locals := 900 }) (hno : ∀ x ∈ X.2.2.2.2.2.2.2.2.2.1.exceptionTable.toList, False) (hfl : X.2.1.flags = pinnedFlags ++ [noTraceFlag]) (hu : c_cl U u = 1) (x1 : Int32) (S : cs) (hp : p_B_about U u x1 S K T) : aw gG D z A X 2 0 [some (.ref (oa u)), some (.int x1)] [] (cw lt_C U oa S) 0 0 := by
  unfold p_B_about at hp
  refine a_iload_n C dc_B_about_0 rfl rfl ?_
  refine a_iconst (v := 0) C dc_B_about_1 (by decide) ?_
  refine a_iconst (v := 2) C dc_B_about_2 (by decide) ?_
  refine a_callP (rest := []) (av := [.int x1, .int 0, .int 2]) C dc_B_about_3 (ct_B_isWithin x1 0 2 hp) cd_C_B_isWithin i_B (Nat.le_of_ble_eq_true rfl) (by rw [hR]; exact Nat.le_of_ble_eq_true rfl) (by rw [hR]; exact Nat.le_of_ble_eq_true rfl) (by rw [hR]; exact Nat.le_of_ble_eq_true rfl) (by rw [hR]; exact Nat.le_of_ble_eq_true rfl) (inv_S C dc_B_about_3 l_B_71 st_C_B_isWithin i_B cd_C_B_isWithin ⟨by decide, by decide⟩ ln_C_B_isWithin rfl) (fun v3 hp => ?_)
  refine aw_eq (lo' := _) (st' := [.int v3]) (L' := (cw lt_C U oa S)) rfl rfl rfl ?_
  refine a_if_ne (tgt := 19) C dc_B_about_6 (by decide) ⟨fun hc => ?_, fun hc => ?_⟩
  · have hp := hp.1 hc
    refine a_aload_n C dc_B_about_19 rfl rfl ?_
    refine c_getR C u 7 dc_B_about_20 hu rfl rfl (Nat.le_of_ble_eq_true rfl) f_B_57 rfl hp.1 ?_
    have hp := hp.2
    have hc1 := hp.1
    have hp := hp.2
    refine c_getIN C (S.2.2 u 7) 17 dc_B_about_23 hc1 rfl rfl (Nat.le_of_ble_eq_true rfl) f_B_181 (Nat.le_of_ble_eq_true rfl) ?_
    refine a_if_ne (tgt := 39) C dc_B_about_26 (by decide) ⟨fun hc => ?_, fun hc => ?_⟩
    · have hp := hp.1 hc
      refine a_iload_n C dc_B_about_39 rfl rfl ?_
      refine a_if_ne (tgt := 53) C dc_B_about_40 (by decide) ⟨fun hc => ?_, fun hc => ?_⟩
      · have hp := hp.1 hc
        refine a_iload_n C dc_B_about_53 rfl rfl ?_
        refine a_iconst (v := 1) C dc_B_about_54 (by decide) ?_
        refine a_icmp_ne (tgt := 68) C dc_B_about_55 (by decide) ⟨fun hc => ?_, fun hc => ?_⟩
        · have hp := hp.1 hc
          refine a_aload_n C dc_B_about_68 rfl rfl ?_
          refine c_getR C u 7 dc_B_about_69 hu rfl rfl (Nat.le_of_ble_eq_true rfl) f_B_57 rfl hp.1 ?_
          have hp := hp.2
          refine c_getIN C (S.2.2 u 7) 2 dc_B_about_72 hc1 rfl rfl (Nat.le_of_ble_eq_true rfl) f_B_193 (Nat.le_of_ble_eq_true rfl) ?_
          refine aw_lo (lo' := [some (.ref (oa u)), none]) ⟨.inr rfl, .inl rfl, trivial⟩ ?_
          exact s_B_about_75 C hQ hA hR hno hfl hu (S.1 (S.2.2 u 7) 2) S  hp
        · have hp := hp.2 hc
          refine a_aload_n C dc_B_about_58 rfl rfl ?_
          refine c_getR C u 7 dc_B_about_59 hu rfl rfl (Nat.le_of_ble_eq_true rfl) f_B_57 rfl hp.1 ?_
          have hp := hp.2
          refine c_getIN C (S.2.2 u 7) 1 dc_B_about_62 hc1 rfl rfl (Nat.le_of_ble_eq_true rfl) f_B_190 (Nat.le_of_ble_eq_true rfl) ?_
          refine a_goto (tgt := 75) C dc_B_about_65 (by decide) ?_
          refine aw_lo (lo' := [some (.ref (oa u)), none]) ⟨.inr rfl, .inl rfl, trivial⟩ ?_
          exact s_B_about_75 C hQ hA hR hno hfl hu (S.1 (S.2.2 u 7) 1) S  hp
      · have hp := hp.2 hc
        refine a_aload_n C dc_B_about_43 rfl rfl ?_
        refine c_getR C u 7 dc_B_about_44 hu rfl rfl (Nat.le_of_ble_eq_true rfl) f_B_57 rfl hp.1 ?_
        have hp := hp.2
        refine c_getIN C (S.2.2 u 7) 0 dc_B_about_47 hc1 rfl rfl (Nat.le_of_ble_eq_true rfl) f_B_187 (Nat.le_of_ble_eq_true rfl) ?_
        refine a_goto (tgt := 75) C dc_B_about_50 (by decide) ?_
        refine aw_lo (lo' := [some (.ref (oa u)), none]) ⟨.inr rfl, .inl rfl, trivial⟩ ?_
        exact s_B_about_75 C hQ hA hR hno hfl hu (S.1 (S.2.2 u 7) 0) S  hp
    · have hp := hp.2 hc
      exact a_throw (ci := 13) C hQ hA hno hfl dc_B_about_29 dc_B_about_32 dc_B_about_33 dc_B_about_35 dc_B_about_38 x_B_149 rfl rfl y_B_185 i_E13 j_E13 (by decide) z_B_153 (at_E13 _ _) (Nat.le_of_ble_eq_true rfl) (by rw [hR]; exact Nat.le_of_ble_eq_true rfl) (by rw [hR]; exact Nat.le_of_ble_eq_true rfl) (Nat.le_refl _) (Nat.le_refl _) (by rw [hR]; exact Nat.le_of_ble_eq_true rfl) (by rw [hR]; exact Nat.le_of_ble_eq_true rfl) (fun q => Or.inr ⟨13, q, S, hp, rfl, rfl⟩)
  · have hp := hp.2 hc
    exact a_throw (ci := 14) C hQ hA hno hfl dc_B_about_9 dc_B_about_12 dc_B_about_13 dc_B_about_15 dc_B_about_18 x_B_75 rfl rfl y_B_179 i_E14 j_E14 (by decide) z_B_79 (at_E14 _ _) (Nat.le_of_ble_eq_true rfl) (by rw [hR]; exact Nat.le_of_ble_eq_true rfl) (by rw [hR]; exact Nat.le_of_ble_eq_true rfl) (Nat.le_refl _) (Nat.le_refl _) (by rw [hR]; exact Nat.le_of_ble_eq_true rfl) (by rw [hR]; exact Nat.le_of_ble_eq_true rfl) (fun q => Or.inr ⟨14, q, S, hp, rfl, rfl⟩)
end C_B_about
section C_B_aboutc
variable {D : va_G} {z : Nat → ClassId} {U : ut} {oa : Nat → Nat}
set_option maxRecDepth 100000 in
theorem ct_B_about {l : Launch} (u : Nat) (x1 : Int32) (S : cs) {K : Int32 → cs → Prop} {T : Nat → cs → Prop} (hfl : l.flags = pinnedFlags ++ [noTraceFlag]) (hu : c_cl U u = 1) (hp : p_B_about U u x1 S K T) : ct gG D z l n_C_B_about c_C_B_about 2 (some .int) 9 900 [.ref (oa u), .int x1] (cw lt_C U oa S) 0 0 (pC_i lt_C U oa K T) := by
  refine ct_of (lo := [some (.ref (oa u)), some (.int x1)]) (by decide) g_ok (Nat.le_of_ble_eq_true rfl) rfl ?_
  intro X A hl C hR hQ hA hno
  exact s_B_about_0 C hQ hA hR hno (by rw [hl]; exact hfl) hu x1 S hp
end C_B_aboutc
def b_Wa_hasWeights_33 (U : ut) (u : Nat) (x1 : Int32) (x3 : Int32) (s0 : Int32) (S : cs) (R4 : Int32 → Int32 → Int32 → cs → Prop) (K : Int32 → cs → Prop) : Prop :=
  R4 x1 s0 (x3 + 1) S
def b_Wa_hasWeights_28 (U : ut) (u : Nat) (x1 : Int32) (x3 : Int32) (S : cs) (R4 : Int32 → Int32 → Int32 → cs → Prop) (K : Int32 → cs → Prop) : Prop :=
  b_Wa_hasWeights_33 U u x1 x3 1 S R4 K
def b_Wa_hasWeights_4 (U : ut) (u : Nat) (x1 : Int32) (x2 : Int32) (x3 : Int32) (S : cs) (R4 : Int32 → Int32 → Int32 → cs → Prop) (K : Int32 → cs → Prop) : Prop :=
  (8 ≤ x3 → (narrow .boolean (.int x2) = .int x2 ∧ K x2 S)) ∧ (¬ (8 ≤ x3) → ((¬ x2 = 0 → (b_Wa_hasWeights_28 U u x1 x3 S R4 K)) ∧ (x2 = 0 → (¬ S.2.2 u 2 = NU ∧ (c_cl U (S.2.2 u 2) = 902 ∧ (vp_in ((8 * x1) + x3) (c_ln U (S.2.2 u 2)) ∧ (((S.1 (S.2.2 u 2) ((8 * x1) + x3).toNatClampNeg) = 0 → (b_Wa_hasWeights_33 U u x1 x3 0 S R4 K)) ∧ (¬ ((S.1 (S.2.2 u 2) ((8 * x1) + x3).toNatClampNeg) = 0) → (b_Wa_hasWeights_28 U u x1 x3 S R4 K)))))))))
def e_Wa_hasWeights_4 (U : ut) (u : Nat) (x1 : Int32) (x2 : Int32) (x3 : Int32) (S : cs) (K : Int32 → cs → Prop) : Prop :=
  ∃ (I : Int32 → Int32 → Int32 → cs → Prop) (μ : Int32 → Int32 → Int32 → cs → Nat), I x1 x2 x3 S ∧ ∀ yx1 yx2 yx3 yS, I yx1 yx2 yx3 yS → b_Wa_hasWeights_4 U u yx1 yx2 yx3 yS (fun zx1 zx2 zx3 zS => I zx1 zx2 zx3 zS ∧ μ zx1 zx2 zx3 zS < μ yx1 yx2 yx3 yS) K
def p_Wa_hasWeights (U : ut) (u : Nat) (x1 : Int32) (S : cs) (K : Int32 → cs → Prop) : Prop :=
  e_Wa_hasWeights_4 U u x1 0 0 S K
section C_Wa_hasWeights
variable {D : va_G} {z : Nat → ClassId} {A : Nat → Prop} {X : cx} {L0 : fw} {U : ut} {oa : Nat → Nat} {u : Nat} {K : Int32 → cs → Prop}
set_option maxRecDepth 100000 in
set_option maxHeartbeats 1000000 in
theorem s_Wa_hasWeights_33 (C : fcx gG D z A X R_Wa c_C_Wa_hasWeights 4 (some .boolean)) (hQ : X.2.2.2.2.2.2.2.2.2.2 = eQ gG D z X.2.2.2.2.2.2.2.1 X.2.2.2.2.1 L0 0 0 (pC_i lt_C U oa K (fun _ _ => False))) (hA : A = owA gG L0 X.2.2.2.2.1.heap.size) (hR : X.2.2.2.1 = { frames := 1, cells := 1, slots := 6, locals := 100 }) (hu : c_cl U u = 12) (x1 : Int32) (x3 : Int32) (s0 : Int32) (S : cs) (R4 : Int32 → Int32 → Int32 → cs → Prop) (hR4 : ∀ yx1 yx2 yx3 yS, R4 yx1 yx2 yx3 yS → aw gG D z A X 4 4 [some (.ref (oa u)), some (.int yx1), some (.int yx2), some (.int yx3)] [] (cw lt_C U oa yS) 0 0) (hp : b_Wa_hasWeights_33 U u x1 x3 s0 S R4 K) : aw gG D z A X 4 33 [some (.ref (oa u)), some (.int x1), none, some (.int x3)] [.int s0] (cw lt_C U oa S) 0 0 := by
  unfold b_Wa_hasWeights_33 at hp
  refine a_istore_n (lo' := [some (.ref (oa u)), some (.int x1), some (.int s0), some (.int x3)]) C dc_Wa_hasWeights_33 rfl (by decide) rfl ?_
  refine a_iinc (v := x3 + 1) (lo' := [some (.ref (oa u)), some (.int x1), some (.int s0), some (.int (x3 + 1))]) C dc_Wa_hasWeights_34 rfl rfl (by decide) rfl ?_
  refine a_goto (tgt := 4) C dc_Wa_hasWeights_37 (by decide) ?_
  refine aw_lo (lo' := [some (.ref (oa u)), some (.int x1), some (.int s0), some (.int (x3 + 1))]) ⟨.inr rfl, .inr rfl, .inr rfl, .inr rfl, trivial⟩ ?_
  exact hR4 x1 s0 (x3 + 1) S hp
set_option maxRecDepth 100000 in
set_option maxHeartbeats 1000000 in
theorem s_Wa_hasWeights_28 (C : fcx gG D z A X R_Wa c_C_Wa_hasWeights 4 (some .boolean)) (hQ : X.2.2.2.2.2.2.2.2.2.2 = eQ gG D z X.2.2.2.2.2.2.2.1 X.2.2.2.2.1 L0 0 0 (pC_i lt_C U oa K (fun _ _ => False))) (hA : A = owA gG L0 X.2.2.2.2.1.heap.size) (hR : X.2.2.2.1 = { frames := 1, cells := 1, slots := 6, locals := 100 }) (hu : c_cl U u = 12) (x1 : Int32) (x3 : Int32) (S : cs) (R4 : Int32 → Int32 → Int32 → cs → Prop) (hR4 : ∀ yx1 yx2 yx3 yS, R4 yx1 yx2 yx3 yS → aw gG D z A X 4 4 [some (.ref (oa u)), some (.int yx1), some (.int yx2), some (.int yx3)] [] (cw lt_C U oa yS) 0 0) (hp : b_Wa_hasWeights_28 U u x1 x3 S R4 K) : aw gG D z A X 4 28 [some (.ref (oa u)), some (.int x1), none, some (.int x3)] [] (cw lt_C U oa S) 0 0 := by
  unfold b_Wa_hasWeights_28 at hp
  refine a_iconst (v := 1) C dc_Wa_hasWeights_28 (by decide) ?_
  refine a_goto (tgt := 33) C dc_Wa_hasWeights_29 (by decide) ?_
  refine aw_lo (lo' := [some (.ref (oa u)), some (.int x1), none, some (.int x3)]) ⟨.inr rfl, .inr rfl, .inr rfl, .inr rfl, trivial⟩ ?_
  exact s_Wa_hasWeights_33 C hQ hA hR hu x1 x3 1 S R4 hR4 hp
set_option maxRecDepth 100000 in
set_option maxHeartbeats 1000000 in
theorem s_Wa_hasWeights_4 (C : fcx gG D z A X R_Wa c_C_Wa_hasWeights 4 (some .boolean)) (hQ : X.2.2.2.2.2.2.2.2.2.2 = eQ gG D z X.2.2.2.2.2.2.2.1 X.2.2.2.2.1 L0 0 0 (pC_i lt_C U oa K (fun _ _ => False))) (hA : A = owA gG L0 X.2.2.2.2.1.heap.size) (hR : X.2.2.2.1 = { frames := 1, cells := 1, slots := 6, locals := 100 }) (hu : c_cl U u = 12) (x1 : Int32) (x2 : Int32) (x3 : Int32) (S : cs) (R4 : Int32 → Int32 → Int32 → cs → Prop) (hR4 : ∀ yx1 yx2 yx3 yS, R4 yx1 yx2 yx3 yS → aw gG D z A X 4 4 [some (.ref (oa u)), some (.int yx1), some (.int yx2), some (.int yx3)] [] (cw lt_C U oa yS) 0 0) (hp : b_Wa_hasWeights_4 U u x1 x2 x3 S R4 K) : aw gG D z A X 4 4 [some (.ref (oa u)), some (.int x1), some (.int x2), some (.int x3)] [] (cw lt_C U oa S) 0 0 := by
  unfold b_Wa_hasWeights_4 at hp
  refine a_iload_n C dc_Wa_hasWeights_4 rfl rfl ?_
  refine a_bipush (v := 8) C dc_Wa_hasWeights_5 (by decide) ?_
  refine a_icmp_ge (tgt := 40) C dc_Wa_hasWeights_7 (by decide) ⟨fun hc => ?_, fun hc => ?_⟩
  · have hp := hp.1 hc
    refine a_iload_n C dc_Wa_hasWeights_40 rfl rfl ?_
    exact a_iret (ty := .boolean) C hQ hA dc_Wa_hasWeights_41 rfl hp.1 (Or.inl ⟨_, S, hp.2, rfl, rfl⟩)
  · have hp := hp.2 hc
    refine a_iload_n C dc_Wa_hasWeights_10 rfl rfl ?_
    refine a_if_ne (tgt := 28) C dc_Wa_hasWeights_11 (by decide) ⟨fun hc => ?_, fun hc => ?_⟩
    · have hp := hp.1 hc
      refine aw_lo (lo' := [some (.ref (oa u)), some (.int x1), none, some (.int x3)]) ⟨.inr rfl, .inr rfl, .inl rfl, .inr rfl, trivial⟩ ?_
      exact s_Wa_hasWeights_28 C hQ hA hR hu x1 x3 S R4 hR4 hp
    · have hp := hp.2 hc
      refine a_aload_n C dc_Wa_hasWeights_14 rfl rfl ?_
      refine c_getR C u 2 dc_Wa_hasWeights_15 hu rfl rfl (Nat.le_of_ble_eq_true rfl) f_Wa_18 rfl hp.1 ?_
      have hp := hp.2
      refine a_bipush (v := 8) C dc_Wa_hasWeights_18 (by decide) ?_
      refine a_iload_n C dc_Wa_hasWeights_20 rfl rfl ?_
      refine a_imul C dc_Wa_hasWeights_21 ?_
      refine a_iload_n C dc_Wa_hasWeights_22 rfl rfl ?_
      refine a_iadd C dc_Wa_hasWeights_23 ?_
      have hc1 := hp.1
      have hp := hp.2
      refine c_iald C (S.2.2 u 2) dc_Wa_hasWeights_24 hc1 hp.1 ?_
      have hp := hp.2
      refine a_if_eq (tgt := 32) C dc_Wa_hasWeights_25 (by decide) ⟨fun hc => ?_, fun hc => ?_⟩
      · have hp := hp.1 hc
        refine a_iconst (v := 0) C dc_Wa_hasWeights_32 (by decide) ?_
        refine aw_lo (lo' := [some (.ref (oa u)), some (.int x1), none, some (.int x3)]) ⟨.inr rfl, .inr rfl, .inl rfl, .inr rfl, trivial⟩ ?_
        exact s_Wa_hasWeights_33 C hQ hA hR hu x1 x3 0 S R4 hR4 hp
      · have hp := hp.2 hc
        refine aw_lo (lo' := [some (.ref (oa u)), some (.int x1), none, some (.int x3)]) ⟨.inr rfl, .inr rfl, .inl rfl, .inr rfl, trivial⟩ ?_
        exact s_Wa_hasWeights_28 C hQ hA hR hu x1 x3 S R4 hR4 hp
set_option maxRecDepth 100000 in
set_option maxHeartbeats 1000000 in
theorem se_Wa_hasWeights_4 (C : fcx gG D z A X R_Wa c_C_Wa_hasWeights 4 (some .boolean)) (hQ : X.2.2.2.2.2.2.2.2.2.2 = eQ gG D z X.2.2.2.2.2.2.2.1 X.2.2.2.2.1 L0 0 0 (pC_i lt_C U oa K (fun _ _ => False))) (hA : A = owA gG L0 X.2.2.2.2.1.heap.size) (hR : X.2.2.2.1 = { frames := 1, cells := 1, slots := 6, locals := 100 }) (hu : c_cl U u = 12) (x1 : Int32) (x2 : Int32) (x3 : Int32) (S : cs) (hp : e_Wa_hasWeights_4 U u x1 x2 x3 S K) : aw gG D z A X 4 4 [some (.ref (oa u)), some (.int x1), some (.int x2), some (.int x3)] [] (cw lt_C U oa S) 0 0 := by
  obtain ⟨I, μ, h0, hs⟩ := hp
  have key : ∀ (n : Nat) (yx1 : Int32) (yx2 : Int32) (yx3 : Int32) (yS : cs), μ yx1 yx2 yx3 yS < n → I yx1 yx2 yx3 yS → aw gG D z A X 4 4 [some (.ref (oa u)), some (.int yx1), some (.int yx2), some (.int yx3)] [] (cw lt_C U oa yS) 0 0 := by
    intro n
    induction n with
    | zero => intro yx1 yx2 yx3 yS h; omega
    | succ n ih =>
      intro yx1 yx2 yx3 yS hn hI
      exact s_Wa_hasWeights_4 C hQ hA hR hu yx1 yx2 yx3 yS _ (fun zx1 zx2 zx3 zS hw => ih zx1 zx2 zx3 zS (by omega) hw.1) (hs yx1 yx2 yx3 yS hI)
  exact key (μ x1 x2 x3 S + 1) x1 x2 x3 S (Nat.lt_succ_self _) h0
set_option maxRecDepth 100000 in
set_option maxHeartbeats 1000000 in
theorem s_Wa_hasWeights_0 (C : fcx gG D z A X R_Wa c_C_Wa_hasWeights 4 (some .boolean)) (hQ : X.2.2.2.2.2.2.2.2.2.2 = eQ gG D z X.2.2.2.2.2.2.2.1 X.2.2.2.2.1 L0 0 0 (pC_i lt_C U oa K (fun _ _ => False))) (hA : A = owA gG L0 X.2.2.2.2.1.heap.size) (hR : X.2.2.2.1 = { frames := 1, cells := 1, slots := 6, locals := 100 }) (hu : c_cl U u = 12) (x1 : Int32) (S : cs) (hp : p_Wa_hasWeights U u x1 S K) : aw gG D z A X 4 0 [some (.ref (oa u)), some (.int x1), none, none] [] (cw lt_C U oa S) 0 0 := by
  unfold p_Wa_hasWeights at hp
  refine a_iconst (v := 0) C dc_Wa_hasWeights_0 (by decide) ?_
  refine a_istore_n (lo' := [some (.ref (oa u)), some (.int x1), some (.int 0), none]) C dc_Wa_hasWeights_1 rfl (by decide) rfl ?_
  refine a_iconst (v := 0) C dc_Wa_hasWeights_2 (by decide) ?_
  refine a_istore_n (lo' := [some (.ref (oa u)), some (.int x1), some (.int 0), some (.int 0)]) C dc_Wa_hasWeights_3 rfl (by decide) rfl ?_
  refine aw_lo (lo' := [some (.ref (oa u)), some (.int x1), some (.int 0), some (.int 0)]) ⟨.inr rfl, .inr rfl, .inr rfl, .inr rfl, trivial⟩ ?_
  exact se_Wa_hasWeights_4 C hQ hA hR hu x1 0 0 S  hp
end C_Wa_hasWeights
section C_Wa_hasWeightsc
variable {D : va_G} {z : Nat → ClassId} {U : ut} {oa : Nat → Nat}
set_option maxRecDepth 100000 in
theorem ct_Wa_hasWeights {l : Launch} (u : Nat) (x1 : Int32) (S : cs) {K : Int32 → cs → Prop} (hu : c_cl U u = 12) (hp : p_Wa_hasWeights U u x1 S K) : ct gG D z l n_C_Wa_hasWeights c_C_Wa_hasWeights 4 (some .boolean) 1 100 [.ref (oa u), .int x1] (cw lt_C U oa S) 0 0 (pC_i lt_C U oa K (fun _ _ => False)) := by
  refine ct_of (lo := [some (.ref (oa u)), some (.int x1), none, none]) (by decide) g_ok (Nat.le_of_ble_eq_true rfl) rfl ?_
  intro X A _ C hR hQ hA _
  exact s_Wa_hasWeights_0 C hQ hA hR hu x1 S hp
end C_Wa_hasWeightsc
def b_Wa_makeRow_15 (U : ut) (u : Nat) (x1 : Int32) (x2 : Int32) (x3 : Int64) (x5 : Int32) (S : cs) (R2 : Int32 → Int32 → cs → Prop) (R15 : Int32 → Int32 → Int64 → Int32 → cs → Prop) (K : cs → Prop) : Prop :=
  (8 ≤ x5 → (¬ S.2.2 u 3 = NU ∧ (c_cl U (S.2.2 u 3) = 904 ∧ (vp_in ((8 * x1) + x2) (c_ln U (S.2.2 u 3)) ∧ (R2 x1 (x2 + 1) (S.1, va_up S.2.1 (S.2.2 u 3) (vp_updL (S.2.1 (S.2.2 u 3)) ((8 * x1) + x2).toNatClampNeg (x3 >>> ((9 : Int32).toInt64 &&& 63 : Int64) : Int64)), S.2.2)))))) ∧ (¬ (8 ≤ x5) → (¬ S.2.2 u 0 = NU ∧ (c_cl U (S.2.2 u 0) = 902 ∧ (vp_in ((8 * x5) + x2) (c_ln U (S.2.2 u 0)) ∧ (¬ S.2.2 u 2 = NU ∧ (c_cl U (S.2.2 u 2) = 902 ∧ (vp_in ((8 * x1) + x5) (c_ln U (S.2.2 u 2)) ∧ (R15 x1 x2 (x3 + (((S.1 (S.2.2 u 0) ((8 * x5) + x2).toNatClampNeg).toInt64) * ((S.1 (S.2.2 u 2) ((8 * x1) + x5).toNatClampNeg).toInt64))) (x5 + 1) S))))))))
def e_Wa_makeRow_15 (U : ut) (u : Nat) (x1 : Int32) (x2 : Int32) (x3 : Int64) (x5 : Int32) (S : cs) (R2 : Int32 → Int32 → cs → Prop) (K : cs → Prop) : Prop :=
  ∃ (I : Int32 → Int32 → Int64 → Int32 → cs → Prop) (μ : Int32 → Int32 → Int64 → Int32 → cs → Nat), I x1 x2 x3 x5 S ∧ ∀ yx1 yx2 yx3 yx5 yS, I yx1 yx2 yx3 yx5 yS → b_Wa_makeRow_15 U u yx1 yx2 yx3 yx5 yS R2 (fun zx1 zx2 zx3 zx5 zS => I zx1 zx2 zx3 zx5 zS ∧ μ zx1 zx2 zx3 zx5 zS < μ yx1 yx2 yx3 yx5 yS) K
def b_Wa_makeRow_2 (U : ut) (u : Nat) (x1 : Int32) (x2 : Int32) (S : cs) (R2 : Int32 → Int32 → cs → Prop) (K : cs → Prop) : Prop :=
  (8 ≤ x2 → (K S)) ∧ (¬ (8 ≤ x2) → (e_Wa_makeRow_15 U u x1 x2 256 0 S R2 K))
def e_Wa_makeRow_2 (U : ut) (u : Nat) (x1 : Int32) (x2 : Int32) (S : cs) (K : cs → Prop) : Prop :=
  ∃ (I : Int32 → Int32 → cs → Prop) (μ : Int32 → Int32 → cs → Nat), I x1 x2 S ∧ ∀ yx1 yx2 yS, I yx1 yx2 yS → b_Wa_makeRow_2 U u yx1 yx2 yS (fun zx1 zx2 zS => I zx1 zx2 zS ∧ μ zx1 zx2 zS < μ yx1 yx2 yS) K
def p_Wa_makeRow (U : ut) (u : Nat) (x1 : Int32) (S : cs) (K : cs → Prop) : Prop :=
  e_Wa_makeRow_2 U u x1 0 S K
section C_Wa_makeRow
variable {D : va_G} {z : Nat → ClassId} {A : Nat → Prop} {X : cx} {L0 : fw} {U : ut} {oa : Nat → Nat} {u : Nat} {K : cs → Prop}
set_option maxRecDepth 100000 in
set_option maxHeartbeats 1000000 in
theorem s_Wa_makeRow_15 (C : fcx gG D z A X R_Wa c_C_Wa_makeRow 6 (none)) (hQ : X.2.2.2.2.2.2.2.2.2.2 = eQ gG D z X.2.2.2.2.2.2.2.1 X.2.2.2.2.1 L0 0 0 (pC_v lt_C U oa K (fun _ _ => False))) (hA : A = owA gG L0 X.2.2.2.2.1.heap.size) (hR : X.2.2.2.1 = { frames := 1, cells := 1, slots := 6, locals := 100 }) (hu : c_cl U u = 12) (x1 : Int32) (x2 : Int32) (x3 : Int64) (x5 : Int32) (S : cs) (R2 : Int32 → Int32 → cs → Prop) (hR2 : ∀ yx1 yx2 yS, R2 yx1 yx2 yS → aw gG D z A X 6 2 [some (.ref (oa u)), some (.int yx1), some (.int yx2), none, none, none] [] (cw lt_C U oa yS) 0 0) (R15 : Int32 → Int32 → Int64 → Int32 → cs → Prop) (hR15 : ∀ yx1 yx2 yx3 yx5 yS, R15 yx1 yx2 yx3 yx5 yS → aw gG D z A X 6 15 [some (.ref (oa u)), some (.int yx1), some (.int yx2), some (.long yx3), none, some (.int yx5)] [] (cw lt_C U oa yS) 0 0) (hp : b_Wa_makeRow_15 U u x1 x2 x3 x5 S R2 R15 K) : aw gG D z A X 6 15 [some (.ref (oa u)), some (.int x1), some (.int x2), some (.long x3), none, some (.int x5)] [] (cw lt_C U oa S) 0 0 := by
  unfold b_Wa_makeRow_15 at hp
  refine a_iload C dc_Wa_makeRow_15 rfl ?_
  refine a_bipush (v := 8) C dc_Wa_makeRow_17 (by decide) ?_
  refine a_icmp_ge (tgt := 58) C dc_Wa_makeRow_19 (by decide) ⟨fun hc => ?_, fun hc => ?_⟩
  · have hp := hp.1 hc
    refine a_aload_n C dc_Wa_makeRow_58 rfl rfl ?_
    refine c_getR C u 3 dc_Wa_makeRow_59 hu rfl rfl (Nat.le_of_ble_eq_true rfl) f_Wa_21 rfl hp.1 ?_
    have hp := hp.2
    refine a_bipush (v := 8) C dc_Wa_makeRow_62 (by decide) ?_
    refine a_iload_n C dc_Wa_makeRow_64 rfl rfl ?_
    refine a_imul C dc_Wa_makeRow_65 ?_
    refine a_iload_n C dc_Wa_makeRow_66 rfl rfl ?_
    refine a_iadd C dc_Wa_makeRow_67 ?_
    refine a_lload_n C dc_Wa_makeRow_68 rfl rfl ?_
    refine a_bipush (v := 9) C dc_Wa_makeRow_69 (by decide) ?_
    refine a_lshr C dc_Wa_makeRow_71 ?_
    have hc1 := hp.1
    have hp := hp.2
    refine c_last C (S.2.2 u 3) dc_Wa_makeRow_72 hc1 hp.1 ?_
    have hp := hp.2
    refine aw_eq (lo' := _) (st' := _) (L' := (cw lt_C U oa (S.1, va_up S.2.1 (S.2.2 u 3) (vp_updL (S.2.1 (S.2.2 u 3)) ((8 * x1) + x2).toNatClampNeg (x3 >>> ((9 : Int32).toInt64 &&& 63 : Int64) : Int64)), S.2.2))) rfl rfl rfl ?_
    refine a_iinc (v := x2 + 1) (lo' := [some (.ref (oa u)), some (.int x1), some (.int (x2 + 1)), some (.long x3), none, some (.int x5)]) C dc_Wa_makeRow_73 rfl rfl (by decide) rfl ?_
    refine a_goto (tgt := 2) C dc_Wa_makeRow_76 (by decide) ?_
    refine aw_lo (lo' := [some (.ref (oa u)), some (.int x1), some (.int (x2 + 1)), none, none, none]) ⟨.inr rfl, .inr rfl, .inr rfl, .inl rfl, .inr rfl, .inl rfl, trivial⟩ ?_
    exact hR2 x1 (x2 + 1) (S.1, va_up S.2.1 (S.2.2 u 3) (vp_updL (S.2.1 (S.2.2 u 3)) ((8 * x1) + x2).toNatClampNeg (x3 >>> ((9 : Int32).toInt64 &&& 63 : Int64) : Int64)), S.2.2) hp
  · have hp := hp.2 hc
    refine a_lload_n C dc_Wa_makeRow_22 rfl rfl ?_
    refine a_aload_n C dc_Wa_makeRow_23 rfl rfl ?_
    refine c_getR C u 0 dc_Wa_makeRow_24 hu rfl rfl (Nat.le_of_ble_eq_true rfl) f_Wa_9 rfl hp.1 ?_
    have hp := hp.2
    refine a_bipush (v := 8) C dc_Wa_makeRow_27 (by decide) ?_
    refine a_iload C dc_Wa_makeRow_29 rfl ?_
    refine a_imul C dc_Wa_makeRow_31 ?_
    refine a_iload_n C dc_Wa_makeRow_32 rfl rfl ?_
    refine a_iadd C dc_Wa_makeRow_33 ?_
    have hc2 := hp.1
    have hp := hp.2
    refine c_iald C (S.2.2 u 0) dc_Wa_makeRow_34 hc2 hp.1 ?_
    have hp := hp.2
    refine a_i2l C dc_Wa_makeRow_35 ?_
    refine a_aload_n C dc_Wa_makeRow_36 rfl rfl ?_
    refine c_getR C u 2 dc_Wa_makeRow_37 hu rfl rfl (Nat.le_of_ble_eq_true rfl) f_Wa_18 rfl hp.1 ?_
    have hp := hp.2
    refine a_bipush (v := 8) C dc_Wa_makeRow_40 (by decide) ?_
    refine a_iload_n C dc_Wa_makeRow_42 rfl rfl ?_
    refine a_imul C dc_Wa_makeRow_43 ?_
    refine a_iload C dc_Wa_makeRow_44 rfl ?_
    refine a_iadd C dc_Wa_makeRow_46 ?_
    have hc3 := hp.1
    have hp := hp.2
    refine c_iald C (S.2.2 u 2) dc_Wa_makeRow_47 hc3 hp.1 ?_
    have hp := hp.2
    refine a_i2l C dc_Wa_makeRow_48 ?_
    refine a_lmul C dc_Wa_makeRow_49 ?_
    refine a_ladd C dc_Wa_makeRow_50 ?_
    refine a_lstore_n (lo' := [some (.ref (oa u)), some (.int x1), some (.int x2), some (.long (x3 + (((S.1 (S.2.2 u 0) ((8 * x5) + x2).toNatClampNeg).toInt64) * ((S.1 (S.2.2 u 2) ((8 * x1) + x5).toNatClampNeg).toInt64)))), none, some (.int x5)]) C dc_Wa_makeRow_51 rfl (by decide) rfl ?_
    refine a_iinc (v := x5 + 1) (lo' := [some (.ref (oa u)), some (.int x1), some (.int x2), some (.long (x3 + (((S.1 (S.2.2 u 0) ((8 * x5) + x2).toNatClampNeg).toInt64) * ((S.1 (S.2.2 u 2) ((8 * x1) + x5).toNatClampNeg).toInt64)))), none, some (.int (x5 + 1))]) C dc_Wa_makeRow_52 rfl rfl (by decide) rfl ?_
    refine a_goto (tgt := 15) C dc_Wa_makeRow_55 (by decide) ?_
    refine aw_lo (lo' := [some (.ref (oa u)), some (.int x1), some (.int x2), some (.long (x3 + (((S.1 (S.2.2 u 0) ((8 * x5) + x2).toNatClampNeg).toInt64) * ((S.1 (S.2.2 u 2) ((8 * x1) + x5).toNatClampNeg).toInt64)))), none, some (.int (x5 + 1))]) ⟨.inr rfl, .inr rfl, .inr rfl, .inr rfl, .inr rfl, .inr rfl, trivial⟩ ?_
    exact hR15 x1 x2 (x3 + (((S.1 (S.2.2 u 0) ((8 * x5) + x2).toNatClampNeg).toInt64) * ((S.1 (S.2.2 u 2) ((8 * x1) + x5).toNatClampNeg).toInt64))) (x5 + 1) S hp
set_option maxRecDepth 100000 in
set_option maxHeartbeats 1000000 in
theorem se_Wa_makeRow_15 (C : fcx gG D z A X R_Wa c_C_Wa_makeRow 6 (none)) (hQ : X.2.2.2.2.2.2.2.2.2.2 = eQ gG D z X.2.2.2.2.2.2.2.1 X.2.2.2.2.1 L0 0 0 (pC_v lt_C U oa K (fun _ _ => False))) (hA : A = owA gG L0 X.2.2.2.2.1.heap.size) (hR : X.2.2.2.1 = { frames := 1, cells := 1, slots := 6, locals := 100 }) (hu : c_cl U u = 12) (x1 : Int32) (x2 : Int32) (x3 : Int64) (x5 : Int32) (S : cs) (R2 : Int32 → Int32 → cs → Prop) (hR2 : ∀ yx1 yx2 yS, R2 yx1 yx2 yS → aw gG D z A X 6 2 [some (.ref (oa u)), some (.int yx1), some (.int yx2), none, none, none] [] (cw lt_C U oa yS) 0 0) (hp : e_Wa_makeRow_15 U u x1 x2 x3 x5 S R2 K) : aw gG D z A X 6 15 [some (.ref (oa u)), some (.int x1), some (.int x2), some (.long x3), none, some (.int x5)] [] (cw lt_C U oa S) 0 0 := by
  obtain ⟨I, μ, h0, hs⟩ := hp
  have key : ∀ (n : Nat) (yx1 : Int32) (yx2 : Int32) (yx3 : Int64) (yx5 : Int32) (yS : cs), μ yx1 yx2 yx3 yx5 yS < n → I yx1 yx2 yx3 yx5 yS → aw gG D z A X 6 15 [some (.ref (oa u)), some (.int yx1), some (.int yx2), some (.long yx3), none, some (.int yx5)] [] (cw lt_C U oa yS) 0 0 := by
    intro n
    induction n with
    | zero => intro yx1 yx2 yx3 yx5 yS h; omega
    | succ n ih =>
      intro yx1 yx2 yx3 yx5 yS hn hI
      exact s_Wa_makeRow_15 C hQ hA hR hu yx1 yx2 yx3 yx5 yS R2 hR2 _ (fun zx1 zx2 zx3 zx5 zS hw => ih zx1 zx2 zx3 zx5 zS (by omega) hw.1) (hs yx1 yx2 yx3 yx5 yS hI)
  exact key (μ x1 x2 x3 x5 S + 1) x1 x2 x3 x5 S (Nat.lt_succ_self _) h0
set_option maxRecDepth 100000 in
set_option maxHeartbeats 1000000 in
theorem s_Wa_makeRow_2 (C : fcx gG D z A X R_Wa c_C_Wa_makeRow 6 (none)) (hQ : X.2.2.2.2.2.2.2.2.2.2 = eQ gG D z X.2.2.2.2.2.2.2.1 X.2.2.2.2.1 L0 0 0 (pC_v lt_C U oa K (fun _ _ => False))) (hA : A = owA gG L0 X.2.2.2.2.1.heap.size) (hR : X.2.2.2.1 = { frames := 1, cells := 1, slots := 6, locals := 100 }) (hu : c_cl U u = 12) (x1 : Int32) (x2 : Int32) (S : cs) (R2 : Int32 → Int32 → cs → Prop) (hR2 : ∀ yx1 yx2 yS, R2 yx1 yx2 yS → aw gG D z A X 6 2 [some (.ref (oa u)), some (.int yx1), some (.int yx2), none, none, none] [] (cw lt_C U oa yS) 0 0) (hp : b_Wa_makeRow_2 U u x1 x2 S R2 K) : aw gG D z A X 6 2 [some (.ref (oa u)), some (.int x1), some (.int x2), none, none, none] [] (cw lt_C U oa S) 0 0 := by
  unfold b_Wa_makeRow_2 at hp
  refine a_iload_n C dc_Wa_makeRow_2 rfl rfl ?_
  refine a_bipush (v := 8) C dc_Wa_makeRow_3 (by decide) ?_
  refine a_icmp_ge (tgt := 79) C dc_Wa_makeRow_5 (by decide) ⟨fun hc => ?_, fun hc => ?_⟩
  · have hp := hp.1 hc
    exact a_vret C hQ hA dc_Wa_makeRow_79 rfl (Or.inl ⟨S, hp, rfl, rfl⟩)
  · have hp := hp.2 hc
    refine a_ldc2 (v := 256) C dc_Wa_makeRow_8 k_Wa_52 ?_
    refine a_lstore_n (lo' := [some (.ref (oa u)), some (.int x1), some (.int x2), some (.long 256), none, none]) C dc_Wa_makeRow_11 rfl (by decide) rfl ?_
    refine a_iconst (v := 0) C dc_Wa_makeRow_12 (by decide) ?_
    refine a_istore (lo' := [some (.ref (oa u)), some (.int x1), some (.int x2), some (.long 256), none, some (.int 0)]) C dc_Wa_makeRow_13 (by decide) rfl ?_
    refine aw_lo (lo' := [some (.ref (oa u)), some (.int x1), some (.int x2), some (.long 256), none, some (.int 0)]) ⟨.inr rfl, .inr rfl, .inr rfl, .inr rfl, .inr rfl, .inr rfl, trivial⟩ ?_
    exact se_Wa_makeRow_15 C hQ hA hR hu x1 x2 256 0 S R2 hR2 hp
set_option maxRecDepth 100000 in
set_option maxHeartbeats 1000000 in
theorem se_Wa_makeRow_2 (C : fcx gG D z A X R_Wa c_C_Wa_makeRow 6 (none)) (hQ : X.2.2.2.2.2.2.2.2.2.2 = eQ gG D z X.2.2.2.2.2.2.2.1 X.2.2.2.2.1 L0 0 0 (pC_v lt_C U oa K (fun _ _ => False))) (hA : A = owA gG L0 X.2.2.2.2.1.heap.size) (hR : X.2.2.2.1 = { frames := 1, cells := 1, slots := 6, locals := 100 }) (hu : c_cl U u = 12) (x1 : Int32) (x2 : Int32) (S : cs) (hp : e_Wa_makeRow_2 U u x1 x2 S K) : aw gG D z A X 6 2 [some (.ref (oa u)), some (.int x1), some (.int x2), none, none, none] [] (cw lt_C U oa S) 0 0 := by
  obtain ⟨I, μ, h0, hs⟩ := hp
  have key : ∀ (n : Nat) (yx1 : Int32) (yx2 : Int32) (yS : cs), μ yx1 yx2 yS < n → I yx1 yx2 yS → aw gG D z A X 6 2 [some (.ref (oa u)), some (.int yx1), some (.int yx2), none, none, none] [] (cw lt_C U oa yS) 0 0 := by
    intro n
    induction n with
    | zero => intro yx1 yx2 yS h; omega
    | succ n ih =>
      intro yx1 yx2 yS hn hI
      exact s_Wa_makeRow_2 C hQ hA hR hu yx1 yx2 yS _ (fun zx1 zx2 zS hw => ih zx1 zx2 zS (by omega) hw.1) (hs yx1 yx2 yS hI)
  exact key (μ x1 x2 S + 1) x1 x2 S (Nat.lt_succ_self _) h0
set_option maxRecDepth 100000 in
set_option maxHeartbeats 1000000 in
theorem s_Wa_makeRow_0 (C : fcx gG D z A X R_Wa c_C_Wa_makeRow 6 (none)) (hQ : X.2.2.2.2.2.2.2.2.2.2 = eQ gG D z X.2.2.2.2.2.2.2.1 X.2.2.2.2.1 L0 0 0 (pC_v lt_C U oa K (fun _ _ => False))) (hA : A = owA gG L0 X.2.2.2.2.1.heap.size) (hR : X.2.2.2.1 = { frames := 1, cells := 1, slots := 6, locals := 100 }) (hu : c_cl U u = 12) (x1 : Int32) (S : cs) (hp : p_Wa_makeRow U u x1 S K) : aw gG D z A X 6 0 [some (.ref (oa u)), some (.int x1), none, none, none, none] [] (cw lt_C U oa S) 0 0 := by
  unfold p_Wa_makeRow at hp
  refine a_iconst (v := 0) C dc_Wa_makeRow_0 (by decide) ?_
  refine a_istore_n (lo' := [some (.ref (oa u)), some (.int x1), some (.int 0), none, none, none]) C dc_Wa_makeRow_1 rfl (by decide) rfl ?_
  refine aw_lo (lo' := [some (.ref (oa u)), some (.int x1), some (.int 0), none, none, none]) ⟨.inr rfl, .inr rfl, .inr rfl, .inr rfl, .inr rfl, .inr rfl, trivial⟩ ?_
  exact se_Wa_makeRow_2 C hQ hA hR hu x1 0 S  hp
end C_Wa_makeRow
section C_Wa_makeRowc
variable {D : va_G} {z : Nat → ClassId} {U : ut} {oa : Nat → Nat}
set_option maxRecDepth 100000 in
theorem ct_Wa_makeRow {l : Launch} (u : Nat) (x1 : Int32) (S : cs) {K : cs → Prop} (hu : c_cl U u = 12) (hp : p_Wa_makeRow U u x1 S K) : ct gG D z l n_C_Wa_makeRow c_C_Wa_makeRow 6 (none) 1 100 [.ref (oa u), .int x1] (cw lt_C U oa S) 0 0 (pC_v lt_C U oa K (fun _ _ => False)) := by
  refine ct_of (lo := [some (.ref (oa u)), some (.int x1), none, none, none, none]) (by decide) g_ok (Nat.le_of_ble_eq_true rfl) rfl ?_
  intro X A _ C hR hQ hA _
  exact s_Wa_makeRow_0 C hQ hA hR hu x1 S hp
end C_Wa_makeRowc
def p_Ar_rangeCheck (x0 : Int32) (x1 : Int32) (x2 : Int32) (K : Prop) : Prop :=
  (x1 ≤ x2 → ((0 ≤ x1 → ((x2 ≤ x0 → K) ∧ (¬ (x2 ≤ x0) → False))) ∧ (¬ (0 ≤ x1) → False))) ∧ (¬ (x1 ≤ x2) → False)
section C_Ar_rangeCheck
variable {D : va_G} {z : Nat → ClassId} {A : Nat → Prop} {X : cx} {L0 : fw} {K : Prop}
set_option maxRecDepth 100000 in
set_option maxHeartbeats 1000000 in
theorem s_Ar_rangeCheck_0 (C : fcx gG D z A X R_Ar c_C_Ar_rangeCheck 3 (none)) (hQ : X.2.2.2.2.2.2.2.2.2.2 = eQ gG D z X.2.2.2.2.2.2.2.1 X.2.2.2.2.1 L0 0 0 (pS_v K)) (hA : A = owA gG L0 X.2.2.2.2.1.heap.size) (hR : X.2.2.2.1 = { frames := 1, cells := 1, slots := 6, locals := 100 }) (x0 : Int32) (x1 : Int32) (x2 : Int32) (hp : p_Ar_rangeCheck x0 x1 x2 K) : aw gG D z A X 3 0 [some (.int x0), some (.int x1), some (.int x2)] [] ([] : fw) 0 0 := by
  unfold p_Ar_rangeCheck at hp
  refine a_iload_n C dc_Ar_rangeCheck_0 rfl rfl ?_
  refine a_iload_n C dc_Ar_rangeCheck_1 rfl rfl ?_
  refine a_icmp_le (tgt := 46) C dc_Ar_rangeCheck_2 (by decide) ⟨fun hc => ?_, fun hc => ?_⟩
  · have hp := hp.1 hc
    refine a_iload_n C dc_Ar_rangeCheck_46 rfl rfl ?_
    refine a_if_ge (tgt := 59) C dc_Ar_rangeCheck_47 (by decide) ⟨fun hc => ?_, fun hc => ?_⟩
    · have hp := hp.1 hc
      refine a_iload_n C dc_Ar_rangeCheck_59 rfl rfl ?_
      refine a_iload_n C dc_Ar_rangeCheck_60 rfl rfl ?_
      refine a_icmp_le (tgt := 73) C dc_Ar_rangeCheck_61 (by decide) ⟨fun hc => ?_, fun hc => ?_⟩
      · have hp := hp.1 hc
        exact a_vret C hQ hA dc_Ar_rangeCheck_73 rfl ⟨hp, rfl, rfl⟩
      · have hp := hp.2 hc
        exact hp.elim
    · have hp := hp.2 hc
      exact hp.elim
  · have hp := hp.2 hc
    exact hp.elim
end C_Ar_rangeCheck
section C_Ar_rangeCheckc
variable {D : va_G} {z : Nat → ClassId}
set_option maxRecDepth 100000 in
theorem ct_Ar_rangeCheck {l : Launch} (x0 : Int32) (x1 : Int32) (x2 : Int32) {K : Prop} (hp : p_Ar_rangeCheck x0 x1 x2 K) : ct gG D z l n_C_Ar_rangeCheck c_C_Ar_rangeCheck 3 (none) 1 100 [.int x0, .int x1, .int x2] ([] : fw) 0 0 (pS_v K) := by
  refine ct_of (lo := [some (.int x0), some (.int x1), some (.int x2)]) (by decide) g_ok (Nat.le_of_ble_eq_true rfl) rfl ?_
  intro X A _ C hR hQ hA _
  exact s_Ar_rangeCheck_0 C hQ hA hR x0 x1 x2 hp
end C_Ar_rangeCheckc
def b_Ar_fillJ_10 (U : ut) (x0 : Nat) (x2 : Int32) (x3 : Int64) (x5 : Int32) (S : cs) (R10 : Nat → Int32 → Int64 → Int32 → cs → Prop) (K : cs → Prop) : Prop :=
  (x2 ≤ x5 → (K S)) ∧ (¬ (x2 ≤ x5) → (c_cl U x0 = 904 ∧ (vp_in x5 (c_ln U x0) ∧ (R10 x0 x2 x3 (x5 + 1) (S.1, va_up S.2.1 x0 (vp_updL (S.2.1 x0) x5.toNatClampNeg x3), S.2.2)))))
def e_Ar_fillJ_10 (U : ut) (x0 : Nat) (x2 : Int32) (x3 : Int64) (x5 : Int32) (S : cs) (K : cs → Prop) : Prop :=
  ∃ (I : Nat → Int32 → Int64 → Int32 → cs → Prop) (μ : Nat → Int32 → Int64 → Int32 → cs → Nat), I x0 x2 x3 x5 S ∧ ∀ yx0 yx2 yx3 yx5 yS, I yx0 yx2 yx3 yx5 yS → b_Ar_fillJ_10 U yx0 yx2 yx3 yx5 yS (fun zx0 zx2 zx3 zx5 zS => I zx0 zx2 zx3 zx5 zS ∧ μ zx0 zx2 zx3 zx5 zS < μ yx0 yx2 yx3 yx5 yS) K
def p_Ar_fillJ (U : ut) (x0 : Nat) (x1 : Int32) (x2 : Int32) (x3 : Int64) (S : cs) (K : cs → Prop) : Prop :=
  c_cl U x0 = 904 ∧ (p_Ar_rangeCheck (nI (c_ln U x0)) x1 x2 (e_Ar_fillJ_10 U x0 x2 x3 x1 S K))
section C_Ar_fillJ
variable {D : va_G} {z : Nat → ClassId} {A : Nat → Prop} {X : cx} {L0 : fw} {U : ut} {oa : Nat → Nat} {K : cs → Prop}
set_option maxRecDepth 100000 in
set_option maxHeartbeats 1000000 in
theorem s_Ar_fillJ_10 (C : fcx gG D z A X R_Ar c_C_Ar_fillJ 6 (none)) (hQ : X.2.2.2.2.2.2.2.2.2.2 = eQ gG D z X.2.2.2.2.2.2.2.1 X.2.2.2.2.1 L0 0 0 (pC_v lt_C U oa K (fun _ _ => False))) (hA : A = owA gG L0 X.2.2.2.2.1.heap.size) (hR : X.2.2.2.1 = { frames := 2, cells := 1, slots := 6, locals := 200 }) (x0 : Nat) (x2 : Int32) (x3 : Int64) (x5 : Int32) (S : cs) (R10 : Nat → Int32 → Int64 → Int32 → cs → Prop) (hR10 : ∀ yx0 yx2 yx3 yx5 yS, R10 yx0 yx2 yx3 yx5 yS → aw gG D z A X 6 10 [some (.ref (oa yx0)), none, some (.int yx2), some (.long yx3), none, some (.int yx5)] [] (cw lt_C U oa yS) 0 0) (hp : b_Ar_fillJ_10 U x0 x2 x3 x5 S R10 K) : aw gG D z A X 6 10 [some (.ref (oa x0)), none, some (.int x2), some (.long x3), none, some (.int x5)] [] (cw lt_C U oa S) 0 0 := by
  unfold b_Ar_fillJ_10 at hp
  refine a_iload C dc_Ar_fillJ_10 rfl ?_
  refine a_iload_n C dc_Ar_fillJ_12 rfl rfl ?_
  refine a_icmp_ge (tgt := 27) C dc_Ar_fillJ_13 (by decide) ⟨fun hc => ?_, fun hc => ?_⟩
  · have hp := hp.1 hc
    exact a_vret C hQ hA dc_Ar_fillJ_27 rfl (Or.inl ⟨S, hp, rfl, rfl⟩)
  · have hp := hp.2 hc
    refine a_aload_n C dc_Ar_fillJ_16 rfl rfl ?_
    refine a_iload C dc_Ar_fillJ_17 rfl ?_
    refine a_lload_n C dc_Ar_fillJ_19 rfl rfl ?_
    have hc1 := hp.1
    have hp := hp.2
    refine c_last C x0 dc_Ar_fillJ_20 hc1 hp.1 ?_
    have hp := hp.2
    refine aw_eq (lo' := _) (st' := _) (L' := (cw lt_C U oa (S.1, va_up S.2.1 x0 (vp_updL (S.2.1 x0) x5.toNatClampNeg x3), S.2.2))) rfl rfl rfl ?_
    refine a_iinc (v := x5 + 1) (lo' := [some (.ref (oa x0)), none, some (.int x2), some (.long x3), none, some (.int (x5 + 1))]) C dc_Ar_fillJ_21 rfl rfl (by decide) rfl ?_
    refine a_goto (tgt := 10) C dc_Ar_fillJ_24 (by decide) ?_
    refine aw_lo (lo' := [some (.ref (oa x0)), none, some (.int x2), some (.long x3), none, some (.int (x5 + 1))]) ⟨.inr rfl, .inr rfl, .inr rfl, .inr rfl, .inr rfl, .inr rfl, trivial⟩ ?_
    exact hR10 x0 x2 x3 (x5 + 1) (S.1, va_up S.2.1 x0 (vp_updL (S.2.1 x0) x5.toNatClampNeg x3), S.2.2) hp
set_option maxRecDepth 100000 in
set_option maxHeartbeats 1000000 in
theorem se_Ar_fillJ_10 (C : fcx gG D z A X R_Ar c_C_Ar_fillJ 6 (none)) (hQ : X.2.2.2.2.2.2.2.2.2.2 = eQ gG D z X.2.2.2.2.2.2.2.1 X.2.2.2.2.1 L0 0 0 (pC_v lt_C U oa K (fun _ _ => False))) (hA : A = owA gG L0 X.2.2.2.2.1.heap.size) (hR : X.2.2.2.1 = { frames := 2, cells := 1, slots := 6, locals := 200 }) (x0 : Nat) (x2 : Int32) (x3 : Int64) (x5 : Int32) (S : cs) (hp : e_Ar_fillJ_10 U x0 x2 x3 x5 S K) : aw gG D z A X 6 10 [some (.ref (oa x0)), none, some (.int x2), some (.long x3), none, some (.int x5)] [] (cw lt_C U oa S) 0 0 := by
  obtain ⟨I, μ, h0, hs⟩ := hp
  have key : ∀ (n : Nat) (yx0 : Nat) (yx2 : Int32) (yx3 : Int64) (yx5 : Int32) (yS : cs), μ yx0 yx2 yx3 yx5 yS < n → I yx0 yx2 yx3 yx5 yS → aw gG D z A X 6 10 [some (.ref (oa yx0)), none, some (.int yx2), some (.long yx3), none, some (.int yx5)] [] (cw lt_C U oa yS) 0 0 := by
    intro n
    induction n with
    | zero => intro yx0 yx2 yx3 yx5 yS h; omega
    | succ n ih =>
      intro yx0 yx2 yx3 yx5 yS hn hI
      exact s_Ar_fillJ_10 C hQ hA hR yx0 yx2 yx3 yx5 yS _ (fun zx0 zx2 zx3 zx5 zS hw => ih zx0 zx2 zx3 zx5 zS (by omega) hw.1) (hs yx0 yx2 yx3 yx5 yS hI)
  exact key (μ x0 x2 x3 x5 S + 1) x0 x2 x3 x5 S (Nat.lt_succ_self _) h0
set_option maxRecDepth 100000 in
set_option maxHeartbeats 1000000 in
theorem s_Ar_fillJ_0 (C : fcx gG D z A X R_Ar c_C_Ar_fillJ 6 (none)) (hQ : X.2.2.2.2.2.2.2.2.2.2 = eQ gG D z X.2.2.2.2.2.2.2.1 X.2.2.2.2.1 L0 0 0 (pC_v lt_C U oa K (fun _ _ => False))) (hA : A = owA gG L0 X.2.2.2.2.1.heap.size) (hR : X.2.2.2.1 = { frames := 2, cells := 1, slots := 6, locals := 200 }) (x0 : Nat) (x1 : Int32) (x2 : Int32) (x3 : Int64) (S : cs) (hp : p_Ar_fillJ U x0 x1 x2 x3 S K) : aw gG D z A X 6 0 [some (.ref (oa x0)), some (.int x1), some (.int x2), some (.long x3), none, none] [] (cw lt_C U oa S) 0 0 := by
  unfold p_Ar_fillJ at hp
  refine a_aload_n C dc_Ar_fillJ_0 rfl rfl ?_
  have hc2 := hp.1
  have hp := hp.2
  refine c_alenL C x0 dc_Ar_fillJ_1 hc2 ?_
  refine a_iload_n C dc_Ar_fillJ_2 rfl rfl ?_
  refine a_iload_n C dc_Ar_fillJ_3 rfl rfl ?_
  refine a_callPV (rest := []) (av := [.int (nI (c_ln U x0)), .int x1, .int x2]) C dc_Ar_fillJ_4 (ct_Ar_rangeCheck (nI (c_ln U x0)) x1 x2 hp) cd_C_Ar_rangeCheck i_Ar (Nat.le_of_ble_eq_true rfl) (by rw [hR]; exact Nat.le_of_ble_eq_true rfl) (by rw [hR]; exact Nat.le_of_ble_eq_true rfl) (by rw [hR]; exact Nat.le_of_ble_eq_true rfl) (by rw [hR]; exact Nat.le_of_ble_eq_true rfl) (inv_S C dc_Ar_fillJ_4 l_Ar_13 st_C_Ar_rangeCheck i_Ar cd_C_Ar_rangeCheck ⟨by decide, by decide⟩ ln_C_Ar_rangeCheck rfl) (fun hp => ?_)
  refine aw_eq (lo' := _) (st' := []) (L' := (cw lt_C U oa S)) rfl rfl rfl ?_
  refine a_iload_n C dc_Ar_fillJ_7 rfl rfl ?_
  refine a_istore (lo' := [some (.ref (oa x0)), some (.int x1), some (.int x2), some (.long x3), none, some (.int x1)]) C dc_Ar_fillJ_8 (by decide) rfl ?_
  refine aw_lo (lo' := [some (.ref (oa x0)), none, some (.int x2), some (.long x3), none, some (.int x1)]) ⟨.inr rfl, .inl rfl, .inr rfl, .inr rfl, .inr rfl, .inr rfl, trivial⟩ ?_
  exact se_Ar_fillJ_10 C hQ hA hR x0 x2 x3 x1 S  hp
end C_Ar_fillJ
section C_Ar_fillJc
variable {D : va_G} {z : Nat → ClassId} {U : ut} {oa : Nat → Nat}
set_option maxRecDepth 100000 in
theorem ct_Ar_fillJ {l : Launch} (x0 : Nat) (x1 : Int32) (x2 : Int32) (x3 : Int64) (S : cs) {K : cs → Prop} (hp : p_Ar_fillJ U x0 x1 x2 x3 S K) : ct gG D z l n_C_Ar_fillJ c_C_Ar_fillJ 6 (none) 2 200 [.ref (oa x0), .int x1, .int x2, .long x3] (cw lt_C U oa S) 0 0 (pC_v lt_C U oa K (fun _ _ => False)) := by
  refine ct_of (lo := [some (.ref (oa x0)), some (.int x1), some (.int x2), some (.long x3), none, none]) (by decide) g_ok (Nat.le_of_ble_eq_true rfl) rfl ?_
  intro X A _ C hR hQ hA _
  exact s_Ar_fillJ_0 C hQ hA hR x0 x1 x2 x3 S hp
end C_Ar_fillJc
