def ext_Pi_init : ut := [(902, 3), (902, 3), (902, 3), (902, 3), (902, 3), (902, 3), (902, 12288), (902, 192), (902, 12288)]
def p_Pi_init (U : ut) (u : Nat) (S : cs) (K : cs → Prop) : Prop :=
  fresh (c_pi (c_pi (c_pi S u 0 1) u 1 1) u 2 1) U.length ∧ (vp_in 0 (c_ln (U ++ [(902, 3)]) U.length) ∧ (vp_in 1 (c_ln (U ++ [(902, 3)]) U.length) ∧ (vp_in 2 (c_ln (U ++ [(902, 3)]) U.length) ∧ (¬ U.length = NU ∧ (fresh (c_pr (c_pi (c_pi (c_pi (c_pi (c_pi (c_pi S u 0 1) u 1 1) u 2 1) U.length (0 : Int32).toNatClampNeg 1) U.length (1 : Int32).toNatClampNeg 1) U.length (2 : Int32).toNatClampNeg 1) u 3 U.length) (U.length + 1) ∧ (vp_in 0 (c_ln ((U ++ [(902, 3)]) ++ [(902, 3)]) (U.length + 1)) ∧ (vp_in 1 (c_ln ((U ++ [(902, 3)]) ++ [(902, 3)]) (U.length + 1)) ∧ (vp_in 2 (c_ln ((U ++ [(902, 3)]) ++ [(902, 3)]) (U.length + 1)) ∧ (¬ (U.length + 1) = NU ∧ (fresh (c_pi (c_pi (c_pi (c_pi (c_pr (c_pi (c_pi (c_pi (c_pr (c_pi (c_pi (c_pi (c_pi (c_pi (c_pi S u 0 1) u 1 1) u 2 1) U.length (0 : Int32).toNatClampNeg 1) U.length (1 : Int32).toNatClampNeg 1) U.length (2 : Int32).toNatClampNeg 1) u 3 U.length) (U.length + 1) (0 : Int32).toNatClampNeg 1) (U.length + 1) (1 : Int32).toNatClampNeg 1) (U.length + 1) (2 : Int32).toNatClampNeg 1) u 4 (U.length + 1)) u 5 1) u 6 1) u 7 1) u 8 1) (U.length + 2) ∧ (¬ (U.length + 2) = NU ∧ (fresh (c_pr (c_pi (c_pi (c_pi (c_pi (c_pr (c_pi (c_pi (c_pi (c_pr (c_pi (c_pi (c_pi (c_pi (c_pi (c_pi S u 0 1) u 1 1) u 2 1) U.length (0 : Int32).toNatClampNeg 1) U.length (1 : Int32).toNatClampNeg 1) U.length (2 : Int32).toNatClampNeg 1) u 3 U.length) (U.length + 1) (0 : Int32).toNatClampNeg 1) (U.length + 1) (1 : Int32).toNatClampNeg 1) (U.length + 1) (2 : Int32).toNatClampNeg 1) u 4 (U.length + 1)) u 5 1) u 6 1) u 7 1) u 8 1) u 9 (U.length + 2)) (U.length + 3) ∧ (¬ (U.length + 3) = NU ∧ (fresh (c_pr (c_pr (c_pi (c_pi (c_pi (c_pi (c_pr (c_pi (c_pi (c_pi (c_pr (c_pi (c_pi (c_pi (c_pi (c_pi (c_pi S u 0 1) u 1 1) u 2 1) U.length (0 : Int32).toNatClampNeg 1) U.length (1 : Int32).toNatClampNeg 1) U.length (2 : Int32).toNatClampNeg 1) u 3 U.length) (U.length + 1) (0 : Int32).toNatClampNeg 1) (U.length + 1) (1 : Int32).toNatClampNeg 1) (U.length + 1) (2 : Int32).toNatClampNeg 1) u 4 (U.length + 1)) u 5 1) u 6 1) u 7 1) u 8 1) u 9 (U.length + 2)) u 10 (U.length + 3)) (U.length + 4) ∧ (¬ (U.length + 4) = NU ∧ (fresh (c_pr (c_pr (c_pr (c_pi (c_pi (c_pi (c_pi (c_pr (c_pi (c_pi (c_pi (c_pr (c_pi (c_pi (c_pi (c_pi (c_pi (c_pi S u 0 1) u 1 1) u 2 1) U.length (0 : Int32).toNatClampNeg 1) U.length (1 : Int32).toNatClampNeg 1) U.length (2 : Int32).toNatClampNeg 1) u 3 U.length) (U.length + 1) (0 : Int32).toNatClampNeg 1) (U.length + 1) (1 : Int32).toNatClampNeg 1) (U.length + 1) (2 : Int32).toNatClampNeg 1) u 4 (U.length + 1)) u 5 1) u 6 1) u 7 1) u 8 1) u 9 (U.length + 2)) u 10 (U.length + 3)) u 11 (U.length + 4)) (U.length + 5) ∧ (¬ (U.length + 5) = NU ∧ (fresh (c_pr (c_pr (c_pr (c_pr (c_pi (c_pi (c_pi (c_pi (c_pr (c_pi (c_pi (c_pi (c_pr (c_pi (c_pi (c_pi (c_pi (c_pi (c_pi S u 0 1) u 1 1) u 2 1) U.length (0 : Int32).toNatClampNeg 1) U.length (1 : Int32).toNatClampNeg 1) U.length (2 : Int32).toNatClampNeg 1) u 3 U.length) (U.length + 1) (0 : Int32).toNatClampNeg 1) (U.length + 1) (1 : Int32).toNatClampNeg 1) (U.length + 1) (2 : Int32).toNatClampNeg 1) u 4 (U.length + 1)) u 5 1) u 6 1) u 7 1) u 8 1) u 9 (U.length + 2)) u 10 (U.length + 3)) u 11 (U.length + 4)) u 12 (U.length + 5)) (U.length + 6) ∧ (¬ (U.length + 6) = NU ∧ (fresh (c_pr (c_pr (c_pr (c_pr (c_pr (c_pi (c_pi (c_pi (c_pi (c_pr (c_pi (c_pi (c_pi (c_pr (c_pi (c_pi (c_pi (c_pi (c_pi (c_pi S u 0 1) u 1 1) u 2 1) U.length (0 : Int32).toNatClampNeg 1) U.length (1 : Int32).toNatClampNeg 1) U.length (2 : Int32).toNatClampNeg 1) u 3 U.length) (U.length + 1) (0 : Int32).toNatClampNeg 1) (U.length + 1) (1 : Int32).toNatClampNeg 1) (U.length + 1) (2 : Int32).toNatClampNeg 1) u 4 (U.length + 1)) u 5 1) u 6 1) u 7 1) u 8 1) u 9 (U.length + 2)) u 10 (U.length + 3)) u 11 (U.length + 4)) u 12 (U.length + 5)) u 13 (U.length + 6)) (U.length + 7) ∧ (¬ (U.length + 7) = NU ∧ (fresh (c_pr (c_pr (c_pr (c_pr (c_pr (c_pr (c_pi (c_pi (c_pi (c_pi (c_pr (c_pi (c_pi (c_pi (c_pr (c_pi (c_pi (c_pi (c_pi (c_pi (c_pi S u 0 1) u 1 1) u 2 1) U.length (0 : Int32).toNatClampNeg 1) U.length (1 : Int32).toNatClampNeg 1) U.length (2 : Int32).toNatClampNeg 1) u 3 U.length) (U.length + 1) (0 : Int32).toNatClampNeg 1) (U.length + 1) (1 : Int32).toNatClampNeg 1) (U.length + 1) (2 : Int32).toNatClampNeg 1) u 4 (U.length + 1)) u 5 1) u 6 1) u 7 1) u 8 1) u 9 (U.length + 2)) u 10 (U.length + 3)) u 11 (U.length + 4)) u 12 (U.length + 5)) u 13 (U.length + 6)) u 14 (U.length + 7)) (U.length + 8) ∧ (¬ (U.length + 8) = NU ∧ (K (c_pr (c_pr (c_pr (c_pr (c_pr (c_pr (c_pr (c_pi (c_pi (c_pi (c_pi (c_pr (c_pi (c_pi (c_pi (c_pr (c_pi (c_pi (c_pi (c_pi (c_pi (c_pi S u 0 1) u 1 1) u 2 1) U.length (0 : Int32).toNatClampNeg 1) U.length (1 : Int32).toNatClampNeg 1) U.length (2 : Int32).toNatClampNeg 1) u 3 U.length) (U.length + 1) (0 : Int32).toNatClampNeg 1) (U.length + 1) (1 : Int32).toNatClampNeg 1) (U.length + 1) (2 : Int32).toNatClampNeg 1) u 4 (U.length + 1)) u 5 1) u 6 1) u 7 1) u 8 1) u 9 (U.length + 2)) u 10 (U.length + 3)) u 11 (U.length + 4)) u 12 (U.length + 5)) u 13 (U.length + 6)) u 14 (U.length + 7)) u 15 (U.length + 8))))))))))))))))))))))))))

section I_Pi_init
variable {D : va_G} {z : Nat → ClassId} {U : ut} {oa : Nat → Nat}
set_option maxRecDepth 100000 in
set_option maxHeartbeats 4000000 in
theorem ct_Pi_init {l : Launch} (u : Nat) (S : cs) {K : cs → Prop} (hu : c_cl U u = 7) (hp : p_Pi_init U u S K) : ct gG D z l n_C_Pi_init c_C_Pi_init 1 (none) 2 200 [.ref (oa u)] (cw lt_C U oa S) 9 24786 (pC_n lt_C U ext_Pi_init oa K) := by
  refine ct_ofI (lo := [some (.ref (oa u))]) (by decide) g_ok (Nat.le_of_ble_eq_true rfl) rfl ?_
  intro X A _ C hR hQ hA _ hin
  unfold p_Pi_init at hp
  have hu0 := hu
  have hlt0 : u < U.length := c_lt hu0 (by decide)
  have hag : ∀ v, v < U.length → oa v = oa v := fun _ _ => rfl
  refine a_aload_n C dc_Pi_init_0 rfl rfl ?_
  refine a_obj C dc_Pi_init_1 l_Pi_3 oi_M oc_M (Nat.le_of_ble_eq_true rfl) (by rw [hR]; exact Nat.le_of_ble_eq_true rfl) (by rw [hR]; exact Nat.le_of_ble_eq_true rfl) ?_
  refine a_aload_n C dc_Pi_init_4 rfl rfl ?_
  refine a_iconst (v := 1) C dc_Pi_init_5 (by decide) ?_
  refine c_putI (ty := .int) C u 0 dc_Pi_init_6 hu rfl rfl (Nat.le_of_ble_eq_true rfl) f_Pi_9 (Nat.le_of_ble_eq_true rfl) rfl rfl rfl rfl ?_
  refine a_aload_n C dc_Pi_init_9 rfl rfl ?_
  refine a_iconst (v := 1) C dc_Pi_init_10 (by decide) ?_
  refine c_putI (ty := .int) C u 1 dc_Pi_init_11 hu rfl rfl (Nat.le_of_ble_eq_true rfl) f_Pi_15 (Nat.le_of_ble_eq_true rfl) rfl rfl rfl rfl ?_
  refine a_aload_n C dc_Pi_init_14 rfl rfl ?_
  refine a_iconst (v := 1) C dc_Pi_init_15 (by decide) ?_
  refine c_putI (ty := .int) C u 2 dc_Pi_init_16 hu rfl rfl (Nat.le_of_ble_eq_true rfl) f_Pi_18 (Nat.le_of_ble_eq_true rfl) rfl rfl rfl rfl ?_
  refine a_aload_n C dc_Pi_init_19 rfl rfl ?_
  refine a_iconst (v := 3) C dc_Pi_init_20 (by decide) ?_
  refine c_newa (ty := .int) (N := 3) (n := U.length) C 2 dc_Pi_init_21 ac_int rfl (C.kn.2 0 _ rfl).2 (fun _ => rfl) (by decide) (by decide) (by decide) (by decide) (by simp +arith only [List.length_append, List.length_cons, List.length_nil]) hp.1 (by rw [hR]; exact Nat.le_of_ble_eq_true rfl) (by rw [hR]; exact Nat.le_of_ble_eq_true rfl) (fun q21 => ?_)
  have hp := hp.2
  generalize hoa21 : va_up oa U.length q21 = oa21
  have hq21 : oa21 U.length = q21 := by rw [← hoa21]; exact up_at
  have hag : ∀ v, v < U.length → oa21 v = oa v := fun v hv => (show oa21 v = oa v by rw [← hoa21]; exact up_ne (Nat.ne_of_lt hv)).trans (hag v hv)
  rw [← hq21]
  have hz0 : oa21 u = oa u := (by rw [← hoa21]; exact up_ne (Nat.ne_of_lt hlt0))
  rw [← hz0]
  have hcn21 := c_clN (c := (902, 3)) (U := U) (n := U.length) (by simp +arith only [List.length_append, List.length_cons, List.length_nil])
  have hu := c_clA (V := [(902, 3)]) hu (by decide)
  refine a_dup C dc_Pi_init_23 rfl ?_
  refine a_iconst (v := 0) C dc_Pi_init_24 (by decide) ?_
  refine a_iconst (v := 1) C dc_Pi_init_25 (by decide) ?_
  refine c_iast C U.length dc_Pi_init_26 hcn21 hp.1 ?_
  have hp := hp.2
  refine a_dup C dc_Pi_init_27 rfl ?_
  refine a_iconst (v := 1) C dc_Pi_init_28 (by decide) ?_
  refine a_iconst (v := 1) C dc_Pi_init_29 (by decide) ?_
  refine c_iast C U.length dc_Pi_init_30 hcn21 hp.1 ?_
  have hp := hp.2
  refine a_dup C dc_Pi_init_31 rfl ?_
  refine a_iconst (v := 2) C dc_Pi_init_32 (by decide) ?_
  refine a_iconst (v := 1) C dc_Pi_init_33 (by decide) ?_
  refine c_iast C U.length dc_Pi_init_34 hcn21 hp.1 ?_
  have hp := hp.2
  refine c_putRF (ty := .array .int) C u 3 hin dc_Pi_init_35 hu rfl rfl (Nat.le_of_ble_eq_true rfl) f_Pi_21 rfl rfl rfl (fun _ => rfl) (fun _ => rfl) rfl rfl hp.1 ?_
  have hp := hp.2
  refine a_aload_n C dc_Pi_init_38 rfl rfl ?_
  refine a_iconst (v := 3) C dc_Pi_init_39 (by decide) ?_
  refine c_newa (ty := .int) (N := 3) (n := U.length + 1) C 2 dc_Pi_init_40 ac_int rfl (C.kn.2 0 _ rfl).2 (fun _ => rfl) (by decide) (by decide) (by decide) (by decide) (by simp +arith only [List.length_append, List.length_cons, List.length_nil]) hp.1 (by rw [hR]; exact Nat.le_of_ble_eq_true rfl) (by rw [hR]; exact Nat.le_of_ble_eq_true rfl) (fun q40 => ?_)
  have hp := hp.2
  generalize hoa40 : va_up oa21 (U.length + 1) q40 = oa40
  have hq40 : oa40 (U.length + 1) = q40 := by rw [← hoa40]; exact up_at
  have hag : ∀ v, v < U.length → oa40 v = oa v := fun v hv => (show oa40 v = oa21 v by rw [← hoa40]; exact up_ne (Nat.ne_of_lt (Nat.lt_of_lt_of_le hv (Nat.le_add_right _ _)))).trans (hag v hv)
  rw [← hq40]
  have hz1 : oa40 u = oa21 u := (by rw [← hoa40]; exact up_ne (Nat.ne_of_lt (Nat.lt_of_lt_of_le hlt0 (Nat.le_add_right _ _))))
  rw [← hz1]
  have hcn40 := c_clN (c := (902, 3)) (U := (U ++ [(902, 3)])) (n := U.length + 1) (by simp +arith only [List.length_append, List.length_cons, List.length_nil])
  have hu := c_clA (V := [(902, 3)]) hu (by decide)
  have hcn21 := c_clA (V := [(902, 3)]) hcn21 (by decide)
  refine a_dup C dc_Pi_init_42 rfl ?_
  refine a_iconst (v := 0) C dc_Pi_init_43 (by decide) ?_
  refine a_iconst (v := 1) C dc_Pi_init_44 (by decide) ?_
  refine c_iast C (U.length + 1) dc_Pi_init_45 hcn40 hp.1 ?_
  have hp := hp.2
  refine a_dup C dc_Pi_init_46 rfl ?_
  refine a_iconst (v := 1) C dc_Pi_init_47 (by decide) ?_
  refine a_iconst (v := 1) C dc_Pi_init_48 (by decide) ?_
  refine c_iast C (U.length + 1) dc_Pi_init_49 hcn40 hp.1 ?_
  have hp := hp.2
  refine a_dup C dc_Pi_init_50 rfl ?_
  refine a_iconst (v := 2) C dc_Pi_init_51 (by decide) ?_
  refine a_iconst (v := 1) C dc_Pi_init_52 (by decide) ?_
  refine c_iast C (U.length + 1) dc_Pi_init_53 hcn40 hp.1 ?_
  have hp := hp.2
  refine c_putRF (ty := .array .int) C u 4 hin dc_Pi_init_54 hu rfl rfl (Nat.le_of_ble_eq_true rfl) f_Pi_25 rfl rfl rfl (fun _ => rfl) (fun _ => rfl) rfl rfl hp.1 ?_
  have hp := hp.2
  refine a_aload_n C dc_Pi_init_57 rfl rfl ?_
  refine a_iconst (v := 1) C dc_Pi_init_58 (by decide) ?_
  refine c_putI (ty := .int) C u 5 dc_Pi_init_59 hu rfl rfl (Nat.le_of_ble_eq_true rfl) f_Pi_28 (Nat.le_of_ble_eq_true rfl) rfl rfl rfl rfl ?_
  refine a_aload_n C dc_Pi_init_62 rfl rfl ?_
  refine a_iconst (v := 1) C dc_Pi_init_63 (by decide) ?_
  refine c_putI (ty := .int) C u 6 dc_Pi_init_64 hu rfl rfl (Nat.le_of_ble_eq_true rfl) f_Pi_31 (Nat.le_of_ble_eq_true rfl) rfl rfl rfl rfl ?_
  refine a_aload_n C dc_Pi_init_67 rfl rfl ?_
  refine a_iconst (v := 1) C dc_Pi_init_68 (by decide) ?_
  refine c_putI (ty := .int) C u 7 dc_Pi_init_69 hu rfl rfl (Nat.le_of_ble_eq_true rfl) f_Pi_34 (Nat.le_of_ble_eq_true rfl) rfl rfl rfl rfl ?_
  refine a_aload_n C dc_Pi_init_72 rfl rfl ?_
  refine a_iconst (v := 1) C dc_Pi_init_73 (by decide) ?_
  refine c_putI (ty := .int) C u 8 dc_Pi_init_74 hu rfl rfl (Nat.le_of_ble_eq_true rfl) f_Pi_37 (Nat.le_of_ble_eq_true rfl) rfl rfl rfl rfl ?_
  refine a_aload_n C dc_Pi_init_77 rfl rfl ?_
  refine a_iconst (v := 3) C dc_Pi_init_78 (by decide) ?_
  refine c_newa (ty := .int) (N := 3) (n := U.length + 2) C 2 dc_Pi_init_79 ac_int rfl (C.kn.2 0 _ rfl).2 (fun _ => rfl) (by decide) (by decide) (by decide) (by decide) (by simp +arith only [List.length_append, List.length_cons, List.length_nil]) hp.1 (by rw [hR]; exact Nat.le_of_ble_eq_true rfl) (by rw [hR]; exact Nat.le_of_ble_eq_true rfl) (fun q79 => ?_)
  have hp := hp.2
  generalize hoa79 : va_up oa40 (U.length + 2) q79 = oa79
  have hq79 : oa79 (U.length + 2) = q79 := by rw [← hoa79]; exact up_at
  have hag : ∀ v, v < U.length → oa79 v = oa v := fun v hv => (show oa79 v = oa40 v by rw [← hoa79]; exact up_ne (Nat.ne_of_lt (Nat.lt_of_lt_of_le hv (Nat.le_add_right _ _)))).trans (hag v hv)
  rw [← hq79]
  have hz2 : oa79 u = oa40 u := (by rw [← hoa79]; exact up_ne (Nat.ne_of_lt (Nat.lt_of_lt_of_le hlt0 (Nat.le_add_right _ _))))
  rw [← hz2]
  have hcn79 := c_clN (c := (902, 3)) (U := ((U ++ [(902, 3)]) ++ [(902, 3)])) (n := U.length + 2) (by simp +arith only [List.length_append, List.length_cons, List.length_nil])
  have hu := c_clA (V := [(902, 3)]) hu (by decide)
  have hcn21 := c_clA (V := [(902, 3)]) hcn21 (by decide)
  have hcn40 := c_clA (V := [(902, 3)]) hcn40 (by decide)
  refine c_putRF (ty := .array .int) C u 9 hin dc_Pi_init_81 hu rfl rfl (Nat.le_of_ble_eq_true rfl) f_Pi_40 rfl rfl rfl (fun _ => rfl) (fun _ => rfl) rfl rfl hp.1 ?_
  have hp := hp.2
  refine a_aload_n C dc_Pi_init_84 rfl rfl ?_
  refine a_iconst (v := 3) C dc_Pi_init_85 (by decide) ?_
  refine c_newa (ty := .int) (N := 3) (n := U.length + 3) C 2 dc_Pi_init_86 ac_int rfl (C.kn.2 0 _ rfl).2 (fun _ => rfl) (by decide) (by decide) (by decide) (by decide) (by simp +arith only [List.length_append, List.length_cons, List.length_nil]) hp.1 (by rw [hR]; exact Nat.le_of_ble_eq_true rfl) (by rw [hR]; exact Nat.le_of_ble_eq_true rfl) (fun q86 => ?_)
  have hp := hp.2
  generalize hoa86 : va_up oa79 (U.length + 3) q86 = oa86
  have hq86 : oa86 (U.length + 3) = q86 := by rw [← hoa86]; exact up_at
  have hag : ∀ v, v < U.length → oa86 v = oa v := fun v hv => (show oa86 v = oa79 v by rw [← hoa86]; exact up_ne (Nat.ne_of_lt (Nat.lt_of_lt_of_le hv (Nat.le_add_right _ _)))).trans (hag v hv)
  rw [← hq86]
  have hz3 : oa86 u = oa79 u := (by rw [← hoa86]; exact up_ne (Nat.ne_of_lt (Nat.lt_of_lt_of_le hlt0 (Nat.le_add_right _ _))))
  rw [← hz3]
  have hcn86 := c_clN (c := (902, 3)) (U := (((U ++ [(902, 3)]) ++ [(902, 3)]) ++ [(902, 3)])) (n := U.length + 3) (by simp +arith only [List.length_append, List.length_cons, List.length_nil])
  have hu := c_clA (V := [(902, 3)]) hu (by decide)
  have hcn21 := c_clA (V := [(902, 3)]) hcn21 (by decide)
  have hcn40 := c_clA (V := [(902, 3)]) hcn40 (by decide)
  have hcn79 := c_clA (V := [(902, 3)]) hcn79 (by decide)
  refine c_putRF (ty := .array .int) C u 10 hin dc_Pi_init_88 hu rfl rfl (Nat.le_of_ble_eq_true rfl) f_Pi_43 rfl rfl rfl (fun _ => rfl) (fun _ => rfl) rfl rfl hp.1 ?_
  have hp := hp.2
  refine a_aload_n C dc_Pi_init_91 rfl rfl ?_
  refine a_iconst (v := 3) C dc_Pi_init_92 (by decide) ?_
  refine c_newa (ty := .int) (N := 3) (n := U.length + 4) C 2 dc_Pi_init_93 ac_int rfl (C.kn.2 0 _ rfl).2 (fun _ => rfl) (by decide) (by decide) (by decide) (by decide) (by simp +arith only [List.length_append, List.length_cons, List.length_nil]) hp.1 (by rw [hR]; exact Nat.le_of_ble_eq_true rfl) (by rw [hR]; exact Nat.le_of_ble_eq_true rfl) (fun q93 => ?_)
  have hp := hp.2
  generalize hoa93 : va_up oa86 (U.length + 4) q93 = oa93
  have hq93 : oa93 (U.length + 4) = q93 := by rw [← hoa93]; exact up_at
  have hag : ∀ v, v < U.length → oa93 v = oa v := fun v hv => (show oa93 v = oa86 v by rw [← hoa93]; exact up_ne (Nat.ne_of_lt (Nat.lt_of_lt_of_le hv (Nat.le_add_right _ _)))).trans (hag v hv)
  rw [← hq93]
  have hz4 : oa93 u = oa86 u := (by rw [← hoa93]; exact up_ne (Nat.ne_of_lt (Nat.lt_of_lt_of_le hlt0 (Nat.le_add_right _ _))))
  rw [← hz4]
  have hcn93 := c_clN (c := (902, 3)) (U := ((((U ++ [(902, 3)]) ++ [(902, 3)]) ++ [(902, 3)]) ++ [(902, 3)])) (n := U.length + 4) (by simp +arith only [List.length_append, List.length_cons, List.length_nil])
  have hu := c_clA (V := [(902, 3)]) hu (by decide)
  have hcn21 := c_clA (V := [(902, 3)]) hcn21 (by decide)
  have hcn40 := c_clA (V := [(902, 3)]) hcn40 (by decide)
  have hcn79 := c_clA (V := [(902, 3)]) hcn79 (by decide)
  have hcn86 := c_clA (V := [(902, 3)]) hcn86 (by decide)
  refine c_putRF (ty := .array .int) C u 11 hin dc_Pi_init_95 hu rfl rfl (Nat.le_of_ble_eq_true rfl) f_Pi_46 rfl rfl rfl (fun _ => rfl) (fun _ => rfl) rfl rfl hp.1 ?_
  have hp := hp.2
  refine a_aload_n C dc_Pi_init_98 rfl rfl ?_
  refine a_iconst (v := 3) C dc_Pi_init_99 (by decide) ?_
  refine c_newa (ty := .int) (N := 3) (n := U.length + 5) C 2 dc_Pi_init_100 ac_int rfl (C.kn.2 0 _ rfl).2 (fun _ => rfl) (by decide) (by decide) (by decide) (by decide) (by simp +arith only [List.length_append, List.length_cons, List.length_nil]) hp.1 (by rw [hR]; exact Nat.le_of_ble_eq_true rfl) (by rw [hR]; exact Nat.le_of_ble_eq_true rfl) (fun q100 => ?_)
  have hp := hp.2
  generalize hoa100 : va_up oa93 (U.length + 5) q100 = oa100
  have hq100 : oa100 (U.length + 5) = q100 := by rw [← hoa100]; exact up_at
  have hag : ∀ v, v < U.length → oa100 v = oa v := fun v hv => (show oa100 v = oa93 v by rw [← hoa100]; exact up_ne (Nat.ne_of_lt (Nat.lt_of_lt_of_le hv (Nat.le_add_right _ _)))).trans (hag v hv)
  rw [← hq100]
  have hz5 : oa100 u = oa93 u := (by rw [← hoa100]; exact up_ne (Nat.ne_of_lt (Nat.lt_of_lt_of_le hlt0 (Nat.le_add_right _ _))))
  rw [← hz5]
  have hcn100 := c_clN (c := (902, 3)) (U := (((((U ++ [(902, 3)]) ++ [(902, 3)]) ++ [(902, 3)]) ++ [(902, 3)]) ++ [(902, 3)])) (n := U.length + 5) (by simp +arith only [List.length_append, List.length_cons, List.length_nil])
  have hu := c_clA (V := [(902, 3)]) hu (by decide)
  have hcn21 := c_clA (V := [(902, 3)]) hcn21 (by decide)
  have hcn40 := c_clA (V := [(902, 3)]) hcn40 (by decide)
  have hcn79 := c_clA (V := [(902, 3)]) hcn79 (by decide)
  have hcn86 := c_clA (V := [(902, 3)]) hcn86 (by decide)
  have hcn93 := c_clA (V := [(902, 3)]) hcn93 (by decide)
  refine c_putRF (ty := .array .int) C u 12 hin dc_Pi_init_102 hu rfl rfl (Nat.le_of_ble_eq_true rfl) f_Pi_49 rfl rfl rfl (fun _ => rfl) (fun _ => rfl) rfl rfl hp.1 ?_
  have hp := hp.2
  refine a_aload_n C dc_Pi_init_105 rfl rfl ?_
  refine a_sipush (v := 12288) C dc_Pi_init_106 (by decide) ?_
  refine c_newa (ty := .int) (N := 12288) (n := U.length + 6) C 2 dc_Pi_init_109 ac_int rfl (C.kn.2 0 _ rfl).2 (fun _ => rfl) (by decide) (by decide) (by decide) (by decide) (by simp +arith only [List.length_append, List.length_cons, List.length_nil]) hp.1 (by rw [hR]; exact Nat.le_of_ble_eq_true rfl) (by rw [hR]; exact Nat.le_of_ble_eq_true rfl) (fun q109 => ?_)
  have hp := hp.2
  generalize hoa109 : va_up oa100 (U.length + 6) q109 = oa109
  have hq109 : oa109 (U.length + 6) = q109 := by rw [← hoa109]; exact up_at
  have hag : ∀ v, v < U.length → oa109 v = oa v := fun v hv => (show oa109 v = oa100 v by rw [← hoa109]; exact up_ne (Nat.ne_of_lt (Nat.lt_of_lt_of_le hv (Nat.le_add_right _ _)))).trans (hag v hv)
  rw [← hq109]
  have hz6 : oa109 u = oa100 u := (by rw [← hoa109]; exact up_ne (Nat.ne_of_lt (Nat.lt_of_lt_of_le hlt0 (Nat.le_add_right _ _))))
  rw [← hz6]
  have hcn109 := c_clN (c := (902, 12288)) (U := ((((((U ++ [(902, 3)]) ++ [(902, 3)]) ++ [(902, 3)]) ++ [(902, 3)]) ++ [(902, 3)]) ++ [(902, 3)])) (n := U.length + 6) (by simp +arith only [List.length_append, List.length_cons, List.length_nil])
  have hu := c_clA (V := [(902, 12288)]) hu (by decide)
  have hcn21 := c_clA (V := [(902, 12288)]) hcn21 (by decide)
  have hcn40 := c_clA (V := [(902, 12288)]) hcn40 (by decide)
  have hcn79 := c_clA (V := [(902, 12288)]) hcn79 (by decide)
  have hcn86 := c_clA (V := [(902, 12288)]) hcn86 (by decide)
  have hcn93 := c_clA (V := [(902, 12288)]) hcn93 (by decide)
  have hcn100 := c_clA (V := [(902, 12288)]) hcn100 (by decide)
  refine c_putRF (ty := .array .int) C u 13 hin dc_Pi_init_111 hu rfl rfl (Nat.le_of_ble_eq_true rfl) f_Pi_52 rfl rfl rfl (fun _ => rfl) (fun _ => rfl) rfl rfl hp.1 ?_
  have hp := hp.2
  refine a_aload_n C dc_Pi_init_114 rfl rfl ?_
  refine a_sipush (v := 192) C dc_Pi_init_115 (by decide) ?_
  refine c_newa (ty := .int) (N := 192) (n := U.length + 7) C 2 dc_Pi_init_118 ac_int rfl (C.kn.2 0 _ rfl).2 (fun _ => rfl) (by decide) (by decide) (by decide) (by decide) (by simp +arith only [List.length_append, List.length_cons, List.length_nil]) hp.1 (by rw [hR]; exact Nat.le_of_ble_eq_true rfl) (by rw [hR]; exact Nat.le_of_ble_eq_true rfl) (fun q118 => ?_)
  have hp := hp.2
  generalize hoa118 : va_up oa109 (U.length + 7) q118 = oa118
  have hq118 : oa118 (U.length + 7) = q118 := by rw [← hoa118]; exact up_at
  have hag : ∀ v, v < U.length → oa118 v = oa v := fun v hv => (show oa118 v = oa109 v by rw [← hoa118]; exact up_ne (Nat.ne_of_lt (Nat.lt_of_lt_of_le hv (Nat.le_add_right _ _)))).trans (hag v hv)
  rw [← hq118]
  have hz7 : oa118 u = oa109 u := (by rw [← hoa118]; exact up_ne (Nat.ne_of_lt (Nat.lt_of_lt_of_le hlt0 (Nat.le_add_right _ _))))
  rw [← hz7]
  have hcn118 := c_clN (c := (902, 192)) (U := (((((((U ++ [(902, 3)]) ++ [(902, 3)]) ++ [(902, 3)]) ++ [(902, 3)]) ++ [(902, 3)]) ++ [(902, 3)]) ++ [(902, 12288)])) (n := U.length + 7) (by simp +arith only [List.length_append, List.length_cons, List.length_nil])
  have hu := c_clA (V := [(902, 192)]) hu (by decide)
  have hcn21 := c_clA (V := [(902, 192)]) hcn21 (by decide)
  have hcn40 := c_clA (V := [(902, 192)]) hcn40 (by decide)
  have hcn79 := c_clA (V := [(902, 192)]) hcn79 (by decide)
  have hcn86 := c_clA (V := [(902, 192)]) hcn86 (by decide)
  have hcn93 := c_clA (V := [(902, 192)]) hcn93 (by decide)
  have hcn100 := c_clA (V := [(902, 192)]) hcn100 (by decide)
  have hcn109 := c_clA (V := [(902, 192)]) hcn109 (by decide)
  refine c_putRF (ty := .array .int) C u 14 hin dc_Pi_init_120 hu rfl rfl (Nat.le_of_ble_eq_true rfl) f_Pi_55 rfl rfl rfl (fun _ => rfl) (fun _ => rfl) rfl rfl hp.1 ?_
  have hp := hp.2
  refine a_aload_n C dc_Pi_init_123 rfl rfl ?_
  refine a_sipush (v := 12288) C dc_Pi_init_124 (by decide) ?_
  refine c_newa (ty := .int) (N := 12288) (n := U.length + 8) C 2 dc_Pi_init_127 ac_int rfl (C.kn.2 0 _ rfl).2 (fun _ => rfl) (by decide) (by decide) (by decide) (by decide) (by simp +arith only [List.length_append, List.length_cons, List.length_nil]) hp.1 (by rw [hR]; exact Nat.le_of_ble_eq_true rfl) (by rw [hR]; exact Nat.le_of_ble_eq_true rfl) (fun q127 => ?_)
  have hp := hp.2
  generalize hoa127 : va_up oa118 (U.length + 8) q127 = oa127
  have hq127 : oa127 (U.length + 8) = q127 := by rw [← hoa127]; exact up_at
  have hag : ∀ v, v < U.length → oa127 v = oa v := fun v hv => (show oa127 v = oa118 v by rw [← hoa127]; exact up_ne (Nat.ne_of_lt (Nat.lt_of_lt_of_le hv (Nat.le_add_right _ _)))).trans (hag v hv)
  rw [← hq127]
  have hz8 : oa127 u = oa118 u := (by rw [← hoa127]; exact up_ne (Nat.ne_of_lt (Nat.lt_of_lt_of_le hlt0 (Nat.le_add_right _ _))))
  rw [← hz8]
  have hcn127 := c_clN (c := (902, 12288)) (U := ((((((((U ++ [(902, 3)]) ++ [(902, 3)]) ++ [(902, 3)]) ++ [(902, 3)]) ++ [(902, 3)]) ++ [(902, 3)]) ++ [(902, 12288)]) ++ [(902, 192)])) (n := U.length + 8) (by simp +arith only [List.length_append, List.length_cons, List.length_nil])
  have hu := c_clA (V := [(902, 12288)]) hu (by decide)
  have hcn21 := c_clA (V := [(902, 12288)]) hcn21 (by decide)
  have hcn40 := c_clA (V := [(902, 12288)]) hcn40 (by decide)
  have hcn79 := c_clA (V := [(902, 12288)]) hcn79 (by decide)
  have hcn86 := c_clA (V := [(902, 12288)]) hcn86 (by decide)
  have hcn93 := c_clA (V := [(902, 12288)]) hcn93 (by decide)
  have hcn100 := c_clA (V := [(902, 12288)]) hcn100 (by decide)
  have hcn109 := c_clA (V := [(902, 12288)]) hcn109 (by decide)
  have hcn118 := c_clA (V := [(902, 12288)]) hcn118 (by decide)
  refine c_putRF (ty := .array .int) C u 15 hin dc_Pi_init_129 hu rfl rfl (Nat.le_of_ble_eq_true rfl) f_Pi_58 rfl rfl rfl (fun _ => rfl) (fun _ => rfl) rfl rfl hp.1 ?_
  have hp := hp.2
  refine aw_widen (nc' := 9) (ns' := 24786) (Nat.le_of_ble_eq_true rfl) (Nat.le_of_ble_eq_true rfl) ?_
  refine aw_eq (lo' := _) (st' := _) (L' := (cw lt_C (U ++ ext_Pi_init) oa127 (c_pr (c_pr (c_pr (c_pr (c_pr (c_pr (c_pr (c_pi (c_pi (c_pi (c_pi (c_pr (c_pi (c_pi (c_pi (c_pr (c_pi (c_pi (c_pi (c_pi (c_pi (c_pi S u 0 1) u 1 1) u 2 1) U.length (0 : Int32).toNatClampNeg 1) U.length (1 : Int32).toNatClampNeg 1) U.length (2 : Int32).toNatClampNeg 1) u 3 U.length) (U.length + 1) (0 : Int32).toNatClampNeg 1) (U.length + 1) (1 : Int32).toNatClampNeg 1) (U.length + 1) (2 : Int32).toNatClampNeg 1) u 4 (U.length + 1)) u 5 1) u 6 1) u 7 1) u 8 1) u 9 (U.length + 2)) u 10 (U.length + 3)) u 11 (U.length + 4)) u 12 (U.length + 5)) u 13 (U.length + 6)) u 14 (U.length + 7)) u 15 (U.length + 8)))) rfl rfl (by simp only [ext_Pi_init, List.append_assoc, List.cons_append, List.nil_append, List.append_nil]) ?_
  exact a_vret C hQ hA dc_Pi_init_132 rfl ⟨oa127, (c_pr (c_pr (c_pr (c_pr (c_pr (c_pr (c_pr (c_pi (c_pi (c_pi (c_pi (c_pr (c_pi (c_pi (c_pi (c_pr (c_pi (c_pi (c_pi (c_pi (c_pi (c_pi S u 0 1) u 1 1) u 2 1) U.length (0 : Int32).toNatClampNeg 1) U.length (1 : Int32).toNatClampNeg 1) U.length (2 : Int32).toNatClampNeg 1) u 3 U.length) (U.length + 1) (0 : Int32).toNatClampNeg 1) (U.length + 1) (1 : Int32).toNatClampNeg 1) (U.length + 1) (2 : Int32).toNatClampNeg 1) u 4 (U.length + 1)) u 5 1) u 6 1) u 7 1) u 8 1) u 9 (U.length + 2)) u 10 (U.length + 3)) u 11 (U.length + 4)) u 12 (U.length + 5)) u 13 (U.length + 6)) u 14 (U.length + 7)) u 15 (U.length + 8)), hp, hag, rfl, rfl⟩
end I_Pi_init
