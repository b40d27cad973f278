def ext_Sc_init : ut := [(902, 3), (902, 3), (902, 3), (902, 192)]
def p_Sc_init (U : ut) (u : Nat) (S : cs) (K : cs → Prop) : Prop :=
  fresh S U.length ∧ (¬ U.length = NU ∧ (fresh (c_pr S u 1 U.length) (U.length + 1) ∧ (¬ (U.length + 1) = NU ∧ (fresh (c_pr (c_pr S u 1 U.length) u 2 (U.length + 1)) (U.length + 2) ∧ (¬ (U.length + 2) = NU ∧ (fresh (c_pr (c_pr (c_pr S u 1 U.length) u 2 (U.length + 1)) u 3 (U.length + 2)) (U.length + 3) ∧ (¬ (U.length + 3) = NU ∧ (K (c_pr (c_pr (c_pr (c_pr S u 1 U.length) u 2 (U.length + 1)) u 3 (U.length + 2)) u 7 (U.length + 3))))))))))

section I_Sc_init
variable {D : va_G} {z : Nat → ClassId} {U : ut} {oa : Nat → Nat}
set_option maxRecDepth 100000 in
set_option maxHeartbeats 4000000 in
theorem ct_Sc_init {l : Launch} (u : Nat) (S : cs) {K : cs → Prop} (hu : c_cl U u = 10) (hp : p_Sc_init U u S K) : ct gG D z l n_C_Sc_init c_C_Sc_init 1 (none) 2 200 [.ref (oa u)] (cw lt_C U oa S) 4 201 (pC_n lt_C U ext_Sc_init oa K) := by
  refine ct_ofI (lo := [some (.ref (oa u))]) (by decide) g_ok (Nat.le_of_ble_eq_true rfl) rfl ?_
  intro X A _ C hR hQ hA _ hin
  unfold p_Sc_init at hp
  have hu0 := hu
  have hlt0 : u < U.length := c_lt hu0 (by decide)
  have hag : ∀ v, v < U.length → oa v = oa v := fun _ _ => rfl
  refine a_aload_n C dc_Sc_init_0 rfl rfl ?_
  refine a_obj C dc_Sc_init_1 l_Sc_3 oi_M oc_M (Nat.le_of_ble_eq_true rfl) (by rw [hR]; exact Nat.le_of_ble_eq_true rfl) (by rw [hR]; exact Nat.le_of_ble_eq_true rfl) ?_
  refine a_aload_n C dc_Sc_init_4 rfl rfl ?_
  refine a_iconst (v := 3) C dc_Sc_init_5 (by decide) ?_
  refine c_newa (ty := .int) (N := 3) (n := U.length) C 2 dc_Sc_init_6 ac_int rfl (C.kn.2 0 _ rfl).2 (fun _ => rfl) (by decide) (by decide) (by decide) (by decide) (by simp +arith only [List.length_append, List.length_cons, List.length_nil]) hp.1 (by rw [hR]; exact Nat.le_of_ble_eq_true rfl) (by rw [hR]; exact Nat.le_of_ble_eq_true rfl) (fun q6 => ?_)
  have hp := hp.2
  generalize hoa6 : va_up oa U.length q6 = oa6
  have hq6 : oa6 U.length = q6 := by rw [← hoa6]; exact up_at
  have hag : ∀ v, v < U.length → oa6 v = oa v := fun v hv => (show oa6 v = oa v by rw [← hoa6]; exact up_ne (Nat.ne_of_lt hv)).trans (hag v hv)
  rw [← hq6]
  have hz0 : oa6 u = oa u := (by rw [← hoa6]; exact up_ne (Nat.ne_of_lt hlt0))
  rw [← hz0]
  have hcn6 := c_clN (c := (902, 3)) (U := U) (n := U.length) (by simp +arith only [List.length_append, List.length_cons, List.length_nil])
  have hu := c_clA (V := [(902, 3)]) hu (by decide)
  refine c_putRF (ty := .array .int) C u 1 hin dc_Sc_init_8 hu rfl rfl (Nat.le_of_ble_eq_true rfl) f_Sc_9 rfl rfl rfl (fun _ => rfl) (fun _ => rfl) rfl rfl hp.1 ?_
  have hp := hp.2
  refine a_aload_n C dc_Sc_init_11 rfl rfl ?_
  refine a_iconst (v := 3) C dc_Sc_init_12 (by decide) ?_
  refine c_newa (ty := .int) (N := 3) (n := U.length + 1) C 2 dc_Sc_init_13 ac_int rfl (C.kn.2 0 _ rfl).2 (fun _ => rfl) (by decide) (by decide) (by decide) (by decide) (by simp +arith only [List.length_append, List.length_cons, List.length_nil]) hp.1 (by rw [hR]; exact Nat.le_of_ble_eq_true rfl) (by rw [hR]; exact Nat.le_of_ble_eq_true rfl) (fun q13 => ?_)
  have hp := hp.2
  generalize hoa13 : va_up oa6 (U.length + 1) q13 = oa13
  have hq13 : oa13 (U.length + 1) = q13 := by rw [← hoa13]; exact up_at
  have hag : ∀ v, v < U.length → oa13 v = oa v := fun v hv => (show oa13 v = oa6 v by rw [← hoa13]; exact up_ne (Nat.ne_of_lt (Nat.lt_of_lt_of_le hv (Nat.le_add_right _ _)))).trans (hag v hv)
  rw [← hq13]
  have hz1 : oa13 u = oa6 u := (by rw [← hoa13]; exact up_ne (Nat.ne_of_lt (Nat.lt_of_lt_of_le hlt0 (Nat.le_add_right _ _))))
  rw [← hz1]
  have hcn13 := c_clN (c := (902, 3)) (U := (U ++ [(902, 3)])) (n := U.length + 1) (by simp +arith only [List.length_append, List.length_cons, List.length_nil])
  have hu := c_clA (V := [(902, 3)]) hu (by decide)
  have hcn6 := c_clA (V := [(902, 3)]) hcn6 (by decide)
  refine c_putRF (ty := .array .int) C u 2 hin dc_Sc_init_15 hu rfl rfl (Nat.le_of_ble_eq_true rfl) f_Sc_15 rfl rfl rfl (fun _ => rfl) (fun _ => rfl) rfl rfl hp.1 ?_
  have hp := hp.2
  refine a_aload_n C dc_Sc_init_18 rfl rfl ?_
  refine a_iconst (v := 3) C dc_Sc_init_19 (by decide) ?_
  refine c_newa (ty := .int) (N := 3) (n := U.length + 2) C 2 dc_Sc_init_20 ac_int rfl (C.kn.2 0 _ rfl).2 (fun _ => rfl) (by decide) (by decide) (by decide) (by decide) (by simp +arith only [List.length_append, List.length_cons, List.length_nil]) hp.1 (by rw [hR]; exact Nat.le_of_ble_eq_true rfl) (by rw [hR]; exact Nat.le_of_ble_eq_true rfl) (fun q20 => ?_)
  have hp := hp.2
  generalize hoa20 : va_up oa13 (U.length + 2) q20 = oa20
  have hq20 : oa20 (U.length + 2) = q20 := by rw [← hoa20]; exact up_at
  have hag : ∀ v, v < U.length → oa20 v = oa v := fun v hv => (show oa20 v = oa13 v by rw [← hoa20]; exact up_ne (Nat.ne_of_lt (Nat.lt_of_lt_of_le hv (Nat.le_add_right _ _)))).trans (hag v hv)
  rw [← hq20]
  have hz2 : oa20 u = oa13 u := (by rw [← hoa20]; exact up_ne (Nat.ne_of_lt (Nat.lt_of_lt_of_le hlt0 (Nat.le_add_right _ _))))
  rw [← hz2]
  have hcn20 := c_clN (c := (902, 3)) (U := ((U ++ [(902, 3)]) ++ [(902, 3)])) (n := U.length + 2) (by simp +arith only [List.length_append, List.length_cons, List.length_nil])
  have hu := c_clA (V := [(902, 3)]) hu (by decide)
  have hcn6 := c_clA (V := [(902, 3)]) hcn6 (by decide)
  have hcn13 := c_clA (V := [(902, 3)]) hcn13 (by decide)
  refine c_putRF (ty := .array .int) C u 3 hin dc_Sc_init_22 hu rfl rfl (Nat.le_of_ble_eq_true rfl) f_Sc_18 rfl rfl rfl (fun _ => rfl) (fun _ => rfl) rfl rfl hp.1 ?_
  have hp := hp.2
  refine a_aload_n C dc_Sc_init_25 rfl rfl ?_
  refine a_sipush (v := 192) C dc_Sc_init_26 (by decide) ?_
  refine c_newa (ty := .int) (N := 192) (n := U.length + 3) C 2 dc_Sc_init_29 ac_int rfl (C.kn.2 0 _ rfl).2 (fun _ => rfl) (by decide) (by decide) (by decide) (by decide) (by simp +arith only [List.length_append, List.length_cons, List.length_nil]) hp.1 (by rw [hR]; exact Nat.le_of_ble_eq_true rfl) (by rw [hR]; exact Nat.le_of_ble_eq_true rfl) (fun q29 => ?_)
  have hp := hp.2
  generalize hoa29 : va_up oa20 (U.length + 3) q29 = oa29
  have hq29 : oa29 (U.length + 3) = q29 := by rw [← hoa29]; exact up_at
  have hag : ∀ v, v < U.length → oa29 v = oa v := fun v hv => (show oa29 v = oa20 v by rw [← hoa29]; exact up_ne (Nat.ne_of_lt (Nat.lt_of_lt_of_le hv (Nat.le_add_right _ _)))).trans (hag v hv)
  rw [← hq29]
  have hz3 : oa29 u = oa20 u := (by rw [← hoa29]; exact up_ne (Nat.ne_of_lt (Nat.lt_of_lt_of_le hlt0 (Nat.le_add_right _ _))))
  rw [← hz3]
  have hcn29 := c_clN (c := (902, 192)) (U := (((U ++ [(902, 3)]) ++ [(902, 3)]) ++ [(902, 3)])) (n := U.length + 3) (by simp +arith only [List.length_append, List.length_cons, List.length_nil])
  have hu := c_clA (V := [(902, 192)]) hu (by decide)
  have hcn6 := c_clA (V := [(902, 192)]) hcn6 (by decide)
  have hcn13 := c_clA (V := [(902, 192)]) hcn13 (by decide)
  have hcn20 := c_clA (V := [(902, 192)]) hcn20 (by decide)
  refine c_putRF (ty := .array .int) C u 7 hin dc_Sc_init_31 hu rfl rfl (Nat.le_of_ble_eq_true rfl) f_Sc_21 rfl rfl rfl (fun _ => rfl) (fun _ => rfl) rfl rfl hp.1 ?_
  have hp := hp.2
  refine aw_widen (nc' := 4) (ns' := 201) (Nat.le_of_ble_eq_true rfl) (Nat.le_of_ble_eq_true rfl) ?_
  refine aw_eq (lo' := _) (st' := _) (L' := (cw lt_C (U ++ ext_Sc_init) oa29 (c_pr (c_pr (c_pr (c_pr S u 1 U.length) u 2 (U.length + 1)) u 3 (U.length + 2)) u 7 (U.length + 3)))) rfl rfl (by simp only [ext_Sc_init, List.append_assoc, List.cons_append, List.nil_append, List.append_nil]) ?_
  exact a_vret C hQ hA dc_Sc_init_34 rfl ⟨oa29, (c_pr (c_pr (c_pr (c_pr S u 1 U.length) u 2 (U.length + 1)) u 3 (U.length + 2)) u 7 (U.length + 3)), hp, hag, rfl, rfl⟩
end I_Sc_init
