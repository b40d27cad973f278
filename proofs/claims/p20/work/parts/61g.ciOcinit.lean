def ext_Oc_init : ut := [(902, 257), (902, 257), (902, 256), (902, 256), (902, 17)]
def p_Oc_init (U : ut) (u : Nat) (S : cs) (K : cs → Prop) : Prop :=
  fresh S U.length ∧ (¬ U.length = NU ∧ (fresh (c_pr S u 0 U.length) (U.length + 1) ∧ (¬ (U.length + 1) = NU ∧ (fresh (c_pr (c_pr S u 0 U.length) u 1 (U.length + 1)) (U.length + 2) ∧ (¬ (U.length + 2) = NU ∧ (fresh (c_pr (c_pr (c_pr S u 0 U.length) u 1 (U.length + 1)) u 2 (U.length + 2)) (U.length + 3) ∧ (¬ (U.length + 3) = NU ∧ (fresh (c_pr (c_pr (c_pr (c_pr S u 0 U.length) u 1 (U.length + 1)) u 2 (U.length + 2)) u 3 (U.length + 3)) (U.length + 4) ∧ (¬ (U.length + 4) = NU ∧ (K (c_pr (c_pr (c_pr (c_pr (c_pr S u 0 U.length) u 1 (U.length + 1)) u 2 (U.length + 2)) u 3 (U.length + 3)) u 5 (U.length + 4))))))))))))

section I_Oc_init
variable {D : va_G} {z : Nat → ClassId} {U : ut} {oa : Nat → Nat}
set_option maxRecDepth 100000 in
set_option maxHeartbeats 4000000 in
theorem ct_Oc_init {l : Launch} (u : Nat) (S : cs) {K : cs → Prop} (hu : c_cl U u = 5) (hp : p_Oc_init U u S K) : ct gG D z l n_C_Oc_init c_C_Oc_init 1 (none) 2 200 [.ref (oa u)] (cw lt_C U oa S) 5 1043 (pC_n lt_C U ext_Oc_init oa K) := by
  refine ct_ofI (lo := [some (.ref (oa u))]) (by decide) g_ok (Nat.le_of_ble_eq_true rfl) rfl ?_
  intro X A _ C hR hQ hA _ hin
  unfold p_Oc_init at hp
  have hu0 := hu
  have hlt0 : u < U.length := c_lt hu0 (by decide)
  have hag : ∀ v, v < U.length → oa v = oa v := fun _ _ => rfl
  refine a_aload_n C dc_Oc_init_0 rfl rfl ?_
  refine a_obj C dc_Oc_init_1 l_Oc_3 oi_M oc_M (Nat.le_of_ble_eq_true rfl) (by rw [hR]; exact Nat.le_of_ble_eq_true rfl) (by rw [hR]; exact Nat.le_of_ble_eq_true rfl) ?_
  refine a_aload_n C dc_Oc_init_4 rfl rfl ?_
  refine a_sipush (v := 257) C dc_Oc_init_5 (by decide) ?_
  refine c_newa (ty := .int) (N := 257) (n := U.length) C 2 dc_Oc_init_8 ac_int rfl (C.kn.2 0 _ rfl).2 (fun _ => rfl) (by decide) (by decide) (by decide) (by decide) (by simp +arith only [List.length_append, List.length_cons, List.length_nil]) hp.1 (by rw [hR]; exact Nat.le_of_ble_eq_true rfl) (by rw [hR]; exact Nat.le_of_ble_eq_true rfl) (fun q8 => ?_)
  have hp := hp.2
  generalize hoa8 : va_up oa U.length q8 = oa8
  have hq8 : oa8 U.length = q8 := by rw [← hoa8]; exact up_at
  have hag : ∀ v, v < U.length → oa8 v = oa v := fun v hv => (show oa8 v = oa v by rw [← hoa8]; exact up_ne (Nat.ne_of_lt hv)).trans (hag v hv)
  rw [← hq8]
  have hz0 : oa8 u = oa u := (by rw [← hoa8]; exact up_ne (Nat.ne_of_lt hlt0))
  rw [← hz0]
  have hcn8 := c_clN (c := (902, 257)) (U := U) (n := U.length) (by simp +arith only [List.length_append, List.length_cons, List.length_nil])
  have hu := c_clA (V := [(902, 257)]) hu (by decide)
  refine c_putRF (ty := .array .int) C u 0 hin dc_Oc_init_10 hu rfl rfl (Nat.le_of_ble_eq_true rfl) f_Oc_11 rfl rfl rfl (fun _ => rfl) (fun _ => rfl) rfl rfl hp.1 ?_
  have hp := hp.2
  refine a_aload_n C dc_Oc_init_13 rfl rfl ?_
  refine a_sipush (v := 257) C dc_Oc_init_14 (by decide) ?_
  refine c_newa (ty := .int) (N := 257) (n := U.length + 1) C 2 dc_Oc_init_17 ac_int rfl (C.kn.2 0 _ rfl).2 (fun _ => rfl) (by decide) (by decide) (by decide) (by decide) (by simp +arith only [List.length_append, List.length_cons, List.length_nil]) hp.1 (by rw [hR]; exact Nat.le_of_ble_eq_true rfl) (by rw [hR]; exact Nat.le_of_ble_eq_true rfl) (fun q17 => ?_)
  have hp := hp.2
  generalize hoa17 : va_up oa8 (U.length + 1) q17 = oa17
  have hq17 : oa17 (U.length + 1) = q17 := by rw [← hoa17]; exact up_at
  have hag : ∀ v, v < U.length → oa17 v = oa v := fun v hv => (show oa17 v = oa8 v by rw [← hoa17]; exact up_ne (Nat.ne_of_lt (Nat.lt_of_lt_of_le hv (Nat.le_add_right _ _)))).trans (hag v hv)
  rw [← hq17]
  have hz1 : oa17 u = oa8 u := (by rw [← hoa17]; exact up_ne (Nat.ne_of_lt (Nat.lt_of_lt_of_le hlt0 (Nat.le_add_right _ _))))
  rw [← hz1]
  have hcn17 := c_clN (c := (902, 257)) (U := (U ++ [(902, 257)])) (n := U.length + 1) (by simp +arith only [List.length_append, List.length_cons, List.length_nil])
  have hu := c_clA (V := [(902, 257)]) hu (by decide)
  have hcn8 := c_clA (V := [(902, 257)]) hcn8 (by decide)
  refine c_putRF (ty := .array .int) C u 1 hin dc_Oc_init_19 hu rfl rfl (Nat.le_of_ble_eq_true rfl) f_Oc_15 rfl rfl rfl (fun _ => rfl) (fun _ => rfl) rfl rfl hp.1 ?_
  have hp := hp.2
  refine a_aload_n C dc_Oc_init_22 rfl rfl ?_
  refine a_sipush (v := 256) C dc_Oc_init_23 (by decide) ?_
  refine c_newa (ty := .int) (N := 256) (n := U.length + 2) C 2 dc_Oc_init_26 ac_int rfl (C.kn.2 0 _ rfl).2 (fun _ => rfl) (by decide) (by decide) (by decide) (by decide) (by simp +arith only [List.length_append, List.length_cons, List.length_nil]) hp.1 (by rw [hR]; exact Nat.le_of_ble_eq_true rfl) (by rw [hR]; exact Nat.le_of_ble_eq_true rfl) (fun q26 => ?_)
  have hp := hp.2
  generalize hoa26 : va_up oa17 (U.length + 2) q26 = oa26
  have hq26 : oa26 (U.length + 2) = q26 := by rw [← hoa26]; exact up_at
  have hag : ∀ v, v < U.length → oa26 v = oa v := fun v hv => (show oa26 v = oa17 v by rw [← hoa26]; exact up_ne (Nat.ne_of_lt (Nat.lt_of_lt_of_le hv (Nat.le_add_right _ _)))).trans (hag v hv)
  rw [← hq26]
  have hz2 : oa26 u = oa17 u := (by rw [← hoa26]; exact up_ne (Nat.ne_of_lt (Nat.lt_of_lt_of_le hlt0 (Nat.le_add_right _ _))))
  rw [← hz2]
  have hcn26 := c_clN (c := (902, 256)) (U := ((U ++ [(902, 257)]) ++ [(902, 257)])) (n := U.length + 2) (by simp +arith only [List.length_append, List.length_cons, List.length_nil])
  have hu := c_clA (V := [(902, 256)]) hu (by decide)
  have hcn8 := c_clA (V := [(902, 256)]) hcn8 (by decide)
  have hcn17 := c_clA (V := [(902, 256)]) hcn17 (by decide)
  refine c_putRF (ty := .array .int) C u 2 hin dc_Oc_init_28 hu rfl rfl (Nat.le_of_ble_eq_true rfl) f_Oc_18 rfl rfl rfl (fun _ => rfl) (fun _ => rfl) rfl rfl hp.1 ?_
  have hp := hp.2
  refine a_aload_n C dc_Oc_init_31 rfl rfl ?_
  refine a_sipush (v := 256) C dc_Oc_init_32 (by decide) ?_
  refine c_newa (ty := .int) (N := 256) (n := U.length + 3) C 2 dc_Oc_init_35 ac_int rfl (C.kn.2 0 _ rfl).2 (fun _ => rfl) (by decide) (by decide) (by decide) (by decide) (by simp +arith only [List.length_append, List.length_cons, List.length_nil]) hp.1 (by rw [hR]; exact Nat.le_of_ble_eq_true rfl) (by rw [hR]; exact Nat.le_of_ble_eq_true rfl) (fun q35 => ?_)
  have hp := hp.2
  generalize hoa35 : va_up oa26 (U.length + 3) q35 = oa35
  have hq35 : oa35 (U.length + 3) = q35 := by rw [← hoa35]; exact up_at
  have hag : ∀ v, v < U.length → oa35 v = oa v := fun v hv => (show oa35 v = oa26 v by rw [← hoa35]; exact up_ne (Nat.ne_of_lt (Nat.lt_of_lt_of_le hv (Nat.le_add_right _ _)))).trans (hag v hv)
  rw [← hq35]
  have hz3 : oa35 u = oa26 u := (by rw [← hoa35]; exact up_ne (Nat.ne_of_lt (Nat.lt_of_lt_of_le hlt0 (Nat.le_add_right _ _))))
  rw [← hz3]
  have hcn35 := c_clN (c := (902, 256)) (U := (((U ++ [(902, 257)]) ++ [(902, 257)]) ++ [(902, 256)])) (n := U.length + 3) (by simp +arith only [List.length_append, List.length_cons, List.length_nil])
  have hu := c_clA (V := [(902, 256)]) hu (by decide)
  have hcn8 := c_clA (V := [(902, 256)]) hcn8 (by decide)
  have hcn17 := c_clA (V := [(902, 256)]) hcn17 (by decide)
  have hcn26 := c_clA (V := [(902, 256)]) hcn26 (by decide)
  refine c_putRF (ty := .array .int) C u 3 hin dc_Oc_init_37 hu rfl rfl (Nat.le_of_ble_eq_true rfl) f_Oc_21 rfl rfl rfl (fun _ => rfl) (fun _ => rfl) rfl rfl hp.1 ?_
  have hp := hp.2
  refine a_aload_n C dc_Oc_init_40 rfl rfl ?_
  refine a_bipush (v := 17) C dc_Oc_init_41 (by decide) ?_
  refine c_newa (ty := .int) (N := 17) (n := U.length + 4) C 2 dc_Oc_init_43 ac_int rfl (C.kn.2 0 _ rfl).2 (fun _ => rfl) (by decide) (by decide) (by decide) (by decide) (by simp +arith only [List.length_append, List.length_cons, List.length_nil]) hp.1 (by rw [hR]; exact Nat.le_of_ble_eq_true rfl) (by rw [hR]; exact Nat.le_of_ble_eq_true rfl) (fun q43 => ?_)
  have hp := hp.2
  generalize hoa43 : va_up oa35 (U.length + 4) q43 = oa43
  have hq43 : oa43 (U.length + 4) = q43 := by rw [← hoa43]; exact up_at
  have hag : ∀ v, v < U.length → oa43 v = oa v := fun v hv => (show oa43 v = oa35 v by rw [← hoa43]; exact up_ne (Nat.ne_of_lt (Nat.lt_of_lt_of_le hv (Nat.le_add_right _ _)))).trans (hag v hv)
  rw [← hq43]
  have hz4 : oa43 u = oa35 u := (by rw [← hoa43]; exact up_ne (Nat.ne_of_lt (Nat.lt_of_lt_of_le hlt0 (Nat.le_add_right _ _))))
  rw [← hz4]
  have hcn43 := c_clN (c := (902, 17)) (U := ((((U ++ [(902, 257)]) ++ [(902, 257)]) ++ [(902, 256)]) ++ [(902, 256)])) (n := U.length + 4) (by simp +arith only [List.length_append, List.length_cons, List.length_nil])
  have hu := c_clA (V := [(902, 17)]) hu (by decide)
  have hcn8 := c_clA (V := [(902, 17)]) hcn8 (by decide)
  have hcn17 := c_clA (V := [(902, 17)]) hcn17 (by decide)
  have hcn26 := c_clA (V := [(902, 17)]) hcn26 (by decide)
  have hcn35 := c_clA (V := [(902, 17)]) hcn35 (by decide)
  refine c_putRF (ty := .array .int) C u 5 hin dc_Oc_init_45 hu rfl rfl (Nat.le_of_ble_eq_true rfl) f_Oc_24 rfl rfl rfl (fun _ => rfl) (fun _ => rfl) rfl rfl hp.1 ?_
  have hp := hp.2
  refine aw_widen (nc' := 5) (ns' := 1043) (Nat.le_of_ble_eq_true rfl) (Nat.le_of_ble_eq_true rfl) ?_
  refine aw_eq (lo' := _) (st' := _) (L' := (cw lt_C (U ++ ext_Oc_init) oa43 (c_pr (c_pr (c_pr (c_pr (c_pr S u 0 U.length) u 1 (U.length + 1)) u 2 (U.length + 2)) u 3 (U.length + 3)) u 5 (U.length + 4)))) rfl rfl (by simp only [ext_Oc_init, List.append_assoc, List.cons_append, List.nil_append, List.append_nil]) ?_
  exact a_vret C hQ hA dc_Oc_init_48 rfl ⟨oa43, (c_pr (c_pr (c_pr (c_pr (c_pr S u 0 U.length) u 1 (U.length + 1)) u 2 (U.length + 2)) u 3 (U.length + 3)) u 5 (U.length + 4)), hp, hag, rfl, rfl⟩
end I_Oc_init
