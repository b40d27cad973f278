def ext_Co_init : ut := [(902, 17), (902, 17), (902, 17), (902, 256)]
def p_Co_init (U : ut) (u : Nat) (S : cs) (K : cs → Prop) : Prop :=
  fresh S U.length ∧ (¬ U.length = NU ∧ (fresh (c_pr S u 1 U.length) (U.length + 1) ∧ (¬ (U.length + 1) = NU ∧ (fresh (c_pr (c_pr S u 1 U.length) u 2 (U.length + 1)) (U.length + 2) ∧ (¬ (U.length + 2) = NU ∧ (fresh (c_pr (c_pr (c_pr S u 1 U.length) u 2 (U.length + 1)) u 3 (U.length + 2)) (U.length + 3) ∧ (¬ (U.length + 3) = NU ∧ (K (c_pr (c_pr (c_pr (c_pr S u 1 U.length) u 2 (U.length + 1)) u 3 (U.length + 2)) u 4 (U.length + 3))))))))))

section I_Co_init
variable {D : va_G} {z : Nat → ClassId} {U : ut} {oa : Nat → Nat}
set_option maxRecDepth 100000 in
set_option maxHeartbeats 4000000 in
theorem ct_Co_init {l : Launch} (u : Nat) (S : cs) {K : cs → Prop} (hu : c_cl U u = 3) (hp : p_Co_init U u S K) : ct gG D z l n_C_Co_init c_C_Co_init 1 (none) 2 200 [.ref (oa u)] (cw lt_C U oa S) 4 307 (pC_n lt_C U ext_Co_init oa K) := by
  refine ct_ofI (lo := [some (.ref (oa u))]) (by decide) g_ok (Nat.le_of_ble_eq_true rfl) rfl ?_
  intro X A _ C hR hQ hA _ hin
  unfold p_Co_init at hp
  have hu0 := hu
  have hlt0 : u < U.length := c_lt hu0 (by decide)
  have hag : ∀ v, v < U.length → oa v = oa v := fun _ _ => rfl
  refine a_aload_n C dc_Co_init_0 rfl rfl ?_
  refine a_obj C dc_Co_init_1 l_Co_3 oi_M oc_M (Nat.le_of_ble_eq_true rfl) (by rw [hR]; exact Nat.le_of_ble_eq_true rfl) (by rw [hR]; exact Nat.le_of_ble_eq_true rfl) ?_
  refine a_aload_n C dc_Co_init_4 rfl rfl ?_
  refine a_bipush (v := 17) C dc_Co_init_5 (by decide) ?_
  refine c_newa (ty := .int) (N := 17) (n := U.length) C 2 dc_Co_init_7 ac_int rfl (C.kn.2 0 _ rfl).2 (fun _ => rfl) (by decide) (by decide) (by decide) (by decide) (by simp +arith only [List.length_append, List.length_cons, List.length_nil]) hp.1 (by rw [hR]; exact Nat.le_of_ble_eq_true rfl) (by rw [hR]; exact Nat.le_of_ble_eq_true rfl) (fun q7 => ?_)
  have hp := hp.2
  generalize hoa7 : va_up oa U.length q7 = oa7
  have hq7 : oa7 U.length = q7 := by rw [← hoa7]; exact up_at
  have hag : ∀ v, v < U.length → oa7 v = oa v := fun v hv => (show oa7 v = oa v by rw [← hoa7]; exact up_ne (Nat.ne_of_lt hv)).trans (hag v hv)
  rw [← hq7]
  have hz0 : oa7 u = oa u := (by rw [← hoa7]; exact up_ne (Nat.ne_of_lt hlt0))
  rw [← hz0]
  have hcn7 := c_clN (c := (902, 17)) (U := U) (n := U.length) (by simp +arith only [List.length_append, List.length_cons, List.length_nil])
  have hu := c_clA (V := [(902, 17)]) hu (by decide)
  refine c_putRF (ty := .array .int) C u 1 hin dc_Co_init_9 hu rfl rfl (Nat.le_of_ble_eq_true rfl) f_Co_9 rfl rfl rfl (fun _ => rfl) (fun _ => rfl) rfl rfl hp.1 ?_
  have hp := hp.2
  refine a_aload_n C dc_Co_init_12 rfl rfl ?_
  refine a_bipush (v := 17) C dc_Co_init_13 (by decide) ?_
  refine c_newa (ty := .int) (N := 17) (n := U.length + 1) C 2 dc_Co_init_15 ac_int rfl (C.kn.2 0 _ rfl).2 (fun _ => rfl) (by decide) (by decide) (by decide) (by decide) (by simp +arith only [List.length_append, List.length_cons, List.length_nil]) hp.1 (by rw [hR]; exact Nat.le_of_ble_eq_true rfl) (by rw [hR]; exact Nat.le_of_ble_eq_true rfl) (fun q15 => ?_)
  have hp := hp.2
  generalize hoa15 : va_up oa7 (U.length + 1) q15 = oa15
  have hq15 : oa15 (U.length + 1) = q15 := by rw [← hoa15]; exact up_at
  have hag : ∀ v, v < U.length → oa15 v = oa v := fun v hv => (show oa15 v = oa7 v by rw [← hoa15]; exact up_ne (Nat.ne_of_lt (Nat.lt_of_lt_of_le hv (Nat.le_add_right _ _)))).trans (hag v hv)
  rw [← hq15]
  have hz1 : oa15 u = oa7 u := (by rw [← hoa15]; exact up_ne (Nat.ne_of_lt (Nat.lt_of_lt_of_le hlt0 (Nat.le_add_right _ _))))
  rw [← hz1]
  have hcn15 := c_clN (c := (902, 17)) (U := (U ++ [(902, 17)])) (n := U.length + 1) (by simp +arith only [List.length_append, List.length_cons, List.length_nil])
  have hu := c_clA (V := [(902, 17)]) hu (by decide)
  have hcn7 := c_clA (V := [(902, 17)]) hcn7 (by decide)
  refine c_putRF (ty := .array .int) C u 2 hin dc_Co_init_17 hu rfl rfl (Nat.le_of_ble_eq_true rfl) f_Co_15 rfl rfl rfl (fun _ => rfl) (fun _ => rfl) rfl rfl hp.1 ?_
  have hp := hp.2
  refine a_aload_n C dc_Co_init_20 rfl rfl ?_
  refine a_bipush (v := 17) C dc_Co_init_21 (by decide) ?_
  refine c_newa (ty := .int) (N := 17) (n := U.length + 2) C 2 dc_Co_init_23 ac_int rfl (C.kn.2 0 _ rfl).2 (fun _ => rfl) (by decide) (by decide) (by decide) (by decide) (by simp +arith only [List.length_append, List.length_cons, List.length_nil]) hp.1 (by rw [hR]; exact Nat.le_of_ble_eq_true rfl) (by rw [hR]; exact Nat.le_of_ble_eq_true rfl) (fun q23 => ?_)
  have hp := hp.2
  generalize hoa23 : va_up oa15 (U.length + 2) q23 = oa23
  have hq23 : oa23 (U.length + 2) = q23 := by rw [← hoa23]; exact up_at
  have hag : ∀ v, v < U.length → oa23 v = oa v := fun v hv => (show oa23 v = oa15 v by rw [← hoa23]; exact up_ne (Nat.ne_of_lt (Nat.lt_of_lt_of_le hv (Nat.le_add_right _ _)))).trans (hag v hv)
  rw [← hq23]
  have hz2 : oa23 u = oa15 u := (by rw [← hoa23]; exact up_ne (Nat.ne_of_lt (Nat.lt_of_lt_of_le hlt0 (Nat.le_add_right _ _))))
  rw [← hz2]
  have hcn23 := c_clN (c := (902, 17)) (U := ((U ++ [(902, 17)]) ++ [(902, 17)])) (n := U.length + 2) (by simp +arith only [List.length_append, List.length_cons, List.length_nil])
  have hu := c_clA (V := [(902, 17)]) hu (by decide)
  have hcn7 := c_clA (V := [(902, 17)]) hcn7 (by decide)
  have hcn15 := c_clA (V := [(902, 17)]) hcn15 (by decide)
  refine c_putRF (ty := .array .int) C u 3 hin dc_Co_init_25 hu rfl rfl (Nat.le_of_ble_eq_true rfl) f_Co_18 rfl rfl rfl (fun _ => rfl) (fun _ => rfl) rfl rfl hp.1 ?_
  have hp := hp.2
  refine a_aload_n C dc_Co_init_28 rfl rfl ?_
  refine a_sipush (v := 256) C dc_Co_init_29 (by decide) ?_
  refine c_newa (ty := .int) (N := 256) (n := U.length + 3) C 2 dc_Co_init_32 ac_int rfl (C.kn.2 0 _ rfl).2 (fun _ => rfl) (by decide) (by decide) (by decide) (by decide) (by simp +arith only [List.length_append, List.length_cons, List.length_nil]) hp.1 (by rw [hR]; exact Nat.le_of_ble_eq_true rfl) (by rw [hR]; exact Nat.le_of_ble_eq_true rfl) (fun q32 => ?_)
  have hp := hp.2
  generalize hoa32 : va_up oa23 (U.length + 3) q32 = oa32
  have hq32 : oa32 (U.length + 3) = q32 := by rw [← hoa32]; exact up_at
  have hag : ∀ v, v < U.length → oa32 v = oa v := fun v hv => (show oa32 v = oa23 v by rw [← hoa32]; exact up_ne (Nat.ne_of_lt (Nat.lt_of_lt_of_le hv (Nat.le_add_right _ _)))).trans (hag v hv)
  rw [← hq32]
  have hz3 : oa32 u = oa23 u := (by rw [← hoa32]; exact up_ne (Nat.ne_of_lt (Nat.lt_of_lt_of_le hlt0 (Nat.le_add_right _ _))))
  rw [← hz3]
  have hcn32 := c_clN (c := (902, 256)) (U := (((U ++ [(902, 17)]) ++ [(902, 17)]) ++ [(902, 17)])) (n := U.length + 3) (by simp +arith only [List.length_append, List.length_cons, List.length_nil])
  have hu := c_clA (V := [(902, 256)]) hu (by decide)
  have hcn7 := c_clA (V := [(902, 256)]) hcn7 (by decide)
  have hcn15 := c_clA (V := [(902, 256)]) hcn15 (by decide)
  have hcn23 := c_clA (V := [(902, 256)]) hcn23 (by decide)
  refine c_putRF (ty := .array .int) C u 4 hin dc_Co_init_34 hu rfl rfl (Nat.le_of_ble_eq_true rfl) f_Co_21 rfl rfl rfl (fun _ => rfl) (fun _ => rfl) rfl rfl hp.1 ?_
  have hp := hp.2
  refine aw_widen (nc' := 4) (ns' := 307) (Nat.le_of_ble_eq_true rfl) (Nat.le_of_ble_eq_true rfl) ?_
  refine aw_eq (lo' := _) (st' := _) (L' := (cw lt_C (U ++ ext_Co_init) oa32 (c_pr (c_pr (c_pr (c_pr S u 1 U.length) u 2 (U.length + 1)) u 3 (U.length + 2)) u 4 (U.length + 3)))) rfl rfl (by simp only [ext_Co_init, List.append_assoc, List.cons_append, List.nil_append, List.append_nil]) ?_
  exact a_vret C hQ hA dc_Co_init_37 rfl ⟨oa32, (c_pr (c_pr (c_pr (c_pr S u 1 U.length) u 2 (U.length + 1)) u 3 (U.length + 2)) u 4 (U.length + 3)), hp, hag, rfl, rfl⟩
end I_Co_init
