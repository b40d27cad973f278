def ext_Ca_init : ut := [(902, 12288)]
def p_Ca_init (U : ut) (u : Nat) (S : cs) (K : cs → Prop) : Prop :=
  fresh (c_pi (c_pi (c_pi S u 0 8) u 1 8) u 2 1) U.length ∧ (¬ U.length = NU ∧ (K (c_pr (c_pi (c_pi (c_pi S u 0 8) u 1 8) u 2 1) u 3 U.length)))

section I_Ca_init
variable {D : va_G} {z : Nat → ClassId} {U : ut} {oa : Nat → Nat}
set_option maxRecDepth 100000 in
set_option maxHeartbeats 4000000 in
theorem ct_Ca_init {l : Launch} (u : Nat) (S : cs) {K : cs → Prop} (hu : c_cl U u = 2) (hp : p_Ca_init U u S K) : ct gG D z l n_C_Ca_init c_C_Ca_init 1 (none) 2 200 [.ref (oa u)] (cw lt_C U oa S) 1 12288 (pC_n lt_C U ext_Ca_init oa K) := by
  refine ct_ofI (lo := [some (.ref (oa u))]) (by decide) g_ok (Nat.le_of_ble_eq_true rfl) rfl ?_
  intro X A _ C hR hQ hA _ hin
  unfold p_Ca_init at hp
  have hu0 := hu
  have hlt0 : u < U.length := c_lt hu0 (by decide)
  have hag : ∀ v, v < U.length → oa v = oa v := fun _ _ => rfl
  refine a_aload_n C dc_Ca_init_0 rfl rfl ?_
  refine a_obj C dc_Ca_init_1 l_Ca_3 oi_M oc_M (Nat.le_of_ble_eq_true rfl) (by rw [hR]; exact Nat.le_of_ble_eq_true rfl) (by rw [hR]; exact Nat.le_of_ble_eq_true rfl) ?_
  refine a_aload_n C dc_Ca_init_4 rfl rfl ?_
  refine a_bipush (v := 8) C dc_Ca_init_5 (by decide) ?_
  refine c_putI (ty := .int) C u 0 dc_Ca_init_7 hu rfl rfl (Nat.le_of_ble_eq_true rfl) f_Ca_9 (Nat.le_of_ble_eq_true rfl) rfl rfl rfl rfl ?_
  refine a_aload_n C dc_Ca_init_10 rfl rfl ?_
  refine a_bipush (v := 8) C dc_Ca_init_11 (by decide) ?_
  refine c_putI (ty := .int) C u 1 dc_Ca_init_13 hu rfl rfl (Nat.le_of_ble_eq_true rfl) f_Ca_15 (Nat.le_of_ble_eq_true rfl) rfl rfl rfl rfl ?_
  refine a_aload_n C dc_Ca_init_16 rfl rfl ?_
  refine a_iconst (v := 1) C dc_Ca_init_17 (by decide) ?_
  refine c_putI (ty := .int) C u 2 dc_Ca_init_18 hu rfl rfl (Nat.le_of_ble_eq_true rfl) f_Ca_18 (Nat.le_of_ble_eq_true rfl) rfl rfl rfl rfl ?_
  refine a_aload_n C dc_Ca_init_21 rfl rfl ?_
  refine a_sipush (v := 12288) C dc_Ca_init_22 (by decide) ?_
  refine c_newa (ty := .int) (N := 12288) (n := U.length) C 2 dc_Ca_init_25 ac_int rfl (C.kn.2 0 _ rfl).2 (fun _ => rfl) (by decide) (by decide) (by decide) (by decide) (by simp +arith only [List.length_append, List.length_cons, List.length_nil]) hp.1 (by rw [hR]; exact Nat.le_of_ble_eq_true rfl) (by rw [hR]; exact Nat.le_of_ble_eq_true rfl) (fun q25 => ?_)
  have hp := hp.2
  generalize hoa25 : va_up oa U.length q25 = oa25
  have hq25 : oa25 U.length = q25 := by rw [← hoa25]; exact up_at
  have hag : ∀ v, v < U.length → oa25 v = oa v := fun v hv => (show oa25 v = oa v by rw [← hoa25]; exact up_ne (Nat.ne_of_lt hv)).trans (hag v hv)
  rw [← hq25]
  have hz0 : oa25 u = oa u := (by rw [← hoa25]; exact up_ne (Nat.ne_of_lt hlt0))
  rw [← hz0]
  have hcn25 := c_clN (c := (902, 12288)) (U := U) (n := U.length) (by simp +arith only [List.length_append, List.length_cons, List.length_nil])
  have hu := c_clA (V := [(902, 12288)]) hu (by decide)
  refine c_putRF (ty := .array .int) C u 3 hin dc_Ca_init_27 hu rfl rfl (Nat.le_of_ble_eq_true rfl) f_Ca_21 rfl rfl rfl (fun _ => rfl) (fun _ => rfl) rfl rfl hp.1 ?_
  have hp := hp.2
  refine aw_widen (nc' := 1) (ns' := 12288) (Nat.le_of_ble_eq_true rfl) (Nat.le_of_ble_eq_true rfl) ?_
  refine aw_eq (lo' := _) (st' := _) (L' := (cw lt_C (U ++ ext_Ca_init) oa25 (c_pr (c_pi (c_pi (c_pi S u 0 8) u 1 8) u 2 1) u 3 U.length))) rfl rfl (by simp only [ext_Ca_init, List.append_assoc, List.cons_append, List.nil_append, List.append_nil]) ?_
  exact a_vret C hQ hA dc_Ca_init_30 rfl ⟨oa25, (c_pr (c_pi (c_pi (c_pi S u 0 8) u 1 8) u 2 1) u 3 U.length), hp, hag, rfl, rfl⟩
end I_Ca_init
