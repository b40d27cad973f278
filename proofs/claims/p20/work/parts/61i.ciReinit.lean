def ext_Re_init : ut := [(9, 0), (902, 32768)]
def p_Re_init (U : ut) (u : Nat) (S : cs) (K : cs → Prop) : Prop :=
  fresh S U.length ∧ (p_Ro_init (U ++ [(9, 0)]) U.length 32768 S 32768 (fun S11 => ¬ U.length = NU ∧ (K (c_pr S11 u 0 U.length))))

section I_Re_init
variable {D : va_G} {z : Nat → ClassId} {U : ut} {oa : Nat → Nat}
set_option maxRecDepth 100000 in
set_option maxHeartbeats 4000000 in
theorem ct_Re_init {l : Launch} (u : Nat) (S : cs) {K : cs → Prop} (hu : c_cl U u = 8) (hp : p_Re_init U u S K) : ct gG D z l n_C_Re_init c_C_Re_init 1 (none) 3 300 [.ref (oa u)] (cw lt_C U oa S) 2 32770 (pC_n lt_C U ext_Re_init oa K) := by
  refine ct_ofI (lo := [some (.ref (oa u))]) (by decide) g_ok (Nat.le_of_ble_eq_true rfl) rfl ?_
  intro X A _ C hR hQ hA _ hin
  unfold p_Re_init at hp
  have hu0 := hu
  have hlt0 : u < U.length := c_lt hu0 (by decide)
  have hag : ∀ v, v < U.length → oa v = oa v := fun _ _ => rfl
  refine a_aload_n C dc_Re_init_0 rfl rfl ?_
  refine a_obj C dc_Re_init_1 l_Re_3 oi_M oc_M (Nat.le_of_ble_eq_true rfl) (by rw [hR]; exact Nat.le_of_ble_eq_true rfl) (by rw [hR]; exact Nat.le_of_ble_eq_true rfl) ?_
  refine a_aload_n C dc_Re_init_4 rfl rfl ?_
  refine c_new (ci := 9) (n := U.length) C y_Ro g_ty_Ro dc_Re_init_5 rfl rfl x_Re_9 nn_Ro i_Ro df_Ro (by decide) (by simp +arith only [List.length_append, List.length_cons, List.length_nil]) hp.1 (by rw [hR]; exact Nat.le_of_ble_eq_true rfl) (by rw [hR]; exact Nat.le_of_ble_eq_true rfl) (fun q5 => ?_)
  have hp := hp.2
  generalize hoa5 : va_up oa U.length q5 = oa5
  have hq5 : oa5 U.length = q5 := by rw [← hoa5]; exact up_at
  have hag : ∀ v, v < U.length → oa5 v = oa v := fun v hv => (show oa5 v = oa v by rw [← hoa5]; exact up_ne (Nat.ne_of_lt hv)).trans (hag v hv)
  rw [← hq5]
  have hz0 : oa5 u = oa u := (by rw [← hoa5]; exact up_ne (Nat.ne_of_lt hlt0))
  rw [← hz0]
  have hcn5 := c_clN (c := (9, 0)) (U := U) (n := U.length) (by simp +arith only [List.length_append, List.length_cons, List.length_nil])
  have hu := c_clA (V := [(9, 0)]) hu (by decide)
  refine a_dup C dc_Re_init_8 rfl ?_
  refine a_ldc (v := 32768) C dc_Re_init_9 k_Re_11 ?_
  refine c_call (rest := [.ref (oa5 U.length), .ref (oa5 u)]) (av := .ref (oa5 U.length) :: [.int 32768]) C dc_Re_init_11 (ct_Ro_init U.length 32768 S 32768 (by decide +kernel) (by decide +kernel) (by decide) hcn5 hp) cd_C_Ro_init i_Ro (Nat.le_of_ble_eq_true rfl) (by rw [hR]; exact Nat.le_of_ble_eq_true rfl) (by rw [hR]; exact Nat.le_of_ble_eq_true rfl) (by rw [hR]; exact Nat.le_of_ble_eq_true rfl) (by rw [hR]; exact Nat.le_of_ble_eq_true rfl) (inv_I C dc_Re_init_11 l_Re_12 rfl im_C_Ro_init cd_C_Ro_init ⟨by decide, by decide⟩ ln_C_Ro_init rfl) (fun oc L1 hL => ?_)
  obtain ⟨oa11, S11, hp, hb11, rfl, rfl⟩ := hL
  refine ⟨_, rfl, ?_⟩
  have hL11 : (U ++ [(9, 0)]).length = U.length + 1 := (by simp +arith only [List.length_append, List.length_cons, List.length_nil])
  have hag : ∀ v, v < U.length → oa11 v = oa v := fun v hv => (hb11 v (by rw [hL11]; exact (Nat.lt_of_lt_of_le hv (Nat.le_add_right _ _)))).trans (hag v hv)
  refine aw_eq (lo' := [some (.ref (oa5 u))]) (st' := [.ref (oa5 U.length), .ref (oa5 u)]) (L' := (cw lt_C ((U ++ [(9, 0)]) ++ [(902, 32768)]) oa11 S11)) rfl rfl rfl ?_
  have hz1 : oa11 u = oa5 u := (hb11 u (by rw [hL11]; exact (Nat.lt_of_lt_of_le hlt0 (Nat.le_add_right _ _))))
  rw [← hz1]
  have hz2 : oa11 U.length = oa5 U.length := (hb11 U.length (by rw [hL11]; exact (Nat.lt_add_of_pos_right (by decide))))
  rw [← hz2]
  have hu := c_clA (V := [(902, 32768)]) hu (by decide)
  have hcn5 := c_clA (V := [(902, 32768)]) hcn5 (by decide)
  refine c_putRF (ty := .object "BlockPicture$Row") C u 0 hin dc_Re_init_14 hu rfl rfl (Nat.le_of_ble_eq_true rfl) f_Re_15 rfl rfl rfl (fun _ => rfl) (fun _ => rfl) rfl rfl hp.1 ?_
  have hp := hp.2
  refine aw_widen (nc' := 2) (ns' := 32770) (Nat.le_of_ble_eq_true rfl) (Nat.le_of_ble_eq_true rfl) ?_
  refine aw_eq (lo' := _) (st' := _) (L' := (cw lt_C (U ++ ext_Re_init) oa11 (c_pr S11 u 0 U.length))) rfl rfl (by simp only [ext_Re_init, List.append_assoc, List.cons_append, List.nil_append, List.append_nil]) ?_
  exact a_vret C hQ hA dc_Re_init_17 rfl ⟨oa11, (c_pr S11 u 0 U.length), hp, hag, rfl, rfl⟩
end I_Re_init
