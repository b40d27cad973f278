def p_Ro_init (U : ut) (u : Nat) (x1 : Int32) (S : cs) (N : Nat) (K : cs → Prop) : Prop :=
  fresh S U.length ∧ (¬ U.length = NU ∧ (K (c_pr S u 0 U.length)))
section I_Ro_init
variable {D : va_G} {z : Nat → ClassId} {U : ut} {oa : Nat → Nat}
set_option maxRecDepth 100000 in
set_option maxHeartbeats 4000000 in
theorem ct_Ro_init {l : Launch} (u : Nat) (x1 : Int32) (S : cs) (N : Nat) (hN : (i_max 0 x1).toNatClampNeg = N) (hm : ¬ i_max 0 x1 < 0) (hb4 : N * 4 ≤ 536870912) {K : cs → Prop} (hu : c_cl U u = 9) (hp : p_Ro_init U u x1 S N K) : ct gG D z l n_C_Ro_init c_C_Ro_init 2 (none) 2 200 [.ref (oa u), .int x1] (cw lt_C U oa S) 1 N (pC_n lt_C U [(902, N)] oa K) := by
  refine ct_ofI (lo := [some (.ref (oa u)), some (.int x1)]) (by decide) g_ok (Nat.le_of_ble_eq_true rfl) rfl ?_
  intro X A _ C hR hQ hA _ hin
  unfold p_Ro_init at hp
  have hu0 := hu
  refine a_aload_n C dc_Ro_init_0 rfl rfl ?_
  refine a_obj C dc_Ro_init_1 l_Ro_1 oi_M oc_M (Nat.le_of_ble_eq_true rfl) (by rw [hR]; exact Nat.le_of_ble_eq_true rfl) (by rw [hR]; exact Nat.le_of_ble_eq_true rfl) ?_
  refine a_aload_n C dc_Ro_init_4 rfl rfl ?_
  refine a_iconst (v := 0) C dc_Ro_init_5 (by decide) ?_
  refine a_iload_n C dc_Ro_init_6 rfl rfl ?_
  refine a_mx C dc_Ro_init_7 l_Ro_7 st_Ma_max i_Ma cd_Ma_max (Nat.le_of_ble_eq_true rfl) (by rw [hR]; exact Nat.le_of_ble_eq_true rfl) (by rw [hR]; exact Nat.le_of_ble_eq_true rfl) (by rw [hR]; exact Nat.zero_le _) (by rw [hR]; exact Nat.zero_le _) ?_
  refine c_newa (ty := .int) (N := N) (n := U.length) C 2 dc_Ro_init_10 ac_int rfl (C.kn.2 0 _ rfl).2 (fun _ => rfl) hm hN (by show N * 4 ≤ _; exact hb4) (by decide) rfl hp.1 (by rw [hR]; show 0 + 1 ≤ 1 + 1; omega) (by rw [hR]; show 0 + N ≤ N + 6; omega) (fun q => ?_)
  have hp := hp.2
  have hlt := c_lt hu0 (by decide)
  generalize hoa1 : va_up oa U.length q = oa1
  have hq : oa1 U.length = q := by rw [← hoa1]; exact up_at
  have hag : ∀ v, v < U.length → oa1 v = oa v := fun v hv => by rw [← hoa1]; exact up_ne (by omega)
  rw [← hq]
  have hz : oa1 u = oa u := hag u hlt
  rw [← hz]
  have hu := c_clA (V := [(902, N)]) hu (by decide)
  refine c_putRF (ty := .array .int) C u 0 hin dc_Ro_init_12 hu rfl rfl (Nat.le_of_ble_eq_true rfl) f_Ro_13 rfl rfl rfl (fun _ => rfl) (fun _ => rfl) rfl rfl hp.1 ?_
  have hp := hp.2
  refine aw_widen (nc' := 1) (ns' := N) (Nat.le_refl _) (by show 0 + N ≤ N; omega) ?_
  exact a_vret C hQ hA dc_Ro_init_15 rfl ⟨oa1, _, hp, hag, rfl, rfl⟩
end I_Ro_init

