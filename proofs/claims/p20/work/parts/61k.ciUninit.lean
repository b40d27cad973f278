def ext_Un_init : ut := [(8, 0), (9, 0), (902, 32768), (7, 0), (902, 3), (902, 3), (902, 3), (902, 3), (902, 3), (902, 3), (902, 12288), (902, 192), (902, 12288), (10, 0), (902, 3), (902, 3), (902, 3), (902, 192), (902, 256), (903, 4), (951, 4), (3, 0), (902, 17), (902, 17), (902, 17), (902, 256), (3, 0), (902, 17), (902, 17), (902, 17), (902, 256), (3, 0), (902, 17), (902, 17), (902, 17), (902, 256), (3, 0), (902, 17), (902, 17), (902, 17), (902, 256), (902, 3), (902, 3), (903, 3), (902, 3)]
def p_Un_init (U : ut) (u : Nat) (S : cs) (K : cs → Prop) : Prop :=
  fresh S U.length ∧ (p_Re_init (U ++ [(8, 0)]) U.length S (fun S9 => ¬ U.length = NU ∧ (fresh (c_pr S9 u 0 U.length) (U.length + 3) ∧ (p_Pi_init (((U ++ [(8, 0)]) ++ [(9, 0), (902, 32768)]) ++ [(7, 0)]) (U.length + 3) (c_pr S9 u 0 U.length) (fun S20 => ¬ (U.length + 3) = NU ∧ (fresh (c_pr S20 u 1 (U.length + 3)) (U.length + 13) ∧ (p_Sc_init (((((U ++ [(8, 0)]) ++ [(9, 0), (902, 32768)]) ++ [(7, 0)]) ++ [(902, 3), (902, 3), (902, 3), (902, 3), (902, 3), (902, 3), (902, 12288), (902, 192), (902, 12288)]) ++ [(10, 0)]) (U.length + 13) (c_pr S20 u 1 (U.length + 3)) (fun S31 => ¬ (U.length + 13) = NU ∧ (fresh (c_pr S31 u 2 (U.length + 13)) (U.length + 18) ∧ (¬ (U.length + 18) = NU ∧ (fresh (c_pr (c_pr S31 u 2 (U.length + 13)) u 3 (U.length + 18)) (U.length + 19) ∧ (¬ (U.length + 19) = NU ∧ (fresh (c_pr (c_pr (c_pr S31 u 2 (U.length + 13)) u 3 (U.length + 18)) u 4 (U.length + 19)) (U.length + 20) ∧ (fresh (c_pr (c_pr (c_pr S31 u 2 (U.length + 13)) u 3 (U.length + 18)) u 4 (U.length + 19)) (U.length + 21) ∧ (p_Co_init ((((((((((U ++ [(8, 0)]) ++ [(9, 0), (902, 32768)]) ++ [(7, 0)]) ++ [(902, 3), (902, 3), (902, 3), (902, 3), (902, 3), (902, 3), (902, 12288), (902, 192), (902, 12288)]) ++ [(10, 0)]) ++ [(902, 3), (902, 3), (902, 3), (902, 192)]) ++ [(902, 256)]) ++ [(903, 4)]) ++ [(951, 4)]) ++ [(3, 0)]) (U.length + 21) (c_pr (c_pr (c_pr S31 u 2 (U.length + 13)) u 3 (U.length + 18)) u 4 (U.length + 19)) (fun S64 => vp_in 0 (c_ln (((((((((((U ++ [(8, 0)]) ++ [(9, 0), (902, 32768)]) ++ [(7, 0)]) ++ [(902, 3), (902, 3), (902, 3), (902, 3), (902, 3), (902, 3), (902, 12288), (902, 192), (902, 12288)]) ++ [(10, 0)]) ++ [(902, 3), (902, 3), (902, 3), (902, 192)]) ++ [(902, 256)]) ++ [(903, 4)]) ++ [(951, 4)]) ++ [(3, 0)]) ++ [(902, 17), (902, 17), (902, 17), (902, 256)]) (U.length + 20)) ∧ ¬ (U.length + 21) = NU ∧ (fresh (c_pr S64 (U.length + 20) (0 : Int32).toNatClampNeg (U.length + 21)) (U.length + 26) ∧ (p_Co_init ((((((((((((U ++ [(8, 0)]) ++ [(9, 0), (902, 32768)]) ++ [(7, 0)]) ++ [(902, 3), (902, 3), (902, 3), (902, 3), (902, 3), (902, 3), (902, 12288), (902, 192), (902, 12288)]) ++ [(10, 0)]) ++ [(902, 3), (902, 3), (902, 3), (902, 192)]) ++ [(902, 256)]) ++ [(903, 4)]) ++ [(951, 4)]) ++ [(3, 0)]) ++ [(902, 17), (902, 17), (902, 17), (902, 256)]) ++ [(3, 0)]) (U.length + 26) (c_pr S64 (U.length + 20) (0 : Int32).toNatClampNeg (U.length + 21)) (fun S74 => vp_in 1 (c_ln (((((((((((((U ++ [(8, 0)]) ++ [(9, 0), (902, 32768)]) ++ [(7, 0)]) ++ [(902, 3), (902, 3), (902, 3), (902, 3), (902, 3), (902, 3), (902, 12288), (902, 192), (902, 12288)]) ++ [(10, 0)]) ++ [(902, 3), (902, 3), (902, 3), (902, 192)]) ++ [(902, 256)]) ++ [(903, 4)]) ++ [(951, 4)]) ++ [(3, 0)]) ++ [(902, 17), (902, 17), (902, 17), (902, 256)]) ++ [(3, 0)]) ++ [(902, 17), (902, 17), (902, 17), (902, 256)]) (U.length + 20)) ∧ ¬ (U.length + 26) = NU ∧ (fresh (c_pr S74 (U.length + 20) (1 : Int32).toNatClampNeg (U.length + 26)) (U.length + 31) ∧ (p_Co_init ((((((((((((((U ++ [(8, 0)]) ++ [(9, 0), (902, 32768)]) ++ [(7, 0)]) ++ [(902, 3), (902, 3), (902, 3), (902, 3), (902, 3), (902, 3), (902, 12288), (902, 192), (902, 12288)]) ++ [(10, 0)]) ++ [(902, 3), (902, 3), (902, 3), (902, 192)]) ++ [(902, 256)]) ++ [(903, 4)]) ++ [(951, 4)]) ++ [(3, 0)]) ++ [(902, 17), (902, 17), (902, 17), (902, 256)]) ++ [(3, 0)]) ++ [(902, 17), (902, 17), (902, 17), (902, 256)]) ++ [(3, 0)]) (U.length + 31) (c_pr S74 (U.length + 20) (1 : Int32).toNatClampNeg (U.length + 26)) (fun S84 => vp_in 2 (c_ln (((((((((((((((U ++ [(8, 0)]) ++ [(9, 0), (902, 32768)]) ++ [(7, 0)]) ++ [(902, 3), (902, 3), (902, 3), (902, 3), (902, 3), (902, 3), (902, 12288), (902, 192), (902, 12288)]) ++ [(10, 0)]) ++ [(902, 3), (902, 3), (902, 3), (902, 192)]) ++ [(902, 256)]) ++ [(903, 4)]) ++ [(951, 4)]) ++ [(3, 0)]) ++ [(902, 17), (902, 17), (902, 17), (902, 256)]) ++ [(3, 0)]) ++ [(902, 17), (902, 17), (902, 17), (902, 256)]) ++ [(3, 0)]) ++ [(902, 17), (902, 17), (902, 17), (902, 256)]) (U.length + 20)) ∧ ¬ (U.length + 31) = NU ∧ (fresh (c_pr S84 (U.length + 20) (2 : Int32).toNatClampNeg (U.length + 31)) (U.length + 36) ∧ (p_Co_init ((((((((((((((((U ++ [(8, 0)]) ++ [(9, 0), (902, 32768)]) ++ [(7, 0)]) ++ [(902, 3), (902, 3), (902, 3), (902, 3), (902, 3), (902, 3), (902, 12288), (902, 192), (902, 12288)]) ++ [(10, 0)]) ++ [(902, 3), (902, 3), (902, 3), (902, 192)]) ++ [(902, 256)]) ++ [(903, 4)]) ++ [(951, 4)]) ++ [(3, 0)]) ++ [(902, 17), (902, 17), (902, 17), (902, 256)]) ++ [(3, 0)]) ++ [(902, 17), (902, 17), (902, 17), (902, 256)]) ++ [(3, 0)]) ++ [(902, 17), (902, 17), (902, 17), (902, 256)]) ++ [(3, 0)]) (U.length + 36) (c_pr S84 (U.length + 20) (2 : Int32).toNatClampNeg (U.length + 31)) (fun S94 => vp_in 3 (c_ln (((((((((((((((((U ++ [(8, 0)]) ++ [(9, 0), (902, 32768)]) ++ [(7, 0)]) ++ [(902, 3), (902, 3), (902, 3), (902, 3), (902, 3), (902, 3), (902, 12288), (902, 192), (902, 12288)]) ++ [(10, 0)]) ++ [(902, 3), (902, 3), (902, 3), (902, 192)]) ++ [(902, 256)]) ++ [(903, 4)]) ++ [(951, 4)]) ++ [(3, 0)]) ++ [(902, 17), (902, 17), (902, 17), (902, 256)]) ++ [(3, 0)]) ++ [(902, 17), (902, 17), (902, 17), (902, 256)]) ++ [(3, 0)]) ++ [(902, 17), (902, 17), (902, 17), (902, 256)]) ++ [(3, 0)]) ++ [(902, 17), (902, 17), (902, 17), (902, 256)]) (U.length + 20)) ∧ ¬ (U.length + 36) = NU ∧ (¬ (U.length + 20) = NU ∧ (fresh (c_pr (c_pr S94 (U.length + 20) (3 : Int32).toNatClampNeg (U.length + 36)) u 5 (U.length + 20)) (U.length + 41) ∧ (¬ (U.length + 41) = NU ∧ (fresh (c_pr (c_pr (c_pr S94 (U.length + 20) (3 : Int32).toNatClampNeg (U.length + 36)) u 5 (U.length + 20)) u 7 (U.length + 41)) (U.length + 42) ∧ (¬ (U.length + 42) = NU ∧ (fresh (c_pr (c_pr (c_pr (c_pr S94 (U.length + 20) (3 : Int32).toNatClampNeg (U.length + 36)) u 5 (U.length + 20)) u 7 (U.length + 41)) u 8 (U.length + 42)) (U.length + 43) ∧ (¬ (U.length + 43) = NU ∧ (fresh (c_pr (c_pr (c_pr (c_pr (c_pr S94 (U.length + 20) (3 : Int32).toNatClampNeg (U.length + 36)) u 5 (U.length + 20)) u 7 (U.length + 41)) u 8 (U.length + 42)) u 9 (U.length + 43)) (U.length + 44) ∧ (¬ (U.length + 44) = NU ∧ (K (c_pr (c_pr (c_pr (c_pr (c_pr (c_pr S94 (U.length + 20) (3 : Int32).toNatClampNeg (U.length + 36)) u 5 (U.length + 20)) u 7 (U.length + 41)) u 8 (U.length + 42)) u 9 (U.length + 43)) u 10 (U.length + 44)))))))))))))))))))))))))))))))))))))

section I_Un_init
variable {D : va_G} {z : Nat → ClassId} {U : ut} {oa : Nat → Nat}
set_option maxRecDepth 100000 in
set_option maxHeartbeats 4000000 in
theorem ct_Un_init {l : Launch} (u : Nat) (S : cs) {K : cs → Prop} (hu : c_cl U u = 11) (hp : p_Un_init U u S K) : ct gG D z l n_C_Un_init c_C_Un_init 1 (none) 4 400 [.ref (oa u)] (cw lt_C U oa S) 45 59319 (pC_n lt_C U ext_Un_init oa K) := by
  refine ct_ofI (lo := [some (.ref (oa u))]) (by decide) g_ok (Nat.le_of_ble_eq_true rfl) rfl ?_
  intro X A _ C hR hQ hA _ hin
  unfold p_Un_init at hp
  have hu0 := hu
  have hlt0 : u < U.length := c_lt hu0 (by decide)
  have hag : ∀ v, v < U.length → oa v = oa v := fun _ _ => rfl
  have hLT0 : U.length = U.length := rfl
  refine a_aload_n C dc_Un_init_0 rfl rfl ?_
  refine a_obj C dc_Un_init_1 l_Un_3 oi_M oc_M (Nat.le_of_ble_eq_true rfl) (by rw [hR]; exact Nat.le_of_ble_eq_true rfl) (by rw [hR]; exact Nat.le_of_ble_eq_true rfl) ?_
  refine a_aload_n C dc_Un_init_4 rfl rfl ?_
  refine c_new (ci := 8) (n := U.length) C y_Re g_ty_Re dc_Un_init_5 rfl rfl x_Un_9 nn_Re i_Re df_Re (by decide) hLT0 hp.1 (by rw [hR]; exact Nat.le_of_ble_eq_true rfl) (by rw [hR]; exact Nat.le_of_ble_eq_true rfl) (fun q5 => ?_)
  have hp := hp.2
  generalize hoa5 : va_up oa U.length q5 = oa5
  have hq5 : oa5 U.length = q5 := by rw [← hoa5]; exact up_at
  have hag : ∀ v, v < U.length → oa5 v = oa v := fun v hv => (show oa5 v = oa v by rw [← hoa5]; exact up_ne (Nat.ne_of_lt hv)).trans (hag v hv)
  rw [← hq5]
  have hz0 : oa5 u = oa u := (by rw [← hoa5]; exact up_ne (Nat.ne_of_lt hlt0))
  rw [← hz0]
  have hcn5 := c_clN (c := (8, 0)) (U := U) (n := U.length) hLT0
  have hu := c_clA (V := [(8, 0)]) hu (by decide)
  generalize hT1 : U ++ [(8, 0)] = T1 at hp hu hcn5 ⊢
  have hLT1 : T1.length = U.length + 1 := by rw [← hT1]; simp +arith only [List.length_append, List.length_cons, List.length_nil, Nat.add_zero]
  refine a_dup C dc_Un_init_8 rfl ?_
  refine c_call (rest := [.ref (oa5 U.length), .ref (oa5 u)]) (av := .ref (oa5 U.length) :: []) C dc_Un_init_9 (ct_Re_init U.length S hcn5 hp) cd_C_Re_init i_Re (Nat.le_of_ble_eq_true rfl) (by rw [hR]; exact Nat.le_of_ble_eq_true rfl) (by rw [hR]; exact Nat.le_of_ble_eq_true rfl) (by rw [hR]; exact Nat.le_of_ble_eq_true rfl) (by rw [hR]; exact Nat.le_of_ble_eq_true rfl) (inv_IN C dc_Un_init_9 l_Un_11 rfl im_C_Re_init cd_C_Re_init ⟨by decide, by decide⟩ ln_C_Re_init rfl) (fun oc L1 hL => ?_)
  obtain ⟨oa9, S9, hp, hb9, rfl, rfl⟩ := hL
  refine ⟨_, rfl, ?_⟩
  have hL9 : T1.length = U.length + 1 := hLT1
  have hag : ∀ v, v < U.length → oa9 v = oa v := fun v hv => (hb9 v (by rw [hL9]; exact (Nat.lt_of_lt_of_le hv (Nat.le_add_right _ _)))).trans (hag v hv)
  refine aw_eq (lo' := [some (.ref (oa5 u))]) (st' := [.ref (oa5 U.length), .ref (oa5 u)]) (L' := (cw lt_C (T1 ++ [(9, 0), (902, 32768)]) oa9 S9)) rfl rfl rfl ?_
  have hz1 : oa9 u = oa5 u := (hb9 u (by rw [hL9]; exact (Nat.lt_of_lt_of_le hlt0 (Nat.le_add_right _ _))))
  rw [← hz1]
  have hz2 : oa9 U.length = oa5 U.length := (hb9 U.length (by rw [hL9]; exact (Nat.lt_add_of_pos_right (by decide))))
  rw [← hz2]
  have hu := c_clA (V := [(9, 0), (902, 32768)]) hu (by decide)
  have hcn5 := c_clA (V := [(9, 0), (902, 32768)]) hcn5 (by decide)
  generalize hT2 : T1 ++ [(9, 0), (902, 32768)] = T2 at hp hu hcn5 ⊢
  have hLT2 : T2.length = U.length + 3 := by rw [← hT2]; simp +arith only [List.length_append, List.length_cons, List.length_nil, hLT1]
  refine c_putRF (ty := .object "BlockPicture$Reader") C u 0 hin dc_Un_init_12 hu rfl rfl (Nat.le_of_ble_eq_true rfl) f_Un_12 rfl rfl rfl (fun _ => rfl) (fun _ => rfl) rfl rfl hp.1 ?_
  have hp := hp.2
  refine a_aload_n C dc_Un_init_15 rfl rfl ?_
  refine c_new (ci := 7) (n := U.length + 3) C y_Pi g_ty_Pi dc_Un_init_16 rfl rfl x_Un_18 nn_Pi i_Pi df_Pi (by decide) hLT2 hp.1 (by rw [hR]; exact Nat.le_of_ble_eq_true rfl) (by rw [hR]; exact Nat.le_of_ble_eq_true rfl) (fun q16 => ?_)
  have hp := hp.2
  generalize hoa16 : va_up oa9 (U.length + 3) q16 = oa16
  have hq16 : oa16 (U.length + 3) = q16 := by rw [← hoa16]; exact up_at
  have hag : ∀ v, v < U.length → oa16 v = oa v := fun v hv => (show oa16 v = oa9 v by rw [← hoa16]; exact up_ne (Nat.ne_of_lt (Nat.lt_of_lt_of_le hv (Nat.le_add_right _ _)))).trans (hag v hv)
  rw [← hq16]
  have hz3 : oa16 u = oa9 u := (by rw [← hoa16]; exact up_ne (Nat.ne_of_lt (Nat.lt_of_lt_of_le hlt0 (Nat.le_add_right _ _))))
  rw [← hz3]
  have hcn16 := c_clN (c := (7, 0)) (U := T2) (n := U.length + 3) hLT2
  have hu := c_clA (V := [(7, 0)]) hu (by decide)
  have hcn5 := c_clA (V := [(7, 0)]) hcn5 (by decide)
  generalize hT3 : T2 ++ [(7, 0)] = T3 at hp hu hcn5 hcn16 ⊢
  have hLT3 : T3.length = U.length + 4 := by rw [← hT3]; simp +arith only [List.length_append, List.length_cons, List.length_nil, hLT2]
  refine a_dup C dc_Un_init_19 rfl ?_
  refine c_call (rest := [.ref (oa16 (U.length + 3)), .ref (oa16 u)]) (av := .ref (oa16 (U.length + 3)) :: []) C dc_Un_init_20 (ct_Pi_init (U.length + 3) (c_pr S9 u 0 U.length) hcn16 hp) cd_C_Pi_init i_Pi (Nat.le_of_ble_eq_true rfl) (by rw [hR]; exact Nat.le_of_ble_eq_true rfl) (by rw [hR]; exact Nat.le_of_ble_eq_true rfl) (by rw [hR]; exact Nat.le_of_ble_eq_true rfl) (by rw [hR]; exact Nat.le_of_ble_eq_true rfl) (inv_IN C dc_Un_init_20 l_Un_20 rfl im_C_Pi_init cd_C_Pi_init ⟨by decide, by decide⟩ ln_C_Pi_init rfl) (fun oc L1 hL => ?_)
  obtain ⟨oa20, S20, hp, hb20, rfl, rfl⟩ := hL
  refine ⟨_, rfl, ?_⟩
  have hL20 : T3.length = U.length + 4 := hLT3
  have hag : ∀ v, v < U.length → oa20 v = oa v := fun v hv => (hb20 v (by rw [hL20]; exact (Nat.lt_of_lt_of_le hv (Nat.le_add_right _ _)))).trans (hag v hv)
  refine aw_eq (lo' := [some (.ref (oa16 u))]) (st' := [.ref (oa16 (U.length + 3)), .ref (oa16 u)]) (L' := (cw lt_C (T3 ++ [(902, 3), (902, 3), (902, 3), (902, 3), (902, 3), (902, 3), (902, 12288), (902, 192), (902, 12288)]) oa20 S20)) rfl rfl rfl ?_
  have hz4 : oa20 u = oa16 u := (hb20 u (by rw [hL20]; exact (Nat.lt_of_lt_of_le hlt0 (Nat.le_add_right _ _))))
  rw [← hz4]
  have hz5 : oa20 (U.length + 3) = oa16 (U.length + 3) := (hb20 (U.length + 3) (by rw [hL20]; exact (Nat.add_lt_add_left (by decide) _)))
  rw [← hz5]
  have hu := c_clA (V := [(902, 3), (902, 3), (902, 3), (902, 3), (902, 3), (902, 3), (902, 12288), (902, 192), (902, 12288)]) hu (by decide)
  have hcn5 := c_clA (V := [(902, 3), (902, 3), (902, 3), (902, 3), (902, 3), (902, 3), (902, 12288), (902, 192), (902, 12288)]) hcn5 (by decide)
  have hcn16 := c_clA (V := [(902, 3), (902, 3), (902, 3), (902, 3), (902, 3), (902, 3), (902, 12288), (902, 192), (902, 12288)]) hcn16 (by decide)
  generalize hT4 : T3 ++ [(902, 3), (902, 3), (902, 3), (902, 3), (902, 3), (902, 3), (902, 12288), (902, 192), (902, 12288)] = T4 at hp hu hcn5 hcn16 ⊢
  have hLT4 : T4.length = U.length + 13 := by rw [← hT4]; simp +arith only [List.length_append, List.length_cons, List.length_nil, hLT3]
  refine c_putR (ty := .object "BlockPicture$Picture") C u 1 dc_Un_init_23 hu rfl rfl (Nat.le_of_ble_eq_true rfl) f_Un_21 rfl rfl (fun _ => rfl) (fun _ => rfl) rfl rfl hp.1 ?_
  have hp := hp.2
  refine a_aload_n C dc_Un_init_26 rfl rfl ?_
  refine c_new (ci := 10) (n := U.length + 13) C y_Sc g_ty_Sc dc_Un_init_27 rfl rfl x_Un_25 nn_Sc i_Sc df_Sc (by decide) hLT4 hp.1 (by rw [hR]; exact Nat.le_of_ble_eq_true rfl) (by rw [hR]; exact Nat.le_of_ble_eq_true rfl) (fun q27 => ?_)
  have hp := hp.2
  generalize hoa27 : va_up oa20 (U.length + 13) q27 = oa27
  have hq27 : oa27 (U.length + 13) = q27 := by rw [← hoa27]; exact up_at
  have hag : ∀ v, v < U.length → oa27 v = oa v := fun v hv => (show oa27 v = oa20 v by rw [← hoa27]; exact up_ne (Nat.ne_of_lt (Nat.lt_of_lt_of_le hv (Nat.le_add_right _ _)))).trans (hag v hv)
  rw [← hq27]
  have hz6 : oa27 u = oa20 u := (by rw [← hoa27]; exact up_ne (Nat.ne_of_lt (Nat.lt_of_lt_of_le hlt0 (Nat.le_add_right _ _))))
  rw [← hz6]
  have hcn27 := c_clN (c := (10, 0)) (U := T4) (n := U.length + 13) hLT4
  have hu := c_clA (V := [(10, 0)]) hu (by decide)
  have hcn5 := c_clA (V := [(10, 0)]) hcn5 (by decide)
  have hcn16 := c_clA (V := [(10, 0)]) hcn16 (by decide)
  generalize hT5 : T4 ++ [(10, 0)] = T5 at hp hu hcn5 hcn16 hcn27 ⊢
  have hLT5 : T5.length = U.length + 14 := by rw [← hT5]; simp +arith only [List.length_append, List.length_cons, List.length_nil, hLT4]
  refine a_dup C dc_Un_init_30 rfl ?_
  refine c_call (rest := [.ref (oa27 (U.length + 13)), .ref (oa27 u)]) (av := .ref (oa27 (U.length + 13)) :: []) C dc_Un_init_31 (ct_Sc_init (U.length + 13) (c_pr S20 u 1 (U.length + 3)) hcn27 hp) cd_C_Sc_init i_Sc (Nat.le_of_ble_eq_true rfl) (by rw [hR]; exact Nat.le_of_ble_eq_true rfl) (by rw [hR]; exact Nat.le_of_ble_eq_true rfl) (by rw [hR]; exact Nat.le_of_ble_eq_true rfl) (by rw [hR]; exact Nat.le_of_ble_eq_true rfl) (inv_IN C dc_Un_init_31 l_Un_27 rfl im_C_Sc_init cd_C_Sc_init ⟨by decide, by decide⟩ ln_C_Sc_init rfl) (fun oc L1 hL => ?_)
  obtain ⟨oa31, S31, hp, hb31, rfl, rfl⟩ := hL
  refine ⟨_, rfl, ?_⟩
  have hL31 : T5.length = U.length + 14 := hLT5
  have hag : ∀ v, v < U.length → oa31 v = oa v := fun v hv => (hb31 v (by rw [hL31]; exact (Nat.lt_of_lt_of_le hv (Nat.le_add_right _ _)))).trans (hag v hv)
  refine aw_eq (lo' := [some (.ref (oa27 u))]) (st' := [.ref (oa27 (U.length + 13)), .ref (oa27 u)]) (L' := (cw lt_C (T5 ++ [(902, 3), (902, 3), (902, 3), (902, 192)]) oa31 S31)) rfl rfl rfl ?_
  have hz7 : oa31 u = oa27 u := (hb31 u (by rw [hL31]; exact (Nat.lt_of_lt_of_le hlt0 (Nat.le_add_right _ _))))
  rw [← hz7]
  have hz8 : oa31 (U.length + 13) = oa27 (U.length + 13) := (hb31 (U.length + 13) (by rw [hL31]; exact (Nat.add_lt_add_left (by decide) _)))
  rw [← hz8]
  have hu := c_clA (V := [(902, 3), (902, 3), (902, 3), (902, 192)]) hu (by decide)
  have hcn5 := c_clA (V := [(902, 3), (902, 3), (902, 3), (902, 192)]) hcn5 (by decide)
  have hcn16 := c_clA (V := [(902, 3), (902, 3), (902, 3), (902, 192)]) hcn16 (by decide)
  have hcn27 := c_clA (V := [(902, 3), (902, 3), (902, 3), (902, 192)]) hcn27 (by decide)
  generalize hT6 : T5 ++ [(902, 3), (902, 3), (902, 3), (902, 192)] = T6 at hp hu hcn5 hcn16 hcn27 ⊢
  have hLT6 : T6.length = U.length + 18 := by rw [← hT6]; simp +arith only [List.length_append, List.length_cons, List.length_nil, hLT5]
  refine c_putRF (ty := .object "BlockPicture$Scan") C u 2 hin dc_Un_init_34 hu rfl rfl (Nat.le_of_ble_eq_true rfl) f_Un_28 rfl rfl rfl (fun _ => rfl) (fun _ => rfl) rfl rfl hp.1 ?_
  have hp := hp.2
  refine a_aload_n C dc_Un_init_37 rfl rfl ?_
  refine a_sipush (v := 256) C dc_Un_init_38 (by decide) ?_
  refine c_newa (ty := .int) (N := 256) (n := U.length + 18) C 2 dc_Un_init_41 ac_int rfl (C.kn.2 0 _ rfl).2 (fun _ => rfl) (by decide) (by decide) (by decide) (by decide) hLT6 hp.1 (by rw [hR]; exact Nat.le_of_ble_eq_true rfl) (by rw [hR]; exact Nat.le_of_ble_eq_true rfl) (fun q41 => ?_)
  have hp := hp.2
  generalize hoa41 : va_up oa31 (U.length + 18) q41 = oa41
  have hq41 : oa41 (U.length + 18) = q41 := by rw [← hoa41]; exact up_at
  have hag : ∀ v, v < U.length → oa41 v = oa v := fun v hv => (show oa41 v = oa31 v by rw [← hoa41]; exact up_ne (Nat.ne_of_lt (Nat.lt_of_lt_of_le hv (Nat.le_add_right _ _)))).trans (hag v hv)
  rw [← hq41]
  have hz9 : oa41 u = oa31 u := (by rw [← hoa41]; exact up_ne (Nat.ne_of_lt (Nat.lt_of_lt_of_le hlt0 (Nat.le_add_right _ _))))
  rw [← hz9]
  have hcn41 := c_clN (c := (902, 256)) (U := T6) (n := U.length + 18) hLT6
  have hu := c_clA (V := [(902, 256)]) hu (by decide)
  have hcn5 := c_clA (V := [(902, 256)]) hcn5 (by decide)
  have hcn16 := c_clA (V := [(902, 256)]) hcn16 (by decide)
  have hcn27 := c_clA (V := [(902, 256)]) hcn27 (by decide)
  generalize hT7 : T6 ++ [(902, 256)] = T7 at hp hu hcn5 hcn16 hcn27 hcn41 ⊢
  have hLT7 : T7.length = U.length + 19 := by rw [← hT7]; simp +arith only [List.length_append, List.length_cons, List.length_nil, hLT6]
  refine c_putRF (ty := .array .int) C u 3 hin dc_Un_init_43 hu rfl rfl (Nat.le_of_ble_eq_true rfl) f_Un_32 rfl rfl rfl (fun _ => rfl) (fun _ => rfl) rfl rfl hp.1 ?_
  have hp := hp.2
  refine a_aload_n C dc_Un_init_46 rfl rfl ?_
  refine a_iconst (v := 4) C dc_Un_init_47 (by decide) ?_
  refine c_newa (ty := .boolean) (N := 4) (n := U.length + 19) C 3 dc_Un_init_48 ac_boolean rfl (C.kn.2 1 _ rfl).2 (fun _ => rfl) (by decide) (by decide) (by decide) (by decide) hLT7 hp.1 (by rw [hR]; exact Nat.le_of_ble_eq_true rfl) (by rw [hR]; exact Nat.le_of_ble_eq_true rfl) (fun q48 => ?_)
  have hp := hp.2
  generalize hoa48 : va_up oa41 (U.length + 19) q48 = oa48
  have hq48 : oa48 (U.length + 19) = q48 := by rw [← hoa48]; exact up_at
  have hag : ∀ v, v < U.length → oa48 v = oa v := fun v hv => (show oa48 v = oa41 v by rw [← hoa48]; exact up_ne (Nat.ne_of_lt (Nat.lt_of_lt_of_le hv (Nat.le_add_right _ _)))).trans (hag v hv)
  rw [← hq48]
  have hz10 : oa48 u = oa41 u := (by rw [← hoa48]; exact up_ne (Nat.ne_of_lt (Nat.lt_of_lt_of_le hlt0 (Nat.le_add_right _ _))))
  rw [← hz10]
  have hcn48 := c_clN (c := (903, 4)) (U := T7) (n := U.length + 19) hLT7
  have hu := c_clA (V := [(903, 4)]) hu (by decide)
  have hcn5 := c_clA (V := [(903, 4)]) hcn5 (by decide)
  have hcn16 := c_clA (V := [(903, 4)]) hcn16 (by decide)
  have hcn27 := c_clA (V := [(903, 4)]) hcn27 (by decide)
  have hcn41 := c_clA (V := [(903, 4)]) hcn41 (by decide)
  generalize hT8 : T7 ++ [(903, 4)] = T8 at hp hu hcn5 hcn16 hcn27 hcn41 hcn48 ⊢
  have hLT8 : T8.length = U.length + 20 := by rw [← hT8]; simp +arith only [List.length_append, List.length_cons, List.length_nil, hLT7]
  refine c_putRF (ty := .array .boolean) C u 4 hin dc_Un_init_50 hu rfl rfl (Nat.le_of_ble_eq_true rfl) f_Un_36 rfl rfl rfl (fun _ => rfl) (fun _ => rfl) rfl rfl hp.1 ?_
  have hp := hp.2
  refine a_aload_n C dc_Un_init_53 rfl rfl ?_
  refine a_iconst (v := 4) C dc_Un_init_54 (by decide) ?_
  refine c_anew (ci := 951) (N := 4) (n := U.length + 20) C 1 dc_Un_init_55 x_Un_40 ao_951 rfl rfl (by decide) (by decide) (by decide) hLT8 hp.1 (by rw [hR]; exact Nat.le_of_ble_eq_true rfl) (by rw [hR]; exact Nat.le_of_ble_eq_true rfl) (fun q55 => ?_)
  have hp := hp.2
  generalize hoa55 : va_up oa48 (U.length + 20) q55 = oa55
  have hq55 : oa55 (U.length + 20) = q55 := by rw [← hoa55]; exact up_at
  have hag : ∀ v, v < U.length → oa55 v = oa v := fun v hv => (show oa55 v = oa48 v by rw [← hoa55]; exact up_ne (Nat.ne_of_lt (Nat.lt_of_lt_of_le hv (Nat.le_add_right _ _)))).trans (hag v hv)
  rw [← hq55]
  have hz11 : oa55 u = oa48 u := (by rw [← hoa55]; exact up_ne (Nat.ne_of_lt (Nat.lt_of_lt_of_le hlt0 (Nat.le_add_right _ _))))
  rw [← hz11]
  have hcn55 := c_clN (c := (951, 4)) (U := T8) (n := U.length + 20) hLT8
  have hu := c_clA (V := [(951, 4)]) hu (by decide)
  have hcn5 := c_clA (V := [(951, 4)]) hcn5 (by decide)
  have hcn16 := c_clA (V := [(951, 4)]) hcn16 (by decide)
  have hcn27 := c_clA (V := [(951, 4)]) hcn27 (by decide)
  have hcn41 := c_clA (V := [(951, 4)]) hcn41 (by decide)
  have hcn48 := c_clA (V := [(951, 4)]) hcn48 (by decide)
  generalize hT9 : T8 ++ [(951, 4)] = T9 at hp hu hcn5 hcn16 hcn27 hcn41 hcn48 hcn55 ⊢
  have hLT9 : T9.length = U.length + 21 := by rw [← hT9]; simp +arith only [List.length_append, List.length_cons, List.length_nil, hLT8]
  refine a_dup C dc_Un_init_58 rfl ?_
  refine a_iconst (v := 0) C dc_Un_init_59 (by decide) ?_
  refine c_new (ci := 3) (n := U.length + 21) C y_Co g_ty_Co dc_Un_init_60 rfl rfl x_Un_40 nn_Co i_Co df_Co (by decide) hLT9 hp.1 (by rw [hR]; exact Nat.le_of_ble_eq_true rfl) (by rw [hR]; exact Nat.le_of_ble_eq_true rfl) (fun q60 => ?_)
  have hp := hp.2
  generalize hoa60 : va_up oa55 (U.length + 21) q60 = oa60
  have hq60 : oa60 (U.length + 21) = q60 := by rw [← hoa60]; exact up_at
  have hag : ∀ v, v < U.length → oa60 v = oa v := fun v hv => (show oa60 v = oa55 v by rw [← hoa60]; exact up_ne (Nat.ne_of_lt (Nat.lt_of_lt_of_le hv (Nat.le_add_right _ _)))).trans (hag v hv)
  rw [← hq60]
  have hz12 : oa60 u = oa55 u := (by rw [← hoa60]; exact up_ne (Nat.ne_of_lt (Nat.lt_of_lt_of_le hlt0 (Nat.le_add_right _ _))))
  rw [← hz12]
  have hz13 : oa60 (U.length + 20) = oa55 (U.length + 20) := (by rw [← hoa60]; exact up_ne (Nat.ne_of_lt (Nat.add_lt_add_left (by decide) _)))
  rw [← hz13]
  have hcn60 := c_clN (c := (3, 0)) (U := T9) (n := U.length + 21) hLT9
  have hu := c_clA (V := [(3, 0)]) hu (by decide)
  have hcn5 := c_clA (V := [(3, 0)]) hcn5 (by decide)
  have hcn16 := c_clA (V := [(3, 0)]) hcn16 (by decide)
  have hcn27 := c_clA (V := [(3, 0)]) hcn27 (by decide)
  have hcn41 := c_clA (V := [(3, 0)]) hcn41 (by decide)
  have hcn48 := c_clA (V := [(3, 0)]) hcn48 (by decide)
  have hcn55 := c_clA (V := [(3, 0)]) hcn55 (by decide)
  generalize hT10 : T9 ++ [(3, 0)] = T10 at hp hu hcn5 hcn16 hcn27 hcn41 hcn48 hcn55 hcn60 ⊢
  have hLT10 : T10.length = U.length + 22 := by rw [← hT10]; simp +arith only [List.length_append, List.length_cons, List.length_nil, hLT9]
  refine a_dup C dc_Un_init_63 rfl ?_
  refine c_call (rest := [.ref (oa60 (U.length + 21)), .int 0, .ref (oa60 (U.length + 20)), .ref (oa60 (U.length + 20)), .ref (oa60 u)]) (av := .ref (oa60 (U.length + 21)) :: []) C dc_Un_init_64 (ct_Co_init (U.length + 21) (c_pr (c_pr (c_pr S31 u 2 (U.length + 13)) u 3 (U.length + 18)) u 4 (U.length + 19)) hcn60 hp) cd_C_Co_init i_Co (Nat.le_of_ble_eq_true rfl) (by rw [hR]; exact Nat.le_of_ble_eq_true rfl) (by rw [hR]; exact Nat.le_of_ble_eq_true rfl) (by rw [hR]; exact Nat.le_of_ble_eq_true rfl) (by rw [hR]; exact Nat.le_of_ble_eq_true rfl) (inv_IN C dc_Un_init_64 l_Un_42 rfl im_C_Co_init cd_C_Co_init ⟨by decide, by decide⟩ ln_C_Co_init rfl) (fun oc L1 hL => ?_)
  obtain ⟨oa64, S64, hp, hb64, rfl, rfl⟩ := hL
  refine ⟨_, rfl, ?_⟩
  have hL64 : T10.length = U.length + 22 := hLT10
  have hag : ∀ v, v < U.length → oa64 v = oa v := fun v hv => (hb64 v (by rw [hL64]; exact (Nat.lt_of_lt_of_le hv (Nat.le_add_right _ _)))).trans (hag v hv)
  refine aw_eq (lo' := [some (.ref (oa60 u))]) (st' := [.ref (oa60 (U.length + 21)), .int 0, .ref (oa60 (U.length + 20)), .ref (oa60 (U.length + 20)), .ref (oa60 u)]) (L' := (cw lt_C (T10 ++ [(902, 17), (902, 17), (902, 17), (902, 256)]) oa64 S64)) rfl rfl rfl ?_
  have hz14 : oa64 u = oa60 u := (hb64 u (by rw [hL64]; exact (Nat.lt_of_lt_of_le hlt0 (Nat.le_add_right _ _))))
  rw [← hz14]
  have hz15 : oa64 (U.length + 20) = oa60 (U.length + 20) := (hb64 (U.length + 20) (by rw [hL64]; exact (Nat.add_lt_add_left (by decide) _)))
  rw [← hz15]
  have hz16 : oa64 (U.length + 21) = oa60 (U.length + 21) := (hb64 (U.length + 21) (by rw [hL64]; exact (Nat.add_lt_add_left (by decide) _)))
  rw [← hz16]
  have hu := c_clA (V := [(902, 17), (902, 17), (902, 17), (902, 256)]) hu (by decide)
  have hcn5 := c_clA (V := [(902, 17), (902, 17), (902, 17), (902, 256)]) hcn5 (by decide)
  have hcn16 := c_clA (V := [(902, 17), (902, 17), (902, 17), (902, 256)]) hcn16 (by decide)
  have hcn27 := c_clA (V := [(902, 17), (902, 17), (902, 17), (902, 256)]) hcn27 (by decide)
  have hcn41 := c_clA (V := [(902, 17), (902, 17), (902, 17), (902, 256)]) hcn41 (by decide)
  have hcn48 := c_clA (V := [(902, 17), (902, 17), (902, 17), (902, 256)]) hcn48 (by decide)
  have hcn55 := c_clA (V := [(902, 17), (902, 17), (902, 17), (902, 256)]) hcn55 (by decide)
  have hcn60 := c_clA (V := [(902, 17), (902, 17), (902, 17), (902, 256)]) hcn60 (by decide)
  generalize hT11 : T10 ++ [(902, 17), (902, 17), (902, 17), (902, 256)] = T11 at hp hu hcn5 hcn16 hcn27 hcn41 hcn48 hcn55 hcn60 ⊢
  have hLT11 : T11.length = U.length + 26 := by rw [← hT11]; simp +arith only [List.length_append, List.length_cons, List.length_nil, hLT10]
  refine c_aast (ci := 951) (ce := 3) C (U.length + 20) (U.length + 21) 1 dc_Un_init_67 hcn55 rfl (by decide) rfl hcn60 rfl rfl hp.1 hp.2.1 ?_
  have hp := hp.2.2
  refine a_dup C dc_Un_init_68 rfl ?_
  refine a_iconst (v := 1) C dc_Un_init_69 (by decide) ?_
  refine c_new (ci := 3) (n := U.length + 26) C y_Co g_ty_Co dc_Un_init_70 rfl rfl x_Un_40 nn_Co i_Co df_Co (by decide) hLT11 hp.1 (by rw [hR]; exact Nat.le_of_ble_eq_true rfl) (by rw [hR]; exact Nat.le_of_ble_eq_true rfl) (fun q70 => ?_)
  have hp := hp.2
  generalize hoa70 : va_up oa64 (U.length + 26) q70 = oa70
  have hq70 : oa70 (U.length + 26) = q70 := by rw [← hoa70]; exact up_at
  have hag : ∀ v, v < U.length → oa70 v = oa v := fun v hv => (show oa70 v = oa64 v by rw [← hoa70]; exact up_ne (Nat.ne_of_lt (Nat.lt_of_lt_of_le hv (Nat.le_add_right _ _)))).trans (hag v hv)
  rw [← hq70]
  have hz17 : oa70 u = oa64 u := (by rw [← hoa70]; exact up_ne (Nat.ne_of_lt (Nat.lt_of_lt_of_le hlt0 (Nat.le_add_right _ _))))
  rw [← hz17]
  have hz18 : oa70 (U.length + 20) = oa64 (U.length + 20) := (by rw [← hoa70]; exact up_ne (Nat.ne_of_lt (Nat.add_lt_add_left (by decide) _)))
  rw [← hz18]
  have hcn70 := c_clN (c := (3, 0)) (U := T11) (n := U.length + 26) hLT11
  have hu := c_clA (V := [(3, 0)]) hu (by decide)
  have hcn5 := c_clA (V := [(3, 0)]) hcn5 (by decide)
  have hcn16 := c_clA (V := [(3, 0)]) hcn16 (by decide)
  have hcn27 := c_clA (V := [(3, 0)]) hcn27 (by decide)
  have hcn41 := c_clA (V := [(3, 0)]) hcn41 (by decide)
  have hcn48 := c_clA (V := [(3, 0)]) hcn48 (by decide)
  have hcn55 := c_clA (V := [(3, 0)]) hcn55 (by decide)
  have hcn60 := c_clA (V := [(3, 0)]) hcn60 (by decide)
  generalize hT12 : T11 ++ [(3, 0)] = T12 at hp hu hcn5 hcn16 hcn27 hcn41 hcn48 hcn55 hcn60 hcn70 ⊢
  have hLT12 : T12.length = U.length + 27 := by rw [← hT12]; simp +arith only [List.length_append, List.length_cons, List.length_nil, hLT11]
  refine a_dup C dc_Un_init_73 rfl ?_
  refine c_call (rest := [.ref (oa70 (U.length + 26)), .int 1, .ref (oa70 (U.length + 20)), .ref (oa70 (U.length + 20)), .ref (oa70 u)]) (av := .ref (oa70 (U.length + 26)) :: []) C dc_Un_init_74 (ct_Co_init (U.length + 26) (c_pr S64 (U.length + 20) (0 : Int32).toNatClampNeg (U.length + 21)) hcn70 hp) cd_C_Co_init i_Co (Nat.le_of_ble_eq_true rfl) (by rw [hR]; exact Nat.le_of_ble_eq_true rfl) (by rw [hR]; exact Nat.le_of_ble_eq_true rfl) (by rw [hR]; exact Nat.le_of_ble_eq_true rfl) (by rw [hR]; exact Nat.le_of_ble_eq_true rfl) (inv_IN C dc_Un_init_74 l_Un_42 rfl im_C_Co_init cd_C_Co_init ⟨by decide, by decide⟩ ln_C_Co_init rfl) (fun oc L1 hL => ?_)
  obtain ⟨oa74, S74, hp, hb74, rfl, rfl⟩ := hL
  refine ⟨_, rfl, ?_⟩
  have hL74 : T12.length = U.length + 27 := hLT12
  have hag : ∀ v, v < U.length → oa74 v = oa v := fun v hv => (hb74 v (by rw [hL74]; exact (Nat.lt_of_lt_of_le hv (Nat.le_add_right _ _)))).trans (hag v hv)
  refine aw_eq (lo' := [some (.ref (oa70 u))]) (st' := [.ref (oa70 (U.length + 26)), .int 1, .ref (oa70 (U.length + 20)), .ref (oa70 (U.length + 20)), .ref (oa70 u)]) (L' := (cw lt_C (T12 ++ [(902, 17), (902, 17), (902, 17), (902, 256)]) oa74 S74)) rfl rfl rfl ?_
  have hz19 : oa74 u = oa70 u := (hb74 u (by rw [hL74]; exact (Nat.lt_of_lt_of_le hlt0 (Nat.le_add_right _ _))))
  rw [← hz19]
  have hz20 : oa74 (U.length + 20) = oa70 (U.length + 20) := (hb74 (U.length + 20) (by rw [hL74]; exact (Nat.add_lt_add_left (by decide) _)))
  rw [← hz20]
  have hz21 : oa74 (U.length + 26) = oa70 (U.length + 26) := (hb74 (U.length + 26) (by rw [hL74]; exact (Nat.add_lt_add_left (by decide) _)))
  rw [← hz21]
  have hu := c_clA (V := [(902, 17), (902, 17), (902, 17), (902, 256)]) hu (by decide)
  have hcn5 := c_clA (V := [(902, 17), (902, 17), (902, 17), (902, 256)]) hcn5 (by decide)
  have hcn16 := c_clA (V := [(902, 17), (902, 17), (902, 17), (902, 256)]) hcn16 (by decide)
  have hcn27 := c_clA (V := [(902, 17), (902, 17), (902, 17), (902, 256)]) hcn27 (by decide)
  have hcn41 := c_clA (V := [(902, 17), (902, 17), (902, 17), (902, 256)]) hcn41 (by decide)
  have hcn48 := c_clA (V := [(902, 17), (902, 17), (902, 17), (902, 256)]) hcn48 (by decide)
  have hcn55 := c_clA (V := [(902, 17), (902, 17), (902, 17), (902, 256)]) hcn55 (by decide)
  have hcn60 := c_clA (V := [(902, 17), (902, 17), (902, 17), (902, 256)]) hcn60 (by decide)
  have hcn70 := c_clA (V := [(902, 17), (902, 17), (902, 17), (902, 256)]) hcn70 (by decide)
  generalize hT13 : T12 ++ [(902, 17), (902, 17), (902, 17), (902, 256)] = T13 at hp hu hcn5 hcn16 hcn27 hcn41 hcn48 hcn55 hcn60 hcn70 ⊢
  have hLT13 : T13.length = U.length + 31 := by rw [← hT13]; simp +arith only [List.length_append, List.length_cons, List.length_nil, hLT12]
  refine c_aast (ci := 951) (ce := 3) C (U.length + 20) (U.length + 26) 1 dc_Un_init_77 hcn55 rfl (by decide) rfl hcn70 rfl rfl hp.1 hp.2.1 ?_
  have hp := hp.2.2
  refine a_dup C dc_Un_init_78 rfl ?_
  refine a_iconst (v := 2) C dc_Un_init_79 (by decide) ?_
  refine c_new (ci := 3) (n := U.length + 31) C y_Co g_ty_Co dc_Un_init_80 rfl rfl x_Un_40 nn_Co i_Co df_Co (by decide) hLT13 hp.1 (by rw [hR]; exact Nat.le_of_ble_eq_true rfl) (by rw [hR]; exact Nat.le_of_ble_eq_true rfl) (fun q80 => ?_)
  have hp := hp.2
  generalize hoa80 : va_up oa74 (U.length + 31) q80 = oa80
  have hq80 : oa80 (U.length + 31) = q80 := by rw [← hoa80]; exact up_at
  have hag : ∀ v, v < U.length → oa80 v = oa v := fun v hv => (show oa80 v = oa74 v by rw [← hoa80]; exact up_ne (Nat.ne_of_lt (Nat.lt_of_lt_of_le hv (Nat.le_add_right _ _)))).trans (hag v hv)
  rw [← hq80]
  have hz22 : oa80 u = oa74 u := (by rw [← hoa80]; exact up_ne (Nat.ne_of_lt (Nat.lt_of_lt_of_le hlt0 (Nat.le_add_right _ _))))
  rw [← hz22]
  have hz23 : oa80 (U.length + 20) = oa74 (U.length + 20) := (by rw [← hoa80]; exact up_ne (Nat.ne_of_lt (Nat.add_lt_add_left (by decide) _)))
  rw [← hz23]
  have hcn80 := c_clN (c := (3, 0)) (U := T13) (n := U.length + 31) hLT13
  have hu := c_clA (V := [(3, 0)]) hu (by decide)
  have hcn5 := c_clA (V := [(3, 0)]) hcn5 (by decide)
  have hcn16 := c_clA (V := [(3, 0)]) hcn16 (by decide)
  have hcn27 := c_clA (V := [(3, 0)]) hcn27 (by decide)
  have hcn41 := c_clA (V := [(3, 0)]) hcn41 (by decide)
  have hcn48 := c_clA (V := [(3, 0)]) hcn48 (by decide)
  have hcn55 := c_clA (V := [(3, 0)]) hcn55 (by decide)
  have hcn60 := c_clA (V := [(3, 0)]) hcn60 (by decide)
  have hcn70 := c_clA (V := [(3, 0)]) hcn70 (by decide)
  generalize hT14 : T13 ++ [(3, 0)] = T14 at hp hu hcn5 hcn16 hcn27 hcn41 hcn48 hcn55 hcn60 hcn70 hcn80 ⊢
  have hLT14 : T14.length = U.length + 32 := by rw [← hT14]; simp +arith only [List.length_append, List.length_cons, List.length_nil, hLT13]
  refine a_dup C dc_Un_init_83 rfl ?_
  refine c_call (rest := [.ref (oa80 (U.length + 31)), .int 2, .ref (oa80 (U.length + 20)), .ref (oa80 (U.length + 20)), .ref (oa80 u)]) (av := .ref (oa80 (U.length + 31)) :: []) C dc_Un_init_84 (ct_Co_init (U.length + 31) (c_pr S74 (U.length + 20) (1 : Int32).toNatClampNeg (U.length + 26)) hcn80 hp) cd_C_Co_init i_Co (Nat.le_of_ble_eq_true rfl) (by rw [hR]; exact Nat.le_of_ble_eq_true rfl) (by rw [hR]; exact Nat.le_of_ble_eq_true rfl) (by rw [hR]; exact Nat.le_of_ble_eq_true rfl) (by rw [hR]; exact Nat.le_of_ble_eq_true rfl) (inv_IN C dc_Un_init_84 l_Un_42 rfl im_C_Co_init cd_C_Co_init ⟨by decide, by decide⟩ ln_C_Co_init rfl) (fun oc L1 hL => ?_)
  obtain ⟨oa84, S84, hp, hb84, rfl, rfl⟩ := hL
  refine ⟨_, rfl, ?_⟩
  have hL84 : T14.length = U.length + 32 := hLT14
  have hag : ∀ v, v < U.length → oa84 v = oa v := fun v hv => (hb84 v (by rw [hL84]; exact (Nat.lt_of_lt_of_le hv (Nat.le_add_right _ _)))).trans (hag v hv)
  refine aw_eq (lo' := [some (.ref (oa80 u))]) (st' := [.ref (oa80 (U.length + 31)), .int 2, .ref (oa80 (U.length + 20)), .ref (oa80 (U.length + 20)), .ref (oa80 u)]) (L' := (cw lt_C (T14 ++ [(902, 17), (902, 17), (902, 17), (902, 256)]) oa84 S84)) rfl rfl rfl ?_
  have hz24 : oa84 u = oa80 u := (hb84 u (by rw [hL84]; exact (Nat.lt_of_lt_of_le hlt0 (Nat.le_add_right _ _))))
  rw [← hz24]
  have hz25 : oa84 (U.length + 20) = oa80 (U.length + 20) := (hb84 (U.length + 20) (by rw [hL84]; exact (Nat.add_lt_add_left (by decide) _)))
  rw [← hz25]
  have hz26 : oa84 (U.length + 31) = oa80 (U.length + 31) := (hb84 (U.length + 31) (by rw [hL84]; exact (Nat.add_lt_add_left (by decide) _)))
  rw [← hz26]
  have hu := c_clA (V := [(902, 17), (902, 17), (902, 17), (902, 256)]) hu (by decide)
  have hcn5 := c_clA (V := [(902, 17), (902, 17), (902, 17), (902, 256)]) hcn5 (by decide)
  have hcn16 := c_clA (V := [(902, 17), (902, 17), (902, 17), (902, 256)]) hcn16 (by decide)
  have hcn27 := c_clA (V := [(902, 17), (902, 17), (902, 17), (902, 256)]) hcn27 (by decide)
  have hcn41 := c_clA (V := [(902, 17), (902, 17), (902, 17), (902, 256)]) hcn41 (by decide)
  have hcn48 := c_clA (V := [(902, 17), (902, 17), (902, 17), (902, 256)]) hcn48 (by decide)
  have hcn55 := c_clA (V := [(902, 17), (902, 17), (902, 17), (902, 256)]) hcn55 (by decide)
  have hcn60 := c_clA (V := [(902, 17), (902, 17), (902, 17), (902, 256)]) hcn60 (by decide)
  have hcn70 := c_clA (V := [(902, 17), (902, 17), (902, 17), (902, 256)]) hcn70 (by decide)
  have hcn80 := c_clA (V := [(902, 17), (902, 17), (902, 17), (902, 256)]) hcn80 (by decide)
  generalize hT15 : T14 ++ [(902, 17), (902, 17), (902, 17), (902, 256)] = T15 at hp hu hcn5 hcn16 hcn27 hcn41 hcn48 hcn55 hcn60 hcn70 hcn80 ⊢
  have hLT15 : T15.length = U.length + 36 := by rw [← hT15]; simp +arith only [List.length_append, List.length_cons, List.length_nil, hLT14]
  refine c_aast (ci := 951) (ce := 3) C (U.length + 20) (U.length + 31) 1 dc_Un_init_87 hcn55 rfl (by decide) rfl hcn80 rfl rfl hp.1 hp.2.1 ?_
  have hp := hp.2.2
  refine a_dup C dc_Un_init_88 rfl ?_
  refine a_iconst (v := 3) C dc_Un_init_89 (by decide) ?_
  refine c_new (ci := 3) (n := U.length + 36) C y_Co g_ty_Co dc_Un_init_90 rfl rfl x_Un_40 nn_Co i_Co df_Co (by decide) hLT15 hp.1 (by rw [hR]; exact Nat.le_of_ble_eq_true rfl) (by rw [hR]; exact Nat.le_of_ble_eq_true rfl) (fun q90 => ?_)
  have hp := hp.2
  generalize hoa90 : va_up oa84 (U.length + 36) q90 = oa90
  have hq90 : oa90 (U.length + 36) = q90 := by rw [← hoa90]; exact up_at
  have hag : ∀ v, v < U.length → oa90 v = oa v := fun v hv => (show oa90 v = oa84 v by rw [← hoa90]; exact up_ne (Nat.ne_of_lt (Nat.lt_of_lt_of_le hv (Nat.le_add_right _ _)))).trans (hag v hv)
  rw [← hq90]
  have hz27 : oa90 u = oa84 u := (by rw [← hoa90]; exact up_ne (Nat.ne_of_lt (Nat.lt_of_lt_of_le hlt0 (Nat.le_add_right _ _))))
  rw [← hz27]
  have hz28 : oa90 (U.length + 20) = oa84 (U.length + 20) := (by rw [← hoa90]; exact up_ne (Nat.ne_of_lt (Nat.add_lt_add_left (by decide) _)))
  rw [← hz28]
  have hcn90 := c_clN (c := (3, 0)) (U := T15) (n := U.length + 36) hLT15
  have hu := c_clA (V := [(3, 0)]) hu (by decide)
  have hcn5 := c_clA (V := [(3, 0)]) hcn5 (by decide)
  have hcn16 := c_clA (V := [(3, 0)]) hcn16 (by decide)
  have hcn27 := c_clA (V := [(3, 0)]) hcn27 (by decide)
  have hcn41 := c_clA (V := [(3, 0)]) hcn41 (by decide)
  have hcn48 := c_clA (V := [(3, 0)]) hcn48 (by decide)
  have hcn55 := c_clA (V := [(3, 0)]) hcn55 (by decide)
  have hcn60 := c_clA (V := [(3, 0)]) hcn60 (by decide)
  have hcn70 := c_clA (V := [(3, 0)]) hcn70 (by decide)
  have hcn80 := c_clA (V := [(3, 0)]) hcn80 (by decide)
  generalize hT16 : T15 ++ [(3, 0)] = T16 at hp hu hcn5 hcn16 hcn27 hcn41 hcn48 hcn55 hcn60 hcn70 hcn80 hcn90 ⊢
  have hLT16 : T16.length = U.length + 37 := by rw [← hT16]; simp +arith only [List.length_append, List.length_cons, List.length_nil, hLT15]
  refine a_dup C dc_Un_init_93 rfl ?_
  refine c_call (rest := [.ref (oa90 (U.length + 36)), .int 3, .ref (oa90 (U.length + 20)), .ref (oa90 (U.length + 20)), .ref (oa90 u)]) (av := .ref (oa90 (U.length + 36)) :: []) C dc_Un_init_94 (ct_Co_init (U.length + 36) (c_pr S84 (U.length + 20) (2 : Int32).toNatClampNeg (U.length + 31)) hcn90 hp) cd_C_Co_init i_Co (Nat.le_of_ble_eq_true rfl) (by rw [hR]; exact Nat.le_of_ble_eq_true rfl) (by rw [hR]; exact Nat.le_of_ble_eq_true rfl) (by rw [hR]; exact Nat.le_of_ble_eq_true rfl) (by rw [hR]; exact Nat.le_of_ble_eq_true rfl) (inv_IN C dc_Un_init_94 l_Un_42 rfl im_C_Co_init cd_C_Co_init ⟨by decide, by decide⟩ ln_C_Co_init rfl) (fun oc L1 hL => ?_)
  obtain ⟨oa94, S94, hp, hb94, rfl, rfl⟩ := hL
  refine ⟨_, rfl, ?_⟩
  have hL94 : T16.length = U.length + 37 := hLT16
  have hag : ∀ v, v < U.length → oa94 v = oa v := fun v hv => (hb94 v (by rw [hL94]; exact (Nat.lt_of_lt_of_le hv (Nat.le_add_right _ _)))).trans (hag v hv)
  refine aw_eq (lo' := [some (.ref (oa90 u))]) (st' := [.ref (oa90 (U.length + 36)), .int 3, .ref (oa90 (U.length + 20)), .ref (oa90 (U.length + 20)), .ref (oa90 u)]) (L' := (cw lt_C (T16 ++ [(902, 17), (902, 17), (902, 17), (902, 256)]) oa94 S94)) rfl rfl rfl ?_
  have hz29 : oa94 u = oa90 u := (hb94 u (by rw [hL94]; exact (Nat.lt_of_lt_of_le hlt0 (Nat.le_add_right _ _))))
  rw [← hz29]
  have hz30 : oa94 (U.length + 20) = oa90 (U.length + 20) := (hb94 (U.length + 20) (by rw [hL94]; exact (Nat.add_lt_add_left (by decide) _)))
  rw [← hz30]
  have hz31 : oa94 (U.length + 36) = oa90 (U.length + 36) := (hb94 (U.length + 36) (by rw [hL94]; exact (Nat.add_lt_add_left (by decide) _)))
  rw [← hz31]
  have hu := c_clA (V := [(902, 17), (902, 17), (902, 17), (902, 256)]) hu (by decide)
  have hcn5 := c_clA (V := [(902, 17), (902, 17), (902, 17), (902, 256)]) hcn5 (by decide)
  have hcn16 := c_clA (V := [(902, 17), (902, 17), (902, 17), (902, 256)]) hcn16 (by decide)
  have hcn27 := c_clA (V := [(902, 17), (902, 17), (902, 17), (902, 256)]) hcn27 (by decide)
  have hcn41 := c_clA (V := [(902, 17), (902, 17), (902, 17), (902, 256)]) hcn41 (by decide)
  have hcn48 := c_clA (V := [(902, 17), (902, 17), (902, 17), (902, 256)]) hcn48 (by decide)
  have hcn55 := c_clA (V := [(902, 17), (902, 17), (902, 17), (902, 256)]) hcn55 (by decide)
  have hcn60 := c_clA (V := [(902, 17), (902, 17), (902, 17), (902, 256)]) hcn60 (by decide)
  have hcn70 := c_clA (V := [(902, 17), (902, 17), (902, 17), (902, 256)]) hcn70 (by decide)
  have hcn80 := c_clA (V := [(902, 17), (902, 17), (902, 17), (902, 256)]) hcn80 (by decide)
  have hcn90 := c_clA (V := [(902, 17), (902, 17), (902, 17), (902, 256)]) hcn90 (by decide)
  generalize hT17 : T16 ++ [(902, 17), (902, 17), (902, 17), (902, 256)] = T17 at hp hu hcn5 hcn16 hcn27 hcn41 hcn48 hcn55 hcn60 hcn70 hcn80 hcn90 ⊢
  have hLT17 : T17.length = U.length + 41 := by rw [← hT17]; simp +arith only [List.length_append, List.length_cons, List.length_nil, hLT16]
  refine c_aast (ci := 951) (ce := 3) C (U.length + 20) (U.length + 36) 1 dc_Un_init_97 hcn55 rfl (by decide) rfl hcn90 rfl rfl hp.1 hp.2.1 ?_
  have hp := hp.2.2
  refine c_putRF (ty := .array (.object "BlockPicture$Codes")) C u 5 hin dc_Un_init_98 hu rfl rfl (Nat.le_of_ble_eq_true rfl) f_Un_43 rfl rfl rfl (fun _ => rfl) (fun _ => rfl) rfl rfl hp.1 ?_
  have hp := hp.2
  refine a_aload_n C dc_Un_init_101 rfl rfl ?_
  refine a_iconst (v := 3) C dc_Un_init_102 (by decide) ?_
  refine c_newa (ty := .int) (N := 3) (n := U.length + 41) C 2 dc_Un_init_103 ac_int rfl (C.kn.2 0 _ rfl).2 (fun _ => rfl) (by decide) (by decide) (by decide) (by decide) hLT17 hp.1 (by rw [hR]; exact Nat.le_of_ble_eq_true rfl) (by rw [hR]; exact Nat.le_of_ble_eq_true rfl) (fun q103 => ?_)
  have hp := hp.2
  generalize hoa103 : va_up oa94 (U.length + 41) q103 = oa103
  have hq103 : oa103 (U.length + 41) = q103 := by rw [← hoa103]; exact up_at
  have hag : ∀ v, v < U.length → oa103 v = oa v := fun v hv => (show oa103 v = oa94 v by rw [← hoa103]; exact up_ne (Nat.ne_of_lt (Nat.lt_of_lt_of_le hv (Nat.le_add_right _ _)))).trans (hag v hv)
  rw [← hq103]
  have hz32 : oa103 u = oa94 u := (by rw [← hoa103]; exact up_ne (Nat.ne_of_lt (Nat.lt_of_lt_of_le hlt0 (Nat.le_add_right _ _))))
  rw [← hz32]
  have hcn103 := c_clN (c := (902, 3)) (U := T17) (n := U.length + 41) hLT17
  have hu := c_clA (V := [(902, 3)]) hu (by decide)
  have hcn5 := c_clA (V := [(902, 3)]) hcn5 (by decide)
  have hcn16 := c_clA (V := [(902, 3)]) hcn16 (by decide)
  have hcn27 := c_clA (V := [(902, 3)]) hcn27 (by decide)
  have hcn41 := c_clA (V := [(902, 3)]) hcn41 (by decide)
  have hcn48 := c_clA (V := [(902, 3)]) hcn48 (by decide)
  have hcn55 := c_clA (V := [(902, 3)]) hcn55 (by decide)
  have hcn60 := c_clA (V := [(902, 3)]) hcn60 (by decide)
  have hcn70 := c_clA (V := [(902, 3)]) hcn70 (by decide)
  have hcn80 := c_clA (V := [(902, 3)]) hcn80 (by decide)
  have hcn90 := c_clA (V := [(902, 3)]) hcn90 (by decide)
  generalize hT18 : T17 ++ [(902, 3)] = T18 at hp hu hcn5 hcn16 hcn27 hcn41 hcn48 hcn55 hcn60 hcn70 hcn80 hcn90 hcn103 ⊢
  have hLT18 : T18.length = U.length + 42 := by rw [← hT18]; simp +arith only [List.length_append, List.length_cons, List.length_nil, hLT17]
  refine c_putRF (ty := .array .int) C u 7 hin dc_Un_init_105 hu rfl rfl (Nat.le_of_ble_eq_true rfl) f_Un_47 rfl rfl rfl (fun _ => rfl) (fun _ => rfl) rfl rfl hp.1 ?_
  have hp := hp.2
  refine a_aload_n C dc_Un_init_108 rfl rfl ?_
  refine a_iconst (v := 3) C dc_Un_init_109 (by decide) ?_
  refine c_newa (ty := .int) (N := 3) (n := U.length + 42) C 2 dc_Un_init_110 ac_int rfl (C.kn.2 0 _ rfl).2 (fun _ => rfl) (by decide) (by decide) (by decide) (by decide) hLT18 hp.1 (by rw [hR]; exact Nat.le_of_ble_eq_true rfl) (by rw [hR]; exact Nat.le_of_ble_eq_true rfl) (fun q110 => ?_)
  have hp := hp.2
  generalize hoa110 : va_up oa103 (U.length + 42) q110 = oa110
  have hq110 : oa110 (U.length + 42) = q110 := by rw [← hoa110]; exact up_at
  have hag : ∀ v, v < U.length → oa110 v = oa v := fun v hv => (show oa110 v = oa103 v by rw [← hoa110]; exact up_ne (Nat.ne_of_lt (Nat.lt_of_lt_of_le hv (Nat.le_add_right _ _)))).trans (hag v hv)
  rw [← hq110]
  have hz33 : oa110 u = oa103 u := (by rw [← hoa110]; exact up_ne (Nat.ne_of_lt (Nat.lt_of_lt_of_le hlt0 (Nat.le_add_right _ _))))
  rw [← hz33]
  have hcn110 := c_clN (c := (902, 3)) (U := T18) (n := U.length + 42) hLT18
  have hu := c_clA (V := [(902, 3)]) hu (by decide)
  have hcn5 := c_clA (V := [(902, 3)]) hcn5 (by decide)
  have hcn16 := c_clA (V := [(902, 3)]) hcn16 (by decide)
  have hcn27 := c_clA (V := [(902, 3)]) hcn27 (by decide)
  have hcn41 := c_clA (V := [(902, 3)]) hcn41 (by decide)
  have hcn48 := c_clA (V := [(902, 3)]) hcn48 (by decide)
  have hcn55 := c_clA (V := [(902, 3)]) hcn55 (by decide)
  have hcn60 := c_clA (V := [(902, 3)]) hcn60 (by decide)
  have hcn70 := c_clA (V := [(902, 3)]) hcn70 (by decide)
  have hcn80 := c_clA (V := [(902, 3)]) hcn80 (by decide)
  have hcn90 := c_clA (V := [(902, 3)]) hcn90 (by decide)
  have hcn103 := c_clA (V := [(902, 3)]) hcn103 (by decide)
  generalize hT19 : T18 ++ [(902, 3)] = T19 at hp hu hcn5 hcn16 hcn27 hcn41 hcn48 hcn55 hcn60 hcn70 hcn80 hcn90 hcn103 hcn110 ⊢
  have hLT19 : T19.length = U.length + 43 := by rw [← hT19]; simp +arith only [List.length_append, List.length_cons, List.length_nil, hLT18]
  refine c_putRF (ty := .array .int) C u 8 hin dc_Un_init_112 hu rfl rfl (Nat.le_of_ble_eq_true rfl) f_Un_50 rfl rfl rfl (fun _ => rfl) (fun _ => rfl) rfl rfl hp.1 ?_
  have hp := hp.2
  refine a_aload_n C dc_Un_init_115 rfl rfl ?_
  refine a_iconst (v := 3) C dc_Un_init_116 (by decide) ?_
  refine c_newa (ty := .boolean) (N := 3) (n := U.length + 43) C 3 dc_Un_init_117 ac_boolean rfl (C.kn.2 1 _ rfl).2 (fun _ => rfl) (by decide) (by decide) (by decide) (by decide) hLT19 hp.1 (by rw [hR]; exact Nat.le_of_ble_eq_true rfl) (by rw [hR]; exact Nat.le_of_ble_eq_true rfl) (fun q117 => ?_)
  have hp := hp.2
  generalize hoa117 : va_up oa110 (U.length + 43) q117 = oa117
  have hq117 : oa117 (U.length + 43) = q117 := by rw [← hoa117]; exact up_at
  have hag : ∀ v, v < U.length → oa117 v = oa v := fun v hv => (show oa117 v = oa110 v by rw [← hoa117]; exact up_ne (Nat.ne_of_lt (Nat.lt_of_lt_of_le hv (Nat.le_add_right _ _)))).trans (hag v hv)
  rw [← hq117]
  have hz34 : oa117 u = oa110 u := (by rw [← hoa117]; exact up_ne (Nat.ne_of_lt (Nat.lt_of_lt_of_le hlt0 (Nat.le_add_right _ _))))
  rw [← hz34]
  have hcn117 := c_clN (c := (903, 3)) (U := T19) (n := U.length + 43) hLT19
  have hu := c_clA (V := [(903, 3)]) hu (by decide)
  have hcn5 := c_clA (V := [(903, 3)]) hcn5 (by decide)
  have hcn16 := c_clA (V := [(903, 3)]) hcn16 (by decide)
  have hcn27 := c_clA (V := [(903, 3)]) hcn27 (by decide)
  have hcn41 := c_clA (V := [(903, 3)]) hcn41 (by decide)
  have hcn48 := c_clA (V := [(903, 3)]) hcn48 (by decide)
  have hcn55 := c_clA (V := [(903, 3)]) hcn55 (by decide)
  have hcn60 := c_clA (V := [(903, 3)]) hcn60 (by decide)
  have hcn70 := c_clA (V := [(903, 3)]) hcn70 (by decide)
  have hcn80 := c_clA (V := [(903, 3)]) hcn80 (by decide)
  have hcn90 := c_clA (V := [(903, 3)]) hcn90 (by decide)
  have hcn103 := c_clA (V := [(903, 3)]) hcn103 (by decide)
  have hcn110 := c_clA (V := [(903, 3)]) hcn110 (by decide)
  generalize hT20 : T19 ++ [(903, 3)] = T20 at hp hu hcn5 hcn16 hcn27 hcn41 hcn48 hcn55 hcn60 hcn70 hcn80 hcn90 hcn103 hcn110 hcn117 ⊢
  have hLT20 : T20.length = U.length + 44 := by rw [← hT20]; simp +arith only [List.length_append, List.length_cons, List.length_nil, hLT19]
  refine c_putRF (ty := .array .boolean) C u 9 hin dc_Un_init_119 hu rfl rfl (Nat.le_of_ble_eq_true rfl) f_Un_53 rfl rfl rfl (fun _ => rfl) (fun _ => rfl) rfl rfl hp.1 ?_
  have hp := hp.2
  refine a_aload_n C dc_Un_init_122 rfl rfl ?_
  refine a_iconst (v := 3) C dc_Un_init_123 (by decide) ?_
  refine c_newa (ty := .int) (N := 3) (n := U.length + 44) C 2 dc_Un_init_124 ac_int rfl (C.kn.2 0 _ rfl).2 (fun _ => rfl) (by decide) (by decide) (by decide) (by decide) hLT20 hp.1 (by rw [hR]; exact Nat.le_of_ble_eq_true rfl) (by rw [hR]; exact Nat.le_of_ble_eq_true rfl) (fun q124 => ?_)
  have hp := hp.2
  generalize hoa124 : va_up oa117 (U.length + 44) q124 = oa124
  have hq124 : oa124 (U.length + 44) = q124 := by rw [← hoa124]; exact up_at
  have hag : ∀ v, v < U.length → oa124 v = oa v := fun v hv => (show oa124 v = oa117 v by rw [← hoa124]; exact up_ne (Nat.ne_of_lt (Nat.lt_of_lt_of_le hv (Nat.le_add_right _ _)))).trans (hag v hv)
  rw [← hq124]
  have hz35 : oa124 u = oa117 u := (by rw [← hoa124]; exact up_ne (Nat.ne_of_lt (Nat.lt_of_lt_of_le hlt0 (Nat.le_add_right _ _))))
  rw [← hz35]
  have hcn124 := c_clN (c := (902, 3)) (U := T20) (n := U.length + 44) hLT20
  have hu := c_clA (V := [(902, 3)]) hu (by decide)
  have hcn5 := c_clA (V := [(902, 3)]) hcn5 (by decide)
  have hcn16 := c_clA (V := [(902, 3)]) hcn16 (by decide)
  have hcn27 := c_clA (V := [(902, 3)]) hcn27 (by decide)
  have hcn41 := c_clA (V := [(902, 3)]) hcn41 (by decide)
  have hcn48 := c_clA (V := [(902, 3)]) hcn48 (by decide)
  have hcn55 := c_clA (V := [(902, 3)]) hcn55 (by decide)
  have hcn60 := c_clA (V := [(902, 3)]) hcn60 (by decide)
  have hcn70 := c_clA (V := [(902, 3)]) hcn70 (by decide)
  have hcn80 := c_clA (V := [(902, 3)]) hcn80 (by decide)
  have hcn90 := c_clA (V := [(902, 3)]) hcn90 (by decide)
  have hcn103 := c_clA (V := [(902, 3)]) hcn103 (by decide)
  have hcn110 := c_clA (V := [(902, 3)]) hcn110 (by decide)
  have hcn117 := c_clA (V := [(902, 3)]) hcn117 (by decide)
  generalize hT21 : T20 ++ [(902, 3)] = T21 at hp hu hcn5 hcn16 hcn27 hcn41 hcn48 hcn55 hcn60 hcn70 hcn80 hcn90 hcn103 hcn110 hcn117 hcn124 ⊢
  have hLT21 : T21.length = U.length + 45 := by rw [← hT21]; simp +arith only [List.length_append, List.length_cons, List.length_nil, hLT20]
  refine c_putRF (ty := .array .int) C u 10 hin dc_Un_init_126 hu rfl rfl (Nat.le_of_ble_eq_true rfl) f_Un_56 rfl rfl rfl (fun _ => rfl) (fun _ => rfl) rfl rfl hp.1 ?_
  have hp := hp.2
  refine aw_widen (nc' := 45) (ns' := 59319) (Nat.le_of_ble_eq_true rfl) (Nat.le_of_ble_eq_true rfl) ?_
  refine aw_eq (lo' := _) (st' := _) (L' := (cw lt_C (U ++ ext_Un_init) oa124 (c_pr (c_pr (c_pr (c_pr (c_pr (c_pr S94 (U.length + 20) (3 : Int32).toNatClampNeg (U.length + 36)) u 5 (U.length + 20)) u 7 (U.length + 41)) u 8 (U.length + 42)) u 9 (U.length + 43)) u 10 (U.length + 44)))) rfl rfl (by rw [← hT21, ← hT20, ← hT19, ← hT18, ← hT17, ← hT16, ← hT15, ← hT14, ← hT13, ← hT12, ← hT11, ← hT10, ← hT9, ← hT8, ← hT7, ← hT6, ← hT5, ← hT4, ← hT3, ← hT2, ← hT1]; simp only [ext_Un_init, List.append_assoc, List.cons_append, List.nil_append, List.append_nil]) ?_
  exact a_vret C hQ hA dc_Un_init_129 rfl ⟨oa124, (c_pr (c_pr (c_pr (c_pr (c_pr (c_pr S94 (U.length + 20) (3 : Int32).toNatClampNeg (U.length + 36)) u 5 (U.length + 20)) u 7 (U.length + 41)) u 8 (U.length + 42)) u 9 (U.length + 43)) u 10 (U.length + 44)), hp, hag, rfl, rfl⟩
end I_Un_init
