def ext_Pa_init : ut := [(9, 0), (902, 65536), (12, 0), (902, 64), (902, 64), (902, 64), (904, 64), (7, 0), (902, 3), (902, 3), (902, 3), (902, 3), (902, 3), (902, 3), (902, 12288), (902, 192), (902, 12288), (10, 0), (902, 3), (902, 3), (902, 3), (902, 192), (4, 0), (902, 257), (903, 8224), (902, 514), (902, 514), (950, 2), (5, 0), (902, 257), (902, 257), (902, 256), (902, 256), (902, 17), (5, 0), (902, 257), (902, 257), (902, 256), (902, 256), (902, 17), (950, 2), (5, 0), (902, 257), (902, 257), (902, 256), (902, 256), (902, 17), (5, 0), (902, 257), (902, 257), (902, 256), (902, 256), (902, 17), (902, 3)]
def p_Pa_init (U : ut) (u : Nat) (S : cs) (K : cs → Prop) : Prop :=
  fresh S U.length ∧ (p_Ro_init (U ++ [(9, 0)]) U.length 65536 S 65536 (fun S11 => ¬ U.length = NU ∧ (fresh (c_pr S11 u 0 U.length) (U.length + 2) ∧ (p_Wa_init (((U ++ [(9, 0)]) ++ [(902, 65536)]) ++ [(12, 0)]) (U.length + 2) (c_pr S11 u 0 U.length) (fun S22 => ¬ (U.length + 2) = NU ∧ (fresh (c_pr S22 u 1 (U.length + 2)) (U.length + 7) ∧ (p_Pi_init (((((U ++ [(9, 0)]) ++ [(902, 65536)]) ++ [(12, 0)]) ++ [(902, 64), (902, 64), (902, 64), (904, 64)]) ++ [(7, 0)]) (U.length + 7) (c_pr S22 u 1 (U.length + 2)) (fun S33 => ¬ (U.length + 7) = NU ∧ (fresh (c_pr S33 u 2 (U.length + 7)) (U.length + 17) ∧ (p_Sc_init (((((((U ++ [(9, 0)]) ++ [(902, 65536)]) ++ [(12, 0)]) ++ [(902, 64), (902, 64), (902, 64), (904, 64)]) ++ [(7, 0)]) ++ [(902, 3), (902, 3), (902, 3), (902, 3), (902, 3), (902, 3), (902, 12288), (902, 192), (902, 12288)]) ++ [(10, 0)]) (U.length + 17) (c_pr S33 u 2 (U.length + 7)) (fun S44 => ¬ (U.length + 17) = NU ∧ (fresh (c_pr S44 u 3 (U.length + 17)) (U.length + 22) ∧ (p_Li_init (((((((((U ++ [(9, 0)]) ++ [(902, 65536)]) ++ [(12, 0)]) ++ [(902, 64), (902, 64), (902, 64), (904, 64)]) ++ [(7, 0)]) ++ [(902, 3), (902, 3), (902, 3), (902, 3), (902, 3), (902, 3), (902, 12288), (902, 192), (902, 12288)]) ++ [(10, 0)]) ++ [(902, 3), (902, 3), (902, 3), (902, 192)]) ++ [(4, 0)]) (U.length + 22) (c_pr S44 u 3 (U.length + 17)) (fun S55 => ¬ (U.length + 22) = NU ∧ (fresh (c_pr S55 u 4 (U.length + 22)) (U.length + 27) ∧ (fresh (c_pr S55 u 4 (U.length + 22)) (U.length + 28) ∧ (p_Oc_init ((((((((((((U ++ [(9, 0)]) ++ [(902, 65536)]) ++ [(12, 0)]) ++ [(902, 64), (902, 64), (902, 64), (904, 64)]) ++ [(7, 0)]) ++ [(902, 3), (902, 3), (902, 3), (902, 3), (902, 3), (902, 3), (902, 12288), (902, 192), (902, 12288)]) ++ [(10, 0)]) ++ [(902, 3), (902, 3), (902, 3), (902, 192)]) ++ [(4, 0)]) ++ [(902, 257), (903, 8224), (902, 514), (902, 514)]) ++ [(950, 2)]) ++ [(5, 0)]) (U.length + 28) (c_pr S55 u 4 (U.length + 22)) (fun S72 => vp_in 0 (c_ln (((((((((((((U ++ [(9, 0)]) ++ [(902, 65536)]) ++ [(12, 0)]) ++ [(902, 64), (902, 64), (902, 64), (904, 64)]) ++ [(7, 0)]) ++ [(902, 3), (902, 3), (902, 3), (902, 3), (902, 3), (902, 3), (902, 12288), (902, 192), (902, 12288)]) ++ [(10, 0)]) ++ [(902, 3), (902, 3), (902, 3), (902, 192)]) ++ [(4, 0)]) ++ [(902, 257), (903, 8224), (902, 514), (902, 514)]) ++ [(950, 2)]) ++ [(5, 0)]) ++ [(902, 257), (902, 257), (902, 256), (902, 256), (902, 17)]) (U.length + 27)) ∧ ¬ (U.length + 28) = NU ∧ (fresh (c_pr S72 (U.length + 27) (0 : Int32).toNatClampNeg (U.length + 28)) (U.length + 34) ∧ (p_Oc_init ((((((((((((((U ++ [(9, 0)]) ++ [(902, 65536)]) ++ [(12, 0)]) ++ [(902, 64), (902, 64), (902, 64), (904, 64)]) ++ [(7, 0)]) ++ [(902, 3), (902, 3), (902, 3), (902, 3), (902, 3), (902, 3), (902, 12288), (902, 192), (902, 12288)]) ++ [(10, 0)]) ++ [(902, 3), (902, 3), (902, 3), (902, 192)]) ++ [(4, 0)]) ++ [(902, 257), (903, 8224), (902, 514), (902, 514)]) ++ [(950, 2)]) ++ [(5, 0)]) ++ [(902, 257), (902, 257), (902, 256), (902, 256), (902, 17)]) ++ [(5, 0)]) (U.length + 34) (c_pr S72 (U.length + 27) (0 : Int32).toNatClampNeg (U.length + 28)) (fun S82 => vp_in 1 (c_ln (((((((((((((((U ++ [(9, 0)]) ++ [(902, 65536)]) ++ [(12, 0)]) ++ [(902, 64), (902, 64), (902, 64), (904, 64)]) ++ [(7, 0)]) ++ [(902, 3), (902, 3), (902, 3), (902, 3), (902, 3), (902, 3), (902, 12288), (902, 192), (902, 12288)]) ++ [(10, 0)]) ++ [(902, 3), (902, 3), (902, 3), (902, 192)]) ++ [(4, 0)]) ++ [(902, 257), (903, 8224), (902, 514), (902, 514)]) ++ [(950, 2)]) ++ [(5, 0)]) ++ [(902, 257), (902, 257), (902, 256), (902, 256), (902, 17)]) ++ [(5, 0)]) ++ [(902, 257), (902, 257), (902, 256), (902, 256), (902, 17)]) (U.length + 27)) ∧ ¬ (U.length + 34) = NU ∧ (¬ (U.length + 27) = NU ∧ (fresh (c_pr (c_pr S82 (U.length + 27) (1 : Int32).toNatClampNeg (U.length + 34)) u 5 (U.length + 27)) (U.length + 40) ∧ (fresh (c_pr (c_pr S82 (U.length + 27) (1 : Int32).toNatClampNeg (U.length + 34)) u 5 (U.length + 27)) (U.length + 41) ∧ (p_Oc_init (((((((((((((((((U ++ [(9, 0)]) ++ [(902, 65536)]) ++ [(12, 0)]) ++ [(902, 64), (902, 64), (902, 64), (904, 64)]) ++ [(7, 0)]) ++ [(902, 3), (902, 3), (902, 3), (902, 3), (902, 3), (902, 3), (902, 12288), (902, 192), (902, 12288)]) ++ [(10, 0)]) ++ [(902, 3), (902, 3), (902, 3), (902, 192)]) ++ [(4, 0)]) ++ [(902, 257), (903, 8224), (902, 514), (902, 514)]) ++ [(950, 2)]) ++ [(5, 0)]) ++ [(902, 257), (902, 257), (902, 256), (902, 256), (902, 17)]) ++ [(5, 0)]) ++ [(902, 257), (902, 257), (902, 256), (902, 256), (902, 17)]) ++ [(950, 2)]) ++ [(5, 0)]) (U.length + 41) (c_pr (c_pr S82 (U.length + 27) (1 : Int32).toNatClampNeg (U.length + 34)) u 5 (U.length + 27)) (fun S100 => vp_in 0 (c_ln ((((((((((((((((((U ++ [(9, 0)]) ++ [(902, 65536)]) ++ [(12, 0)]) ++ [(902, 64), (902, 64), (902, 64), (904, 64)]) ++ [(7, 0)]) ++ [(902, 3), (902, 3), (902, 3), (902, 3), (902, 3), (902, 3), (902, 12288), (902, 192), (902, 12288)]) ++ [(10, 0)]) ++ [(902, 3), (902, 3), (902, 3), (902, 192)]) ++ [(4, 0)]) ++ [(902, 257), (903, 8224), (902, 514), (902, 514)]) ++ [(950, 2)]) ++ [(5, 0)]) ++ [(902, 257), (902, 257), (902, 256), (902, 256), (902, 17)]) ++ [(5, 0)]) ++ [(902, 257), (902, 257), (902, 256), (902, 256), (902, 17)]) ++ [(950, 2)]) ++ [(5, 0)]) ++ [(902, 257), (902, 257), (902, 256), (902, 256), (902, 17)]) (U.length + 40)) ∧ ¬ (U.length + 41) = NU ∧ (fresh (c_pr S100 (U.length + 40) (0 : Int32).toNatClampNeg (U.length + 41)) (U.length + 47) ∧ (p_Oc_init (((((((((((((((((((U ++ [(9, 0)]) ++ [(902, 65536)]) ++ [(12, 0)]) ++ [(902, 64), (902, 64), (902, 64), (904, 64)]) ++ [(7, 0)]) ++ [(902, 3), (902, 3), (902, 3), (902, 3), (902, 3), (902, 3), (902, 12288), (902, 192), (902, 12288)]) ++ [(10, 0)]) ++ [(902, 3), (902, 3), (902, 3), (902, 192)]) ++ [(4, 0)]) ++ [(902, 257), (903, 8224), (902, 514), (902, 514)]) ++ [(950, 2)]) ++ [(5, 0)]) ++ [(902, 257), (902, 257), (902, 256), (902, 256), (902, 17)]) ++ [(5, 0)]) ++ [(902, 257), (902, 257), (902, 256), (902, 256), (902, 17)]) ++ [(950, 2)]) ++ [(5, 0)]) ++ [(902, 257), (902, 257), (902, 256), (902, 256), (902, 17)]) ++ [(5, 0)]) (U.length + 47) (c_pr S100 (U.length + 40) (0 : Int32).toNatClampNeg (U.length + 41)) (fun S110 => vp_in 1 (c_ln ((((((((((((((((((((U ++ [(9, 0)]) ++ [(902, 65536)]) ++ [(12, 0)]) ++ [(902, 64), (902, 64), (902, 64), (904, 64)]) ++ [(7, 0)]) ++ [(902, 3), (902, 3), (902, 3), (902, 3), (902, 3), (902, 3), (902, 12288), (902, 192), (902, 12288)]) ++ [(10, 0)]) ++ [(902, 3), (902, 3), (902, 3), (902, 192)]) ++ [(4, 0)]) ++ [(902, 257), (903, 8224), (902, 514), (902, 514)]) ++ [(950, 2)]) ++ [(5, 0)]) ++ [(902, 257), (902, 257), (902, 256), (902, 256), (902, 17)]) ++ [(5, 0)]) ++ [(902, 257), (902, 257), (902, 256), (902, 256), (902, 17)]) ++ [(950, 2)]) ++ [(5, 0)]) ++ [(902, 257), (902, 257), (902, 256), (902, 256), (902, 17)]) ++ [(5, 0)]) ++ [(902, 257), (902, 257), (902, 256), (902, 256), (902, 17)]) (U.length + 40)) ∧ ¬ (U.length + 47) = NU ∧ (¬ (U.length + 40) = NU ∧ (fresh (c_pr (c_pr S110 (U.length + 40) (1 : Int32).toNatClampNeg (U.length + 47)) u 6 (U.length + 40)) (U.length + 53) ∧ (¬ (U.length + 53) = NU ∧ (K (c_pr (c_pr (c_pr S110 (U.length + 40) (1 : Int32).toNatClampNeg (U.length + 47)) u 6 (U.length + 40)) u 7 (U.length + 53)))))))))))))))))))))))))))))))))))

section I_Pa_init
variable {D : va_G} {z : Nat → ClassId} {U : ut} {oa : Nat → Nat}
set_option maxRecDepth 100000 in
set_option maxHeartbeats 4000000 in
theorem ct_Pa_init {l : Launch} (u : Nat) (S : cs) {K : cs → Prop} (hu : c_cl U u = 6) (hp : p_Pa_init U u S K) : ct gG D z l n_C_Pa_init c_C_Pa_init 1 (none) 3 300 [.ref (oa u)] (cw lt_C U oa S) 54 104528 (pC_n lt_C U ext_Pa_init oa K) := by
  refine ct_ofI (lo := [some (.ref (oa u))]) (by decide) g_ok (Nat.le_of_ble_eq_true rfl) rfl ?_
  intro X A _ C hR hQ hA _ hin
  unfold p_Pa_init at hp
  have hu0 := hu
  have hlt0 : u < U.length := c_lt hu0 (by decide)
  have hag : ∀ v, v < U.length → oa v = oa v := fun _ _ => rfl
  have hLT0 : U.length = U.length := rfl
  refine a_aload_n C dc_Pa_init_0 rfl rfl ?_
  refine a_obj C dc_Pa_init_1 l_Pa_3 oi_M oc_M (Nat.le_of_ble_eq_true rfl) (by rw [hR]; exact Nat.le_of_ble_eq_true rfl) (by rw [hR]; exact Nat.le_of_ble_eq_true rfl) ?_
  refine a_aload_n C dc_Pa_init_4 rfl rfl ?_
  refine c_new (ci := 9) (n := U.length) C y_Ro g_ty_Ro dc_Pa_init_5 rfl rfl x_Pa_9 nn_Ro i_Ro df_Ro (by decide) hLT0 hp.1 (by rw [hR]; exact Nat.le_of_ble_eq_true rfl) (by rw [hR]; exact Nat.le_of_ble_eq_true rfl) (fun q5 => ?_)
  have hp := hp.2
  generalize hoa5 : va_up oa U.length q5 = oa5
  have hq5 : oa5 U.length = q5 := by rw [← hoa5]; exact up_at
  have hag : ∀ v, v < U.length → oa5 v = oa v := fun v hv => (show oa5 v = oa v by rw [← hoa5]; exact up_ne (Nat.ne_of_lt hv)).trans (hag v hv)
  rw [← hq5]
  have hz0 : oa5 u = oa u := (by rw [← hoa5]; exact up_ne (Nat.ne_of_lt hlt0))
  rw [← hz0]
  have hcn5 := c_clN (c := (9, 0)) (U := U) (n := U.length) hLT0
  have hu := c_clA (V := [(9, 0)]) hu (by decide)
  generalize hT1 : U ++ [(9, 0)] = T1 at hp hu hcn5 ⊢
  have hLT1 : T1.length = U.length + 1 := by rw [← hT1]; simp +arith only [List.length_append, List.length_cons, List.length_nil, Nat.add_zero]
  refine a_dup C dc_Pa_init_8 rfl ?_
  refine a_ldc (v := 65536) C dc_Pa_init_9 k_Pa_11 ?_
  refine c_call (rest := [.ref (oa5 U.length), .ref (oa5 u)]) (av := .ref (oa5 U.length) :: [.int 65536]) C dc_Pa_init_11 (ct_Ro_init U.length 65536 S 65536 (by decide +kernel) (by decide +kernel) (by decide) hcn5 hp) cd_C_Ro_init i_Ro (Nat.le_of_ble_eq_true rfl) (by rw [hR]; exact Nat.le_of_ble_eq_true rfl) (by rw [hR]; exact Nat.le_of_ble_eq_true rfl) (by rw [hR]; exact Nat.le_of_ble_eq_true rfl) (by rw [hR]; exact Nat.le_of_ble_eq_true rfl) (inv_I C dc_Pa_init_11 l_Pa_12 rfl im_C_Ro_init cd_C_Ro_init ⟨by decide, by decide⟩ ln_C_Ro_init rfl) (fun oc L1 hL => ?_)
  obtain ⟨oa11, S11, hp, hb11, rfl, rfl⟩ := hL
  refine ⟨_, rfl, ?_⟩
  have hL11 : T1.length = U.length + 1 := hLT1
  have hag : ∀ v, v < U.length → oa11 v = oa v := fun v hv => (hb11 v (by rw [hL11]; exact (Nat.lt_of_lt_of_le hv (Nat.le_add_right _ _)))).trans (hag v hv)
  refine aw_eq (lo' := [some (.ref (oa5 u))]) (st' := [.ref (oa5 U.length), .ref (oa5 u)]) (L' := (cw lt_C (T1 ++ [(902, 65536)]) oa11 S11)) rfl rfl rfl ?_
  have hz1 : oa11 u = oa5 u := (hb11 u (by rw [hL11]; exact (Nat.lt_of_lt_of_le hlt0 (Nat.le_add_right _ _))))
  rw [← hz1]
  have hz2 : oa11 U.length = oa5 U.length := (hb11 U.length (by rw [hL11]; exact (Nat.lt_add_of_pos_right (by decide))))
  rw [← hz2]
  have hu := c_clA (V := [(902, 65536)]) hu (by decide)
  have hcn5 := c_clA (V := [(902, 65536)]) hcn5 (by decide)
  generalize hT2 : T1 ++ [(902, 65536)] = T2 at hp hu hcn5 ⊢
  have hLT2 : T2.length = U.length + 2 := by rw [← hT2]; simp +arith only [List.length_append, List.length_cons, List.length_nil, hLT1]
  refine c_putRF (ty := .object "BlockPicture$Row") C u 0 hin dc_Pa_init_14 hu rfl rfl (Nat.le_of_ble_eq_true rfl) f_Pa_15 rfl rfl rfl (fun _ => rfl) (fun _ => rfl) rfl rfl hp.1 ?_
  have hp := hp.2
  refine a_aload_n C dc_Pa_init_17 rfl rfl ?_
  refine c_new (ci := 12) (n := U.length + 2) C y_Wa g_ty_Wa dc_Pa_init_18 rfl rfl x_Pa_21 nn_Wa i_Wa df_Wa (by decide) hLT2 hp.1 (by rw [hR]; exact Nat.le_of_ble_eq_true rfl) (by rw [hR]; exact Nat.le_of_ble_eq_true rfl) (fun q18 => ?_)
  have hp := hp.2
  generalize hoa18 : va_up oa11 (U.length + 2) q18 = oa18
  have hq18 : oa18 (U.length + 2) = q18 := by rw [← hoa18]; exact up_at
  have hag : ∀ v, v < U.length → oa18 v = oa v := fun v hv => (show oa18 v = oa11 v by rw [← hoa18]; exact up_ne (Nat.ne_of_lt (Nat.lt_of_lt_of_le hv (Nat.le_add_right _ _)))).trans (hag v hv)
  rw [← hq18]
  have hz3 : oa18 u = oa11 u := (by rw [← hoa18]; exact up_ne (Nat.ne_of_lt (Nat.lt_of_lt_of_le hlt0 (Nat.le_add_right _ _))))
  rw [← hz3]
  have hcn18 := c_clN (c := (12, 0)) (U := T2) (n := U.length + 2) hLT2
  have hu := c_clA (V := [(12, 0)]) hu (by decide)
  have hcn5 := c_clA (V := [(12, 0)]) hcn5 (by decide)
  generalize hT3 : T2 ++ [(12, 0)] = T3 at hp hu hcn5 hcn18 ⊢
  have hLT3 : T3.length = U.length + 3 := by rw [← hT3]; simp +arith only [List.length_append, List.length_cons, List.length_nil, hLT2]
  refine a_dup C dc_Pa_init_21 rfl ?_
  refine c_call (rest := [.ref (oa18 (U.length + 2)), .ref (oa18 u)]) (av := .ref (oa18 (U.length + 2)) :: []) C dc_Pa_init_22 (ct_Wa_init (U.length + 2) (c_pr S11 u 0 U.length) hcn18 hp) cd_C_Wa_init i_Wa (Nat.le_of_ble_eq_true rfl) (by rw [hR]; exact Nat.le_of_ble_eq_true rfl) (by rw [hR]; exact Nat.le_of_ble_eq_true rfl) (by rw [hR]; exact Nat.le_of_ble_eq_true rfl) (by rw [hR]; exact Nat.le_of_ble_eq_true rfl) (inv_I C dc_Pa_init_22 l_Pa_23 rfl im_C_Wa_init cd_C_Wa_init ⟨by decide, by decide⟩ ln_C_Wa_init rfl) (fun oc L1 hL => ?_)
  obtain ⟨oa22, S22, hp, hb22, rfl, rfl⟩ := hL
  refine ⟨_, rfl, ?_⟩
  have hL22 : T3.length = U.length + 3 := hLT3
  have hag : ∀ v, v < U.length → oa22 v = oa v := fun v hv => (hb22 v (by rw [hL22]; exact (Nat.lt_of_lt_of_le hv (Nat.le_add_right _ _)))).trans (hag v hv)
  refine aw_eq (lo' := [some (.ref (oa18 u))]) (st' := [.ref (oa18 (U.length + 2)), .ref (oa18 u)]) (L' := (cw lt_C (T3 ++ [(902, 64), (902, 64), (902, 64), (904, 64)]) oa22 S22)) rfl rfl rfl ?_
  have hz4 : oa22 u = oa18 u := (hb22 u (by rw [hL22]; exact (Nat.lt_of_lt_of_le hlt0 (Nat.le_add_right _ _))))
  rw [← hz4]
  have hz5 : oa22 (U.length + 2) = oa18 (U.length + 2) := (hb22 (U.length + 2) (by rw [hL22]; exact (Nat.add_lt_add_left (by decide) _)))
  rw [← hz5]
  have hu := c_clA (V := [(902, 64), (902, 64), (902, 64), (904, 64)]) hu (by decide)
  have hcn5 := c_clA (V := [(902, 64), (902, 64), (902, 64), (904, 64)]) hcn5 (by decide)
  have hcn18 := c_clA (V := [(902, 64), (902, 64), (902, 64), (904, 64)]) hcn18 (by decide)
  generalize hT4 : T3 ++ [(902, 64), (902, 64), (902, 64), (904, 64)] = T4 at hp hu hcn5 hcn18 ⊢
  have hLT4 : T4.length = U.length + 7 := by rw [← hT4]; simp +arith only [List.length_append, List.length_cons, List.length_nil, hLT3]
  refine c_putRF (ty := .object "BlockPicture$Waves") C u 1 hin dc_Pa_init_25 hu rfl rfl (Nat.le_of_ble_eq_true rfl) f_Pa_24 rfl rfl rfl (fun _ => rfl) (fun _ => rfl) rfl rfl hp.1 ?_
  have hp := hp.2
  refine a_aload_n C dc_Pa_init_28 rfl rfl ?_
  refine c_new (ci := 7) (n := U.length + 7) C y_Pi g_ty_Pi dc_Pa_init_29 rfl rfl x_Pa_28 nn_Pi i_Pi df_Pi (by decide) hLT4 hp.1 (by rw [hR]; exact Nat.le_of_ble_eq_true rfl) (by rw [hR]; exact Nat.le_of_ble_eq_true rfl) (fun q29 => ?_)
  have hp := hp.2
  generalize hoa29 : va_up oa22 (U.length + 7) q29 = oa29
  have hq29 : oa29 (U.length + 7) = q29 := by rw [← hoa29]; exact up_at
  have hag : ∀ v, v < U.length → oa29 v = oa v := fun v hv => (show oa29 v = oa22 v by rw [← hoa29]; exact up_ne (Nat.ne_of_lt (Nat.lt_of_lt_of_le hv (Nat.le_add_right _ _)))).trans (hag v hv)
  rw [← hq29]
  have hz6 : oa29 u = oa22 u := (by rw [← hoa29]; exact up_ne (Nat.ne_of_lt (Nat.lt_of_lt_of_le hlt0 (Nat.le_add_right _ _))))
  rw [← hz6]
  have hcn29 := c_clN (c := (7, 0)) (U := T4) (n := U.length + 7) hLT4
  have hu := c_clA (V := [(7, 0)]) hu (by decide)
  have hcn5 := c_clA (V := [(7, 0)]) hcn5 (by decide)
  have hcn18 := c_clA (V := [(7, 0)]) hcn18 (by decide)
  generalize hT5 : T4 ++ [(7, 0)] = T5 at hp hu hcn5 hcn18 hcn29 ⊢
  have hLT5 : T5.length = U.length + 8 := by rw [← hT5]; simp +arith only [List.length_append, List.length_cons, List.length_nil, hLT4]
  refine a_dup C dc_Pa_init_32 rfl ?_
  refine c_call (rest := [.ref (oa29 (U.length + 7)), .ref (oa29 u)]) (av := .ref (oa29 (U.length + 7)) :: []) C dc_Pa_init_33 (ct_Pi_init (U.length + 7) (c_pr S22 u 1 (U.length + 2)) hcn29 hp) cd_C_Pi_init i_Pi (Nat.le_of_ble_eq_true rfl) (by rw [hR]; exact Nat.le_of_ble_eq_true rfl) (by rw [hR]; exact Nat.le_of_ble_eq_true rfl) (by rw [hR]; exact Nat.le_of_ble_eq_true rfl) (by rw [hR]; exact Nat.le_of_ble_eq_true rfl) (inv_IN C dc_Pa_init_33 l_Pa_30 rfl im_C_Pi_init cd_C_Pi_init ⟨by decide, by decide⟩ ln_C_Pi_init rfl) (fun oc L1 hL => ?_)
  obtain ⟨oa33, S33, hp, hb33, rfl, rfl⟩ := hL
  refine ⟨_, rfl, ?_⟩
  have hL33 : T5.length = U.length + 8 := hLT5
  have hag : ∀ v, v < U.length → oa33 v = oa v := fun v hv => (hb33 v (by rw [hL33]; exact (Nat.lt_of_lt_of_le hv (Nat.le_add_right _ _)))).trans (hag v hv)
  refine aw_eq (lo' := [some (.ref (oa29 u))]) (st' := [.ref (oa29 (U.length + 7)), .ref (oa29 u)]) (L' := (cw lt_C (T5 ++ [(902, 3), (902, 3), (902, 3), (902, 3), (902, 3), (902, 3), (902, 12288), (902, 192), (902, 12288)]) oa33 S33)) rfl rfl rfl ?_
  have hz7 : oa33 u = oa29 u := (hb33 u (by rw [hL33]; exact (Nat.lt_of_lt_of_le hlt0 (Nat.le_add_right _ _))))
  rw [← hz7]
  have hz8 : oa33 (U.length + 7) = oa29 (U.length + 7) := (hb33 (U.length + 7) (by rw [hL33]; exact (Nat.add_lt_add_left (by decide) _)))
  rw [← hz8]
  have hu := c_clA (V := [(902, 3), (902, 3), (902, 3), (902, 3), (902, 3), (902, 3), (902, 12288), (902, 192), (902, 12288)]) hu (by decide)
  have hcn5 := c_clA (V := [(902, 3), (902, 3), (902, 3), (902, 3), (902, 3), (902, 3), (902, 12288), (902, 192), (902, 12288)]) hcn5 (by decide)
  have hcn18 := c_clA (V := [(902, 3), (902, 3), (902, 3), (902, 3), (902, 3), (902, 3), (902, 12288), (902, 192), (902, 12288)]) hcn18 (by decide)
  have hcn29 := c_clA (V := [(902, 3), (902, 3), (902, 3), (902, 3), (902, 3), (902, 3), (902, 12288), (902, 192), (902, 12288)]) hcn29 (by decide)
  generalize hT6 : T5 ++ [(902, 3), (902, 3), (902, 3), (902, 3), (902, 3), (902, 3), (902, 12288), (902, 192), (902, 12288)] = T6 at hp hu hcn5 hcn18 hcn29 ⊢
  have hLT6 : T6.length = U.length + 17 := by rw [← hT6]; simp +arith only [List.length_append, List.length_cons, List.length_nil, hLT5]
  refine c_putRF (ty := .object "BlockPicture$Picture") C u 2 hin dc_Pa_init_36 hu rfl rfl (Nat.le_of_ble_eq_true rfl) f_Pa_31 rfl rfl rfl (fun _ => rfl) (fun _ => rfl) rfl rfl hp.1 ?_
  have hp := hp.2
  refine a_aload_n C dc_Pa_init_39 rfl rfl ?_
  refine c_new (ci := 10) (n := U.length + 17) C y_Sc g_ty_Sc dc_Pa_init_40 rfl rfl x_Pa_35 nn_Sc i_Sc df_Sc (by decide) hLT6 hp.1 (by rw [hR]; exact Nat.le_of_ble_eq_true rfl) (by rw [hR]; exact Nat.le_of_ble_eq_true rfl) (fun q40 => ?_)
  have hp := hp.2
  generalize hoa40 : va_up oa33 (U.length + 17) q40 = oa40
  have hq40 : oa40 (U.length + 17) = q40 := by rw [← hoa40]; exact up_at
  have hag : ∀ v, v < U.length → oa40 v = oa v := fun v hv => (show oa40 v = oa33 v by rw [← hoa40]; exact up_ne (Nat.ne_of_lt (Nat.lt_of_lt_of_le hv (Nat.le_add_right _ _)))).trans (hag v hv)
  rw [← hq40]
  have hz9 : oa40 u = oa33 u := (by rw [← hoa40]; exact up_ne (Nat.ne_of_lt (Nat.lt_of_lt_of_le hlt0 (Nat.le_add_right _ _))))
  rw [← hz9]
  have hcn40 := c_clN (c := (10, 0)) (U := T6) (n := U.length + 17) hLT6
  have hu := c_clA (V := [(10, 0)]) hu (by decide)
  have hcn5 := c_clA (V := [(10, 0)]) hcn5 (by decide)
  have hcn18 := c_clA (V := [(10, 0)]) hcn18 (by decide)
  have hcn29 := c_clA (V := [(10, 0)]) hcn29 (by decide)
  generalize hT7 : T6 ++ [(10, 0)] = T7 at hp hu hcn5 hcn18 hcn29 hcn40 ⊢
  have hLT7 : T7.length = U.length + 18 := by rw [← hT7]; simp +arith only [List.length_append, List.length_cons, List.length_nil, hLT6]
  refine a_dup C dc_Pa_init_43 rfl ?_
  refine c_call (rest := [.ref (oa40 (U.length + 17)), .ref (oa40 u)]) (av := .ref (oa40 (U.length + 17)) :: []) C dc_Pa_init_44 (ct_Sc_init (U.length + 17) (c_pr S33 u 2 (U.length + 7)) hcn40 hp) cd_C_Sc_init i_Sc (Nat.le_of_ble_eq_true rfl) (by rw [hR]; exact Nat.le_of_ble_eq_true rfl) (by rw [hR]; exact Nat.le_of_ble_eq_true rfl) (by rw [hR]; exact Nat.le_of_ble_eq_true rfl) (by rw [hR]; exact Nat.le_of_ble_eq_true rfl) (inv_IN C dc_Pa_init_44 l_Pa_37 rfl im_C_Sc_init cd_C_Sc_init ⟨by decide, by decide⟩ ln_C_Sc_init rfl) (fun oc L1 hL => ?_)
  obtain ⟨oa44, S44, hp, hb44, rfl, rfl⟩ := hL
  refine ⟨_, rfl, ?_⟩
  have hL44 : T7.length = U.length + 18 := hLT7
  have hag : ∀ v, v < U.length → oa44 v = oa v := fun v hv => (hb44 v (by rw [hL44]; exact (Nat.lt_of_lt_of_le hv (Nat.le_add_right _ _)))).trans (hag v hv)
  refine aw_eq (lo' := [some (.ref (oa40 u))]) (st' := [.ref (oa40 (U.length + 17)), .ref (oa40 u)]) (L' := (cw lt_C (T7 ++ [(902, 3), (902, 3), (902, 3), (902, 192)]) oa44 S44)) rfl rfl rfl ?_
  have hz10 : oa44 u = oa40 u := (hb44 u (by rw [hL44]; exact (Nat.lt_of_lt_of_le hlt0 (Nat.le_add_right _ _))))
  rw [← hz10]
  have hz11 : oa44 (U.length + 17) = oa40 (U.length + 17) := (hb44 (U.length + 17) (by rw [hL44]; exact (Nat.add_lt_add_left (by decide) _)))
  rw [← hz11]
  have hu := c_clA (V := [(902, 3), (902, 3), (902, 3), (902, 192)]) hu (by decide)
  have hcn5 := c_clA (V := [(902, 3), (902, 3), (902, 3), (902, 192)]) hcn5 (by decide)
  have hcn18 := c_clA (V := [(902, 3), (902, 3), (902, 3), (902, 192)]) hcn18 (by decide)
  have hcn29 := c_clA (V := [(902, 3), (902, 3), (902, 3), (902, 192)]) hcn29 (by decide)
  have hcn40 := c_clA (V := [(902, 3), (902, 3), (902, 3), (902, 192)]) hcn40 (by decide)
  generalize hT8 : T7 ++ [(902, 3), (902, 3), (902, 3), (902, 192)] = T8 at hp hu hcn5 hcn18 hcn29 hcn40 ⊢
  have hLT8 : T8.length = U.length + 22 := by rw [← hT8]; simp +arith only [List.length_append, List.length_cons, List.length_nil, hLT7]
  refine c_putRF (ty := .object "BlockPicture$Scan") C u 3 hin dc_Pa_init_47 hu rfl rfl (Nat.le_of_ble_eq_true rfl) f_Pa_38 rfl rfl rfl (fun _ => rfl) (fun _ => rfl) rfl rfl hp.1 ?_
  have hp := hp.2
  refine a_aload_n C dc_Pa_init_50 rfl rfl ?_
  refine c_new (ci := 4) (n := U.length + 22) C y_Li g_ty_Li dc_Pa_init_51 rfl rfl x_Pa_42 nn_Li i_Li df_Li (by decide) hLT8 hp.1 (by rw [hR]; exact Nat.le_of_ble_eq_true rfl) (by rw [hR]; exact Nat.le_of_ble_eq_true rfl) (fun q51 => ?_)
  have hp := hp.2
  generalize hoa51 : va_up oa44 (U.length + 22) q51 = oa51
  have hq51 : oa51 (U.length + 22) = q51 := by rw [← hoa51]; exact up_at
  have hag : ∀ v, v < U.length → oa51 v = oa v := fun v hv => (show oa51 v = oa44 v by rw [← hoa51]; exact up_ne (Nat.ne_of_lt (Nat.lt_of_lt_of_le hv (Nat.le_add_right _ _)))).trans (hag v hv)
  rw [← hq51]
  have hz12 : oa51 u = oa44 u := (by rw [← hoa51]; exact up_ne (Nat.ne_of_lt (Nat.lt_of_lt_of_le hlt0 (Nat.le_add_right _ _))))
  rw [← hz12]
  have hcn51 := c_clN (c := (4, 0)) (U := T8) (n := U.length + 22) hLT8
  have hu := c_clA (V := [(4, 0)]) hu (by decide)
  have hcn5 := c_clA (V := [(4, 0)]) hcn5 (by decide)
  have hcn18 := c_clA (V := [(4, 0)]) hcn18 (by decide)
  have hcn29 := c_clA (V := [(4, 0)]) hcn29 (by decide)
  have hcn40 := c_clA (V := [(4, 0)]) hcn40 (by decide)
  generalize hT9 : T8 ++ [(4, 0)] = T9 at hp hu hcn5 hcn18 hcn29 hcn40 hcn51 ⊢
  have hLT9 : T9.length = U.length + 23 := by rw [← hT9]; simp +arith only [List.length_append, List.length_cons, List.length_nil, hLT8]
  refine a_dup C dc_Pa_init_54 rfl ?_
  refine c_call (rest := [.ref (oa51 (U.length + 22)), .ref (oa51 u)]) (av := .ref (oa51 (U.length + 22)) :: []) C dc_Pa_init_55 (ct_Li_init (U.length + 22) (c_pr S44 u 3 (U.length + 17)) hcn51 hp) cd_C_Li_init i_Li (Nat.le_of_ble_eq_true rfl) (by rw [hR]; exact Nat.le_of_ble_eq_true rfl) (by rw [hR]; exact Nat.le_of_ble_eq_true rfl) (by rw [hR]; exact Nat.le_of_ble_eq_true rfl) (by rw [hR]; exact Nat.le_of_ble_eq_true rfl) (inv_IN C dc_Pa_init_55 l_Pa_44 rfl im_C_Li_init cd_C_Li_init ⟨by decide, by decide⟩ ln_C_Li_init rfl) (fun oc L1 hL => ?_)
  obtain ⟨oa55, S55, hp, hb55, rfl, rfl⟩ := hL
  refine ⟨_, rfl, ?_⟩
  have hL55 : T9.length = U.length + 23 := hLT9
  have hag : ∀ v, v < U.length → oa55 v = oa v := fun v hv => (hb55 v (by rw [hL55]; exact (Nat.lt_of_lt_of_le hv (Nat.le_add_right _ _)))).trans (hag v hv)
  refine aw_eq (lo' := [some (.ref (oa51 u))]) (st' := [.ref (oa51 (U.length + 22)), .ref (oa51 u)]) (L' := (cw lt_C (T9 ++ [(902, 257), (903, 8224), (902, 514), (902, 514)]) oa55 S55)) rfl rfl rfl ?_
  have hz13 : oa55 u = oa51 u := (hb55 u (by rw [hL55]; exact (Nat.lt_of_lt_of_le hlt0 (Nat.le_add_right _ _))))
  rw [← hz13]
  have hz14 : oa55 (U.length + 22) = oa51 (U.length + 22) := (hb55 (U.length + 22) (by rw [hL55]; exact (Nat.add_lt_add_left (by decide) _)))
  rw [← hz14]
  have hu := c_clA (V := [(902, 257), (903, 8224), (902, 514), (902, 514)]) hu (by decide)
  have hcn5 := c_clA (V := [(902, 257), (903, 8224), (902, 514), (902, 514)]) hcn5 (by decide)
  have hcn18 := c_clA (V := [(902, 257), (903, 8224), (902, 514), (902, 514)]) hcn18 (by decide)
  have hcn29 := c_clA (V := [(902, 257), (903, 8224), (902, 514), (902, 514)]) hcn29 (by decide)
  have hcn40 := c_clA (V := [(902, 257), (903, 8224), (902, 514), (902, 514)]) hcn40 (by decide)
  have hcn51 := c_clA (V := [(902, 257), (903, 8224), (902, 514), (902, 514)]) hcn51 (by decide)
  generalize hT10 : T9 ++ [(902, 257), (903, 8224), (902, 514), (902, 514)] = T10 at hp hu hcn5 hcn18 hcn29 hcn40 hcn51 ⊢
  have hLT10 : T10.length = U.length + 27 := by rw [← hT10]; simp +arith only [List.length_append, List.length_cons, List.length_nil, hLT9]
  refine c_putRF (ty := .object "BlockPicture$Lines") C u 4 hin dc_Pa_init_58 hu rfl rfl (Nat.le_of_ble_eq_true rfl) f_Pa_45 rfl rfl rfl (fun _ => rfl) (fun _ => rfl) rfl rfl hp.1 ?_
  have hp := hp.2
  refine a_aload_n C dc_Pa_init_61 rfl rfl ?_
  refine a_iconst (v := 2) C dc_Pa_init_62 (by decide) ?_
  refine c_anew (ci := 950) (N := 2) (n := U.length + 27) C 0 dc_Pa_init_63 x_Pa_49 ao_950 rfl rfl (by decide) (by decide) (by decide) hLT10 hp.1 (by rw [hR]; exact Nat.le_of_ble_eq_true rfl) (by rw [hR]; exact Nat.le_of_ble_eq_true rfl) (fun q63 => ?_)
  have hp := hp.2
  generalize hoa63 : va_up oa55 (U.length + 27) q63 = oa63
  have hq63 : oa63 (U.length + 27) = q63 := by rw [← hoa63]; exact up_at
  have hag : ∀ v, v < U.length → oa63 v = oa v := fun v hv => (show oa63 v = oa55 v by rw [← hoa63]; exact up_ne (Nat.ne_of_lt (Nat.lt_of_lt_of_le hv (Nat.le_add_right _ _)))).trans (hag v hv)
  rw [← hq63]
  have hz15 : oa63 u = oa55 u := (by rw [← hoa63]; exact up_ne (Nat.ne_of_lt (Nat.lt_of_lt_of_le hlt0 (Nat.le_add_right _ _))))
  rw [← hz15]
  have hcn63 := c_clN (c := (950, 2)) (U := T10) (n := U.length + 27) hLT10
  have hu := c_clA (V := [(950, 2)]) hu (by decide)
  have hcn5 := c_clA (V := [(950, 2)]) hcn5 (by decide)
  have hcn18 := c_clA (V := [(950, 2)]) hcn18 (by decide)
  have hcn29 := c_clA (V := [(950, 2)]) hcn29 (by decide)
  have hcn40 := c_clA (V := [(950, 2)]) hcn40 (by decide)
  have hcn51 := c_clA (V := [(950, 2)]) hcn51 (by decide)
  generalize hT11 : T10 ++ [(950, 2)] = T11 at hp hu hcn5 hcn18 hcn29 hcn40 hcn51 hcn63 ⊢
  have hLT11 : T11.length = U.length + 28 := by rw [← hT11]; simp +arith only [List.length_append, List.length_cons, List.length_nil, hLT10]
  refine a_dup C dc_Pa_init_66 rfl ?_
  refine a_iconst (v := 0) C dc_Pa_init_67 (by decide) ?_
  refine c_new (ci := 5) (n := U.length + 28) C y_Oc g_ty_Oc dc_Pa_init_68 rfl rfl x_Pa_49 nn_Oc i_Oc df_Oc (by decide) hLT11 hp.1 (by rw [hR]; exact Nat.le_of_ble_eq_true rfl) (by rw [hR]; exact Nat.le_of_ble_eq_true rfl) (fun q68 => ?_)
  have hp := hp.2
  generalize hoa68 : va_up oa63 (U.length + 28) q68 = oa68
  have hq68 : oa68 (U.length + 28) = q68 := by rw [← hoa68]; exact up_at
  have hag : ∀ v, v < U.length → oa68 v = oa v := fun v hv => (show oa68 v = oa63 v by rw [← hoa68]; exact up_ne (Nat.ne_of_lt (Nat.lt_of_lt_of_le hv (Nat.le_add_right _ _)))).trans (hag v hv)
  rw [← hq68]
  have hz16 : oa68 u = oa63 u := (by rw [← hoa68]; exact up_ne (Nat.ne_of_lt (Nat.lt_of_lt_of_le hlt0 (Nat.le_add_right _ _))))
  rw [← hz16]
  have hz17 : oa68 (U.length + 27) = oa63 (U.length + 27) := (by rw [← hoa68]; exact up_ne (Nat.ne_of_lt (Nat.add_lt_add_left (by decide) _)))
  rw [← hz17]
  have hcn68 := c_clN (c := (5, 0)) (U := T11) (n := U.length + 28) hLT11
  have hu := c_clA (V := [(5, 0)]) hu (by decide)
  have hcn5 := c_clA (V := [(5, 0)]) hcn5 (by decide)
  have hcn18 := c_clA (V := [(5, 0)]) hcn18 (by decide)
  have hcn29 := c_clA (V := [(5, 0)]) hcn29 (by decide)
  have hcn40 := c_clA (V := [(5, 0)]) hcn40 (by decide)
  have hcn51 := c_clA (V := [(5, 0)]) hcn51 (by decide)
  have hcn63 := c_clA (V := [(5, 0)]) hcn63 (by decide)
  generalize hT12 : T11 ++ [(5, 0)] = T12 at hp hu hcn5 hcn18 hcn29 hcn40 hcn51 hcn63 hcn68 ⊢
  have hLT12 : T12.length = U.length + 29 := by rw [← hT12]; simp +arith only [List.length_append, List.length_cons, List.length_nil, hLT11]
  refine a_dup C dc_Pa_init_71 rfl ?_
  refine c_call (rest := [.ref (oa68 (U.length + 28)), .int 0, .ref (oa68 (U.length + 27)), .ref (oa68 (U.length + 27)), .ref (oa68 u)]) (av := .ref (oa68 (U.length + 28)) :: []) C dc_Pa_init_72 (ct_Oc_init (U.length + 28) (c_pr S55 u 4 (U.length + 22)) hcn68 hp) cd_C_Oc_init i_Oc (Nat.le_of_ble_eq_true rfl) (by rw [hR]; exact Nat.le_of_ble_eq_true rfl) (by rw [hR]; exact Nat.le_of_ble_eq_true rfl) (by rw [hR]; exact Nat.le_of_ble_eq_true rfl) (by rw [hR]; exact Nat.le_of_ble_eq_true rfl) (inv_IN C dc_Pa_init_72 l_Pa_51 rfl im_C_Oc_init cd_C_Oc_init ⟨by decide, by decide⟩ ln_C_Oc_init rfl) (fun oc L1 hL => ?_)
  obtain ⟨oa72, S72, hp, hb72, rfl, rfl⟩ := hL
  refine ⟨_, rfl, ?_⟩
  have hL72 : T12.length = U.length + 29 := hLT12
  have hag : ∀ v, v < U.length → oa72 v = oa v := fun v hv => (hb72 v (by rw [hL72]; exact (Nat.lt_of_lt_of_le hv (Nat.le_add_right _ _)))).trans (hag v hv)
  refine aw_eq (lo' := [some (.ref (oa68 u))]) (st' := [.ref (oa68 (U.length + 28)), .int 0, .ref (oa68 (U.length + 27)), .ref (oa68 (U.length + 27)), .ref (oa68 u)]) (L' := (cw lt_C (T12 ++ [(902, 257), (902, 257), (902, 256), (902, 256), (902, 17)]) oa72 S72)) rfl rfl rfl ?_
  have hz18 : oa72 u = oa68 u := (hb72 u (by rw [hL72]; exact (Nat.lt_of_lt_of_le hlt0 (Nat.le_add_right _ _))))
  rw [← hz18]
  have hz19 : oa72 (U.length + 27) = oa68 (U.length + 27) := (hb72 (U.length + 27) (by rw [hL72]; exact (Nat.add_lt_add_left (by decide) _)))
  rw [← hz19]
  have hz20 : oa72 (U.length + 28) = oa68 (U.length + 28) := (hb72 (U.length + 28) (by rw [hL72]; exact (Nat.add_lt_add_left (by decide) _)))
  rw [← hz20]
  have hu := c_clA (V := [(902, 257), (902, 257), (902, 256), (902, 256), (902, 17)]) hu (by decide)
  have hcn5 := c_clA (V := [(902, 257), (902, 257), (902, 256), (902, 256), (902, 17)]) hcn5 (by decide)
  have hcn18 := c_clA (V := [(902, 257), (902, 257), (902, 256), (902, 256), (902, 17)]) hcn18 (by decide)
  have hcn29 := c_clA (V := [(902, 257), (902, 257), (902, 256), (902, 256), (902, 17)]) hcn29 (by decide)
  have hcn40 := c_clA (V := [(902, 257), (902, 257), (902, 256), (902, 256), (902, 17)]) hcn40 (by decide)
  have hcn51 := c_clA (V := [(902, 257), (902, 257), (902, 256), (902, 256), (902, 17)]) hcn51 (by decide)
  have hcn63 := c_clA (V := [(902, 257), (902, 257), (902, 256), (902, 256), (902, 17)]) hcn63 (by decide)
  have hcn68 := c_clA (V := [(902, 257), (902, 257), (902, 256), (902, 256), (902, 17)]) hcn68 (by decide)
  generalize hT13 : T12 ++ [(902, 257), (902, 257), (902, 256), (902, 256), (902, 17)] = T13 at hp hu hcn5 hcn18 hcn29 hcn40 hcn51 hcn63 hcn68 ⊢
  have hLT13 : T13.length = U.length + 34 := by rw [← hT13]; simp +arith only [List.length_append, List.length_cons, List.length_nil, hLT12]
  refine c_aast (ci := 950) (ce := 5) C (U.length + 27) (U.length + 28) 0 dc_Pa_init_75 hcn63 rfl (by decide) rfl hcn68 rfl rfl hp.1 hp.2.1 ?_
  have hp := hp.2.2
  refine a_dup C dc_Pa_init_76 rfl ?_
  refine a_iconst (v := 1) C dc_Pa_init_77 (by decide) ?_
  refine c_new (ci := 5) (n := U.length + 34) C y_Oc g_ty_Oc dc_Pa_init_78 rfl rfl x_Pa_49 nn_Oc i_Oc df_Oc (by decide) hLT13 hp.1 (by rw [hR]; exact Nat.le_of_ble_eq_true rfl) (by rw [hR]; exact Nat.le_of_ble_eq_true rfl) (fun q78 => ?_)
  have hp := hp.2
  generalize hoa78 : va_up oa72 (U.length + 34) q78 = oa78
  have hq78 : oa78 (U.length + 34) = q78 := by rw [← hoa78]; exact up_at
  have hag : ∀ v, v < U.length → oa78 v = oa v := fun v hv => (show oa78 v = oa72 v by rw [← hoa78]; exact up_ne (Nat.ne_of_lt (Nat.lt_of_lt_of_le hv (Nat.le_add_right _ _)))).trans (hag v hv)
  rw [← hq78]
  have hz21 : oa78 u = oa72 u := (by rw [← hoa78]; exact up_ne (Nat.ne_of_lt (Nat.lt_of_lt_of_le hlt0 (Nat.le_add_right _ _))))
  rw [← hz21]
  have hz22 : oa78 (U.length + 27) = oa72 (U.length + 27) := (by rw [← hoa78]; exact up_ne (Nat.ne_of_lt (Nat.add_lt_add_left (by decide) _)))
  rw [← hz22]
  have hcn78 := c_clN (c := (5, 0)) (U := T13) (n := U.length + 34) hLT13
  have hu := c_clA (V := [(5, 0)]) hu (by decide)
  have hcn5 := c_clA (V := [(5, 0)]) hcn5 (by decide)
  have hcn18 := c_clA (V := [(5, 0)]) hcn18 (by decide)
  have hcn29 := c_clA (V := [(5, 0)]) hcn29 (by decide)
  have hcn40 := c_clA (V := [(5, 0)]) hcn40 (by decide)
  have hcn51 := c_clA (V := [(5, 0)]) hcn51 (by decide)
  have hcn63 := c_clA (V := [(5, 0)]) hcn63 (by decide)
  have hcn68 := c_clA (V := [(5, 0)]) hcn68 (by decide)
  generalize hT14 : T13 ++ [(5, 0)] = T14 at hp hu hcn5 hcn18 hcn29 hcn40 hcn51 hcn63 hcn68 hcn78 ⊢
  have hLT14 : T14.length = U.length + 35 := by rw [← hT14]; simp +arith only [List.length_append, List.length_cons, List.length_nil, hLT13]
  refine a_dup C dc_Pa_init_81 rfl ?_
  refine c_call (rest := [.ref (oa78 (U.length + 34)), .int 1, .ref (oa78 (U.length + 27)), .ref (oa78 (U.length + 27)), .ref (oa78 u)]) (av := .ref (oa78 (U.length + 34)) :: []) C dc_Pa_init_82 (ct_Oc_init (U.length + 34) (c_pr S72 (U.length + 27) (0 : Int32).toNatClampNeg (U.length + 28)) hcn78 hp) cd_C_Oc_init i_Oc (Nat.le_of_ble_eq_true rfl) (by rw [hR]; exact Nat.le_of_ble_eq_true rfl) (by rw [hR]; exact Nat.le_of_ble_eq_true rfl) (by rw [hR]; exact Nat.le_of_ble_eq_true rfl) (by rw [hR]; exact Nat.le_of_ble_eq_true rfl) (inv_IN C dc_Pa_init_82 l_Pa_51 rfl im_C_Oc_init cd_C_Oc_init ⟨by decide, by decide⟩ ln_C_Oc_init rfl) (fun oc L1 hL => ?_)
  obtain ⟨oa82, S82, hp, hb82, rfl, rfl⟩ := hL
  refine ⟨_, rfl, ?_⟩
  have hL82 : T14.length = U.length + 35 := hLT14
  have hag : ∀ v, v < U.length → oa82 v = oa v := fun v hv => (hb82 v (by rw [hL82]; exact (Nat.lt_of_lt_of_le hv (Nat.le_add_right _ _)))).trans (hag v hv)
  refine aw_eq (lo' := [some (.ref (oa78 u))]) (st' := [.ref (oa78 (U.length + 34)), .int 1, .ref (oa78 (U.length + 27)), .ref (oa78 (U.length + 27)), .ref (oa78 u)]) (L' := (cw lt_C (T14 ++ [(902, 257), (902, 257), (902, 256), (902, 256), (902, 17)]) oa82 S82)) rfl rfl rfl ?_
  have hz23 : oa82 u = oa78 u := (hb82 u (by rw [hL82]; exact (Nat.lt_of_lt_of_le hlt0 (Nat.le_add_right _ _))))
  rw [← hz23]
  have hz24 : oa82 (U.length + 27) = oa78 (U.length + 27) := (hb82 (U.length + 27) (by rw [hL82]; exact (Nat.add_lt_add_left (by decide) _)))
  rw [← hz24]
  have hz25 : oa82 (U.length + 34) = oa78 (U.length + 34) := (hb82 (U.length + 34) (by rw [hL82]; exact (Nat.add_lt_add_left (by decide) _)))
  rw [← hz25]
  have hu := c_clA (V := [(902, 257), (902, 257), (902, 256), (902, 256), (902, 17)]) hu (by decide)
  have hcn5 := c_clA (V := [(902, 257), (902, 257), (902, 256), (902, 256), (902, 17)]) hcn5 (by decide)
  have hcn18 := c_clA (V := [(902, 257), (902, 257), (902, 256), (902, 256), (902, 17)]) hcn18 (by decide)
  have hcn29 := c_clA (V := [(902, 257), (902, 257), (902, 256), (902, 256), (902, 17)]) hcn29 (by decide)
  have hcn40 := c_clA (V := [(902, 257), (902, 257), (902, 256), (902, 256), (902, 17)]) hcn40 (by decide)
  have hcn51 := c_clA (V := [(902, 257), (902, 257), (902, 256), (902, 256), (902, 17)]) hcn51 (by decide)
  have hcn63 := c_clA (V := [(902, 257), (902, 257), (902, 256), (902, 256), (902, 17)]) hcn63 (by decide)
  have hcn68 := c_clA (V := [(902, 257), (902, 257), (902, 256), (902, 256), (902, 17)]) hcn68 (by decide)
  have hcn78 := c_clA (V := [(902, 257), (902, 257), (902, 256), (902, 256), (902, 17)]) hcn78 (by decide)
  generalize hT15 : T14 ++ [(902, 257), (902, 257), (902, 256), (902, 256), (902, 17)] = T15 at hp hu hcn5 hcn18 hcn29 hcn40 hcn51 hcn63 hcn68 hcn78 ⊢
  have hLT15 : T15.length = U.length + 40 := by rw [← hT15]; simp +arith only [List.length_append, List.length_cons, List.length_nil, hLT14]
  refine c_aast (ci := 950) (ce := 5) C (U.length + 27) (U.length + 34) 0 dc_Pa_init_85 hcn63 rfl (by decide) rfl hcn78 rfl rfl hp.1 hp.2.1 ?_
  have hp := hp.2.2
  refine c_putRF (ty := .array (.object "BlockPicture$OwnCodes")) C u 5 hin dc_Pa_init_86 hu rfl rfl (Nat.le_of_ble_eq_true rfl) f_Pa_52 rfl rfl rfl (fun _ => rfl) (fun _ => rfl) rfl rfl hp.1 ?_
  have hp := hp.2
  refine a_aload_n C dc_Pa_init_89 rfl rfl ?_
  refine a_iconst (v := 2) C dc_Pa_init_90 (by decide) ?_
  refine c_anew (ci := 950) (N := 2) (n := U.length + 40) C 0 dc_Pa_init_91 x_Pa_49 ao_950 rfl rfl (by decide) (by decide) (by decide) hLT15 hp.1 (by rw [hR]; exact Nat.le_of_ble_eq_true rfl) (by rw [hR]; exact Nat.le_of_ble_eq_true rfl) (fun q91 => ?_)
  have hp := hp.2
  generalize hoa91 : va_up oa82 (U.length + 40) q91 = oa91
  have hq91 : oa91 (U.length + 40) = q91 := by rw [← hoa91]; exact up_at
  have hag : ∀ v, v < U.length → oa91 v = oa v := fun v hv => (show oa91 v = oa82 v by rw [← hoa91]; exact up_ne (Nat.ne_of_lt (Nat.lt_of_lt_of_le hv (Nat.le_add_right _ _)))).trans (hag v hv)
  rw [← hq91]
  have hz26 : oa91 u = oa82 u := (by rw [← hoa91]; exact up_ne (Nat.ne_of_lt (Nat.lt_of_lt_of_le hlt0 (Nat.le_add_right _ _))))
  rw [← hz26]
  have hcn91 := c_clN (c := (950, 2)) (U := T15) (n := U.length + 40) hLT15
  have hu := c_clA (V := [(950, 2)]) hu (by decide)
  have hcn5 := c_clA (V := [(950, 2)]) hcn5 (by decide)
  have hcn18 := c_clA (V := [(950, 2)]) hcn18 (by decide)
  have hcn29 := c_clA (V := [(950, 2)]) hcn29 (by decide)
  have hcn40 := c_clA (V := [(950, 2)]) hcn40 (by decide)
  have hcn51 := c_clA (V := [(950, 2)]) hcn51 (by decide)
  have hcn63 := c_clA (V := [(950, 2)]) hcn63 (by decide)
  have hcn68 := c_clA (V := [(950, 2)]) hcn68 (by decide)
  have hcn78 := c_clA (V := [(950, 2)]) hcn78 (by decide)
  generalize hT16 : T15 ++ [(950, 2)] = T16 at hp hu hcn5 hcn18 hcn29 hcn40 hcn51 hcn63 hcn68 hcn78 hcn91 ⊢
  have hLT16 : T16.length = U.length + 41 := by rw [← hT16]; simp +arith only [List.length_append, List.length_cons, List.length_nil, hLT15]
  refine a_dup C dc_Pa_init_94 rfl ?_
  refine a_iconst (v := 0) C dc_Pa_init_95 (by decide) ?_
  refine c_new (ci := 5) (n := U.length + 41) C y_Oc g_ty_Oc dc_Pa_init_96 rfl rfl x_Pa_49 nn_Oc i_Oc df_Oc (by decide) hLT16 hp.1 (by rw [hR]; exact Nat.le_of_ble_eq_true rfl) (by rw [hR]; exact Nat.le_of_ble_eq_true rfl) (fun q96 => ?_)
  have hp := hp.2
  generalize hoa96 : va_up oa91 (U.length + 41) q96 = oa96
  have hq96 : oa96 (U.length + 41) = q96 := by rw [← hoa96]; exact up_at
  have hag : ∀ v, v < U.length → oa96 v = oa v := fun v hv => (show oa96 v = oa91 v by rw [← hoa96]; exact up_ne (Nat.ne_of_lt (Nat.lt_of_lt_of_le hv (Nat.le_add_right _ _)))).trans (hag v hv)
  rw [← hq96]
  have hz27 : oa96 u = oa91 u := (by rw [← hoa96]; exact up_ne (Nat.ne_of_lt (Nat.lt_of_lt_of_le hlt0 (Nat.le_add_right _ _))))
  rw [← hz27]
  have hz28 : oa96 (U.length + 40) = oa91 (U.length + 40) := (by rw [← hoa96]; exact up_ne (Nat.ne_of_lt (Nat.add_lt_add_left (by decide) _)))
  rw [← hz28]
  have hcn96 := c_clN (c := (5, 0)) (U := T16) (n := U.length + 41) hLT16
  have hu := c_clA (V := [(5, 0)]) hu (by decide)
  have hcn5 := c_clA (V := [(5, 0)]) hcn5 (by decide)
  have hcn18 := c_clA (V := [(5, 0)]) hcn18 (by decide)
  have hcn29 := c_clA (V := [(5, 0)]) hcn29 (by decide)
  have hcn40 := c_clA (V := [(5, 0)]) hcn40 (by decide)
  have hcn51 := c_clA (V := [(5, 0)]) hcn51 (by decide)
  have hcn63 := c_clA (V := [(5, 0)]) hcn63 (by decide)
  have hcn68 := c_clA (V := [(5, 0)]) hcn68 (by decide)
  have hcn78 := c_clA (V := [(5, 0)]) hcn78 (by decide)
  have hcn91 := c_clA (V := [(5, 0)]) hcn91 (by decide)
  generalize hT17 : T16 ++ [(5, 0)] = T17 at hp hu hcn5 hcn18 hcn29 hcn40 hcn51 hcn63 hcn68 hcn78 hcn91 hcn96 ⊢
  have hLT17 : T17.length = U.length + 42 := by rw [← hT17]; simp +arith only [List.length_append, List.length_cons, List.length_nil, hLT16]
  refine a_dup C dc_Pa_init_99 rfl ?_
  refine c_call (rest := [.ref (oa96 (U.length + 41)), .int 0, .ref (oa96 (U.length + 40)), .ref (oa96 (U.length + 40)), .ref (oa96 u)]) (av := .ref (oa96 (U.length + 41)) :: []) C dc_Pa_init_100 (ct_Oc_init (U.length + 41) (c_pr (c_pr S82 (U.length + 27) (1 : Int32).toNatClampNeg (U.length + 34)) u 5 (U.length + 27)) hcn96 hp) cd_C_Oc_init i_Oc (Nat.le_of_ble_eq_true rfl) (by rw [hR]; exact Nat.le_of_ble_eq_true rfl) (by rw [hR]; exact Nat.le_of_ble_eq_true rfl) (by rw [hR]; exact Nat.le_of_ble_eq_true rfl) (by rw [hR]; exact Nat.le_of_ble_eq_true rfl) (inv_IN C dc_Pa_init_100 l_Pa_51 rfl im_C_Oc_init cd_C_Oc_init ⟨by decide, by decide⟩ ln_C_Oc_init rfl) (fun oc L1 hL => ?_)
  obtain ⟨oa100, S100, hp, hb100, rfl, rfl⟩ := hL
  refine ⟨_, rfl, ?_⟩
  have hL100 : T17.length = U.length + 42 := hLT17
  have hag : ∀ v, v < U.length → oa100 v = oa v := fun v hv => (hb100 v (by rw [hL100]; exact (Nat.lt_of_lt_of_le hv (Nat.le_add_right _ _)))).trans (hag v hv)
  refine aw_eq (lo' := [some (.ref (oa96 u))]) (st' := [.ref (oa96 (U.length + 41)), .int 0, .ref (oa96 (U.length + 40)), .ref (oa96 (U.length + 40)), .ref (oa96 u)]) (L' := (cw lt_C (T17 ++ [(902, 257), (902, 257), (902, 256), (902, 256), (902, 17)]) oa100 S100)) rfl rfl rfl ?_
  have hz29 : oa100 u = oa96 u := (hb100 u (by rw [hL100]; exact (Nat.lt_of_lt_of_le hlt0 (Nat.le_add_right _ _))))
  rw [← hz29]
  have hz30 : oa100 (U.length + 40) = oa96 (U.length + 40) := (hb100 (U.length + 40) (by rw [hL100]; exact (Nat.add_lt_add_left (by decide) _)))
  rw [← hz30]
  have hz31 : oa100 (U.length + 41) = oa96 (U.length + 41) := (hb100 (U.length + 41) (by rw [hL100]; exact (Nat.add_lt_add_left (by decide) _)))
  rw [← hz31]
  have hu := c_clA (V := [(902, 257), (902, 257), (902, 256), (902, 256), (902, 17)]) hu (by decide)
  have hcn5 := c_clA (V := [(902, 257), (902, 257), (902, 256), (902, 256), (902, 17)]) hcn5 (by decide)
  have hcn18 := c_clA (V := [(902, 257), (902, 257), (902, 256), (902, 256), (902, 17)]) hcn18 (by decide)
  have hcn29 := c_clA (V := [(902, 257), (902, 257), (902, 256), (902, 256), (902, 17)]) hcn29 (by decide)
  have hcn40 := c_clA (V := [(902, 257), (902, 257), (902, 256), (902, 256), (902, 17)]) hcn40 (by decide)
  have hcn51 := c_clA (V := [(902, 257), (902, 257), (902, 256), (902, 256), (902, 17)]) hcn51 (by decide)
  have hcn63 := c_clA (V := [(902, 257), (902, 257), (902, 256), (902, 256), (902, 17)]) hcn63 (by decide)
  have hcn68 := c_clA (V := [(902, 257), (902, 257), (902, 256), (902, 256), (902, 17)]) hcn68 (by decide)
  have hcn78 := c_clA (V := [(902, 257), (902, 257), (902, 256), (902, 256), (902, 17)]) hcn78 (by decide)
  have hcn91 := c_clA (V := [(902, 257), (902, 257), (902, 256), (902, 256), (902, 17)]) hcn91 (by decide)
  have hcn96 := c_clA (V := [(902, 257), (902, 257), (902, 256), (902, 256), (902, 17)]) hcn96 (by decide)
  generalize hT18 : T17 ++ [(902, 257), (902, 257), (902, 256), (902, 256), (902, 17)] = T18 at hp hu hcn5 hcn18 hcn29 hcn40 hcn51 hcn63 hcn68 hcn78 hcn91 hcn96 ⊢
  have hLT18 : T18.length = U.length + 47 := by rw [← hT18]; simp +arith only [List.length_append, List.length_cons, List.length_nil, hLT17]
  refine c_aast (ci := 950) (ce := 5) C (U.length + 40) (U.length + 41) 0 dc_Pa_init_103 hcn91 rfl (by decide) rfl hcn96 rfl rfl hp.1 hp.2.1 ?_
  have hp := hp.2.2
  refine a_dup C dc_Pa_init_104 rfl ?_
  refine a_iconst (v := 1) C dc_Pa_init_105 (by decide) ?_
  refine c_new (ci := 5) (n := U.length + 47) C y_Oc g_ty_Oc dc_Pa_init_106 rfl rfl x_Pa_49 nn_Oc i_Oc df_Oc (by decide) hLT18 hp.1 (by rw [hR]; exact Nat.le_of_ble_eq_true rfl) (by rw [hR]; exact Nat.le_of_ble_eq_true rfl) (fun q106 => ?_)
  have hp := hp.2
  generalize hoa106 : va_up oa100 (U.length + 47) q106 = oa106
  have hq106 : oa106 (U.length + 47) = q106 := by rw [← hoa106]; exact up_at
  have hag : ∀ v, v < U.length → oa106 v = oa v := fun v hv => (show oa106 v = oa100 v by rw [← hoa106]; exact up_ne (Nat.ne_of_lt (Nat.lt_of_lt_of_le hv (Nat.le_add_right _ _)))).trans (hag v hv)
  rw [← hq106]
  have hz32 : oa106 u = oa100 u := (by rw [← hoa106]; exact up_ne (Nat.ne_of_lt (Nat.lt_of_lt_of_le hlt0 (Nat.le_add_right _ _))))
  rw [← hz32]
  have hz33 : oa106 (U.length + 40) = oa100 (U.length + 40) := (by rw [← hoa106]; exact up_ne (Nat.ne_of_lt (Nat.add_lt_add_left (by decide) _)))
  rw [← hz33]
  have hcn106 := c_clN (c := (5, 0)) (U := T18) (n := U.length + 47) hLT18
  have hu := c_clA (V := [(5, 0)]) hu (by decide)
  have hcn5 := c_clA (V := [(5, 0)]) hcn5 (by decide)
  have hcn18 := c_clA (V := [(5, 0)]) hcn18 (by decide)
  have hcn29 := c_clA (V := [(5, 0)]) hcn29 (by decide)
  have hcn40 := c_clA (V := [(5, 0)]) hcn40 (by decide)
  have hcn51 := c_clA (V := [(5, 0)]) hcn51 (by decide)
  have hcn63 := c_clA (V := [(5, 0)]) hcn63 (by decide)
  have hcn68 := c_clA (V := [(5, 0)]) hcn68 (by decide)
  have hcn78 := c_clA (V := [(5, 0)]) hcn78 (by decide)
  have hcn91 := c_clA (V := [(5, 0)]) hcn91 (by decide)
  have hcn96 := c_clA (V := [(5, 0)]) hcn96 (by decide)
  generalize hT19 : T18 ++ [(5, 0)] = T19 at hp hu hcn5 hcn18 hcn29 hcn40 hcn51 hcn63 hcn68 hcn78 hcn91 hcn96 hcn106 ⊢
  have hLT19 : T19.length = U.length + 48 := by rw [← hT19]; simp +arith only [List.length_append, List.length_cons, List.length_nil, hLT18]
  refine a_dup C dc_Pa_init_109 rfl ?_
  refine c_call (rest := [.ref (oa106 (U.length + 47)), .int 1, .ref (oa106 (U.length + 40)), .ref (oa106 (U.length + 40)), .ref (oa106 u)]) (av := .ref (oa106 (U.length + 47)) :: []) C dc_Pa_init_110 (ct_Oc_init (U.length + 47) (c_pr S100 (U.length + 40) (0 : Int32).toNatClampNeg (U.length + 41)) hcn106 hp) cd_C_Oc_init i_Oc (Nat.le_of_ble_eq_true rfl) (by rw [hR]; exact Nat.le_of_ble_eq_true rfl) (by rw [hR]; exact Nat.le_of_ble_eq_true rfl) (by rw [hR]; exact Nat.le_of_ble_eq_true rfl) (by rw [hR]; exact Nat.le_of_ble_eq_true rfl) (inv_IN C dc_Pa_init_110 l_Pa_51 rfl im_C_Oc_init cd_C_Oc_init ⟨by decide, by decide⟩ ln_C_Oc_init rfl) (fun oc L1 hL => ?_)
  obtain ⟨oa110, S110, hp, hb110, rfl, rfl⟩ := hL
  refine ⟨_, rfl, ?_⟩
  have hL110 : T19.length = U.length + 48 := hLT19
  have hag : ∀ v, v < U.length → oa110 v = oa v := fun v hv => (hb110 v (by rw [hL110]; exact (Nat.lt_of_lt_of_le hv (Nat.le_add_right _ _)))).trans (hag v hv)
  refine aw_eq (lo' := [some (.ref (oa106 u))]) (st' := [.ref (oa106 (U.length + 47)), .int 1, .ref (oa106 (U.length + 40)), .ref (oa106 (U.length + 40)), .ref (oa106 u)]) (L' := (cw lt_C (T19 ++ [(902, 257), (902, 257), (902, 256), (902, 256), (902, 17)]) oa110 S110)) rfl rfl rfl ?_
  have hz34 : oa110 u = oa106 u := (hb110 u (by rw [hL110]; exact (Nat.lt_of_lt_of_le hlt0 (Nat.le_add_right _ _))))
  rw [← hz34]
  have hz35 : oa110 (U.length + 40) = oa106 (U.length + 40) := (hb110 (U.length + 40) (by rw [hL110]; exact (Nat.add_lt_add_left (by decide) _)))
  rw [← hz35]
  have hz36 : oa110 (U.length + 47) = oa106 (U.length + 47) := (hb110 (U.length + 47) (by rw [hL110]; exact (Nat.add_lt_add_left (by decide) _)))
  rw [← hz36]
  have hu := c_clA (V := [(902, 257), (902, 257), (902, 256), (902, 256), (902, 17)]) hu (by decide)
  have hcn5 := c_clA (V := [(902, 257), (902, 257), (902, 256), (902, 256), (902, 17)]) hcn5 (by decide)
  have hcn18 := c_clA (V := [(902, 257), (902, 257), (902, 256), (902, 256), (902, 17)]) hcn18 (by decide)
  have hcn29 := c_clA (V := [(902, 257), (902, 257), (902, 256), (902, 256), (902, 17)]) hcn29 (by decide)
  have hcn40 := c_clA (V := [(902, 257), (902, 257), (902, 256), (902, 256), (902, 17)]) hcn40 (by decide)
  have hcn51 := c_clA (V := [(902, 257), (902, 257), (902, 256), (902, 256), (902, 17)]) hcn51 (by decide)
  have hcn63 := c_clA (V := [(902, 257), (902, 257), (902, 256), (902, 256), (902, 17)]) hcn63 (by decide)
  have hcn68 := c_clA (V := [(902, 257), (902, 257), (902, 256), (902, 256), (902, 17)]) hcn68 (by decide)
  have hcn78 := c_clA (V := [(902, 257), (902, 257), (902, 256), (902, 256), (902, 17)]) hcn78 (by decide)
  have hcn91 := c_clA (V := [(902, 257), (902, 257), (902, 256), (902, 256), (902, 17)]) hcn91 (by decide)
  have hcn96 := c_clA (V := [(902, 257), (902, 257), (902, 256), (902, 256), (902, 17)]) hcn96 (by decide)
  have hcn106 := c_clA (V := [(902, 257), (902, 257), (902, 256), (902, 256), (902, 17)]) hcn106 (by decide)
  generalize hT20 : T19 ++ [(902, 257), (902, 257), (902, 256), (902, 256), (902, 17)] = T20 at hp hu hcn5 hcn18 hcn29 hcn40 hcn51 hcn63 hcn68 hcn78 hcn91 hcn96 hcn106 ⊢
  have hLT20 : T20.length = U.length + 53 := by rw [← hT20]; simp +arith only [List.length_append, List.length_cons, List.length_nil, hLT19]
  refine c_aast (ci := 950) (ce := 5) C (U.length + 40) (U.length + 47) 0 dc_Pa_init_113 hcn91 rfl (by decide) rfl hcn106 rfl rfl hp.1 hp.2.1 ?_
  have hp := hp.2.2
  refine c_putRF (ty := .array (.object "BlockPicture$OwnCodes")) C u 6 hin dc_Pa_init_114 hu rfl rfl (Nat.le_of_ble_eq_true rfl) f_Pa_56 rfl rfl rfl (fun _ => rfl) (fun _ => rfl) rfl rfl hp.1 ?_
  have hp := hp.2
  refine a_aload_n C dc_Pa_init_117 rfl rfl ?_
  refine a_iconst (v := 3) C dc_Pa_init_118 (by decide) ?_
  refine c_newa (ty := .int) (N := 3) (n := U.length + 53) C 2 dc_Pa_init_119 ac_int rfl (C.kn.2 0 _ rfl).2 (fun _ => rfl) (by decide) (by decide) (by decide) (by decide) hLT20 hp.1 (by rw [hR]; exact Nat.le_of_ble_eq_true rfl) (by rw [hR]; exact Nat.le_of_ble_eq_true rfl) (fun q119 => ?_)
  have hp := hp.2
  generalize hoa119 : va_up oa110 (U.length + 53) q119 = oa119
  have hq119 : oa119 (U.length + 53) = q119 := by rw [← hoa119]; exact up_at
  have hag : ∀ v, v < U.length → oa119 v = oa v := fun v hv => (show oa119 v = oa110 v by rw [← hoa119]; exact up_ne (Nat.ne_of_lt (Nat.lt_of_lt_of_le hv (Nat.le_add_right _ _)))).trans (hag v hv)
  rw [← hq119]
  have hz37 : oa119 u = oa110 u := (by rw [← hoa119]; exact up_ne (Nat.ne_of_lt (Nat.lt_of_lt_of_le hlt0 (Nat.le_add_right _ _))))
  rw [← hz37]
  have hcn119 := c_clN (c := (902, 3)) (U := T20) (n := U.length + 53) hLT20
  have hu := c_clA (V := [(902, 3)]) hu (by decide)
  have hcn5 := c_clA (V := [(902, 3)]) hcn5 (by decide)
  have hcn18 := c_clA (V := [(902, 3)]) hcn18 (by decide)
  have hcn29 := c_clA (V := [(902, 3)]) hcn29 (by decide)
  have hcn40 := c_clA (V := [(902, 3)]) hcn40 (by decide)
  have hcn51 := c_clA (V := [(902, 3)]) hcn51 (by decide)
  have hcn63 := c_clA (V := [(902, 3)]) hcn63 (by decide)
  have hcn68 := c_clA (V := [(902, 3)]) hcn68 (by decide)
  have hcn78 := c_clA (V := [(902, 3)]) hcn78 (by decide)
  have hcn91 := c_clA (V := [(902, 3)]) hcn91 (by decide)
  have hcn96 := c_clA (V := [(902, 3)]) hcn96 (by decide)
  have hcn106 := c_clA (V := [(902, 3)]) hcn106 (by decide)
  generalize hT21 : T20 ++ [(902, 3)] = T21 at hp hu hcn5 hcn18 hcn29 hcn40 hcn51 hcn63 hcn68 hcn78 hcn91 hcn96 hcn106 hcn119 ⊢
  have hLT21 : T21.length = U.length + 54 := by rw [← hT21]; simp +arith only [List.length_append, List.length_cons, List.length_nil, hLT20]
  refine c_putRF (ty := .array .int) C u 7 hin dc_Pa_init_121 hu rfl rfl (Nat.le_of_ble_eq_true rfl) f_Pa_59 rfl rfl rfl (fun _ => rfl) (fun _ => rfl) rfl rfl hp.1 ?_
  have hp := hp.2
  refine aw_widen (nc' := 54) (ns' := 104528) (Nat.le_of_ble_eq_true rfl) (Nat.le_of_ble_eq_true rfl) ?_
  refine aw_eq (lo' := _) (st' := _) (L' := (cw lt_C (U ++ ext_Pa_init) oa119 (c_pr (c_pr (c_pr S110 (U.length + 40) (1 : Int32).toNatClampNeg (U.length + 47)) u 6 (U.length + 40)) u 7 (U.length + 53)))) rfl rfl (by rw [← hT21, ← hT20, ← hT19, ← hT18, ← hT17, ← hT16, ← hT15, ← hT14, ← hT13, ← hT12, ← hT11, ← hT10, ← hT9, ← hT8, ← hT7, ← hT6, ← hT5, ← hT4, ← hT3, ← hT2, ← hT1]; simp only [ext_Pa_init, List.append_assoc, List.cons_append, List.nil_append, List.append_nil]) ?_
  exact a_vret C hQ hA dc_Pa_init_124 rfl ⟨oa119, (c_pr (c_pr (c_pr S110 (U.length + 40) (1 : Int32).toNatClampNeg (U.length + 47)) u 6 (U.length + 40)) u 7 (U.length + 53)), hp, hag, rfl, rfl⟩
end I_Pa_init
