def b_Wa_init_82 (U : ut) (u : Nat) (x1 : Int32) (s0 : Nat) (s1 : Int32) (s2 : Int32) (S : cs) (R38 : Int32 → cs → Prop) (K : cs → Prop) : Prop :=
  c_cl U s0 = 902 ∧ (vp_in s1 (c_ln U s0) ∧ (R38 (x1 + 1) (va_up S.1 s0 (upd (S.1 s0) s1.toNatClampNeg s2), S.2.1, S.2.2)))
def b_Wa_init_38 (U : ut) (u : Nat) (x1 : Int32) (S : cs) (R38 : Int32 → cs → Prop) (K : cs → Prop) : Prop :=
  (64 ≤ x1 → (K S)) ∧ (¬ (64 ≤ x1) → (¬ S.2.2 u 0 = NU ∧ ((¬ (x1 / 8) = 0 → (p_Wa_wave ((((2 * (x1 - x1 / 8 * 8)) + 1) * (x1 / 8)) - (((2 * (x1 - x1 / 8 * 8)) + 1) * (x1 / 8)) / 32 * 32) (fun v79 => b_Wa_init_82 U u x1 (S.2.2 u 0) x1 v79 S R38 K))) ∧ ((x1 / 8) = 0 → (vp_in 4 9 ∧ (b_Wa_init_82 U u x1 (S.2.2 u 0) x1 (rw_at row_qu (4 : Int32).toNatClampNeg) S R38 K))))))
def e_Wa_init_38 (U : ut) (u : Nat) (x1 : Int32) (S : cs) (K : cs → Prop) : Prop :=
  ∃ (I : Int32 → cs → Prop) (μ : Int32 → cs → Nat), I x1 S ∧ ∀ yx1 yS, I yx1 yS → b_Wa_init_38 U u yx1 yS (fun zx1 zS => I zx1 zS ∧ μ zx1 zS < μ yx1 yS) K
def q_Wa_init_36 (U : ut) (u : Nat)  (S : cs) (K : cs → Prop) : Prop :=
  e_Wa_init_38 U u 0 S K
section C_Wa_init
variable {D : va_G} {z : Nat → ClassId} {A : Nat → Prop} {X : cx} {L0 : fw} {U : ut} {oa : Nat → Nat} {u : Nat} {K : cs → Prop} {Post : Outcome → fw → Prop}
set_option maxRecDepth 100000 in
set_option maxHeartbeats 1000000 in
theorem s_Wa_init_82 (C : fcx gG D z A X R_Wa c_C_Wa_init 3 (none)) (hQ : X.2.2.2.2.2.2.2.2.2.2 = eQ gG D z X.2.2.2.2.2.2.2.1 X.2.2.2.2.1 L0 4 256 (Post)) (hA : A = owA gG L0 X.2.2.2.2.1.heap.size) (hR : X.2.2.2.1 = { frames := 2, cells := 5, slots := 262, locals := 200 }) (hP : ∀ S9 : cs, K S9 → Post (.returned none) (cw lt_C U oa S9)) (hu : c_cl U u = 12) (x1 : Int32) (s0 : Nat) (s1 : Int32) (s2 : Int32) (S : cs) (R38 : Int32 → cs → Prop) (hR38 : ∀ yx1 yS, R38 yx1 yS → aw gG D z A X 3 38 [some (.ref (oa u)), some (.int yx1), none] [] (cw lt_C U oa yS) 4 256) (hp : b_Wa_init_82 U u x1 s0 s1 s2 S R38 K) : aw gG D z A X 3 82 [some (.ref (oa u)), some (.int x1), none] [.int s2, .int s1, .ref (oa s0)] (cw lt_C U oa S) 4 256 := by
  unfold b_Wa_init_82 at hp
  have hc1 := hp.1
  have hp := hp.2
  refine c_iast C s0 dc_Wa_init_82 hc1 hp.1 ?_
  have hp := hp.2
  refine aw_eq (lo' := _) (st' := _) (L' := (cw lt_C U oa (va_up S.1 s0 (upd (S.1 s0) s1.toNatClampNeg s2), S.2.1, S.2.2))) rfl rfl rfl ?_
  refine a_iinc (v := x1 + 1) (lo' := [some (.ref (oa u)), some (.int (x1 + 1)), none]) C dc_Wa_init_83 rfl rfl (by decide) rfl ?_
  refine a_goto (tgt := 38) C dc_Wa_init_86 (by decide) ?_
  refine aw_lo (lo' := [some (.ref (oa u)), some (.int (x1 + 1)), none]) ⟨.inr rfl, .inr rfl, .inr rfl, trivial⟩ ?_
  exact hR38 (x1 + 1) (va_up S.1 s0 (upd (S.1 s0) s1.toNatClampNeg s2), S.2.1, S.2.2) hp
set_option maxRecDepth 100000 in
set_option maxHeartbeats 1000000 in
theorem s_Wa_init_38 (C : fcx gG D z A X R_Wa c_C_Wa_init 3 (none)) (hQ : X.2.2.2.2.2.2.2.2.2.2 = eQ gG D z X.2.2.2.2.2.2.2.1 X.2.2.2.2.1 L0 4 256 (Post)) (hA : A = owA gG L0 X.2.2.2.2.1.heap.size) (hR : X.2.2.2.1 = { frames := 2, cells := 5, slots := 262, locals := 200 }) (hP : ∀ S9 : cs, K S9 → Post (.returned none) (cw lt_C U oa S9)) (hu : c_cl U u = 12) (x1 : Int32) (S : cs) (R38 : Int32 → cs → Prop) (hR38 : ∀ yx1 yS, R38 yx1 yS → aw gG D z A X 3 38 [some (.ref (oa u)), some (.int yx1), none] [] (cw lt_C U oa yS) 4 256) (hp : b_Wa_init_38 U u x1 S R38 K) : aw gG D z A X 3 38 [some (.ref (oa u)), some (.int x1), none] [] (cw lt_C U oa S) 4 256 := by
  unfold b_Wa_init_38 at hp
  refine a_iload_n C dc_Wa_init_38 rfl rfl ?_
  refine a_bipush (v := 64) C dc_Wa_init_39 (by decide) ?_
  refine a_icmp_ge (tgt := 89) C dc_Wa_init_41 (by decide) ⟨fun hc => ?_, fun hc => ?_⟩
  · have hp := hp.1 hc
    exact a_vret C hQ hA dc_Wa_init_89 rfl (hP _ hp)
  · have hp := hp.2 hc
    refine a_iload_n C dc_Wa_init_44 rfl rfl ?_
    refine a_bipush (v := 8) C dc_Wa_init_45 (by decide) ?_
    refine a_idiv C dc_Wa_init_47 (by decide) ?_
    refine a_istore_n (lo' := [some (.ref (oa u)), some (.int x1), some (.int (x1 / 8))]) C dc_Wa_init_48 rfl (by decide) rfl ?_
    refine a_aload_n C dc_Wa_init_49 rfl rfl ?_
    refine c_getR C u 0 dc_Wa_init_50 hu rfl rfl (Nat.le_of_ble_eq_true rfl) f_Wa_9 rfl hp.1 ?_
    have hp := hp.2
    refine a_iload_n C dc_Wa_init_53 rfl rfl ?_
    refine a_iload_n C dc_Wa_init_54 rfl rfl ?_
    refine a_if_ne (tgt := 66) C dc_Wa_init_55 (by decide) ⟨fun hc => ?_, fun hc => ?_⟩
    · have hp := hp.1 hc
      refine a_iconst (v := 2) C dc_Wa_init_66 (by decide) ?_
      refine a_iload_n C dc_Wa_init_67 rfl rfl ?_
      refine a_bipush (v := 8) C dc_Wa_init_68 (by decide) ?_
      refine a_irem C dc_Wa_init_70 (by decide) ?_
      refine a_imul C dc_Wa_init_71 ?_
      refine a_iconst (v := 1) C dc_Wa_init_72 (by decide) ?_
      refine a_iadd C dc_Wa_init_73 ?_
      refine a_iload_n C dc_Wa_init_74 rfl rfl ?_
      refine a_imul C dc_Wa_init_75 ?_
      refine a_bipush (v := 32) C dc_Wa_init_76 (by decide) ?_
      refine a_irem C dc_Wa_init_78 (by decide) ?_
      refine a_callP (rest := [.int x1, .ref (oa (S.2.2 u 0))]) (av := [.int ((((2 * (x1 - x1 / 8 * 8)) + 1) * (x1 / 8)) - (((2 * (x1 - x1 / 8 * 8)) + 1) * (x1 / 8)) / 32 * 32)]) C dc_Wa_init_79 (ct_Wa_wave ((((2 * (x1 - x1 / 8 * 8)) + 1) * (x1 / 8)) - (((2 * (x1 - x1 / 8 * 8)) + 1) * (x1 / 8)) / 32 * 32) hp) cd_C_Wa_wave i_Wa (Nat.le_of_ble_eq_true rfl) (by rw [hR]; exact Nat.le_of_ble_eq_true rfl) (by rw [hR]; exact Nat.le_of_ble_eq_true rfl) (by rw [hR]; exact Nat.le_of_ble_eq_true rfl) (by rw [hR]; exact Nat.le_of_ble_eq_true rfl) (inv_S C dc_Wa_init_79 l_Wa_28 st_C_Wa_wave i_Wa cd_C_Wa_wave ⟨by decide, by decide⟩ ln_C_Wa_wave rfl) (fun v79 hp => ?_)
      refine aw_eq (lo' := _) (st' := [.int v79, .int x1, .ref (oa (S.2.2 u 0))]) (L' := (cw lt_C U oa S)) rfl rfl rfl ?_
      refine aw_lo (lo' := [some (.ref (oa u)), some (.int x1), none]) ⟨.inr rfl, .inr rfl, .inl rfl, trivial⟩ ?_
      exact s_Wa_init_82 C hQ hA hR hP hu x1 (S.2.2 u 0) x1 v79 S R38 hR38 hp
    · have hp := hp.2 hc
      obtain ⟨t58, hZ58, hT58⟩ := C.sx.2.1
      refine a_gets C dc_Wa_init_58 hZ58 f_Wa_25 ?_
      refine a_iconst (v := 4) C dc_Wa_init_61 (by decide) ?_
      refine a_tld C dc_Wa_init_62 hT58 hp.1 ?_
      have hp := hp.2
      refine a_goto (tgt := 82) C dc_Wa_init_63 (by decide) ?_
      refine aw_lo (lo' := [some (.ref (oa u)), some (.int x1), none]) ⟨.inr rfl, .inr rfl, .inl rfl, trivial⟩ ?_
      exact s_Wa_init_82 C hQ hA hR hP hu x1 (S.2.2 u 0) x1 (rw_at row_qu (4 : Int32).toNatClampNeg) S R38 hR38 hp
set_option maxRecDepth 100000 in
set_option maxHeartbeats 1000000 in
theorem se_Wa_init_38 (C : fcx gG D z A X R_Wa c_C_Wa_init 3 (none)) (hQ : X.2.2.2.2.2.2.2.2.2.2 = eQ gG D z X.2.2.2.2.2.2.2.1 X.2.2.2.2.1 L0 4 256 (Post)) (hA : A = owA gG L0 X.2.2.2.2.1.heap.size) (hR : X.2.2.2.1 = { frames := 2, cells := 5, slots := 262, locals := 200 }) (hP : ∀ S9 : cs, K S9 → Post (.returned none) (cw lt_C U oa S9)) (hu : c_cl U u = 12) (x1 : Int32) (S : cs) (hp : e_Wa_init_38 U u x1 S K) : aw gG D z A X 3 38 [some (.ref (oa u)), some (.int x1), none] [] (cw lt_C U oa S) 4 256 := by
  obtain ⟨I, μ, h0, hs⟩ := hp
  have key : ∀ (n : Nat) (yx1 : Int32) (yS : cs), μ yx1 yS < n → I yx1 yS → aw gG D z A X 3 38 [some (.ref (oa u)), some (.int yx1), none] [] (cw lt_C U oa yS) 4 256 := by
    intro n
    induction n with
    | zero => intro yx1 yS h; omega
    | succ n ih =>
      intro yx1 yS hn hI
      exact s_Wa_init_38 C hQ hA hR hP hu yx1 yS _ (fun zx1 zS hw => ih zx1 zS (by omega) hw.1) (hs yx1 yS hI)
  exact key (μ x1 S + 1) x1 S (Nat.lt_succ_self _) h0
set_option maxRecDepth 100000 in
set_option maxHeartbeats 1000000 in
theorem s_Wa_init_36 (C : fcx gG D z A X R_Wa c_C_Wa_init 3 (none)) (hQ : X.2.2.2.2.2.2.2.2.2.2 = eQ gG D z X.2.2.2.2.2.2.2.1 X.2.2.2.2.1 L0 4 256 (Post)) (hA : A = owA gG L0 X.2.2.2.2.1.heap.size) (hR : X.2.2.2.1 = { frames := 2, cells := 5, slots := 262, locals := 200 }) (hP : ∀ S9 : cs, K S9 → Post (.returned none) (cw lt_C U oa S9)) (hu : c_cl U u = 12)  (S : cs) (hp : q_Wa_init_36 U u S K) : aw gG D z A X 3 36 [some (.ref (oa u)), none, none] [] (cw lt_C U oa S) 4 256 := by
  unfold q_Wa_init_36 at hp
  refine a_iconst (v := 0) C dc_Wa_init_36 (by decide) ?_
  refine a_istore_n (lo' := [some (.ref (oa u)), some (.int 0), none]) C dc_Wa_init_37 rfl (by decide) rfl ?_
  refine aw_lo (lo' := [some (.ref (oa u)), some (.int 0), none]) ⟨.inr rfl, .inr rfl, .inr rfl, trivial⟩ ?_
  exact se_Wa_init_38 C hQ hA hR hP hu 0 S  hp
end C_Wa_init
def ext_Wa_init : ut := [(902, 64), (902, 64), (902, 64), (904, 64)]
def p_Wa_init (U : ut) (u : Nat) (S : cs) (K : cs → Prop) : Prop :=
  fresh S U.length ∧ (¬ U.length = NU ∧ (fresh (c_pr S u 0 U.length) (U.length + 1) ∧ (¬ (U.length + 1) = NU ∧ (fresh (c_pr (c_pr S u 0 U.length) u 1 (U.length + 1)) (U.length + 2) ∧ (¬ (U.length + 2) = NU ∧ (fresh (c_pr (c_pr (c_pr S u 0 U.length) u 1 (U.length + 1)) u 2 (U.length + 2)) (U.length + 3) ∧ (¬ (U.length + 3) = NU ∧ (q_Wa_init_36 (U ++ ext_Wa_init) u (c_pr (c_pr (c_pr (c_pr S u 0 U.length) u 1 (U.length + 1)) u 2 (U.length + 2)) u 3 (U.length + 3)) K))))))))

section I_Wa_init
variable {D : va_G} {z : Nat → ClassId} {U : ut} {oa : Nat → Nat}
set_option maxRecDepth 100000 in
set_option maxHeartbeats 4000000 in
theorem ct_Wa_init {l : Launch} (u : Nat) (S : cs) {K : cs → Prop} (hu : c_cl U u = 12) (hp : p_Wa_init U u S K) : ct gG D z l n_C_Wa_init c_C_Wa_init 3 (none) 2 200 [.ref (oa u)] (cw lt_C U oa S) 4 256 (pC_n lt_C U ext_Wa_init oa K) := by
  refine ct_ofI (lo := [some (.ref (oa u)), none, none]) (by decide) g_ok (Nat.le_of_ble_eq_true rfl) rfl ?_
  intro X A _ C hR hQ hA _ hin
  unfold p_Wa_init at hp
  have hu0 := hu
  have hlt0 : u < U.length := c_lt hu0 (by decide)
  have hag : ∀ v, v < U.length → oa v = oa v := fun _ _ => rfl
  refine a_aload_n C dc_Wa_init_0 rfl rfl ?_
  refine a_obj C dc_Wa_init_1 l_Wa_3 oi_M oc_M (Nat.le_of_ble_eq_true rfl) (by rw [hR]; exact Nat.le_of_ble_eq_true rfl) (by rw [hR]; exact Nat.le_of_ble_eq_true rfl) ?_
  refine a_aload_n C dc_Wa_init_4 rfl rfl ?_
  refine a_bipush (v := 64) C dc_Wa_init_5 (by decide) ?_
  refine c_newa (ty := .int) (N := 64) (n := U.length) C 2 dc_Wa_init_7 ac_int rfl (C.kn.2 0 _ rfl).2 (fun _ => rfl) (by decide) (by decide) (by decide) (by decide) (by simp +arith only [List.length_append, List.length_cons, List.length_nil]) hp.1 (by rw [hR]; exact Nat.le_of_ble_eq_true rfl) (by rw [hR]; exact Nat.le_of_ble_eq_true rfl) (fun q7 => ?_)
  have hp := hp.2
  generalize hoa7 : va_up oa U.length q7 = oa7
  have hq7 : oa7 U.length = q7 := by rw [← hoa7]; exact up_at
  have hag : ∀ v, v < U.length → oa7 v = oa v := fun v hv => (show oa7 v = oa v by rw [← hoa7]; exact up_ne (Nat.ne_of_lt hv)).trans (hag v hv)
  rw [← hq7]
  have hz0 : oa7 u = oa u := (by rw [← hoa7]; exact up_ne (Nat.ne_of_lt hlt0))
  rw [← hz0]
  have hcn7 := c_clN (c := (902, 64)) (U := U) (n := U.length) (by simp +arith only [List.length_append, List.length_cons, List.length_nil])
  have hu := c_clA (V := [(902, 64)]) hu (by decide)
  refine c_putRF (ty := .array .int) C u 0 hin dc_Wa_init_9 hu rfl rfl (Nat.le_of_ble_eq_true rfl) f_Wa_9 rfl rfl rfl (fun _ => rfl) (fun _ => rfl) rfl rfl hp.1 ?_
  have hp := hp.2
  refine a_aload_n C dc_Wa_init_12 rfl rfl ?_
  refine a_bipush (v := 64) C dc_Wa_init_13 (by decide) ?_
  refine c_newa (ty := .int) (N := 64) (n := U.length + 1) C 2 dc_Wa_init_15 ac_int rfl (C.kn.2 0 _ rfl).2 (fun _ => rfl) (by decide) (by decide) (by decide) (by decide) (by simp +arith only [List.length_append, List.length_cons, List.length_nil]) hp.1 (by rw [hR]; exact Nat.le_of_ble_eq_true rfl) (by rw [hR]; exact Nat.le_of_ble_eq_true rfl) (fun q15 => ?_)
  have hp := hp.2
  generalize hoa15 : va_up oa7 (U.length + 1) q15 = oa15
  have hq15 : oa15 (U.length + 1) = q15 := by rw [← hoa15]; exact up_at
  have hag : ∀ v, v < U.length → oa15 v = oa v := fun v hv => (show oa15 v = oa7 v by rw [← hoa15]; exact up_ne (Nat.ne_of_lt (Nat.lt_of_lt_of_le hv (Nat.le_add_right _ _)))).trans (hag v hv)
  rw [← hq15]
  have hz1 : oa15 u = oa7 u := (by rw [← hoa15]; exact up_ne (Nat.ne_of_lt (Nat.lt_of_lt_of_le hlt0 (Nat.le_add_right _ _))))
  rw [← hz1]
  have hcn15 := c_clN (c := (902, 64)) (U := (U ++ [(902, 64)])) (n := U.length + 1) (by simp +arith only [List.length_append, List.length_cons, List.length_nil])
  have hu := c_clA (V := [(902, 64)]) hu (by decide)
  have hcn7 := c_clA (V := [(902, 64)]) hcn7 (by decide)
  refine c_putRF (ty := .array .int) C u 1 hin dc_Wa_init_17 hu rfl rfl (Nat.le_of_ble_eq_true rfl) f_Wa_15 rfl rfl rfl (fun _ => rfl) (fun _ => rfl) rfl rfl hp.1 ?_
  have hp := hp.2
  refine a_aload_n C dc_Wa_init_20 rfl rfl ?_
  refine a_bipush (v := 64) C dc_Wa_init_21 (by decide) ?_
  refine c_newa (ty := .int) (N := 64) (n := U.length + 2) C 2 dc_Wa_init_23 ac_int rfl (C.kn.2 0 _ rfl).2 (fun _ => rfl) (by decide) (by decide) (by decide) (by decide) (by simp +arith only [List.length_append, List.length_cons, List.length_nil]) hp.1 (by rw [hR]; exact Nat.le_of_ble_eq_true rfl) (by rw [hR]; exact Nat.le_of_ble_eq_true rfl) (fun q23 => ?_)
  have hp := hp.2
  generalize hoa23 : va_up oa15 (U.length + 2) q23 = oa23
  have hq23 : oa23 (U.length + 2) = q23 := by rw [← hoa23]; exact up_at
  have hag : ∀ v, v < U.length → oa23 v = oa v := fun v hv => (show oa23 v = oa15 v by rw [← hoa23]; exact up_ne (Nat.ne_of_lt (Nat.lt_of_lt_of_le hv (Nat.le_add_right _ _)))).trans (hag v hv)
  rw [← hq23]
  have hz2 : oa23 u = oa15 u := (by rw [← hoa23]; exact up_ne (Nat.ne_of_lt (Nat.lt_of_lt_of_le hlt0 (Nat.le_add_right _ _))))
  rw [← hz2]
  have hcn23 := c_clN (c := (902, 64)) (U := ((U ++ [(902, 64)]) ++ [(902, 64)])) (n := U.length + 2) (by simp +arith only [List.length_append, List.length_cons, List.length_nil])
  have hu := c_clA (V := [(902, 64)]) hu (by decide)
  have hcn7 := c_clA (V := [(902, 64)]) hcn7 (by decide)
  have hcn15 := c_clA (V := [(902, 64)]) hcn15 (by decide)
  refine c_putRF (ty := .array .int) C u 2 hin dc_Wa_init_25 hu rfl rfl (Nat.le_of_ble_eq_true rfl) f_Wa_18 rfl rfl rfl (fun _ => rfl) (fun _ => rfl) rfl rfl hp.1 ?_
  have hp := hp.2
  refine a_aload_n C dc_Wa_init_28 rfl rfl ?_
  refine a_bipush (v := 64) C dc_Wa_init_29 (by decide) ?_
  refine c_newa (ty := .long) (N := 64) (n := U.length + 3) C 4 dc_Wa_init_31 ac_long rfl (C.kn.2 2 _ rfl).2 (fun _ => rfl) (by decide) (by decide) (by decide) (by decide) (by simp +arith only [List.length_append, List.length_cons, List.length_nil]) hp.1 (by rw [hR]; exact Nat.le_of_ble_eq_true rfl) (by rw [hR]; exact Nat.le_of_ble_eq_true rfl) (fun q31 => ?_)
  have hp := hp.2
  generalize hoa31 : va_up oa23 (U.length + 3) q31 = oa31
  have hq31 : oa31 (U.length + 3) = q31 := by rw [← hoa31]; exact up_at
  have hag : ∀ v, v < U.length → oa31 v = oa v := fun v hv => (show oa31 v = oa23 v by rw [← hoa31]; exact up_ne (Nat.ne_of_lt (Nat.lt_of_lt_of_le hv (Nat.le_add_right _ _)))).trans (hag v hv)
  rw [← hq31]
  have hz3 : oa31 u = oa23 u := (by rw [← hoa31]; exact up_ne (Nat.ne_of_lt (Nat.lt_of_lt_of_le hlt0 (Nat.le_add_right _ _))))
  rw [← hz3]
  have hcn31 := c_clN (c := (904, 64)) (U := (((U ++ [(902, 64)]) ++ [(902, 64)]) ++ [(902, 64)])) (n := U.length + 3) (by simp +arith only [List.length_append, List.length_cons, List.length_nil])
  have hu := c_clA (V := [(904, 64)]) hu (by decide)
  have hcn7 := c_clA (V := [(904, 64)]) hcn7 (by decide)
  have hcn15 := c_clA (V := [(904, 64)]) hcn15 (by decide)
  have hcn23 := c_clA (V := [(904, 64)]) hcn23 (by decide)
  refine c_putRF (ty := .array .long) C u 3 hin dc_Wa_init_33 hu rfl rfl (Nat.le_of_ble_eq_true rfl) f_Wa_21 rfl rfl rfl (fun _ => rfl) (fun _ => rfl) rfl rfl hp.1 ?_
  have hp := hp.2
  refine aw_widen (nc' := 4) (ns' := 256) (Nat.le_of_ble_eq_true rfl) (Nat.le_of_ble_eq_true rfl) ?_
  refine aw_eq (lo' := _) (st' := _) (L' := (cw lt_C (U ++ ext_Wa_init) oa31 (c_pr (c_pr (c_pr (c_pr S u 0 U.length) u 1 (U.length + 1)) u 2 (U.length + 2)) u 3 (U.length + 3)))) rfl rfl (by simp only [ext_Wa_init, List.append_assoc, List.cons_append, List.nil_append, List.append_nil]) ?_
  exact s_Wa_init_36 C hQ hA hR (hP := fun S9 hS9 => ⟨oa31, S9, hS9, hag, rfl, rfl⟩) (by rw [ext_Wa_init]; simpa only [List.append_assoc, List.cons_append, List.nil_append, List.append_nil] using hu) (c_pr (c_pr (c_pr (c_pr S u 0 U.length) u 1 (U.length + 1)) u 2 (U.length + 2)) u 3 (U.length + 3)) hp
end I_Wa_init
