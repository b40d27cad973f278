def ext_Ca_init : ut := [(902, 12288)]
def p_Ca_init (U : ut) (u : Nat) (S : cs) (K : cs → Prop) : Prop :=
  fresh (c_pi (c_pi (c_pi S u 0 8) u 1 8) u 2 1) U.length ∧ (¬ U.length = NU ∧ (K (c_pr (c_pi (c_pi (c_pi S u 0 8) u 1 8) u 2 1) u 3 U.length)))

section I_Ca_init
variable {D : va_G} {z : Nat → ClassId} {U : ut} {oa : Nat → Nat}
set_option maxRecDepth 100000 in
set_option maxHeartbeats 4000000 in
theorem ct_Ca_init {l : Launch} (u : Nat) (S : cs) {K : cs → Prop} (hu : c_cl U u = 2) (hp : p_Ca_init U u S K) : ct gG D z l n_C_Ca_init c_C_Ca_init 1 (none) 2 200 [.ref (oa u)] (cw lt_C U oa S) 1 12288 (pC_n lt_C U ext_Ca_init oa K) := by
  refine ct_ofI (lo := [some (.ref (oa u))]) (by decide) g_ok (Nat.le_of_ble_eq_true rfl) rfl ?_
  intro X A _ C hR hQ hA _ hin
  unfold p_Ca_init at hp
  have hu0 := hu
  have hag : ∀ v, v < U.length → oa v = oa v := fun _ _ => rfl
  refine a_aload_n C dc_Ca_init_0 rfl rfl ?_
  refine a_obj C dc_Ca_init_1 l_Ca_3 oi_M oc_M (Nat.le_of_ble_eq_true rfl) (by rw [hR]; exact Nat.le_of_ble_eq_true rfl) (by rw [hR]; exact Nat.le_of_ble_eq_true rfl) ?_
  refine a_aload_n C dc_Ca_init_4 rfl rfl ?_
  refine a_bipush (v := 8) C dc_Ca_init_5 (by decide) ?_
  refine c_putI (ty := .int) C u 0 dc_Ca_init_7 hu rfl rfl (Nat.le_of_ble_eq_true rfl) f_Ca_9 (Nat.le_of_ble_eq_true rfl) rfl rfl rfl rfl ?_
  refine a_aload_n C dc_Ca_init_10 rfl rfl ?_
  refine a_bipush (v := 8) C dc_Ca_init_11 (by decide) ?_
  refine c_putI (ty := .int) C u 1 dc_Ca_init_13 hu rfl rfl (Nat.le_of_ble_eq_true rfl) f_Ca_15 (Nat.le_of_ble_eq_true rfl) rfl rfl rfl rfl ?_
  refine a_aload_n C dc_Ca_init_16 rfl rfl ?_
  refine a_iconst (v := 1) C dc_Ca_init_17 (by decide) ?_
  refine c_putI (ty := .int) C u 2 dc_Ca_init_18 hu rfl rfl (Nat.le_of_ble_eq_true rfl) f_Ca_18 (Nat.le_of_ble_eq_true rfl) rfl rfl rfl rfl ?_
  refine a_aload_n C dc_Ca_init_21 rfl rfl ?_
  refine a_sipush (v := 12288) C dc_Ca_init_22 (by decide) ?_
  refine c_newa (ty := .int) (N := 12288) (n := U.length) C 2 dc_Ca_init_25 ac_int rfl (C.kn.2 0 _ rfl).2 (fun _ => rfl) (by decide) (by decide) (by decide) (by decide) (by first | rfl | (simp only [List.length_append, List.length_cons, List.length_nil]; omega)) hp.1 (by rw [hR]; exact Nat.le_of_ble_eq_true rfl) (by rw [hR]; exact Nat.le_of_ble_eq_true rfl) (fun q25 => ?_)
  have hp := hp.2
  generalize hoa25 : va_up oa U.length q25 = oa25
  have hq25 : oa25 U.length = q25 := by rw [← hoa25]; exact up_at
  have hag : ∀ v, v < U.length → oa25 v = oa v := fun v hv => (show oa25 v = oa v by rw [← hoa25]; exact up_ne (by omega)).trans (hag v hv)
  rw [← hq25]
  have hz0 : oa25 u = oa u := (by rw [← hoa25]; exact up_ne (by have := c_lt hu0 (by decide); omega))
  rw [← hz0]
  have hcn25 := c_clN (c := (902, 12288)) (U := U) (n := U.length) (by first | rfl | (simp only [List.length_append, List.length_cons, List.length_nil]; omega))
  have hu := c_clA (V := [(902, 12288)]) hu (by decide)
  refine c_putRF (ty := .array .int) C u 3 hin dc_Ca_init_27 hu rfl rfl (Nat.le_of_ble_eq_true rfl) f_Ca_21 rfl rfl rfl (fun _ => rfl) (fun _ => rfl) rfl rfl hp.1 ?_
  have hp := hp.2
  refine aw_widen (nc' := 1) (ns' := 12288) (Nat.le_of_ble_eq_true rfl) (Nat.le_of_ble_eq_true rfl) ?_
  refine aw_eq (lo' := _) (st' := _) (L' := (cw lt_C (U ++ ext_Ca_init) oa25 (c_pr (c_pi (c_pi (c_pi S u 0 8) u 1 8) u 2 1) u 3 U.length))) rfl rfl (by simp only [ext_Ca_init, List.append_assoc, List.cons_append, List.nil_append, List.append_nil]) ?_
  exact a_vret C hQ hA dc_Ca_init_30 rfl ⟨oa25, (c_pr (c_pi (c_pi (c_pi S u 0 8) u 1 8) u 2 1) u 3 U.length), hp, hag, rfl, rfl⟩
end I_Ca_init
def p_Ro_init (U : ut) (u : Nat) (x1 : Int32) (S : cs) (N : Nat) (K : cs → Prop) : Prop :=
  fresh S U.length ∧ (¬ U.length = NU ∧ (K (c_pr S u 0 U.length)))
section I_Ro_init
variable {D : va_G} {z : Nat → ClassId} {U : ut} {oa : Nat → Nat}
set_option maxRecDepth 100000 in
set_option maxHeartbeats 4000000 in
theorem ct_Ro_init {l : Launch} (u : Nat) (x1 : Int32) (S : cs) (N : Nat) (hN : (i_max 0 x1).toNatClampNeg = N) (hm : ¬ i_max 0 x1 < 0) (hb4 : N * 4 ≤ 536870912) {K : cs → Prop} (hu : c_cl U u = 9) (hp : p_Ro_init U u x1 S N K) : ct gG D z l n_C_Ro_init c_C_Ro_init 2 (none) 2 200 [.ref (oa u), .int x1] (cw lt_C U oa S) 1 N (pC_n lt_C U [(902, N)] oa K) := by
  refine ct_ofI (lo := [some (.ref (oa u)), some (.int x1)]) (by decide) g_ok (Nat.le_of_ble_eq_true rfl) rfl ?_
  intro X A _ C hR hQ hA _ hin
  unfold p_Ro_init at hp
  have hu0 := hu
  refine a_aload_n C dc_Ro_init_0 rfl rfl ?_
  refine a_obj C dc_Ro_init_1 l_Ro_1 oi_M oc_M (Nat.le_of_ble_eq_true rfl) (by rw [hR]; exact Nat.le_of_ble_eq_true rfl) (by rw [hR]; exact Nat.le_of_ble_eq_true rfl) ?_
  refine a_aload_n C dc_Ro_init_4 rfl rfl ?_
  refine a_iconst (v := 0) C dc_Ro_init_5 (by decide) ?_
  refine a_iload_n C dc_Ro_init_6 rfl rfl ?_
  refine a_mx C dc_Ro_init_7 l_Ro_7 st_Ma_max i_Ma cd_Ma_max (Nat.le_of_ble_eq_true rfl) (by rw [hR]; exact Nat.le_of_ble_eq_true rfl) (by rw [hR]; exact Nat.le_of_ble_eq_true rfl) (by rw [hR]; exact Nat.zero_le _) (by rw [hR]; exact Nat.zero_le _) ?_
  refine c_newa (ty := .int) (N := N) (n := U.length) C 2 dc_Ro_init_10 ac_int rfl (C.kn.2 0 _ rfl).2 (fun _ => rfl) hm hN (by show N * 4 ≤ _; exact hb4) (by decide) rfl hp.1 (by rw [hR]; show 0 + 1 ≤ 1 + 1; omega) (by rw [hR]; show 0 + N ≤ N + 6; omega) (fun q => ?_)
  have hp := hp.2
  have hlt := c_lt hu0 (by decide)
  generalize hoa1 : va_up oa U.length q = oa1
  have hq : oa1 U.length = q := by rw [← hoa1]; exact up_at
  have hag : ∀ v, v < U.length → oa1 v = oa v := fun v hv => by rw [← hoa1]; exact up_ne (by omega)
  rw [← hq]
  have hz : oa1 u = oa u := hag u hlt
  rw [← hz]
  have hu := c_clA (V := [(902, N)]) hu (by decide)
  refine c_putRF (ty := .array .int) C u 0 hin dc_Ro_init_12 hu rfl rfl (Nat.le_of_ble_eq_true rfl) f_Ro_13 rfl rfl rfl (fun _ => rfl) (fun _ => rfl) rfl rfl hp.1 ?_
  have hp := hp.2
  refine aw_widen (nc' := 1) (ns' := N) (Nat.le_refl _) (by show 0 + N ≤ N; omega) ?_
  exact a_vret C hQ hA dc_Ro_init_15 rfl ⟨oa1, _, hp, hag, rfl, rfl⟩
end I_Ro_init

def b_Wa_init_82 (U : ut) (u : Nat) (x1 : Int32) (s0 : Nat) (s1 : Int32) (s2 : Int32) (S : cs) (R38 : Int32 → cs → Prop) (K : cs → Prop) : Prop :=
  c_cl U s0 = 902 ∧ (vp_in s1 (c_ln U s0) ∧ (R38 (x1 + 1) (va_up S.1 s0 (upd (S.1 s0) s1.toNatClampNeg s2), S.2.1, S.2.2)))
def b_Wa_init_38 (U : ut) (u : Nat) (x1 : Int32) (S : cs) (R38 : Int32 → cs → Prop) (K : cs → Prop) : Prop :=
  (64 ≤ x1 → (K S)) ∧ (¬ (64 ≤ x1) → (¬ S.2.2 u 0 = NU ∧ ((¬ (x1 / 8) = 0 → (p_Wa_wave ((((2 * (x1 - x1 / 8 * 8)) + 1) * (x1 / 8)) - (((2 * (x1 - x1 / 8 * 8)) + 1) * (x1 / 8)) / 32 * 32) (fun v79 => b_Wa_init_82 U u x1 (S.2.2 u 0) x1 v79 S R38 K))) ∧ ((x1 / 8) = 0 → (vp_in 4 9 ∧ (b_Wa_init_82 U u x1 (S.2.2 u 0) x1 (rw_at row_qu (4 : Int32).toNatClampNeg) S R38 K))))))
def e_Wa_init_38 (U : ut) (u : Nat) (x1 : Int32) (S : cs) (K : cs → Prop) : Prop :=
  ∃ (I : Int32 → cs → Prop) (μ : Int32 → cs → Nat), I x1 S ∧ ∀ yx1 yS, I yx1 yS → b_Wa_init_38 U u yx1 yS (fun zx1 zS => I zx1 zS ∧ μ zx1 zS < μ yx1 yS) K
def q_Wa_init_36 (U : ut) (u : Nat)  (S : cs) (K : cs → Prop) : Prop :=
  e_Wa_init_38 U u 0 S K
section C_Wa_init
variable {D : va_G} {z : Nat → ClassId} {A : Nat → Prop} {X : cx} {L0 : fw} {U : ut} {oa : Nat → Nat} {u : Nat} {K : cs → Prop} {Post : Outcome → fw → Prop}
set_option maxRecDepth 100000 in
set_option maxHeartbeats 1000000 in
theorem s_Wa_init_82 (C : fcx gG D z A X R_Wa c_C_Wa_init 3 (none)) (hQ : X.2.2.2.2.2.2.2.2.2.2 = eQ gG D z X.2.2.2.2.2.2.2.1 X.2.2.2.2.1 L0 4 256 (Post)) (hA : A = owA gG L0 X.2.2.2.2.1.heap.size) (hR : X.2.2.2.1 = { frames := 2, cells := 5, slots := 262, locals := 200 }) (hP : ∀ S9 : cs, K S9 → Post (.returned none) (cw lt_C U oa S9)) (hu : c_cl U u = 12) (x1 : Int32) (s0 : Nat) (s1 : Int32) (s2 : Int32) (S : cs) (R38 : Int32 → cs → Prop) (hR38 : ∀ yx1 yS, R38 yx1 yS → aw gG D z A X 3 38 [some (.ref (oa u)), some (.int yx1), none] [] (cw lt_C U oa yS) 4 256) (hp : b_Wa_init_82 U u x1 s0 s1 s2 S R38 K) : aw gG D z A X 3 82 [some (.ref (oa u)), some (.int x1), none] [.int s2, .int s1, .ref (oa s0)] (cw lt_C U oa S) 4 256 := by
  unfold b_Wa_init_82 at hp
  have hc1 := hp.1
  have hp := hp.2
  refine c_iast C s0 dc_Wa_init_82 hc1 hp.1 ?_
  have hp := hp.2
  refine aw_eq (lo' := _) (st' := _) (L' := (cw lt_C U oa (va_up S.1 s0 (upd (S.1 s0) s1.toNatClampNeg s2), S.2.1, S.2.2))) rfl rfl rfl ?_
  refine a_iinc (v := x1 + 1) (lo' := [some (.ref (oa u)), some (.int (x1 + 1)), none]) C dc_Wa_init_83 rfl rfl (by decide) rfl ?_
  refine a_goto (tgt := 38) C dc_Wa_init_86 (by decide) ?_
  refine aw_lo (lo' := [some (.ref (oa u)), some (.int (x1 + 1)), none]) ⟨.inr rfl, .inr rfl, .inr rfl, trivial⟩ ?_
  exact hR38 (x1 + 1) (va_up S.1 s0 (upd (S.1 s0) s1.toNatClampNeg s2), S.2.1, S.2.2) hp
set_option maxRecDepth 100000 in
set_option maxHeartbeats 1000000 in
theorem s_Wa_init_38 (C : fcx gG D z A X R_Wa c_C_Wa_init 3 (none)) (hQ : X.2.2.2.2.2.2.2.2.2.2 = eQ gG D z X.2.2.2.2.2.2.2.1 X.2.2.2.2.1 L0 4 256 (Post)) (hA : A = owA gG L0 X.2.2.2.2.1.heap.size) (hR : X.2.2.2.1 = { frames := 2, cells := 5, slots := 262, locals := 200 }) (hP : ∀ S9 : cs, K S9 → Post (.returned none) (cw lt_C U oa S9)) (hu : c_cl U u = 12) (x1 : Int32) (S : cs) (R38 : Int32 → cs → Prop) (hR38 : ∀ yx1 yS, R38 yx1 yS → aw gG D z A X 3 38 [some (.ref (oa u)), some (.int yx1), none] [] (cw lt_C U oa yS) 4 256) (hp : b_Wa_init_38 U u x1 S R38 K) : aw gG D z A X 3 38 [some (.ref (oa u)), some (.int x1), none] [] (cw lt_C U oa S) 4 256 := by
  unfold b_Wa_init_38 at hp
  refine a_iload_n C dc_Wa_init_38 rfl rfl ?_
  refine a_bipush (v := 64) C dc_Wa_init_39 (by decide) ?_
  refine a_icmp_ge (tgt := 89) C dc_Wa_init_41 (by decide) ⟨fun hc => ?_, fun hc => ?_⟩
  · have hp := hp.1 hc
    exact a_vret C hQ hA dc_Wa_init_89 rfl (hP _ hp)
  · have hp := hp.2 hc
    refine a_iload_n C dc_Wa_init_44 rfl rfl ?_
    refine a_bipush (v := 8) C dc_Wa_init_45 (by decide) ?_
    refine a_idiv C dc_Wa_init_47 (by decide) ?_
    refine a_istore_n (lo' := [some (.ref (oa u)), some (.int x1), some (.int (x1 / 8))]) C dc_Wa_init_48 rfl (by decide) rfl ?_
    refine a_aload_n C dc_Wa_init_49 rfl rfl ?_
    refine c_getR C u 0 dc_Wa_init_50 hu rfl rfl (Nat.le_of_ble_eq_true rfl) f_Wa_9 rfl hp.1 ?_
    have hp := hp.2
    refine a_iload_n C dc_Wa_init_53 rfl rfl ?_
    refine a_iload_n C dc_Wa_init_54 rfl rfl ?_
    refine a_if_ne (tgt := 66) C dc_Wa_init_55 (by decide) ⟨fun hc => ?_, fun hc => ?_⟩
    · have hp := hp.1 hc
      refine a_iconst (v := 2) C dc_Wa_init_66 (by decide) ?_
      refine a_iload_n C dc_Wa_init_67 rfl rfl ?_
      refine a_bipush (v := 8) C dc_Wa_init_68 (by decide) ?_
      refine a_irem C dc_Wa_init_70 (by decide) ?_
      refine a_imul C dc_Wa_init_71 ?_
      refine a_iconst (v := 1) C dc_Wa_init_72 (by decide) ?_
      refine a_iadd C dc_Wa_init_73 ?_
      refine a_iload_n C dc_Wa_init_74 rfl rfl ?_
      refine a_imul C dc_Wa_init_75 ?_
      refine a_bipush (v := 32) C dc_Wa_init_76 (by decide) ?_
      refine a_irem C dc_Wa_init_78 (by decide) ?_
      refine a_callP (rest := [.int x1, .ref (oa (S.2.2 u 0))]) (av := [.int ((((2 * (x1 - x1 / 8 * 8)) + 1) * (x1 / 8)) - (((2 * (x1 - x1 / 8 * 8)) + 1) * (x1 / 8)) / 32 * 32)]) C dc_Wa_init_79 (ct_Wa_wave ((((2 * (x1 - x1 / 8 * 8)) + 1) * (x1 / 8)) - (((2 * (x1 - x1 / 8 * 8)) + 1) * (x1 / 8)) / 32 * 32) hp) cd_C_Wa_wave i_Wa (Nat.le_of_ble_eq_true rfl) (by rw [hR]; exact Nat.le_of_ble_eq_true rfl) (by rw [hR]; exact Nat.le_of_ble_eq_true rfl) (by rw [hR]; exact Nat.le_of_ble_eq_true rfl) (by rw [hR]; exact Nat.le_of_ble_eq_true rfl) (inv_S C dc_Wa_init_79 l_Wa_28 st_C_Wa_wave i_Wa cd_C_Wa_wave ⟨by decide, by decide⟩ ln_C_Wa_wave rfl) (fun v79 hp => ?_)
      refine aw_eq (lo' := _) (st' := [.int v79, .int x1, .ref (oa (S.2.2 u 0))]) (L' := (cw lt_C U oa S)) rfl rfl rfl ?_
      refine aw_lo (lo' := [some (.ref (oa u)), some (.int x1), none]) ⟨.inr rfl, .inr rfl, .inl rfl, trivial⟩ ?_
      exact s_Wa_init_82 C hQ hA hR hP hu x1 (S.2.2 u 0) x1 v79 S R38 hR38 hp
    · have hp := hp.2 hc
      obtain ⟨t58, hZ58, hT58⟩ := C.sx.2.1
      refine a_gets C dc_Wa_init_58 hZ58 f_Wa_25 ?_
      refine a_iconst (v := 4) C dc_Wa_init_61 (by decide) ?_
      refine a_tld C dc_Wa_init_62 hT58 hp.1 ?_
      have hp := hp.2
      refine a_goto (tgt := 82) C dc_Wa_init_63 (by decide) ?_
      refine aw_lo (lo' := [some (.ref (oa u)), some (.int x1), none]) ⟨.inr rfl, .inr rfl, .inl rfl, trivial⟩ ?_
      exact s_Wa_init_82 C hQ hA hR hP hu x1 (S.2.2 u 0) x1 (rw_at row_qu (4 : Int32).toNatClampNeg) S R38 hR38 hp
set_option maxRecDepth 100000 in
set_option maxHeartbeats 1000000 in
theorem se_Wa_init_38 (C : fcx gG D z A X R_Wa c_C_Wa_init 3 (none)) (hQ : X.2.2.2.2.2.2.2.2.2.2 = eQ gG D z X.2.2.2.2.2.2.2.1 X.2.2.2.2.1 L0 4 256 (Post)) (hA : A = owA gG L0 X.2.2.2.2.1.heap.size) (hR : X.2.2.2.1 = { frames := 2, cells := 5, slots := 262, locals := 200 }) (hP : ∀ S9 : cs, K S9 → Post (.returned none) (cw lt_C U oa S9)) (hu : c_cl U u = 12) (x1 : Int32) (S : cs) (hp : e_Wa_init_38 U u x1 S K) : aw gG D z A X 3 38 [some (.ref (oa u)), some (.int x1), none] [] (cw lt_C U oa S) 4 256 := by
  obtain ⟨I, μ, h0, hs⟩ := hp
  have key : ∀ (n : Nat) (yx1 : Int32) (yS : cs), μ yx1 yS < n → I yx1 yS → aw gG D z A X 3 38 [some (.ref (oa u)), some (.int yx1), none] [] (cw lt_C U oa yS) 4 256 := by
    intro n
    induction n with
    | zero => intro yx1 yS h; omega
    | succ n ih =>
      intro yx1 yS hn hI
      exact s_Wa_init_38 C hQ hA hR hP hu yx1 yS _ (fun zx1 zS hw => ih zx1 zS (by omega) hw.1) (hs yx1 yS hI)
  exact key (μ x1 S + 1) x1 S (Nat.lt_succ_self _) h0
set_option maxRecDepth 100000 in
set_option maxHeartbeats 1000000 in
theorem s_Wa_init_36 (C : fcx gG D z A X R_Wa c_C_Wa_init 3 (none)) (hQ : X.2.2.2.2.2.2.2.2.2.2 = eQ gG D z X.2.2.2.2.2.2.2.1 X.2.2.2.2.1 L0 4 256 (Post)) (hA : A = owA gG L0 X.2.2.2.2.1.heap.size) (hR : X.2.2.2.1 = { frames := 2, cells := 5, slots := 262, locals := 200 }) (hP : ∀ S9 : cs, K S9 → Post (.returned none) (cw lt_C U oa S9)) (hu : c_cl U u = 12)  (S : cs) (hp : q_Wa_init_36 U u S K) : aw gG D z A X 3 36 [some (.ref (oa u)), none, none] [] (cw lt_C U oa S) 4 256 := by
  unfold q_Wa_init_36 at hp
  refine a_iconst (v := 0) C dc_Wa_init_36 (by decide) ?_
  refine a_istore_n (lo' := [some (.ref (oa u)), some (.int 0), none]) C dc_Wa_init_37 rfl (by decide) rfl ?_
  refine aw_lo (lo' := [some (.ref (oa u)), some (.int 0), none]) ⟨.inr rfl, .inr rfl, .inr rfl, trivial⟩ ?_
  exact se_Wa_init_38 C hQ hA hR hP hu 0 S  hp
end C_Wa_init
def ext_Wa_init : ut := [(902, 64), (902, 64), (902, 64), (904, 64)]
def p_Wa_init (U : ut) (u : Nat) (S : cs) (K : cs → Prop) : Prop :=
  fresh S U.length ∧ (¬ U.length = NU ∧ (fresh (c_pr S u 0 U.length) (U.length + 1) ∧ (¬ (U.length + 1) = NU ∧ (fresh (c_pr (c_pr S u 0 U.length) u 1 (U.length + 1)) (U.length + 2) ∧ (¬ (U.length + 2) = NU ∧ (fresh (c_pr (c_pr (c_pr S u 0 U.length) u 1 (U.length + 1)) u 2 (U.length + 2)) (U.length + 3) ∧ (¬ (U.length + 3) = NU ∧ (q_Wa_init_36 (U ++ ext_Wa_init) u (c_pr (c_pr (c_pr (c_pr S u 0 U.length) u 1 (U.length + 1)) u 2 (U.length + 2)) u 3 (U.length + 3)) K))))))))

section I_Wa_init
variable {D : va_G} {z : Nat → ClassId} {U : ut} {oa : Nat → Nat}
set_option maxRecDepth 100000 in
set_option maxHeartbeats 4000000 in
theorem ct_Wa_init {l : Launch} (u : Nat) (S : cs) {K : cs → Prop} (hu : c_cl U u = 12) (hp : p_Wa_init U u S K) : ct gG D z l n_C_Wa_init c_C_Wa_init 3 (none) 2 200 [.ref (oa u)] (cw lt_C U oa S) 4 256 (pC_n lt_C U ext_Wa_init oa K) := by
  refine ct_ofI (lo := [some (.ref (oa u)), none, none]) (by decide) g_ok (Nat.le_of_ble_eq_true rfl) rfl ?_
  intro X A _ C hR hQ hA _ hin
  unfold p_Wa_init at hp
  have hu0 := hu
  have hag : ∀ v, v < U.length → oa v = oa v := fun _ _ => rfl
  refine a_aload_n C dc_Wa_init_0 rfl rfl ?_
  refine a_obj C dc_Wa_init_1 l_Wa_3 oi_M oc_M (Nat.le_of_ble_eq_true rfl) (by rw [hR]; exact Nat.le_of_ble_eq_true rfl) (by rw [hR]; exact Nat.le_of_ble_eq_true rfl) ?_
  refine a_aload_n C dc_Wa_init_4 rfl rfl ?_
  refine a_bipush (v := 64) C dc_Wa_init_5 (by decide) ?_
  refine c_newa (ty := .int) (N := 64) (n := U.length) C 2 dc_Wa_init_7 ac_int rfl (C.kn.2 0 _ rfl).2 (fun _ => rfl) (by decide) (by decide) (by decide) (by decide) (by first | rfl | (simp only [List.length_append, List.length_cons, List.length_nil]; omega)) hp.1 (by rw [hR]; exact Nat.le_of_ble_eq_true rfl) (by rw [hR]; exact Nat.le_of_ble_eq_true rfl) (fun q7 => ?_)
  have hp := hp.2
  generalize hoa7 : va_up oa U.length q7 = oa7
  have hq7 : oa7 U.length = q7 := by rw [← hoa7]; exact up_at
  have hag : ∀ v, v < U.length → oa7 v = oa v := fun v hv => (show oa7 v = oa v by rw [← hoa7]; exact up_ne (by omega)).trans (hag v hv)
  rw [← hq7]
  have hz0 : oa7 u = oa u := (by rw [← hoa7]; exact up_ne (by have := c_lt hu0 (by decide); omega))
  rw [← hz0]
  have hcn7 := c_clN (c := (902, 64)) (U := U) (n := U.length) (by first | rfl | (simp only [List.length_append, List.length_cons, List.length_nil]; omega))
  have hu := c_clA (V := [(902, 64)]) hu (by decide)
  refine c_putRF (ty := .array .int) C u 0 hin dc_Wa_init_9 hu rfl rfl (Nat.le_of_ble_eq_true rfl) f_Wa_9 rfl rfl rfl (fun _ => rfl) (fun _ => rfl) rfl rfl hp.1 ?_
  have hp := hp.2
  refine a_aload_n C dc_Wa_init_12 rfl rfl ?_
  refine a_bipush (v := 64) C dc_Wa_init_13 (by decide) ?_
  refine c_newa (ty := .int) (N := 64) (n := U.length + 1) C 2 dc_Wa_init_15 ac_int rfl (C.kn.2 0 _ rfl).2 (fun _ => rfl) (by decide) (by decide) (by decide) (by decide) (by first | rfl | (simp only [List.length_append, List.length_cons, List.length_nil]; omega)) hp.1 (by rw [hR]; exact Nat.le_of_ble_eq_true rfl) (by rw [hR]; exact Nat.le_of_ble_eq_true rfl) (fun q15 => ?_)
  have hp := hp.2
  generalize hoa15 : va_up oa7 (U.length + 1) q15 = oa15
  have hq15 : oa15 (U.length + 1) = q15 := by rw [← hoa15]; exact up_at
  have hag : ∀ v, v < U.length → oa15 v = oa v := fun v hv => (show oa15 v = oa7 v by rw [← hoa15]; exact up_ne (by omega)).trans (hag v hv)
  rw [← hq15]
  have hz1 : oa15 u = oa7 u := (by rw [← hoa15]; exact up_ne (by have := c_lt hu0 (by decide); omega))
  rw [← hz1]
  have hcn15 := c_clN (c := (902, 64)) (U := (U ++ [(902, 64)])) (n := U.length + 1) (by first | rfl | (simp only [List.length_append, List.length_cons, List.length_nil]; omega))
  have hu := c_clA (V := [(902, 64)]) hu (by decide)
  have hcn7 := c_clA (V := [(902, 64)]) hcn7 (by decide)
  refine c_putRF (ty := .array .int) C u 1 hin dc_Wa_init_17 hu rfl rfl (Nat.le_of_ble_eq_true rfl) f_Wa_15 rfl rfl rfl (fun _ => rfl) (fun _ => rfl) rfl rfl hp.1 ?_
  have hp := hp.2
  refine a_aload_n C dc_Wa_init_20 rfl rfl ?_
  refine a_bipush (v := 64) C dc_Wa_init_21 (by decide) ?_
  refine c_newa (ty := .int) (N := 64) (n := U.length + 2) C 2 dc_Wa_init_23 ac_int rfl (C.kn.2 0 _ rfl).2 (fun _ => rfl) (by decide) (by decide) (by decide) (by decide) (by first | rfl | (simp only [List.length_append, List.length_cons, List.length_nil]; omega)) hp.1 (by rw [hR]; exact Nat.le_of_ble_eq_true rfl) (by rw [hR]; exact Nat.le_of_ble_eq_true rfl) (fun q23 => ?_)
  have hp := hp.2
  generalize hoa23 : va_up oa15 (U.length + 2) q23 = oa23
  have hq23 : oa23 (U.length + 2) = q23 := by rw [← hoa23]; exact up_at
  have hag : ∀ v, v < U.length → oa23 v = oa v := fun v hv => (show oa23 v = oa15 v by rw [← hoa23]; exact up_ne (by omega)).trans (hag v hv)
  rw [← hq23]
  have hz2 : oa23 u = oa15 u := (by rw [← hoa23]; exact up_ne (by have := c_lt hu0 (by decide); omega))
  rw [← hz2]
  have hcn23 := c_clN (c := (902, 64)) (U := ((U ++ [(902, 64)]) ++ [(902, 64)])) (n := U.length + 2) (by first | rfl | (simp only [List.length_append, List.length_cons, List.length_nil]; omega))
  have hu := c_clA (V := [(902, 64)]) hu (by decide)
  have hcn7 := c_clA (V := [(902, 64)]) hcn7 (by decide)
  have hcn15 := c_clA (V := [(902, 64)]) hcn15 (by decide)
  refine c_putRF (ty := .array .int) C u 2 hin dc_Wa_init_25 hu rfl rfl (Nat.le_of_ble_eq_true rfl) f_Wa_18 rfl rfl rfl (fun _ => rfl) (fun _ => rfl) rfl rfl hp.1 ?_
  have hp := hp.2
  refine a_aload_n C dc_Wa_init_28 rfl rfl ?_
  refine a_bipush (v := 64) C dc_Wa_init_29 (by decide) ?_
  refine c_newa (ty := .long) (N := 64) (n := U.length + 3) C 4 dc_Wa_init_31 ac_long rfl (C.kn.2 2 _ rfl).2 (fun _ => rfl) (by decide) (by decide) (by decide) (by decide) (by first | rfl | (simp only [List.length_append, List.length_cons, List.length_nil]; omega)) hp.1 (by rw [hR]; exact Nat.le_of_ble_eq_true rfl) (by rw [hR]; exact Nat.le_of_ble_eq_true rfl) (fun q31 => ?_)
  have hp := hp.2
  generalize hoa31 : va_up oa23 (U.length + 3) q31 = oa31
  have hq31 : oa31 (U.length + 3) = q31 := by rw [← hoa31]; exact up_at
  have hag : ∀ v, v < U.length → oa31 v = oa v := fun v hv => (show oa31 v = oa23 v by rw [← hoa31]; exact up_ne (by omega)).trans (hag v hv)
  rw [← hq31]
  have hz3 : oa31 u = oa23 u := (by rw [← hoa31]; exact up_ne (by have := c_lt hu0 (by decide); omega))
  rw [← hz3]
  have hcn31 := c_clN (c := (904, 64)) (U := (((U ++ [(902, 64)]) ++ [(902, 64)]) ++ [(902, 64)])) (n := U.length + 3) (by first | rfl | (simp only [List.length_append, List.length_cons, List.length_nil]; omega))
  have hu := c_clA (V := [(904, 64)]) hu (by decide)
  have hcn7 := c_clA (V := [(904, 64)]) hcn7 (by decide)
  have hcn15 := c_clA (V := [(904, 64)]) hcn15 (by decide)
  have hcn23 := c_clA (V := [(904, 64)]) hcn23 (by decide)
  refine c_putRF (ty := .array .long) C u 3 hin dc_Wa_init_33 hu rfl rfl (Nat.le_of_ble_eq_true rfl) f_Wa_21 rfl rfl rfl (fun _ => rfl) (fun _ => rfl) rfl rfl hp.1 ?_
  have hp := hp.2
  refine aw_widen (nc' := 4) (ns' := 256) (Nat.le_of_ble_eq_true rfl) (Nat.le_of_ble_eq_true rfl) ?_
  refine aw_eq (lo' := _) (st' := _) (L' := (cw lt_C (U ++ ext_Wa_init) oa31 (c_pr (c_pr (c_pr (c_pr S u 0 U.length) u 1 (U.length + 1)) u 2 (U.length + 2)) u 3 (U.length + 3)))) rfl rfl (by simp only [ext_Wa_init, List.append_assoc, List.cons_append, List.nil_append, List.append_nil]) ?_
  exact s_Wa_init_36 C hQ hA hR (hP := fun S9 hS9 => ⟨oa31, S9, hS9, hag, rfl, rfl⟩) (by rw [ext_Wa_init]; simpa only [List.append_assoc, List.cons_append, List.nil_append, List.append_nil] using hu) (c_pr (c_pr (c_pr (c_pr S u 0 U.length) u 1 (U.length + 1)) u 2 (U.length + 2)) u 3 (U.length + 3)) hp
end I_Wa_init
def ext_Pi_init : ut := [(902, 3), (902, 3), (902, 3), (902, 3), (902, 3), (902, 3), (902, 12288), (902, 192), (902, 12288)]
def p_Pi_init (U : ut) (u : Nat) (S : cs) (K : cs → Prop) : Prop :=
  fresh (c_pi (c_pi (c_pi S u 0 1) u 1 1) u 2 1) U.length ∧ (vp_in 0 (c_ln (U ++ [(902, 3)]) U.length) ∧ (vp_in 1 (c_ln (U ++ [(902, 3)]) U.length) ∧ (vp_in 2 (c_ln (U ++ [(902, 3)]) U.length) ∧ (¬ U.length = NU ∧ (fresh (c_pr (c_pi (c_pi (c_pi (c_pi (c_pi (c_pi S u 0 1) u 1 1) u 2 1) U.length (0 : Int32).toNatClampNeg 1) U.length (1 : Int32).toNatClampNeg 1) U.length (2 : Int32).toNatClampNeg 1) u 3 U.length) (U.length + 1) ∧ (vp_in 0 (c_ln ((U ++ [(902, 3)]) ++ [(902, 3)]) (U.length + 1)) ∧ (vp_in 1 (c_ln ((U ++ [(902, 3)]) ++ [(902, 3)]) (U.length + 1)) ∧ (vp_in 2 (c_ln ((U ++ [(902, 3)]) ++ [(902, 3)]) (U.length + 1)) ∧ (¬ (U.length + 1) = NU ∧ (fresh (c_pi (c_pi (c_pi (c_pi (c_pr (c_pi (c_pi (c_pi (c_pr (c_pi (c_pi (c_pi (c_pi (c_pi (c_pi S u 0 1) u 1 1) u 2 1) U.length (0 : Int32).toNatClampNeg 1) U.length (1 : Int32).toNatClampNeg 1) U.length (2 : Int32).toNatClampNeg 1) u 3 U.length) (U.length + 1) (0 : Int32).toNatClampNeg 1) (U.length + 1) (1 : Int32).toNatClampNeg 1) (U.length + 1) (2 : Int32).toNatClampNeg 1) u 4 (U.length + 1)) u 5 1) u 6 1) u 7 1) u 8 1) (U.length + 2) ∧ (¬ (U.length + 2) = NU ∧ (fresh (c_pr (c_pi (c_pi (c_pi (c_pi (c_pr (c_pi (c_pi (c_pi (c_pr (c_pi (c_pi (c_pi (c_pi (c_pi (c_pi S u 0 1) u 1 1) u 2 1) U.length (0 : Int32).toNatClampNeg 1) U.length (1 : Int32).toNatClampNeg 1) U.length (2 : Int32).toNatClampNeg 1) u 3 U.length) (U.length + 1) (0 : Int32).toNatClampNeg 1) (U.length + 1) (1 : Int32).toNatClampNeg 1) (U.length + 1) (2 : Int32).toNatClampNeg 1) u 4 (U.length + 1)) u 5 1) u 6 1) u 7 1) u 8 1) u 9 (U.length + 2)) (U.length + 3) ∧ (¬ (U.length + 3) = NU ∧ (fresh (c_pr (c_pr (c_pi (c_pi (c_pi (c_pi (c_pr (c_pi (c_pi (c_pi (c_pr (c_pi (c_pi (c_pi (c_pi (c_pi (c_pi S u 0 1) u 1 1) u 2 1) U.length (0 : Int32).toNatClampNeg 1) U.length (1 : Int32).toNatClampNeg 1) U.length (2 : Int32).toNatClampNeg 1) u 3 U.length) (U.length + 1) (0 : Int32).toNatClampNeg 1) (U.length + 1) (1 : Int32).toNatClampNeg 1) (U.length + 1) (2 : Int32).toNatClampNeg 1) u 4 (U.length + 1)) u 5 1) u 6 1) u 7 1) u 8 1) u 9 (U.length + 2)) u 10 (U.length + 3)) (U.length + 4) ∧ (¬ (U.length + 4) = NU ∧ (fresh (c_pr (c_pr (c_pr (c_pi (c_pi (c_pi (c_pi (c_pr (c_pi (c_pi (c_pi (c_pr (c_pi (c_pi (c_pi (c_pi (c_pi (c_pi S u 0 1) u 1 1) u 2 1) U.length (0 : Int32).toNatClampNeg 1) U.length (1 : Int32).toNatClampNeg 1) U.length (2 : Int32).toNatClampNeg 1) u 3 U.length) (U.length + 1) (0 : Int32).toNatClampNeg 1) (U.length + 1) (1 : Int32).toNatClampNeg 1) (U.length + 1) (2 : Int32).toNatClampNeg 1) u 4 (U.length + 1)) u 5 1) u 6 1) u 7 1) u 8 1) u 9 (U.length + 2)) u 10 (U.length + 3)) u 11 (U.length + 4)) (U.length + 5) ∧ (¬ (U.length + 5) = NU ∧ (fresh (c_pr (c_pr (c_pr (c_pr (c_pi (c_pi (c_pi (c_pi (c_pr (c_pi (c_pi (c_pi (c_pr (c_pi (c_pi (c_pi (c_pi (c_pi (c_pi S u 0 1) u 1 1) u 2 1) U.length (0 : Int32).toNatClampNeg 1) U.length (1 : Int32).toNatClampNeg 1) U.length (2 : Int32).toNatClampNeg 1) u 3 U.length) (U.length + 1) (0 : Int32).toNatClampNeg 1) (U.length + 1) (1 : Int32).toNatClampNeg 1) (U.length + 1) (2 : Int32).toNatClampNeg 1) u 4 (U.length + 1)) u 5 1) u 6 1) u 7 1) u 8 1) u 9 (U.length + 2)) u 10 (U.length + 3)) u 11 (U.length + 4)) u 12 (U.length + 5)) (U.length + 6) ∧ (¬ (U.length + 6) = NU ∧ (fresh (c_pr (c_pr (c_pr (c_pr (c_pr (c_pi (c_pi (c_pi (c_pi (c_pr (c_pi (c_pi (c_pi (c_pr (c_pi (c_pi (c_pi (c_pi (c_pi (c_pi S u 0 1) u 1 1) u 2 1) U.length (0 : Int32).toNatClampNeg 1) U.length (1 : Int32).toNatClampNeg 1) U.length (2 : Int32).toNatClampNeg 1) u 3 U.length) (U.length + 1) (0 : Int32).toNatClampNeg 1) (U.length + 1) (1 : Int32).toNatClampNeg 1) (U.length + 1) (2 : Int32).toNatClampNeg 1) u 4 (U.length + 1)) u 5 1) u 6 1) u 7 1) u 8 1) u 9 (U.length + 2)) u 10 (U.length + 3)) u 11 (U.length + 4)) u 12 (U.length + 5)) u 13 (U.length + 6)) (U.length + 7) ∧ (¬ (U.length + 7) = NU ∧ (fresh (c_pr (c_pr (c_pr (c_pr (c_pr (c_pr (c_pi (c_pi (c_pi (c_pi (c_pr (c_pi (c_pi (c_pi (c_pr (c_pi (c_pi (c_pi (c_pi (c_pi (c_pi S u 0 1) u 1 1) u 2 1) U.length (0 : Int32).toNatClampNeg 1) U.length (1 : Int32).toNatClampNeg 1) U.length (2 : Int32).toNatClampNeg 1) u 3 U.length) (U.length + 1) (0 : Int32).toNatClampNeg 1) (U.length + 1) (1 : Int32).toNatClampNeg 1) (U.length + 1) (2 : Int32).toNatClampNeg 1) u 4 (U.length + 1)) u 5 1) u 6 1) u 7 1) u 8 1) u 9 (U.length + 2)) u 10 (U.length + 3)) u 11 (U.length + 4)) u 12 (U.length + 5)) u 13 (U.length + 6)) u 14 (U.length + 7)) (U.length + 8) ∧ (¬ (U.length + 8) = NU ∧ (K (c_pr (c_pr (c_pr (c_pr (c_pr (c_pr (c_pr (c_pi (c_pi (c_pi (c_pi (c_pr (c_pi (c_pi (c_pi (c_pr (c_pi (c_pi (c_pi (c_pi (c_pi (c_pi S u 0 1) u 1 1) u 2 1) U.length (0 : Int32).toNatClampNeg 1) U.length (1 : Int32).toNatClampNeg 1) U.length (2 : Int32).toNatClampNeg 1) u 3 U.length) (U.length + 1) (0 : Int32).toNatClampNeg 1) (U.length + 1) (1 : Int32).toNatClampNeg 1) (U.length + 1) (2 : Int32).toNatClampNeg 1) u 4 (U.length + 1)) u 5 1) u 6 1) u 7 1) u 8 1) u 9 (U.length + 2)) u 10 (U.length + 3)) u 11 (U.length + 4)) u 12 (U.length + 5)) u 13 (U.length + 6)) u 14 (U.length + 7)) u 15 (U.length + 8))))))))))))))))))))))))))

section I_Pi_init
variable {D : va_G} {z : Nat → ClassId} {U : ut} {oa : Nat → Nat}
set_option maxRecDepth 100000 in
set_option maxHeartbeats 4000000 in
theorem ct_Pi_init {l : Launch} (u : Nat) (S : cs) {K : cs → Prop} (hu : c_cl U u = 7) (hp : p_Pi_init U u S K) : ct gG D z l n_C_Pi_init c_C_Pi_init 1 (none) 2 200 [.ref (oa u)] (cw lt_C U oa S) 9 24786 (pC_n lt_C U ext_Pi_init oa K) := by
  refine ct_ofI (lo := [some (.ref (oa u))]) (by decide) g_ok (Nat.le_of_ble_eq_true rfl) rfl ?_
  intro X A _ C hR hQ hA _ hin
  unfold p_Pi_init at hp
  have hu0 := hu
  have hag : ∀ v, v < U.length → oa v = oa v := fun _ _ => rfl
  refine a_aload_n C dc_Pi_init_0 rfl rfl ?_
  refine a_obj C dc_Pi_init_1 l_Pi_3 oi_M oc_M (Nat.le_of_ble_eq_true rfl) (by rw [hR]; exact Nat.le_of_ble_eq_true rfl) (by rw [hR]; exact Nat.le_of_ble_eq_true rfl) ?_
  refine a_aload_n C dc_Pi_init_4 rfl rfl ?_
  refine a_iconst (v := 1) C dc_Pi_init_5 (by decide) ?_
  refine c_putI (ty := .int) C u 0 dc_Pi_init_6 hu rfl rfl (Nat.le_of_ble_eq_true rfl) f_Pi_9 (Nat.le_of_ble_eq_true rfl) rfl rfl rfl rfl ?_
  refine a_aload_n C dc_Pi_init_9 rfl rfl ?_
  refine a_iconst (v := 1) C dc_Pi_init_10 (by decide) ?_
  refine c_putI (ty := .int) C u 1 dc_Pi_init_11 hu rfl rfl (Nat.le_of_ble_eq_true rfl) f_Pi_15 (Nat.le_of_ble_eq_true rfl) rfl rfl rfl rfl ?_
  refine a_aload_n C dc_Pi_init_14 rfl rfl ?_
  refine a_iconst (v := 1) C dc_Pi_init_15 (by decide) ?_
  refine c_putI (ty := .int) C u 2 dc_Pi_init_16 hu rfl rfl (Nat.le_of_ble_eq_true rfl) f_Pi_18 (Nat.le_of_ble_eq_true rfl) rfl rfl rfl rfl ?_
  refine a_aload_n C dc_Pi_init_19 rfl rfl ?_
  refine a_iconst (v := 3) C dc_Pi_init_20 (by decide) ?_
  refine c_newa (ty := .int) (N := 3) (n := U.length) C 2 dc_Pi_init_21 ac_int rfl (C.kn.2 0 _ rfl).2 (fun _ => rfl) (by decide) (by decide) (by decide) (by decide) (by first | rfl | (simp only [List.length_append, List.length_cons, List.length_nil]; omega)) hp.1 (by rw [hR]; exact Nat.le_of_ble_eq_true rfl) (by rw [hR]; exact Nat.le_of_ble_eq_true rfl) (fun q21 => ?_)
  have hp := hp.2
  generalize hoa21 : va_up oa U.length q21 = oa21
  have hq21 : oa21 U.length = q21 := by rw [← hoa21]; exact up_at
  have hag : ∀ v, v < U.length → oa21 v = oa v := fun v hv => (show oa21 v = oa v by rw [← hoa21]; exact up_ne (by omega)).trans (hag v hv)
  rw [← hq21]
  have hz0 : oa21 u = oa u := (by rw [← hoa21]; exact up_ne (by have := c_lt hu0 (by decide); omega))
  rw [← hz0]
  have hcn21 := c_clN (c := (902, 3)) (U := U) (n := U.length) (by first | rfl | (simp only [List.length_append, List.length_cons, List.length_nil]; omega))
  have hu := c_clA (V := [(902, 3)]) hu (by decide)
  refine a_dup C dc_Pi_init_23 rfl ?_
  refine a_iconst (v := 0) C dc_Pi_init_24 (by decide) ?_
  refine a_iconst (v := 1) C dc_Pi_init_25 (by decide) ?_
  refine c_iast C U.length dc_Pi_init_26 hcn21 hp.1 ?_
  have hp := hp.2
  refine a_dup C dc_Pi_init_27 rfl ?_
  refine a_iconst (v := 1) C dc_Pi_init_28 (by decide) ?_
  refine a_iconst (v := 1) C dc_Pi_init_29 (by decide) ?_
  refine c_iast C U.length dc_Pi_init_30 hcn21 hp.1 ?_
  have hp := hp.2
  refine a_dup C dc_Pi_init_31 rfl ?_
  refine a_iconst (v := 2) C dc_Pi_init_32 (by decide) ?_
  refine a_iconst (v := 1) C dc_Pi_init_33 (by decide) ?_
  refine c_iast C U.length dc_Pi_init_34 hcn21 hp.1 ?_
  have hp := hp.2
  refine c_putRF (ty := .array .int) C u 3 hin dc_Pi_init_35 hu rfl rfl (Nat.le_of_ble_eq_true rfl) f_Pi_21 rfl rfl rfl (fun _ => rfl) (fun _ => rfl) rfl rfl hp.1 ?_
  have hp := hp.2
  refine a_aload_n C dc_Pi_init_38 rfl rfl ?_
  refine a_iconst (v := 3) C dc_Pi_init_39 (by decide) ?_
  refine c_newa (ty := .int) (N := 3) (n := U.length + 1) C 2 dc_Pi_init_40 ac_int rfl (C.kn.2 0 _ rfl).2 (fun _ => rfl) (by decide) (by decide) (by decide) (by decide) (by first | rfl | (simp only [List.length_append, List.length_cons, List.length_nil]; omega)) hp.1 (by rw [hR]; exact Nat.le_of_ble_eq_true rfl) (by rw [hR]; exact Nat.le_of_ble_eq_true rfl) (fun q40 => ?_)
  have hp := hp.2
  generalize hoa40 : va_up oa21 (U.length + 1) q40 = oa40
  have hq40 : oa40 (U.length + 1) = q40 := by rw [← hoa40]; exact up_at
  have hag : ∀ v, v < U.length → oa40 v = oa v := fun v hv => (show oa40 v = oa21 v by rw [← hoa40]; exact up_ne (by omega)).trans (hag v hv)
  rw [← hq40]
  have hz1 : oa40 u = oa21 u := (by rw [← hoa40]; exact up_ne (by have := c_lt hu0 (by decide); omega))
  rw [← hz1]
  have hcn40 := c_clN (c := (902, 3)) (U := (U ++ [(902, 3)])) (n := U.length + 1) (by first | rfl | (simp only [List.length_append, List.length_cons, List.length_nil]; omega))
  have hu := c_clA (V := [(902, 3)]) hu (by decide)
  have hcn21 := c_clA (V := [(902, 3)]) hcn21 (by decide)
  refine a_dup C dc_Pi_init_42 rfl ?_
  refine a_iconst (v := 0) C dc_Pi_init_43 (by decide) ?_
  refine a_iconst (v := 1) C dc_Pi_init_44 (by decide) ?_
  refine c_iast C (U.length + 1) dc_Pi_init_45 hcn40 hp.1 ?_
  have hp := hp.2
  refine a_dup C dc_Pi_init_46 rfl ?_
  refine a_iconst (v := 1) C dc_Pi_init_47 (by decide) ?_
  refine a_iconst (v := 1) C dc_Pi_init_48 (by decide) ?_
  refine c_iast C (U.length + 1) dc_Pi_init_49 hcn40 hp.1 ?_
  have hp := hp.2
  refine a_dup C dc_Pi_init_50 rfl ?_
  refine a_iconst (v := 2) C dc_Pi_init_51 (by decide) ?_
  refine a_iconst (v := 1) C dc_Pi_init_52 (by decide) ?_
  refine c_iast C (U.length + 1) dc_Pi_init_53 hcn40 hp.1 ?_
  have hp := hp.2
  refine c_putRF (ty := .array .int) C u 4 hin dc_Pi_init_54 hu rfl rfl (Nat.le_of_ble_eq_true rfl) f_Pi_25 rfl rfl rfl (fun _ => rfl) (fun _ => rfl) rfl rfl hp.1 ?_
  have hp := hp.2
  refine a_aload_n C dc_Pi_init_57 rfl rfl ?_
  refine a_iconst (v := 1) C dc_Pi_init_58 (by decide) ?_
  refine c_putI (ty := .int) C u 5 dc_Pi_init_59 hu rfl rfl (Nat.le_of_ble_eq_true rfl) f_Pi_28 (Nat.le_of_ble_eq_true rfl) rfl rfl rfl rfl ?_
  refine a_aload_n C dc_Pi_init_62 rfl rfl ?_
  refine a_iconst (v := 1) C dc_Pi_init_63 (by decide) ?_
  refine c_putI (ty := .int) C u 6 dc_Pi_init_64 hu rfl rfl (Nat.le_of_ble_eq_true rfl) f_Pi_31 (Nat.le_of_ble_eq_true rfl) rfl rfl rfl rfl ?_
  refine a_aload_n C dc_Pi_init_67 rfl rfl ?_
  refine a_iconst (v := 1) C dc_Pi_init_68 (by decide) ?_
  refine c_putI (ty := .int) C u 7 dc_Pi_init_69 hu rfl rfl (Nat.le_of_ble_eq_true rfl) f_Pi_34 (Nat.le_of_ble_eq_true rfl) rfl rfl rfl rfl ?_
  refine a_aload_n C dc_Pi_init_72 rfl rfl ?_
  refine a_iconst (v := 1) C dc_Pi_init_73 (by decide) ?_
  refine c_putI (ty := .int) C u 8 dc_Pi_init_74 hu rfl rfl (Nat.le_of_ble_eq_true rfl) f_Pi_37 (Nat.le_of_ble_eq_true rfl) rfl rfl rfl rfl ?_
  refine a_aload_n C dc_Pi_init_77 rfl rfl ?_
  refine a_iconst (v := 3) C dc_Pi_init_78 (by decide) ?_
  refine c_newa (ty := .int) (N := 3) (n := U.length + 2) C 2 dc_Pi_init_79 ac_int rfl (C.kn.2 0 _ rfl).2 (fun _ => rfl) (by decide) (by decide) (by decide) (by decide) (by first | rfl | (simp only [List.length_append, List.length_cons, List.length_nil]; omega)) hp.1 (by rw [hR]; exact Nat.le_of_ble_eq_true rfl) (by rw [hR]; exact Nat.le_of_ble_eq_true rfl) (fun q79 => ?_)
  have hp := hp.2
  generalize hoa79 : va_up oa40 (U.length + 2) q79 = oa79
  have hq79 : oa79 (U.length + 2) = q79 := by rw [← hoa79]; exact up_at
  have hag : ∀ v, v < U.length → oa79 v = oa v := fun v hv => (show oa79 v = oa40 v by rw [← hoa79]; exact up_ne (by omega)).trans (hag v hv)
  rw [← hq79]
  have hz2 : oa79 u = oa40 u := (by rw [← hoa79]; exact up_ne (by have := c_lt hu0 (by decide); omega))
  rw [← hz2]
  have hcn79 := c_clN (c := (902, 3)) (U := ((U ++ [(902, 3)]) ++ [(902, 3)])) (n := U.length + 2) (by first | rfl | (simp only [List.length_append, List.length_cons, List.length_nil]; omega))
  have hu := c_clA (V := [(902, 3)]) hu (by decide)
  have hcn21 := c_clA (V := [(902, 3)]) hcn21 (by decide)
  have hcn40 := c_clA (V := [(902, 3)]) hcn40 (by decide)
  refine c_putRF (ty := .array .int) C u 9 hin dc_Pi_init_81 hu rfl rfl (Nat.le_of_ble_eq_true rfl) f_Pi_40 rfl rfl rfl (fun _ => rfl) (fun _ => rfl) rfl rfl hp.1 ?_
  have hp := hp.2
  refine a_aload_n C dc_Pi_init_84 rfl rfl ?_
  refine a_iconst (v := 3) C dc_Pi_init_85 (by decide) ?_
  refine c_newa (ty := .int) (N := 3) (n := U.length + 3) C 2 dc_Pi_init_86 ac_int rfl (C.kn.2 0 _ rfl).2 (fun _ => rfl) (by decide) (by decide) (by decide) (by decide) (by first | rfl | (simp only [List.length_append, List.length_cons, List.length_nil]; omega)) hp.1 (by rw [hR]; exact Nat.le_of_ble_eq_true rfl) (by rw [hR]; exact Nat.le_of_ble_eq_true rfl) (fun q86 => ?_)
  have hp := hp.2
  generalize hoa86 : va_up oa79 (U.length + 3) q86 = oa86
  have hq86 : oa86 (U.length + 3) = q86 := by rw [← hoa86]; exact up_at
  have hag : ∀ v, v < U.length → oa86 v = oa v := fun v hv => (show oa86 v = oa79 v by rw [← hoa86]; exact up_ne (by omega)).trans (hag v hv)
  rw [← hq86]
  have hz3 : oa86 u = oa79 u := (by rw [← hoa86]; exact up_ne (by have := c_lt hu0 (by decide); omega))
  rw [← hz3]
  have hcn86 := c_clN (c := (902, 3)) (U := (((U ++ [(902, 3)]) ++ [(902, 3)]) ++ [(902, 3)])) (n := U.length + 3) (by first | rfl | (simp only [List.length_append, List.length_cons, List.length_nil]; omega))
  have hu := c_clA (V := [(902, 3)]) hu (by decide)
  have hcn21 := c_clA (V := [(902, 3)]) hcn21 (by decide)
  have hcn40 := c_clA (V := [(902, 3)]) hcn40 (by decide)
  have hcn79 := c_clA (V := [(902, 3)]) hcn79 (by decide)
  refine c_putRF (ty := .array .int) C u 10 hin dc_Pi_init_88 hu rfl rfl (Nat.le_of_ble_eq_true rfl) f_Pi_43 rfl rfl rfl (fun _ => rfl) (fun _ => rfl) rfl rfl hp.1 ?_
  have hp := hp.2
  refine a_aload_n C dc_Pi_init_91 rfl rfl ?_
  refine a_iconst (v := 3) C dc_Pi_init_92 (by decide) ?_
  refine c_newa (ty := .int) (N := 3) (n := U.length + 4) C 2 dc_Pi_init_93 ac_int rfl (C.kn.2 0 _ rfl).2 (fun _ => rfl) (by decide) (by decide) (by decide) (by decide) (by first | rfl | (simp only [List.length_append, List.length_cons, List.length_nil]; omega)) hp.1 (by rw [hR]; exact Nat.le_of_ble_eq_true rfl) (by rw [hR]; exact Nat.le_of_ble_eq_true rfl) (fun q93 => ?_)
  have hp := hp.2
  generalize hoa93 : va_up oa86 (U.length + 4) q93 = oa93
  have hq93 : oa93 (U.length + 4) = q93 := by rw [← hoa93]; exact up_at
  have hag : ∀ v, v < U.length → oa93 v = oa v := fun v hv => (show oa93 v = oa86 v by rw [← hoa93]; exact up_ne (by omega)).trans (hag v hv)
  rw [← hq93]
  have hz4 : oa93 u = oa86 u := (by rw [← hoa93]; exact up_ne (by have := c_lt hu0 (by decide); omega))
  rw [← hz4]
  have hcn93 := c_clN (c := (902, 3)) (U := ((((U ++ [(902, 3)]) ++ [(902, 3)]) ++ [(902, 3)]) ++ [(902, 3)])) (n := U.length + 4) (by first | rfl | (simp only [List.length_append, List.length_cons, List.length_nil]; omega))
  have hu := c_clA (V := [(902, 3)]) hu (by decide)
  have hcn21 := c_clA (V := [(902, 3)]) hcn21 (by decide)
  have hcn40 := c_clA (V := [(902, 3)]) hcn40 (by decide)
  have hcn79 := c_clA (V := [(902, 3)]) hcn79 (by decide)
  have hcn86 := c_clA (V := [(902, 3)]) hcn86 (by decide)
  refine c_putRF (ty := .array .int) C u 11 hin dc_Pi_init_95 hu rfl rfl (Nat.le_of_ble_eq_true rfl) f_Pi_46 rfl rfl rfl (fun _ => rfl) (fun _ => rfl) rfl rfl hp.1 ?_
  have hp := hp.2
  refine a_aload_n C dc_Pi_init_98 rfl rfl ?_
  refine a_iconst (v := 3) C dc_Pi_init_99 (by decide) ?_
  refine c_newa (ty := .int) (N := 3) (n := U.length + 5) C 2 dc_Pi_init_100 ac_int rfl (C.kn.2 0 _ rfl).2 (fun _ => rfl) (by decide) (by decide) (by decide) (by decide) (by first | rfl | (simp only [List.length_append, List.length_cons, List.length_nil]; omega)) hp.1 (by rw [hR]; exact Nat.le_of_ble_eq_true rfl) (by rw [hR]; exact Nat.le_of_ble_eq_true rfl) (fun q100 => ?_)
  have hp := hp.2
  generalize hoa100 : va_up oa93 (U.length + 5) q100 = oa100
  have hq100 : oa100 (U.length + 5) = q100 := by rw [← hoa100]; exact up_at
  have hag : ∀ v, v < U.length → oa100 v = oa v := fun v hv => (show oa100 v = oa93 v by rw [← hoa100]; exact up_ne (by omega)).trans (hag v hv)
  rw [← hq100]
  have hz5 : oa100 u = oa93 u := (by rw [← hoa100]; exact up_ne (by have := c_lt hu0 (by decide); omega))
  rw [← hz5]
  have hcn100 := c_clN (c := (902, 3)) (U := (((((U ++ [(902, 3)]) ++ [(902, 3)]) ++ [(902, 3)]) ++ [(902, 3)]) ++ [(902, 3)])) (n := U.length + 5) (by first | rfl | (simp only [List.length_append, List.length_cons, List.length_nil]; omega))
  have hu := c_clA (V := [(902, 3)]) hu (by decide)
  have hcn21 := c_clA (V := [(902, 3)]) hcn21 (by decide)
  have hcn40 := c_clA (V := [(902, 3)]) hcn40 (by decide)
  have hcn79 := c_clA (V := [(902, 3)]) hcn79 (by decide)
  have hcn86 := c_clA (V := [(902, 3)]) hcn86 (by decide)
  have hcn93 := c_clA (V := [(902, 3)]) hcn93 (by decide)
  refine c_putRF (ty := .array .int) C u 12 hin dc_Pi_init_102 hu rfl rfl (Nat.le_of_ble_eq_true rfl) f_Pi_49 rfl rfl rfl (fun _ => rfl) (fun _ => rfl) rfl rfl hp.1 ?_
  have hp := hp.2
  refine a_aload_n C dc_Pi_init_105 rfl rfl ?_
  refine a_sipush (v := 12288) C dc_Pi_init_106 (by decide) ?_
  refine c_newa (ty := .int) (N := 12288) (n := U.length + 6) C 2 dc_Pi_init_109 ac_int rfl (C.kn.2 0 _ rfl).2 (fun _ => rfl) (by decide) (by decide) (by decide) (by decide) (by first | rfl | (simp only [List.length_append, List.length_cons, List.length_nil]; omega)) hp.1 (by rw [hR]; exact Nat.le_of_ble_eq_true rfl) (by rw [hR]; exact Nat.le_of_ble_eq_true rfl) (fun q109 => ?_)
  have hp := hp.2
  generalize hoa109 : va_up oa100 (U.length + 6) q109 = oa109
  have hq109 : oa109 (U.length + 6) = q109 := by rw [← hoa109]; exact up_at
  have hag : ∀ v, v < U.length → oa109 v = oa v := fun v hv => (show oa109 v = oa100 v by rw [← hoa109]; exact up_ne (by omega)).trans (hag v hv)
  rw [← hq109]
  have hz6 : oa109 u = oa100 u := (by rw [← hoa109]; exact up_ne (by have := c_lt hu0 (by decide); omega))
  rw [← hz6]
  have hcn109 := c_clN (c := (902, 12288)) (U := ((((((U ++ [(902, 3)]) ++ [(902, 3)]) ++ [(902, 3)]) ++ [(902, 3)]) ++ [(902, 3)]) ++ [(902, 3)])) (n := U.length + 6) (by first | rfl | (simp only [List.length_append, List.length_cons, List.length_nil]; omega))
  have hu := c_clA (V := [(902, 12288)]) hu (by decide)
  have hcn21 := c_clA (V := [(902, 12288)]) hcn21 (by decide)
  have hcn40 := c_clA (V := [(902, 12288)]) hcn40 (by decide)
  have hcn79 := c_clA (V := [(902, 12288)]) hcn79 (by decide)
  have hcn86 := c_clA (V := [(902, 12288)]) hcn86 (by decide)
  have hcn93 := c_clA (V := [(902, 12288)]) hcn93 (by decide)
  have hcn100 := c_clA (V := [(902, 12288)]) hcn100 (by decide)
  refine c_putRF (ty := .array .int) C u 13 hin dc_Pi_init_111 hu rfl rfl (Nat.le_of_ble_eq_true rfl) f_Pi_52 rfl rfl rfl (fun _ => rfl) (fun _ => rfl) rfl rfl hp.1 ?_
  have hp := hp.2
  refine a_aload_n C dc_Pi_init_114 rfl rfl ?_
  refine a_sipush (v := 192) C dc_Pi_init_115 (by decide) ?_
  refine c_newa (ty := .int) (N := 192) (n := U.length + 7) C 2 dc_Pi_init_118 ac_int rfl (C.kn.2 0 _ rfl).2 (fun _ => rfl) (by decide) (by decide) (by decide) (by decide) (by first | rfl | (simp only [List.length_append, List.length_cons, List.length_nil]; omega)) hp.1 (by rw [hR]; exact Nat.le_of_ble_eq_true rfl) (by rw [hR]; exact Nat.le_of_ble_eq_true rfl) (fun q118 => ?_)
  have hp := hp.2
  generalize hoa118 : va_up oa109 (U.length + 7) q118 = oa118
  have hq118 : oa118 (U.length + 7) = q118 := by rw [← hoa118]; exact up_at
  have hag : ∀ v, v < U.length → oa118 v = oa v := fun v hv => (show oa118 v = oa109 v by rw [← hoa118]; exact up_ne (by omega)).trans (hag v hv)
  rw [← hq118]
  have hz7 : oa118 u = oa109 u := (by rw [← hoa118]; exact up_ne (by have := c_lt hu0 (by decide); omega))
  rw [← hz7]
  have hcn118 := c_clN (c := (902, 192)) (U := (((((((U ++ [(902, 3)]) ++ [(902, 3)]) ++ [(902, 3)]) ++ [(902, 3)]) ++ [(902, 3)]) ++ [(902, 3)]) ++ [(902, 12288)])) (n := U.length + 7) (by first | rfl | (simp only [List.length_append, List.length_cons, List.length_nil]; omega))
  have hu := c_clA (V := [(902, 192)]) hu (by decide)
  have hcn21 := c_clA (V := [(902, 192)]) hcn21 (by decide)
  have hcn40 := c_clA (V := [(902, 192)]) hcn40 (by decide)
  have hcn79 := c_clA (V := [(902, 192)]) hcn79 (by decide)
  have hcn86 := c_clA (V := [(902, 192)]) hcn86 (by decide)
  have hcn93 := c_clA (V := [(902, 192)]) hcn93 (by decide)
  have hcn100 := c_clA (V := [(902, 192)]) hcn100 (by decide)
  have hcn109 := c_clA (V := [(902, 192)]) hcn109 (by decide)
  refine c_putRF (ty := .array .int) C u 14 hin dc_Pi_init_120 hu rfl rfl (Nat.le_of_ble_eq_true rfl) f_Pi_55 rfl rfl rfl (fun _ => rfl) (fun _ => rfl) rfl rfl hp.1 ?_
  have hp := hp.2
  refine a_aload_n C dc_Pi_init_123 rfl rfl ?_
  refine a_sipush (v := 12288) C dc_Pi_init_124 (by decide) ?_
  refine c_newa (ty := .int) (N := 12288) (n := U.length + 8) C 2 dc_Pi_init_127 ac_int rfl (C.kn.2 0 _ rfl).2 (fun _ => rfl) (by decide) (by decide) (by decide) (by decide) (by first | rfl | (simp only [List.length_append, List.length_cons, List.length_nil]; omega)) hp.1 (by rw [hR]; exact Nat.le_of_ble_eq_true rfl) (by rw [hR]; exact Nat.le_of_ble_eq_true rfl) (fun q127 => ?_)
  have hp := hp.2
  generalize hoa127 : va_up oa118 (U.length + 8) q127 = oa127
  have hq127 : oa127 (U.length + 8) = q127 := by rw [← hoa127]; exact up_at
  have hag : ∀ v, v < U.length → oa127 v = oa v := fun v hv => (show oa127 v = oa118 v by rw [← hoa127]; exact up_ne (by omega)).trans (hag v hv)
  rw [← hq127]
  have hz8 : oa127 u = oa118 u := (by rw [← hoa127]; exact up_ne (by have := c_lt hu0 (by decide); omega))
  rw [← hz8]
  have hcn127 := c_clN (c := (902, 12288)) (U := ((((((((U ++ [(902, 3)]) ++ [(902, 3)]) ++ [(902, 3)]) ++ [(902, 3)]) ++ [(902, 3)]) ++ [(902, 3)]) ++ [(902, 12288)]) ++ [(902, 192)])) (n := U.length + 8) (by first | rfl | (simp only [List.length_append, List.length_cons, List.length_nil]; omega))
  have hu := c_clA (V := [(902, 12288)]) hu (by decide)
  have hcn21 := c_clA (V := [(902, 12288)]) hcn21 (by decide)
  have hcn40 := c_clA (V := [(902, 12288)]) hcn40 (by decide)
  have hcn79 := c_clA (V := [(902, 12288)]) hcn79 (by decide)
  have hcn86 := c_clA (V := [(902, 12288)]) hcn86 (by decide)
  have hcn93 := c_clA (V := [(902, 12288)]) hcn93 (by decide)
  have hcn100 := c_clA (V := [(902, 12288)]) hcn100 (by decide)
  have hcn109 := c_clA (V := [(902, 12288)]) hcn109 (by decide)
  have hcn118 := c_clA (V := [(902, 12288)]) hcn118 (by decide)
  refine c_putRF (ty := .array .int) C u 15 hin dc_Pi_init_129 hu rfl rfl (Nat.le_of_ble_eq_true rfl) f_Pi_58 rfl rfl rfl (fun _ => rfl) (fun _ => rfl) rfl rfl hp.1 ?_
  have hp := hp.2
  refine aw_widen (nc' := 9) (ns' := 24786) (Nat.le_of_ble_eq_true rfl) (Nat.le_of_ble_eq_true rfl) ?_
  refine aw_eq (lo' := _) (st' := _) (L' := (cw lt_C (U ++ ext_Pi_init) oa127 (c_pr (c_pr (c_pr (c_pr (c_pr (c_pr (c_pr (c_pi (c_pi (c_pi (c_pi (c_pr (c_pi (c_pi (c_pi (c_pr (c_pi (c_pi (c_pi (c_pi (c_pi (c_pi S u 0 1) u 1 1) u 2 1) U.length (0 : Int32).toNatClampNeg 1) U.length (1 : Int32).toNatClampNeg 1) U.length (2 : Int32).toNatClampNeg 1) u 3 U.length) (U.length + 1) (0 : Int32).toNatClampNeg 1) (U.length + 1) (1 : Int32).toNatClampNeg 1) (U.length + 1) (2 : Int32).toNatClampNeg 1) u 4 (U.length + 1)) u 5 1) u 6 1) u 7 1) u 8 1) u 9 (U.length + 2)) u 10 (U.length + 3)) u 11 (U.length + 4)) u 12 (U.length + 5)) u 13 (U.length + 6)) u 14 (U.length + 7)) u 15 (U.length + 8)))) rfl rfl (by simp only [ext_Pi_init, List.append_assoc, List.cons_append, List.nil_append, List.append_nil]) ?_
  exact a_vret C hQ hA dc_Pi_init_132 rfl ⟨oa127, (c_pr (c_pr (c_pr (c_pr (c_pr (c_pr (c_pr (c_pi (c_pi (c_pi (c_pi (c_pr (c_pi (c_pi (c_pi (c_pr (c_pi (c_pi (c_pi (c_pi (c_pi (c_pi S u 0 1) u 1 1) u 2 1) U.length (0 : Int32).toNatClampNeg 1) U.length (1 : Int32).toNatClampNeg 1) U.length (2 : Int32).toNatClampNeg 1) u 3 U.length) (U.length + 1) (0 : Int32).toNatClampNeg 1) (U.length + 1) (1 : Int32).toNatClampNeg 1) (U.length + 1) (2 : Int32).toNatClampNeg 1) u 4 (U.length + 1)) u 5 1) u 6 1) u 7 1) u 8 1) u 9 (U.length + 2)) u 10 (U.length + 3)) u 11 (U.length + 4)) u 12 (U.length + 5)) u 13 (U.length + 6)) u 14 (U.length + 7)) u 15 (U.length + 8)), hp, hag, rfl, rfl⟩
end I_Pi_init
def ext_Sc_init : ut := [(902, 3), (902, 3), (902, 3), (902, 192)]
def p_Sc_init (U : ut) (u : Nat) (S : cs) (K : cs → Prop) : Prop :=
  fresh S U.length ∧ (¬ U.length = NU ∧ (fresh (c_pr S u 1 U.length) (U.length + 1) ∧ (¬ (U.length + 1) = NU ∧ (fresh (c_pr (c_pr S u 1 U.length) u 2 (U.length + 1)) (U.length + 2) ∧ (¬ (U.length + 2) = NU ∧ (fresh (c_pr (c_pr (c_pr S u 1 U.length) u 2 (U.length + 1)) u 3 (U.length + 2)) (U.length + 3) ∧ (¬ (U.length + 3) = NU ∧ (K (c_pr (c_pr (c_pr (c_pr S u 1 U.length) u 2 (U.length + 1)) u 3 (U.length + 2)) u 7 (U.length + 3))))))))))

section I_Sc_init
variable {D : va_G} {z : Nat → ClassId} {U : ut} {oa : Nat → Nat}
set_option maxRecDepth 100000 in
set_option maxHeartbeats 4000000 in
theorem ct_Sc_init {l : Launch} (u : Nat) (S : cs) {K : cs → Prop} (hu : c_cl U u = 10) (hp : p_Sc_init U u S K) : ct gG D z l n_C_Sc_init c_C_Sc_init 1 (none) 2 200 [.ref (oa u)] (cw lt_C U oa S) 4 201 (pC_n lt_C U ext_Sc_init oa K) := by
  refine ct_ofI (lo := [some (.ref (oa u))]) (by decide) g_ok (Nat.le_of_ble_eq_true rfl) rfl ?_
  intro X A _ C hR hQ hA _ hin
  unfold p_Sc_init at hp
  have hu0 := hu
  have hag : ∀ v, v < U.length → oa v = oa v := fun _ _ => rfl
  refine a_aload_n C dc_Sc_init_0 rfl rfl ?_
  refine a_obj C dc_Sc_init_1 l_Sc_3 oi_M oc_M (Nat.le_of_ble_eq_true rfl) (by rw [hR]; exact Nat.le_of_ble_eq_true rfl) (by rw [hR]; exact Nat.le_of_ble_eq_true rfl) ?_
  refine a_aload_n C dc_Sc_init_4 rfl rfl ?_
  refine a_iconst (v := 3) C dc_Sc_init_5 (by decide) ?_
  refine c_newa (ty := .int) (N := 3) (n := U.length) C 2 dc_Sc_init_6 ac_int rfl (C.kn.2 0 _ rfl).2 (fun _ => rfl) (by decide) (by decide) (by decide) (by decide) (by first | rfl | (simp only [List.length_append, List.length_cons, List.length_nil]; omega)) hp.1 (by rw [hR]; exact Nat.le_of_ble_eq_true rfl) (by rw [hR]; exact Nat.le_of_ble_eq_true rfl) (fun q6 => ?_)
  have hp := hp.2
  generalize hoa6 : va_up oa U.length q6 = oa6
  have hq6 : oa6 U.length = q6 := by rw [← hoa6]; exact up_at
  have hag : ∀ v, v < U.length → oa6 v = oa v := fun v hv => (show oa6 v = oa v by rw [← hoa6]; exact up_ne (by omega)).trans (hag v hv)
  rw [← hq6]
  have hz0 : oa6 u = oa u := (by rw [← hoa6]; exact up_ne (by have := c_lt hu0 (by decide); omega))
  rw [← hz0]
  have hcn6 := c_clN (c := (902, 3)) (U := U) (n := U.length) (by first | rfl | (simp only [List.length_append, List.length_cons, List.length_nil]; omega))
  have hu := c_clA (V := [(902, 3)]) hu (by decide)
  refine c_putRF (ty := .array .int) C u 1 hin dc_Sc_init_8 hu rfl rfl (Nat.le_of_ble_eq_true rfl) f_Sc_9 rfl rfl rfl (fun _ => rfl) (fun _ => rfl) rfl rfl hp.1 ?_
  have hp := hp.2
  refine a_aload_n C dc_Sc_init_11 rfl rfl ?_
  refine a_iconst (v := 3) C dc_Sc_init_12 (by decide) ?_
  refine c_newa (ty := .int) (N := 3) (n := U.length + 1) C 2 dc_Sc_init_13 ac_int rfl (C.kn.2 0 _ rfl).2 (fun _ => rfl) (by decide) (by decide) (by decide) (by decide) (by first | rfl | (simp only [List.length_append, List.length_cons, List.length_nil]; omega)) hp.1 (by rw [hR]; exact Nat.le_of_ble_eq_true rfl) (by rw [hR]; exact Nat.le_of_ble_eq_true rfl) (fun q13 => ?_)
  have hp := hp.2
  generalize hoa13 : va_up oa6 (U.length + 1) q13 = oa13
  have hq13 : oa13 (U.length + 1) = q13 := by rw [← hoa13]; exact up_at
  have hag : ∀ v, v < U.length → oa13 v = oa v := fun v hv => (show oa13 v = oa6 v by rw [← hoa13]; exact up_ne (by omega)).trans (hag v hv)
  rw [← hq13]
  have hz1 : oa13 u = oa6 u := (by rw [← hoa13]; exact up_ne (by have := c_lt hu0 (by decide); omega))
  rw [← hz1]
  have hcn13 := c_clN (c := (902, 3)) (U := (U ++ [(902, 3)])) (n := U.length + 1) (by first | rfl | (simp only [List.length_append, List.length_cons, List.length_nil]; omega))
  have hu := c_clA (V := [(902, 3)]) hu (by decide)
  have hcn6 := c_clA (V := [(902, 3)]) hcn6 (by decide)
  refine c_putRF (ty := .array .int) C u 2 hin dc_Sc_init_15 hu rfl rfl (Nat.le_of_ble_eq_true rfl) f_Sc_15 rfl rfl rfl (fun _ => rfl) (fun _ => rfl) rfl rfl hp.1 ?_
  have hp := hp.2
  refine a_aload_n C dc_Sc_init_18 rfl rfl ?_
  refine a_iconst (v := 3) C dc_Sc_init_19 (by decide) ?_
  refine c_newa (ty := .int) (N := 3) (n := U.length + 2) C 2 dc_Sc_init_20 ac_int rfl (C.kn.2 0 _ rfl).2 (fun _ => rfl) (by decide) (by decide) (by decide) (by decide) (by first | rfl | (simp only [List.length_append, List.length_cons, List.length_nil]; omega)) hp.1 (by rw [hR]; exact Nat.le_of_ble_eq_true rfl) (by rw [hR]; exact Nat.le_of_ble_eq_true rfl) (fun q20 => ?_)
  have hp := hp.2
  generalize hoa20 : va_up oa13 (U.length + 2) q20 = oa20
  have hq20 : oa20 (U.length + 2) = q20 := by rw [← hoa20]; exact up_at
  have hag : ∀ v, v < U.length → oa20 v = oa v := fun v hv => (show oa20 v = oa13 v by rw [← hoa20]; exact up_ne (by omega)).trans (hag v hv)
  rw [← hq20]
  have hz2 : oa20 u = oa13 u := (by rw [← hoa20]; exact up_ne (by have := c_lt hu0 (by decide); omega))
  rw [← hz2]
  have hcn20 := c_clN (c := (902, 3)) (U := ((U ++ [(902, 3)]) ++ [(902, 3)])) (n := U.length + 2) (by first | rfl | (simp only [List.length_append, List.length_cons, List.length_nil]; omega))
  have hu := c_clA (V := [(902, 3)]) hu (by decide)
  have hcn6 := c_clA (V := [(902, 3)]) hcn6 (by decide)
  have hcn13 := c_clA (V := [(902, 3)]) hcn13 (by decide)
  refine c_putRF (ty := .array .int) C u 3 hin dc_Sc_init_22 hu rfl rfl (Nat.le_of_ble_eq_true rfl) f_Sc_18 rfl rfl rfl (fun _ => rfl) (fun _ => rfl) rfl rfl hp.1 ?_
  have hp := hp.2
  refine a_aload_n C dc_Sc_init_25 rfl rfl ?_
  refine a_sipush (v := 192) C dc_Sc_init_26 (by decide) ?_
  refine c_newa (ty := .int) (N := 192) (n := U.length + 3) C 2 dc_Sc_init_29 ac_int rfl (C.kn.2 0 _ rfl).2 (fun _ => rfl) (by decide) (by decide) (by decide) (by decide) (by first | rfl | (simp only [List.length_append, List.length_cons, List.length_nil]; omega)) hp.1 (by rw [hR]; exact Nat.le_of_ble_eq_true rfl) (by rw [hR]; exact Nat.le_of_ble_eq_true rfl) (fun q29 => ?_)
  have hp := hp.2
  generalize hoa29 : va_up oa20 (U.length + 3) q29 = oa29
  have hq29 : oa29 (U.length + 3) = q29 := by rw [← hoa29]; exact up_at
  have hag : ∀ v, v < U.length → oa29 v = oa v := fun v hv => (show oa29 v = oa20 v by rw [← hoa29]; exact up_ne (by omega)).trans (hag v hv)
  rw [← hq29]
  have hz3 : oa29 u = oa20 u := (by rw [← hoa29]; exact up_ne (by have := c_lt hu0 (by decide); omega))
  rw [← hz3]
  have hcn29 := c_clN (c := (902, 192)) (U := (((U ++ [(902, 3)]) ++ [(902, 3)]) ++ [(902, 3)])) (n := U.length + 3) (by first | rfl | (simp only [List.length_append, List.length_cons, List.length_nil]; omega))
  have hu := c_clA (V := [(902, 192)]) hu (by decide)
  have hcn6 := c_clA (V := [(902, 192)]) hcn6 (by decide)
  have hcn13 := c_clA (V := [(902, 192)]) hcn13 (by decide)
  have hcn20 := c_clA (V := [(902, 192)]) hcn20 (by decide)
  refine c_putRF (ty := .array .int) C u 7 hin dc_Sc_init_31 hu rfl rfl (Nat.le_of_ble_eq_true rfl) f_Sc_21 rfl rfl rfl (fun _ => rfl) (fun _ => rfl) rfl rfl hp.1 ?_
  have hp := hp.2
  refine aw_widen (nc' := 4) (ns' := 201) (Nat.le_of_ble_eq_true rfl) (Nat.le_of_ble_eq_true rfl) ?_
  refine aw_eq (lo' := _) (st' := _) (L' := (cw lt_C (U ++ ext_Sc_init) oa29 (c_pr (c_pr (c_pr (c_pr S u 1 U.length) u 2 (U.length + 1)) u 3 (U.length + 2)) u 7 (U.length + 3)))) rfl rfl (by simp only [ext_Sc_init, List.append_assoc, List.cons_append, List.nil_append, List.append_nil]) ?_
  exact a_vret C hQ hA dc_Sc_init_34 rfl ⟨oa29, (c_pr (c_pr (c_pr (c_pr S u 1 U.length) u 2 (U.length + 1)) u 3 (U.length + 2)) u 7 (U.length + 3)), hp, hag, rfl, rfl⟩
end I_Sc_init
def ext_Li_init : ut := [(902, 257), (903, 8224), (902, 514), (902, 514)]
def p_Li_init (U : ut) (u : Nat) (S : cs) (K : cs → Prop) : Prop :=
  fresh S U.length ∧ (¬ U.length = NU ∧ (fresh (c_pr S u 0 U.length) (U.length + 1) ∧ (¬ (U.length + 1) = NU ∧ (fresh (c_pr (c_pr S u 0 U.length) u 2 (U.length + 1)) (U.length + 2) ∧ (¬ (U.length + 2) = NU ∧ (fresh (c_pr (c_pr (c_pr S u 0 U.length) u 2 (U.length + 1)) u 3 (U.length + 2)) (U.length + 3) ∧ (¬ (U.length + 3) = NU ∧ (K (c_pr (c_pr (c_pr (c_pr S u 0 U.length) u 2 (U.length + 1)) u 3 (U.length + 2)) u 4 (U.length + 3))))))))))

section I_Li_init
variable {D : va_G} {z : Nat → ClassId} {U : ut} {oa : Nat → Nat}
set_option maxRecDepth 100000 in
set_option maxHeartbeats 4000000 in
theorem ct_Li_init {l : Launch} (u : Nat) (S : cs) {K : cs → Prop} (hu : c_cl U u = 4) (hp : p_Li_init U u S K) : ct gG D z l n_C_Li_init c_C_Li_init 1 (none) 2 200 [.ref (oa u)] (cw lt_C U oa S) 4 9509 (pC_n lt_C U ext_Li_init oa K) := by
  refine ct_ofI (lo := [some (.ref (oa u))]) (by decide) g_ok (Nat.le_of_ble_eq_true rfl) rfl ?_
  intro X A _ C hR hQ hA _ hin
  unfold p_Li_init at hp
  have hu0 := hu
  have hag : ∀ v, v < U.length → oa v = oa v := fun _ _ => rfl
  refine a_aload_n C dc_Li_init_0 rfl rfl ?_
  refine a_obj C dc_Li_init_1 l_Li_7 oi_M oc_M (Nat.le_of_ble_eq_true rfl) (by rw [hR]; exact Nat.le_of_ble_eq_true rfl) (by rw [hR]; exact Nat.le_of_ble_eq_true rfl) ?_
  refine a_aload_n C dc_Li_init_4 rfl rfl ?_
  refine a_sipush (v := 257) C dc_Li_init_5 (by decide) ?_
  refine c_newa (ty := .int) (N := 257) (n := U.length) C 2 dc_Li_init_8 ac_int rfl (C.kn.2 0 _ rfl).2 (fun _ => rfl) (by decide) (by decide) (by decide) (by decide) (by first | rfl | (simp only [List.length_append, List.length_cons, List.length_nil]; omega)) hp.1 (by rw [hR]; exact Nat.le_of_ble_eq_true rfl) (by rw [hR]; exact Nat.le_of_ble_eq_true rfl) (fun q8 => ?_)
  have hp := hp.2
  generalize hoa8 : va_up oa U.length q8 = oa8
  have hq8 : oa8 U.length = q8 := by rw [← hoa8]; exact up_at
  have hag : ∀ v, v < U.length → oa8 v = oa v := fun v hv => (show oa8 v = oa v by rw [← hoa8]; exact up_ne (by omega)).trans (hag v hv)
  rw [← hq8]
  have hz0 : oa8 u = oa u := (by rw [← hoa8]; exact up_ne (by have := c_lt hu0 (by decide); omega))
  rw [← hz0]
  have hcn8 := c_clN (c := (902, 257)) (U := U) (n := U.length) (by first | rfl | (simp only [List.length_append, List.length_cons, List.length_nil]; omega))
  have hu := c_clA (V := [(902, 257)]) hu (by decide)
  refine c_putRF (ty := .array .int) C u 0 hin dc_Li_init_10 hu rfl rfl (Nat.le_of_ble_eq_true rfl) f_Li_13 rfl rfl rfl (fun _ => rfl) (fun _ => rfl) rfl rfl hp.1 ?_
  have hp := hp.2
  refine a_aload_n C dc_Li_init_13 rfl rfl ?_
  refine a_sipush (v := 8224) C dc_Li_init_14 (by decide) ?_
  refine c_newa (ty := .boolean) (N := 8224) (n := U.length + 1) C 3 dc_Li_init_17 ac_boolean rfl (C.kn.2 1 _ rfl).2 (fun _ => rfl) (by decide) (by decide) (by decide) (by decide) (by first | rfl | (simp only [List.length_append, List.length_cons, List.length_nil]; omega)) hp.1 (by rw [hR]; exact Nat.le_of_ble_eq_true rfl) (by rw [hR]; exact Nat.le_of_ble_eq_true rfl) (fun q17 => ?_)
  have hp := hp.2
  generalize hoa17 : va_up oa8 (U.length + 1) q17 = oa17
  have hq17 : oa17 (U.length + 1) = q17 := by rw [← hoa17]; exact up_at
  have hag : ∀ v, v < U.length → oa17 v = oa v := fun v hv => (show oa17 v = oa8 v by rw [← hoa17]; exact up_ne (by omega)).trans (hag v hv)
  rw [← hq17]
  have hz1 : oa17 u = oa8 u := (by rw [← hoa17]; exact up_ne (by have := c_lt hu0 (by decide); omega))
  rw [← hz1]
  have hcn17 := c_clN (c := (903, 8224)) (U := (U ++ [(902, 257)])) (n := U.length + 1) (by first | rfl | (simp only [List.length_append, List.length_cons, List.length_nil]; omega))
  have hu := c_clA (V := [(903, 8224)]) hu (by decide)
  have hcn8 := c_clA (V := [(903, 8224)]) hcn8 (by decide)
  refine c_putRF (ty := .array .boolean) C u 2 hin dc_Li_init_19 hu rfl rfl (Nat.le_of_ble_eq_true rfl) f_Li_17 rfl rfl rfl (fun _ => rfl) (fun _ => rfl) rfl rfl hp.1 ?_
  have hp := hp.2
  refine a_aload_n C dc_Li_init_22 rfl rfl ?_
  refine a_sipush (v := 514) C dc_Li_init_23 (by decide) ?_
  refine c_newa (ty := .int) (N := 514) (n := U.length + 2) C 2 dc_Li_init_26 ac_int rfl (C.kn.2 0 _ rfl).2 (fun _ => rfl) (by decide) (by decide) (by decide) (by decide) (by first | rfl | (simp only [List.length_append, List.length_cons, List.length_nil]; omega)) hp.1 (by rw [hR]; exact Nat.le_of_ble_eq_true rfl) (by rw [hR]; exact Nat.le_of_ble_eq_true rfl) (fun q26 => ?_)
  have hp := hp.2
  generalize hoa26 : va_up oa17 (U.length + 2) q26 = oa26
  have hq26 : oa26 (U.length + 2) = q26 := by rw [← hoa26]; exact up_at
  have hag : ∀ v, v < U.length → oa26 v = oa v := fun v hv => (show oa26 v = oa17 v by rw [← hoa26]; exact up_ne (by omega)).trans (hag v hv)
  rw [← hq26]
  have hz2 : oa26 u = oa17 u := (by rw [← hoa26]; exact up_ne (by have := c_lt hu0 (by decide); omega))
  rw [← hz2]
  have hcn26 := c_clN (c := (902, 514)) (U := ((U ++ [(902, 257)]) ++ [(903, 8224)])) (n := U.length + 2) (by first | rfl | (simp only [List.length_append, List.length_cons, List.length_nil]; omega))
  have hu := c_clA (V := [(902, 514)]) hu (by decide)
  have hcn8 := c_clA (V := [(902, 514)]) hcn8 (by decide)
  have hcn17 := c_clA (V := [(902, 514)]) hcn17 (by decide)
  refine c_putR (ty := .array .int) C u 3 dc_Li_init_28 hu rfl rfl (Nat.le_of_ble_eq_true rfl) f_Li_21 rfl rfl (fun _ => rfl) (fun _ => rfl) rfl rfl hp.1 ?_
  have hp := hp.2
  refine a_aload_n C dc_Li_init_31 rfl rfl ?_
  refine a_sipush (v := 514) C dc_Li_init_32 (by decide) ?_
  refine c_newa (ty := .int) (N := 514) (n := U.length + 3) C 2 dc_Li_init_35 ac_int rfl (C.kn.2 0 _ rfl).2 (fun _ => rfl) (by decide) (by decide) (by decide) (by decide) (by first | rfl | (simp only [List.length_append, List.length_cons, List.length_nil]; omega)) hp.1 (by rw [hR]; exact Nat.le_of_ble_eq_true rfl) (by rw [hR]; exact Nat.le_of_ble_eq_true rfl) (fun q35 => ?_)
  have hp := hp.2
  generalize hoa35 : va_up oa26 (U.length + 3) q35 = oa35
  have hq35 : oa35 (U.length + 3) = q35 := by rw [← hoa35]; exact up_at
  have hag : ∀ v, v < U.length → oa35 v = oa v := fun v hv => (show oa35 v = oa26 v by rw [← hoa35]; exact up_ne (by omega)).trans (hag v hv)
  rw [← hq35]
  have hz3 : oa35 u = oa26 u := (by rw [← hoa35]; exact up_ne (by have := c_lt hu0 (by decide); omega))
  rw [← hz3]
  have hcn35 := c_clN (c := (902, 514)) (U := (((U ++ [(902, 257)]) ++ [(903, 8224)]) ++ [(902, 514)])) (n := U.length + 3) (by first | rfl | (simp only [List.length_append, List.length_cons, List.length_nil]; omega))
  have hu := c_clA (V := [(902, 514)]) hu (by decide)
  have hcn8 := c_clA (V := [(902, 514)]) hcn8 (by decide)
  have hcn17 := c_clA (V := [(902, 514)]) hcn17 (by decide)
  have hcn26 := c_clA (V := [(902, 514)]) hcn26 (by decide)
  refine c_putR (ty := .array .int) C u 4 dc_Li_init_37 hu rfl rfl (Nat.le_of_ble_eq_true rfl) f_Li_24 rfl rfl (fun _ => rfl) (fun _ => rfl) rfl rfl hp.1 ?_
  have hp := hp.2
  refine aw_widen (nc' := 4) (ns' := 9509) (Nat.le_of_ble_eq_true rfl) (Nat.le_of_ble_eq_true rfl) ?_
  refine aw_eq (lo' := _) (st' := _) (L' := (cw lt_C (U ++ ext_Li_init) oa35 (c_pr (c_pr (c_pr (c_pr S u 0 U.length) u 2 (U.length + 1)) u 3 (U.length + 2)) u 4 (U.length + 3)))) rfl rfl (by simp only [ext_Li_init, List.append_assoc, List.cons_append, List.nil_append, List.append_nil]) ?_
  exact a_vret C hQ hA dc_Li_init_40 rfl ⟨oa35, (c_pr (c_pr (c_pr (c_pr S u 0 U.length) u 2 (U.length + 1)) u 3 (U.length + 2)) u 4 (U.length + 3)), hp, hag, rfl, rfl⟩
end I_Li_init
def ext_Oc_init : ut := [(902, 257), (902, 257), (902, 256), (902, 256), (902, 17)]
def p_Oc_init (U : ut) (u : Nat) (S : cs) (K : cs → Prop) : Prop :=
  fresh S U.length ∧ (¬ U.length = NU ∧ (fresh (c_pr S u 0 U.length) (U.length + 1) ∧ (¬ (U.length + 1) = NU ∧ (fresh (c_pr (c_pr S u 0 U.length) u 1 (U.length + 1)) (U.length + 2) ∧ (¬ (U.length + 2) = NU ∧ (fresh (c_pr (c_pr (c_pr S u 0 U.length) u 1 (U.length + 1)) u 2 (U.length + 2)) (U.length + 3) ∧ (¬ (U.length + 3) = NU ∧ (fresh (c_pr (c_pr (c_pr (c_pr S u 0 U.length) u 1 (U.length + 1)) u 2 (U.length + 2)) u 3 (U.length + 3)) (U.length + 4) ∧ (¬ (U.length + 4) = NU ∧ (K (c_pr (c_pr (c_pr (c_pr (c_pr S u 0 U.length) u 1 (U.length + 1)) u 2 (U.length + 2)) u 3 (U.length + 3)) u 5 (U.length + 4))))))))))))

section I_Oc_init
variable {D : va_G} {z : Nat → ClassId} {U : ut} {oa : Nat → Nat}
set_option maxRecDepth 100000 in
set_option maxHeartbeats 4000000 in
theorem ct_Oc_init {l : Launch} (u : Nat) (S : cs) {K : cs → Prop} (hu : c_cl U u = 5) (hp : p_Oc_init U u S K) : ct gG D z l n_C_Oc_init c_C_Oc_init 1 (none) 2 200 [.ref (oa u)] (cw lt_C U oa S) 5 1043 (pC_n lt_C U ext_Oc_init oa K) := by
  refine ct_ofI (lo := [some (.ref (oa u))]) (by decide) g_ok (Nat.le_of_ble_eq_true rfl) rfl ?_
  intro X A _ C hR hQ hA _ hin
  unfold p_Oc_init at hp
  have hu0 := hu
  have hag : ∀ v, v < U.length → oa v = oa v := fun _ _ => rfl
  refine a_aload_n C dc_Oc_init_0 rfl rfl ?_
  refine a_obj C dc_Oc_init_1 l_Oc_3 oi_M oc_M (Nat.le_of_ble_eq_true rfl) (by rw [hR]; exact Nat.le_of_ble_eq_true rfl) (by rw [hR]; exact Nat.le_of_ble_eq_true rfl) ?_
  refine a_aload_n C dc_Oc_init_4 rfl rfl ?_
  refine a_sipush (v := 257) C dc_Oc_init_5 (by decide) ?_
  refine c_newa (ty := .int) (N := 257) (n := U.length) C 2 dc_Oc_init_8 ac_int rfl (C.kn.2 0 _ rfl).2 (fun _ => rfl) (by decide) (by decide) (by decide) (by decide) (by first | rfl | (simp only [List.length_append, List.length_cons, List.length_nil]; omega)) hp.1 (by rw [hR]; exact Nat.le_of_ble_eq_true rfl) (by rw [hR]; exact Nat.le_of_ble_eq_true rfl) (fun q8 => ?_)
  have hp := hp.2
  generalize hoa8 : va_up oa U.length q8 = oa8
  have hq8 : oa8 U.length = q8 := by rw [← hoa8]; exact up_at
  have hag : ∀ v, v < U.length → oa8 v = oa v := fun v hv => (show oa8 v = oa v by rw [← hoa8]; exact up_ne (by omega)).trans (hag v hv)
  rw [← hq8]
  have hz0 : oa8 u = oa u := (by rw [← hoa8]; exact up_ne (by have := c_lt hu0 (by decide); omega))
  rw [← hz0]
  have hcn8 := c_clN (c := (902, 257)) (U := U) (n := U.length) (by first | rfl | (simp only [List.length_append, List.length_cons, List.length_nil]; omega))
  have hu := c_clA (V := [(902, 257)]) hu (by decide)
  refine c_putRF (ty := .array .int) C u 0 hin dc_Oc_init_10 hu rfl rfl (Nat.le_of_ble_eq_true rfl) f_Oc_11 rfl rfl rfl (fun _ => rfl) (fun _ => rfl) rfl rfl hp.1 ?_
  have hp := hp.2
  refine a_aload_n C dc_Oc_init_13 rfl rfl ?_
  refine a_sipush (v := 257) C dc_Oc_init_14 (by decide) ?_
  refine c_newa (ty := .int) (N := 257) (n := U.length + 1) C 2 dc_Oc_init_17 ac_int rfl (C.kn.2 0 _ rfl).2 (fun _ => rfl) (by decide) (by decide) (by decide) (by decide) (by first | rfl | (simp only [List.length_append, List.length_cons, List.length_nil]; omega)) hp.1 (by rw [hR]; exact Nat.le_of_ble_eq_true rfl) (by rw [hR]; exact Nat.le_of_ble_eq_true rfl) (fun q17 => ?_)
  have hp := hp.2
  generalize hoa17 : va_up oa8 (U.length + 1) q17 = oa17
  have hq17 : oa17 (U.length + 1) = q17 := by rw [← hoa17]; exact up_at
  have hag : ∀ v, v < U.length → oa17 v = oa v := fun v hv => (show oa17 v = oa8 v by rw [← hoa17]; exact up_ne (by omega)).trans (hag v hv)
  rw [← hq17]
  have hz1 : oa17 u = oa8 u := (by rw [← hoa17]; exact up_ne (by have := c_lt hu0 (by decide); omega))
  rw [← hz1]
  have hcn17 := c_clN (c := (902, 257)) (U := (U ++ [(902, 257)])) (n := U.length + 1) (by first | rfl | (simp only [List.length_append, List.length_cons, List.length_nil]; omega))
  have hu := c_clA (V := [(902, 257)]) hu (by decide)
  have hcn8 := c_clA (V := [(902, 257)]) hcn8 (by decide)
  refine c_putRF (ty := .array .int) C u 1 hin dc_Oc_init_19 hu rfl rfl (Nat.le_of_ble_eq_true rfl) f_Oc_15 rfl rfl rfl (fun _ => rfl) (fun _ => rfl) rfl rfl hp.1 ?_
  have hp := hp.2
  refine a_aload_n C dc_Oc_init_22 rfl rfl ?_
  refine a_sipush (v := 256) C dc_Oc_init_23 (by decide) ?_
  refine c_newa (ty := .int) (N := 256) (n := U.length + 2) C 2 dc_Oc_init_26 ac_int rfl (C.kn.2 0 _ rfl).2 (fun _ => rfl) (by decide) (by decide) (by decide) (by decide) (by first | rfl | (simp only [List.length_append, List.length_cons, List.length_nil]; omega)) hp.1 (by rw [hR]; exact Nat.le_of_ble_eq_true rfl) (by rw [hR]; exact Nat.le_of_ble_eq_true rfl) (fun q26 => ?_)
  have hp := hp.2
  generalize hoa26 : va_up oa17 (U.length + 2) q26 = oa26
  have hq26 : oa26 (U.length + 2) = q26 := by rw [← hoa26]; exact up_at
  have hag : ∀ v, v < U.length → oa26 v = oa v := fun v hv => (show oa26 v = oa17 v by rw [← hoa26]; exact up_ne (by omega)).trans (hag v hv)
  rw [← hq26]
  have hz2 : oa26 u = oa17 u := (by rw [← hoa26]; exact up_ne (by have := c_lt hu0 (by decide); omega))
  rw [← hz2]
  have hcn26 := c_clN (c := (902, 256)) (U := ((U ++ [(902, 257)]) ++ [(902, 257)])) (n := U.length + 2) (by first | rfl | (simp only [List.length_append, List.length_cons, List.length_nil]; omega))
  have hu := c_clA (V := [(902, 256)]) hu (by decide)
  have hcn8 := c_clA (V := [(902, 256)]) hcn8 (by decide)
  have hcn17 := c_clA (V := [(902, 256)]) hcn17 (by decide)
  refine c_putRF (ty := .array .int) C u 2 hin dc_Oc_init_28 hu rfl rfl (Nat.le_of_ble_eq_true rfl) f_Oc_18 rfl rfl rfl (fun _ => rfl) (fun _ => rfl) rfl rfl hp.1 ?_
  have hp := hp.2
  refine a_aload_n C dc_Oc_init_31 rfl rfl ?_
  refine a_sipush (v := 256) C dc_Oc_init_32 (by decide) ?_
  refine c_newa (ty := .int) (N := 256) (n := U.length + 3) C 2 dc_Oc_init_35 ac_int rfl (C.kn.2 0 _ rfl).2 (fun _ => rfl) (by decide) (by decide) (by decide) (by decide) (by first | rfl | (simp only [List.length_append, List.length_cons, List.length_nil]; omega)) hp.1 (by rw [hR]; exact Nat.le_of_ble_eq_true rfl) (by rw [hR]; exact Nat.le_of_ble_eq_true rfl) (fun q35 => ?_)
  have hp := hp.2
  generalize hoa35 : va_up oa26 (U.length + 3) q35 = oa35
  have hq35 : oa35 (U.length + 3) = q35 := by rw [← hoa35]; exact up_at
  have hag : ∀ v, v < U.length → oa35 v = oa v := fun v hv => (show oa35 v = oa26 v by rw [← hoa35]; exact up_ne (by omega)).trans (hag v hv)
  rw [← hq35]
  have hz3 : oa35 u = oa26 u := (by rw [← hoa35]; exact up_ne (by have := c_lt hu0 (by decide); omega))
  rw [← hz3]
  have hcn35 := c_clN (c := (902, 256)) (U := (((U ++ [(902, 257)]) ++ [(902, 257)]) ++ [(902, 256)])) (n := U.length + 3) (by first | rfl | (simp only [List.length_append, List.length_cons, List.length_nil]; omega))
  have hu := c_clA (V := [(902, 256)]) hu (by decide)
  have hcn8 := c_clA (V := [(902, 256)]) hcn8 (by decide)
  have hcn17 := c_clA (V := [(902, 256)]) hcn17 (by decide)
  have hcn26 := c_clA (V := [(902, 256)]) hcn26 (by decide)
  refine c_putRF (ty := .array .int) C u 3 hin dc_Oc_init_37 hu rfl rfl (Nat.le_of_ble_eq_true rfl) f_Oc_21 rfl rfl rfl (fun _ => rfl) (fun _ => rfl) rfl rfl hp.1 ?_
  have hp := hp.2
  refine a_aload_n C dc_Oc_init_40 rfl rfl ?_
  refine a_bipush (v := 17) C dc_Oc_init_41 (by decide) ?_
  refine c_newa (ty := .int) (N := 17) (n := U.length + 4) C 2 dc_Oc_init_43 ac_int rfl (C.kn.2 0 _ rfl).2 (fun _ => rfl) (by decide) (by decide) (by decide) (by decide) (by first | rfl | (simp only [List.length_append, List.length_cons, List.length_nil]; omega)) hp.1 (by rw [hR]; exact Nat.le_of_ble_eq_true rfl) (by rw [hR]; exact Nat.le_of_ble_eq_true rfl) (fun q43 => ?_)
  have hp := hp.2
  generalize hoa43 : va_up oa35 (U.length + 4) q43 = oa43
  have hq43 : oa43 (U.length + 4) = q43 := by rw [← hoa43]; exact up_at
  have hag : ∀ v, v < U.length → oa43 v = oa v := fun v hv => (show oa43 v = oa35 v by rw [← hoa43]; exact up_ne (by omega)).trans (hag v hv)
  rw [← hq43]
  have hz4 : oa43 u = oa35 u := (by rw [← hoa43]; exact up_ne (by have := c_lt hu0 (by decide); omega))
  rw [← hz4]
  have hcn43 := c_clN (c := (902, 17)) (U := ((((U ++ [(902, 257)]) ++ [(902, 257)]) ++ [(902, 256)]) ++ [(902, 256)])) (n := U.length + 4) (by first | rfl | (simp only [List.length_append, List.length_cons, List.length_nil]; omega))
  have hu := c_clA (V := [(902, 17)]) hu (by decide)
  have hcn8 := c_clA (V := [(902, 17)]) hcn8 (by decide)
  have hcn17 := c_clA (V := [(902, 17)]) hcn17 (by decide)
  have hcn26 := c_clA (V := [(902, 17)]) hcn26 (by decide)
  have hcn35 := c_clA (V := [(902, 17)]) hcn35 (by decide)
  refine c_putRF (ty := .array .int) C u 5 hin dc_Oc_init_45 hu rfl rfl (Nat.le_of_ble_eq_true rfl) f_Oc_24 rfl rfl rfl (fun _ => rfl) (fun _ => rfl) rfl rfl hp.1 ?_
  have hp := hp.2
  refine aw_widen (nc' := 5) (ns' := 1043) (Nat.le_of_ble_eq_true rfl) (Nat.le_of_ble_eq_true rfl) ?_
  refine aw_eq (lo' := _) (st' := _) (L' := (cw lt_C (U ++ ext_Oc_init) oa43 (c_pr (c_pr (c_pr (c_pr (c_pr S u 0 U.length) u 1 (U.length + 1)) u 2 (U.length + 2)) u 3 (U.length + 3)) u 5 (U.length + 4)))) rfl rfl (by simp only [ext_Oc_init, List.append_assoc, List.cons_append, List.nil_append, List.append_nil]) ?_
  exact a_vret C hQ hA dc_Oc_init_48 rfl ⟨oa43, (c_pr (c_pr (c_pr (c_pr (c_pr S u 0 U.length) u 1 (U.length + 1)) u 2 (U.length + 2)) u 3 (U.length + 3)) u 5 (U.length + 4)), hp, hag, rfl, rfl⟩
end I_Oc_init
def ext_Pa_init : ut := [(9, 0), (902, 65536), (12, 0), (902, 64), (902, 64), (902, 64), (904, 64), (7, 0), (902, 3), (902, 3), (902, 3), (902, 3), (902, 3), (902, 3), (902, 12288), (902, 192), (902, 12288), (10, 0), (902, 3), (902, 3), (902, 3), (902, 192), (4, 0), (902, 257), (903, 8224), (902, 514), (902, 514), (950, 2), (5, 0), (902, 257), (902, 257), (902, 256), (902, 256), (902, 17), (5, 0), (902, 257), (902, 257), (902, 256), (902, 256), (902, 17), (950, 2), (5, 0), (902, 257), (902, 257), (902, 256), (902, 256), (902, 17), (5, 0), (902, 257), (902, 257), (902, 256), (902, 256), (902, 17), (902, 3)]
def p_Pa_init (U : ut) (u : Nat) (S : cs) (K : cs → Prop) : Prop :=
  fresh S U.length ∧ (p_Ro_init (U ++ [(9, 0)]) U.length 65536 S 65536 (fun S11 => ¬ U.length = NU ∧ (fresh (c_pr S11 u 0 U.length) (U.length + 2) ∧ (p_Wa_init (((U ++ [(9, 0)]) ++ [(902, 65536)]) ++ [(12, 0)]) (U.length + 2) (c_pr S11 u 0 U.length) (fun S22 => ¬ (U.length + 2) = NU ∧ (fresh (c_pr S22 u 1 (U.length + 2)) (U.length + 7) ∧ (p_Pi_init (((((U ++ [(9, 0)]) ++ [(902, 65536)]) ++ [(12, 0)]) ++ [(902, 64), (902, 64), (902, 64), (904, 64)]) ++ [(7, 0)]) (U.length + 7) (c_pr S22 u 1 (U.length + 2)) (fun S33 => ¬ (U.length + 7) = NU ∧ (fresh (c_pr S33 u 2 (U.length + 7)) (U.length + 17) ∧ (p_Sc_init (((((((U ++ [(9, 0)]) ++ [(902, 65536)]) ++ [(12, 0)]) ++ [(902, 64), (902, 64), (902, 64), (904, 64)]) ++ [(7, 0)]) ++ [(902, 3), (902, 3), (902, 3), (902, 3), (902, 3), (902, 3), (902, 12288), (902, 192), (902, 12288)]) ++ [(10, 0)]) (U.length + 17) (c_pr S33 u 2 (U.length + 7)) (fun S44 => ¬ (U.length + 17) = NU ∧ (fresh (c_pr S44 u 3 (U.length + 17)) (U.length + 22) ∧ (p_Li_init (((((((((U ++ [(9, 0)]) ++ [(902, 65536)]) ++ [(12, 0)]) ++ [(902, 64), (902, 64), (902, 64), (904, 64)]) ++ [(7, 0)]) ++ [(902, 3), (902, 3), (902, 3), (902, 3), (902, 3), (902, 3), (902, 12288), (902, 192), (902, 12288)]) ++ [(10, 0)]) ++ [(902, 3), (902, 3), (902, 3), (902, 192)]) ++ [(4, 0)]) (U.length + 22) (c_pr S44 u 3 (U.length + 17)) (fun S55 => ¬ (U.length + 22) = NU ∧ (fresh (c_pr S55 u 4 (U.length + 22)) (U.length + 27) ∧ (fresh (c_pr S55 u 4 (U.length + 22)) (U.length + 28) ∧ (p_Oc_init ((((((((((((U ++ [(9, 0)]) ++ [(902, 65536)]) ++ [(12, 0)]) ++ [(902, 64), (902, 64), (902, 64), (904, 64)]) ++ [(7, 0)]) ++ [(902, 3), (902, 3), (902, 3), (902, 3), (902, 3), (902, 3), (902, 12288), (902, 192), (902, 12288)]) ++ [(10, 0)]) ++ [(902, 3), (902, 3), (902, 3), (902, 192)]) ++ [(4, 0)]) ++ [(902, 257), (903, 8224), (902, 514), (902, 514)]) ++ [(950, 2)]) ++ [(5, 0)]) (U.length + 28) (c_pr S55 u 4 (U.length + 22)) (fun S72 => vp_in 0 (c_ln (((((((((((((U ++ [(9, 0)]) ++ [(902, 65536)]) ++ [(12, 0)]) ++ [(902, 64), (902, 64), (902, 64), (904, 64)]) ++ [(7, 0)]) ++ [(902, 3), (902, 3), (902, 3), (902, 3), (902, 3), (902, 3), (902, 12288), (902, 192), (902, 12288)]) ++ [(10, 0)]) ++ [(902, 3), (902, 3), (902, 3), (902, 192)]) ++ [(4, 0)]) ++ [(902, 257), (903, 8224), (902, 514), (902, 514)]) ++ [(950, 2)]) ++ [(5, 0)]) ++ [(902, 257), (902, 257), (902, 256), (902, 256), (902, 17)]) (U.length + 27)) ∧ ¬ (U.length + 28) = NU ∧ (fresh (c_pr S72 (U.length + 27) (0 : Int32).toNatClampNeg (U.length + 28)) (U.length + 34) ∧ (p_Oc_init ((((((((((((((U ++ [(9, 0)]) ++ [(902, 65536)]) ++ [(12, 0)]) ++ [(902, 64), (902, 64), (902, 64), (904, 64)]) ++ [(7, 0)]) ++ [(902, 3), (902, 3), (902, 3), (902, 3), (902, 3), (902, 3), (902, 12288), (902, 192), (902, 12288)]) ++ [(10, 0)]) ++ [(902, 3), (902, 3), (902, 3), (902, 192)]) ++ [(4, 0)]) ++ [(902, 257), (903, 8224), (902, 514), (902, 514)]) ++ [(950, 2)]) ++ [(5, 0)]) ++ [(902, 257), (902, 257), (902, 256), (902, 256), (902, 17)]) ++ [(5, 0)]) (U.length + 34) (c_pr S72 (U.length + 27) (0 : Int32).toNatClampNeg (U.length + 28)) (fun S82 => vp_in 1 (c_ln (((((((((((((((U ++ [(9, 0)]) ++ [(902, 65536)]) ++ [(12, 0)]) ++ [(902, 64), (902, 64), (902, 64), (904, 64)]) ++ [(7, 0)]) ++ [(902, 3), (902, 3), (902, 3), (902, 3), (902, 3), (902, 3), (902, 12288), (902, 192), (902, 12288)]) ++ [(10, 0)]) ++ [(902, 3), (902, 3), (902, 3), (902, 192)]) ++ [(4, 0)]) ++ [(902, 257), (903, 8224), (902, 514), (902, 514)]) ++ [(950, 2)]) ++ [(5, 0)]) ++ [(902, 257), (902, 257), (902, 256), (902, 256), (902, 17)]) ++ [(5, 0)]) ++ [(902, 257), (902, 257), (902, 256), (902, 256), (902, 17)]) (U.length + 27)) ∧ ¬ (U.length + 34) = NU ∧ (¬ (U.length + 27) = NU ∧ (fresh (c_pr (c_pr S82 (U.length + 27) (1 : Int32).toNatClampNeg (U.length + 34)) u 5 (U.length + 27)) (U.length + 40) ∧ (fresh (c_pr (c_pr S82 (U.length + 27) (1 : Int32).toNatClampNeg (U.length + 34)) u 5 (U.length + 27)) (U.length + 41) ∧ (p_Oc_init (((((((((((((((((U ++ [(9, 0)]) ++ [(902, 65536)]) ++ [(12, 0)]) ++ [(902, 64), (902, 64), (902, 64), (904, 64)]) ++ [(7, 0)]) ++ [(902, 3), (902, 3), (902, 3), (902, 3), (902, 3), (902, 3), (902, 12288), (902, 192), (902, 12288)]) ++ [(10, 0)]) ++ [(902, 3), (902, 3), (902, 3), (902, 192)]) ++ [(4, 0)]) ++ [(902, 257), (903, 8224), (902, 514), (902, 514)]) ++ [(950, 2)]) ++ [(5, 0)]) ++ [(902, 257), (902, 257), (902, 256), (902, 256), (902, 17)]) ++ [(5, 0)]) ++ [(902, 257), (902, 257), (902, 256), (902, 256), (902, 17)]) ++ [(950, 2)]) ++ [(5, 0)]) (U.length + 41) (c_pr (c_pr S82 (U.length + 27) (1 : Int32).toNatClampNeg (U.length + 34)) u 5 (U.length + 27)) (fun S100 => vp_in 0 (c_ln ((((((((((((((((((U ++ [(9, 0)]) ++ [(902, 65536)]) ++ [(12, 0)]) ++ [(902, 64), (902, 64), (902, 64), (904, 64)]) ++ [(7, 0)]) ++ [(902, 3), (902, 3), (902, 3), (902, 3), (902, 3), (902, 3), (902, 12288), (902, 192), (902, 12288)]) ++ [(10, 0)]) ++ [(902, 3), (902, 3), (902, 3), (902, 192)]) ++ [(4, 0)]) ++ [(902, 257), (903, 8224), (902, 514), (902, 514)]) ++ [(950, 2)]) ++ [(5, 0)]) ++ [(902, 257), (902, 257), (902, 256), (902, 256), (902, 17)]) ++ [(5, 0)]) ++ [(902, 257), (902, 257), (902, 256), (902, 256), (902, 17)]) ++ [(950, 2)]) ++ [(5, 0)]) ++ [(902, 257), (902, 257), (902, 256), (902, 256), (902, 17)]) (U.length + 40)) ∧ ¬ (U.length + 41) = NU ∧ (fresh (c_pr S100 (U.length + 40) (0 : Int32).toNatClampNeg (U.length + 41)) (U.length + 47) ∧ (p_Oc_init (((((((((((((((((((U ++ [(9, 0)]) ++ [(902, 65536)]) ++ [(12, 0)]) ++ [(902, 64), (902, 64), (902, 64), (904, 64)]) ++ [(7, 0)]) ++ [(902, 3), (902, 3), (902, 3), (902, 3), (902, 3), (902, 3), (902, 12288), (902, 192), (902, 12288)]) ++ [(10, 0)]) ++ [(902, 3), (902, 3), (902, 3), (902, 192)]) ++ [(4, 0)]) ++ [(902, 257), (903, 8224), (902, 514), (902, 514)]) ++ [(950, 2)]) ++ [(5, 0)]) ++ [(902, 257), (902, 257), (902, 256), (902, 256), (902, 17)]) ++ [(5, 0)]) ++ [(902, 257), (902, 257), (902, 256), (902, 256), (902, 17)]) ++ [(950, 2)]) ++ [(5, 0)]) ++ [(902, 257), (902, 257), (902, 256), (902, 256), (902, 17)]) ++ [(5, 0)]) (U.length + 47) (c_pr S100 (U.length + 40) (0 : Int32).toNatClampNeg (U.length + 41)) (fun S110 => vp_in 1 (c_ln ((((((((((((((((((((U ++ [(9, 0)]) ++ [(902, 65536)]) ++ [(12, 0)]) ++ [(902, 64), (902, 64), (902, 64), (904, 64)]) ++ [(7, 0)]) ++ [(902, 3), (902, 3), (902, 3), (902, 3), (902, 3), (902, 3), (902, 12288), (902, 192), (902, 12288)]) ++ [(10, 0)]) ++ [(902, 3), (902, 3), (902, 3), (902, 192)]) ++ [(4, 0)]) ++ [(902, 257), (903, 8224), (902, 514), (902, 514)]) ++ [(950, 2)]) ++ [(5, 0)]) ++ [(902, 257), (902, 257), (902, 256), (902, 256), (902, 17)]) ++ [(5, 0)]) ++ [(902, 257), (902, 257), (902, 256), (902, 256), (902, 17)]) ++ [(950, 2)]) ++ [(5, 0)]) ++ [(902, 257), (902, 257), (902, 256), (902, 256), (902, 17)]) ++ [(5, 0)]) ++ [(902, 257), (902, 257), (902, 256), (902, 256), (902, 17)]) (U.length + 40)) ∧ ¬ (U.length + 47) = NU ∧ (¬ (U.length + 40) = NU ∧ (fresh (c_pr (c_pr S110 (U.length + 40) (1 : Int32).toNatClampNeg (U.length + 47)) u 6 (U.length + 40)) (U.length + 53) ∧ (¬ (U.length + 53) = NU ∧ (K (c_pr (c_pr (c_pr S110 (U.length + 40) (1 : Int32).toNatClampNeg (U.length + 47)) u 6 (U.length + 40)) u 7 (U.length + 53)))))))))))))))))))))))))))))))))))

section I_Pa_init
variable {D : va_G} {z : Nat → ClassId} {U : ut} {oa : Nat → Nat}
set_option maxRecDepth 100000 in
set_option maxHeartbeats 4000000 in
theorem ct_Pa_init {l : Launch} (u : Nat) (S : cs) {K : cs → Prop} (hu : c_cl U u = 6) (hp : p_Pa_init U u S K) : ct gG D z l n_C_Pa_init c_C_Pa_init 1 (none) 3 300 [.ref (oa u)] (cw lt_C U oa S) 54 104528 (pC_n lt_C U ext_Pa_init oa K) := by
  refine ct_ofI (lo := [some (.ref (oa u))]) (by decide) g_ok (Nat.le_of_ble_eq_true rfl) rfl ?_
  intro X A _ C hR hQ hA _ hin
  unfold p_Pa_init at hp
  have hu0 := hu
  have hag : ∀ v, v < U.length → oa v = oa v := fun _ _ => rfl
  refine a_aload_n C dc_Pa_init_0 rfl rfl ?_
  refine a_obj C dc_Pa_init_1 l_Pa_3 oi_M oc_M (Nat.le_of_ble_eq_true rfl) (by rw [hR]; exact Nat.le_of_ble_eq_true rfl) (by rw [hR]; exact Nat.le_of_ble_eq_true rfl) ?_
  refine a_aload_n C dc_Pa_init_4 rfl rfl ?_
  refine c_new (ci := 9) (n := U.length) C y_Ro g_ty_Ro dc_Pa_init_5 rfl rfl x_Pa_9 nn_Ro i_Ro df_Ro (by decide) (by first | rfl | (simp only [List.length_append, List.length_cons, List.length_nil]; omega)) hp.1 (by rw [hR]; exact Nat.le_of_ble_eq_true rfl) (by rw [hR]; exact Nat.le_of_ble_eq_true rfl) (fun q5 => ?_)
  have hp := hp.2
  generalize hoa5 : va_up oa U.length q5 = oa5
  have hq5 : oa5 U.length = q5 := by rw [← hoa5]; exact up_at
  have hag : ∀ v, v < U.length → oa5 v = oa v := fun v hv => (show oa5 v = oa v by rw [← hoa5]; exact up_ne (by omega)).trans (hag v hv)
  rw [← hq5]
  have hz0 : oa5 u = oa u := (by rw [← hoa5]; exact up_ne (by have := c_lt hu0 (by decide); omega))
  rw [← hz0]
  have hcn5 := c_clN (c := (9, 0)) (U := U) (n := U.length) (by first | rfl | (simp only [List.length_append, List.length_cons, List.length_nil]; omega))
  have hu := c_clA (V := [(9, 0)]) hu (by decide)
  refine a_dup C dc_Pa_init_8 rfl ?_
  refine a_ldc (v := 65536) C dc_Pa_init_9 k_Pa_11 ?_
  refine c_call (rest := [.ref (oa5 U.length), .ref (oa5 u)]) (av := .ref (oa5 U.length) :: [.int 65536]) C dc_Pa_init_11 (ct_Ro_init U.length 65536 S 65536 (by decide +kernel) (by decide +kernel) (by decide) hcn5 hp) cd_C_Ro_init i_Ro (Nat.le_of_ble_eq_true rfl) (by rw [hR]; exact Nat.le_of_ble_eq_true rfl) (by rw [hR]; exact Nat.le_of_ble_eq_true rfl) (by rw [hR]; exact Nat.le_of_ble_eq_true rfl) (by rw [hR]; exact Nat.le_of_ble_eq_true rfl) (inv_I C dc_Pa_init_11 l_Pa_12 rfl im_C_Ro_init cd_C_Ro_init ⟨by decide, by decide⟩ ln_C_Ro_init rfl) (fun oc L1 hL => ?_)
  obtain ⟨oa11, S11, hp, hb11, rfl, rfl⟩ := hL
  refine ⟨_, rfl, ?_⟩
  have hag : ∀ v, v < U.length → oa11 v = oa v := fun v hv => (hb11 v (by simp only [List.length_append, List.length_cons, List.length_nil]; omega)).trans (hag v hv)
  refine aw_eq (lo' := [some (.ref (oa5 u))]) (st' := [.ref (oa5 U.length), .ref (oa5 u)]) (L' := (cw lt_C ((U ++ [(9, 0)]) ++ [(902, 65536)]) oa11 S11)) rfl rfl rfl ?_
  have hz1 : oa11 u = oa5 u := (hb11 u (by simp only [List.length_append, List.length_cons, List.length_nil]; have := c_lt hu0 (by decide); omega))
  rw [← hz1]
  have hz2 : oa11 U.length = oa5 U.length := (hb11 U.length (by simp only [List.length_append, List.length_cons, List.length_nil]; omega))
  rw [← hz2]
  have hu := c_clA (V := [(902, 65536)]) hu (by decide)
  have hcn5 := c_clA (V := [(902, 65536)]) hcn5 (by decide)
  refine c_putRF (ty := .object "BlockPicture$Row") C u 0 hin dc_Pa_init_14 hu rfl rfl (Nat.le_of_ble_eq_true rfl) f_Pa_15 rfl rfl rfl (fun _ => rfl) (fun _ => rfl) rfl rfl hp.1 ?_
  have hp := hp.2
  refine a_aload_n C dc_Pa_init_17 rfl rfl ?_
  refine c_new (ci := 12) (n := U.length + 2) C y_Wa g_ty_Wa dc_Pa_init_18 rfl rfl x_Pa_21 nn_Wa i_Wa df_Wa (by decide) (by first | rfl | (simp only [List.length_append, List.length_cons, List.length_nil]; omega)) hp.1 (by rw [hR]; exact Nat.le_of_ble_eq_true rfl) (by rw [hR]; exact Nat.le_of_ble_eq_true rfl) (fun q18 => ?_)
  have hp := hp.2
  generalize hoa18 : va_up oa11 (U.length + 2) q18 = oa18
  have hq18 : oa18 (U.length + 2) = q18 := by rw [← hoa18]; exact up_at
  have hag : ∀ v, v < U.length → oa18 v = oa v := fun v hv => (show oa18 v = oa11 v by rw [← hoa18]; exact up_ne (by omega)).trans (hag v hv)
  rw [← hq18]
  have hz3 : oa18 u = oa11 u := (by rw [← hoa18]; exact up_ne (by have := c_lt hu0 (by decide); omega))
  rw [← hz3]
  have hcn18 := c_clN (c := (12, 0)) (U := ((U ++ [(9, 0)]) ++ [(902, 65536)])) (n := U.length + 2) (by first | rfl | (simp only [List.length_append, List.length_cons, List.length_nil]; omega))
  have hu := c_clA (V := [(12, 0)]) hu (by decide)
  have hcn5 := c_clA (V := [(12, 0)]) hcn5 (by decide)
  refine a_dup C dc_Pa_init_21 rfl ?_
  refine c_call (rest := [.ref (oa18 (U.length + 2)), .ref (oa18 u)]) (av := .ref (oa18 (U.length + 2)) :: []) C dc_Pa_init_22 (ct_Wa_init (U.length + 2) (c_pr S11 u 0 U.length) hcn18 hp) cd_C_Wa_init i_Wa (Nat.le_of_ble_eq_true rfl) (by rw [hR]; exact Nat.le_of_ble_eq_true rfl) (by rw [hR]; exact Nat.le_of_ble_eq_true rfl) (by rw [hR]; exact Nat.le_of_ble_eq_true rfl) (by rw [hR]; exact Nat.le_of_ble_eq_true rfl) (inv_I C dc_Pa_init_22 l_Pa_23 rfl im_C_Wa_init cd_C_Wa_init ⟨by decide, by decide⟩ ln_C_Wa_init rfl) (fun oc L1 hL => ?_)
  obtain ⟨oa22, S22, hp, hb22, rfl, rfl⟩ := hL
  refine ⟨_, rfl, ?_⟩
  have hag : ∀ v, v < U.length → oa22 v = oa v := fun v hv => (hb22 v (by simp only [List.length_append, List.length_cons, List.length_nil]; omega)).trans (hag v hv)
  refine aw_eq (lo' := [some (.ref (oa18 u))]) (st' := [.ref (oa18 (U.length + 2)), .ref (oa18 u)]) (L' := (cw lt_C ((((U ++ [(9, 0)]) ++ [(902, 65536)]) ++ [(12, 0)]) ++ [(902, 64), (902, 64), (902, 64), (904, 64)]) oa22 S22)) rfl rfl rfl ?_
  have hz4 : oa22 u = oa18 u := (hb22 u (by simp only [List.length_append, List.length_cons, List.length_nil]; have := c_lt hu0 (by decide); omega))
  rw [← hz4]
  have hz5 : oa22 (U.length + 2) = oa18 (U.length + 2) := (hb22 (U.length + 2) (by simp only [List.length_append, List.length_cons, List.length_nil]; omega))
  rw [← hz5]
  have hu := c_clA (V := [(902, 64), (902, 64), (902, 64), (904, 64)]) hu (by decide)
  have hcn5 := c_clA (V := [(902, 64), (902, 64), (902, 64), (904, 64)]) hcn5 (by decide)
  have hcn18 := c_clA (V := [(902, 64), (902, 64), (902, 64), (904, 64)]) hcn18 (by decide)
  refine c_putRF (ty := .object "BlockPicture$Waves") C u 1 hin dc_Pa_init_25 hu rfl rfl (Nat.le_of_ble_eq_true rfl) f_Pa_24 rfl rfl rfl (fun _ => rfl) (fun _ => rfl) rfl rfl hp.1 ?_
  have hp := hp.2
  refine a_aload_n C dc_Pa_init_28 rfl rfl ?_
  refine c_new (ci := 7) (n := U.length + 7) C y_Pi g_ty_Pi dc_Pa_init_29 rfl rfl x_Pa_28 nn_Pi i_Pi df_Pi (by decide) (by first | rfl | (simp only [List.length_append, List.length_cons, List.length_nil]; omega)) hp.1 (by rw [hR]; exact Nat.le_of_ble_eq_true rfl) (by rw [hR]; exact Nat.le_of_ble_eq_true rfl) (fun q29 => ?_)
  have hp := hp.2
  generalize hoa29 : va_up oa22 (U.length + 7) q29 = oa29
  have hq29 : oa29 (U.length + 7) = q29 := by rw [← hoa29]; exact up_at
  have hag : ∀ v, v < U.length → oa29 v = oa v := fun v hv => (show oa29 v = oa22 v by rw [← hoa29]; exact up_ne (by omega)).trans (hag v hv)
  rw [← hq29]
  have hz6 : oa29 u = oa22 u := (by rw [← hoa29]; exact up_ne (by have := c_lt hu0 (by decide); omega))
  rw [← hz6]
  have hcn29 := c_clN (c := (7, 0)) (U := ((((U ++ [(9, 0)]) ++ [(902, 65536)]) ++ [(12, 0)]) ++ [(902, 64), (902, 64), (902, 64), (904, 64)])) (n := U.length + 7) (by first | rfl | (simp only [List.length_append, List.length_cons, List.length_nil]; omega))
  have hu := c_clA (V := [(7, 0)]) hu (by decide)
  have hcn5 := c_clA (V := [(7, 0)]) hcn5 (by decide)
  have hcn18 := c_clA (V := [(7, 0)]) hcn18 (by decide)
  refine a_dup C dc_Pa_init_32 rfl ?_
  refine c_call (rest := [.ref (oa29 (U.length + 7)), .ref (oa29 u)]) (av := .ref (oa29 (U.length + 7)) :: []) C dc_Pa_init_33 (ct_Pi_init (U.length + 7) (c_pr S22 u 1 (U.length + 2)) hcn29 hp) cd_C_Pi_init i_Pi (Nat.le_of_ble_eq_true rfl) (by rw [hR]; exact Nat.le_of_ble_eq_true rfl) (by rw [hR]; exact Nat.le_of_ble_eq_true rfl) (by rw [hR]; exact Nat.le_of_ble_eq_true rfl) (by rw [hR]; exact Nat.le_of_ble_eq_true rfl) (inv_IN C dc_Pa_init_33 l_Pa_30 rfl im_C_Pi_init cd_C_Pi_init ⟨by decide, by decide⟩ ln_C_Pi_init rfl) (fun oc L1 hL => ?_)
  obtain ⟨oa33, S33, hp, hb33, rfl, rfl⟩ := hL
  refine ⟨_, rfl, ?_⟩
  have hag : ∀ v, v < U.length → oa33 v = oa v := fun v hv => (hb33 v (by simp only [List.length_append, List.length_cons, List.length_nil]; omega)).trans (hag v hv)
  refine aw_eq (lo' := [some (.ref (oa29 u))]) (st' := [.ref (oa29 (U.length + 7)), .ref (oa29 u)]) (L' := (cw lt_C ((((((U ++ [(9, 0)]) ++ [(902, 65536)]) ++ [(12, 0)]) ++ [(902, 64), (902, 64), (902, 64), (904, 64)]) ++ [(7, 0)]) ++ [(902, 3), (902, 3), (902, 3), (902, 3), (902, 3), (902, 3), (902, 12288), (902, 192), (902, 12288)]) oa33 S33)) rfl rfl rfl ?_
  have hz7 : oa33 u = oa29 u := (hb33 u (by simp only [List.length_append, List.length_cons, List.length_nil]; have := c_lt hu0 (by decide); omega))
  rw [← hz7]
  have hz8 : oa33 (U.length + 7) = oa29 (U.length + 7) := (hb33 (U.length + 7) (by simp only [List.length_append, List.length_cons, List.length_nil]; omega))
  rw [← hz8]
  have hu := c_clA (V := [(902, 3), (902, 3), (902, 3), (902, 3), (902, 3), (902, 3), (902, 12288), (902, 192), (902, 12288)]) hu (by decide)
  have hcn5 := c_clA (V := [(902, 3), (902, 3), (902, 3), (902, 3), (902, 3), (902, 3), (902, 12288), (902, 192), (902, 12288)]) hcn5 (by decide)
  have hcn18 := c_clA (V := [(902, 3), (902, 3), (902, 3), (902, 3), (902, 3), (902, 3), (902, 12288), (902, 192), (902, 12288)]) hcn18 (by decide)
  have hcn29 := c_clA (V := [(902, 3), (902, 3), (902, 3), (902, 3), (902, 3), (902, 3), (902, 12288), (902, 192), (902, 12288)]) hcn29 (by decide)
  refine c_putRF (ty := .object "BlockPicture$Picture") C u 2 hin dc_Pa_init_36 hu rfl rfl (Nat.le_of_ble_eq_true rfl) f_Pa_31 rfl rfl rfl (fun _ => rfl) (fun _ => rfl) rfl rfl hp.1 ?_
  have hp := hp.2
  refine a_aload_n C dc_Pa_init_39 rfl rfl ?_
  refine c_new (ci := 10) (n := U.length + 17) C y_Sc g_ty_Sc dc_Pa_init_40 rfl rfl x_Pa_35 nn_Sc i_Sc df_Sc (by decide) (by first | rfl | (simp only [List.length_append, List.length_cons, List.length_nil]; omega)) hp.1 (by rw [hR]; exact Nat.le_of_ble_eq_true rfl) (by rw [hR]; exact Nat.le_of_ble_eq_true rfl) (fun q40 => ?_)
  have hp := hp.2
  generalize hoa40 : va_up oa33 (U.length + 17) q40 = oa40
  have hq40 : oa40 (U.length + 17) = q40 := by rw [← hoa40]; exact up_at
  have hag : ∀ v, v < U.length → oa40 v = oa v := fun v hv => (show oa40 v = oa33 v by rw [← hoa40]; exact up_ne (by omega)).trans (hag v hv)
  rw [← hq40]
  have hz9 : oa40 u = oa33 u := (by rw [← hoa40]; exact up_ne (by have := c_lt hu0 (by decide); omega))
  rw [← hz9]
  have hcn40 := c_clN (c := (10, 0)) (U := ((((((U ++ [(9, 0)]) ++ [(902, 65536)]) ++ [(12, 0)]) ++ [(902, 64), (902, 64), (902, 64), (904, 64)]) ++ [(7, 0)]) ++ [(902, 3), (902, 3), (902, 3), (902, 3), (902, 3), (902, 3), (902, 12288), (902, 192), (902, 12288)])) (n := U.length + 17) (by first | rfl | (simp only [List.length_append, List.length_cons, List.length_nil]; omega))
  have hu := c_clA (V := [(10, 0)]) hu (by decide)
  have hcn5 := c_clA (V := [(10, 0)]) hcn5 (by decide)
  have hcn18 := c_clA (V := [(10, 0)]) hcn18 (by decide)
  have hcn29 := c_clA (V := [(10, 0)]) hcn29 (by decide)
  refine a_dup C dc_Pa_init_43 rfl ?_
  refine c_call (rest := [.ref (oa40 (U.length + 17)), .ref (oa40 u)]) (av := .ref (oa40 (U.length + 17)) :: []) C dc_Pa_init_44 (ct_Sc_init (U.length + 17) (c_pr S33 u 2 (U.length + 7)) hcn40 hp) cd_C_Sc_init i_Sc (Nat.le_of_ble_eq_true rfl) (by rw [hR]; exact Nat.le_of_ble_eq_true rfl) (by rw [hR]; exact Nat.le_of_ble_eq_true rfl) (by rw [hR]; exact Nat.le_of_ble_eq_true rfl) (by rw [hR]; exact Nat.le_of_ble_eq_true rfl) (inv_IN C dc_Pa_init_44 l_Pa_37 rfl im_C_Sc_init cd_C_Sc_init ⟨by decide, by decide⟩ ln_C_Sc_init rfl) (fun oc L1 hL => ?_)
  obtain ⟨oa44, S44, hp, hb44, rfl, rfl⟩ := hL
  refine ⟨_, rfl, ?_⟩
  have hag : ∀ v, v < U.length → oa44 v = oa v := fun v hv => (hb44 v (by simp only [List.length_append, List.length_cons, List.length_nil]; omega)).trans (hag v hv)
  refine aw_eq (lo' := [some (.ref (oa40 u))]) (st' := [.ref (oa40 (U.length + 17)), .ref (oa40 u)]) (L' := (cw lt_C ((((((((U ++ [(9, 0)]) ++ [(902, 65536)]) ++ [(12, 0)]) ++ [(902, 64), (902, 64), (902, 64), (904, 64)]) ++ [(7, 0)]) ++ [(902, 3), (902, 3), (902, 3), (902, 3), (902, 3), (902, 3), (902, 12288), (902, 192), (902, 12288)]) ++ [(10, 0)]) ++ [(902, 3), (902, 3), (902, 3), (902, 192)]) oa44 S44)) rfl rfl rfl ?_
  have hz10 : oa44 u = oa40 u := (hb44 u (by simp only [List.length_append, List.length_cons, List.length_nil]; have := c_lt hu0 (by decide); omega))
  rw [← hz10]
  have hz11 : oa44 (U.length + 17) = oa40 (U.length + 17) := (hb44 (U.length + 17) (by simp only [List.length_append, List.length_cons, List.length_nil]; omega))
  rw [← hz11]
  have hu := c_clA (V := [(902, 3), (902, 3), (902, 3), (902, 192)]) hu (by decide)
  have hcn5 := c_clA (V := [(902, 3), (902, 3), (902, 3), (902, 192)]) hcn5 (by decide)
  have hcn18 := c_clA (V := [(902, 3), (902, 3), (902, 3), (902, 192)]) hcn18 (by decide)
  have hcn29 := c_clA (V := [(902, 3), (902, 3), (902, 3), (902, 192)]) hcn29 (by decide)
  have hcn40 := c_clA (V := [(902, 3), (902, 3), (902, 3), (902, 192)]) hcn40 (by decide)
  refine c_putRF (ty := .object "BlockPicture$Scan") C u 3 hin dc_Pa_init_47 hu rfl rfl (Nat.le_of_ble_eq_true rfl) f_Pa_38 rfl rfl rfl (fun _ => rfl) (fun _ => rfl) rfl rfl hp.1 ?_
  have hp := hp.2
  refine a_aload_n C dc_Pa_init_50 rfl rfl ?_
  refine c_new (ci := 4) (n := U.length + 22) C y_Li g_ty_Li dc_Pa_init_51 rfl rfl x_Pa_42 nn_Li i_Li df_Li (by decide) (by first | rfl | (simp only [List.length_append, List.length_cons, List.length_nil]; omega)) hp.1 (by rw [hR]; exact Nat.le_of_ble_eq_true rfl) (by rw [hR]; exact Nat.le_of_ble_eq_true rfl) (fun q51 => ?_)
  have hp := hp.2
  generalize hoa51 : va_up oa44 (U.length + 22) q51 = oa51
  have hq51 : oa51 (U.length + 22) = q51 := by rw [← hoa51]; exact up_at
  have hag : ∀ v, v < U.length → oa51 v = oa v := fun v hv => (show oa51 v = oa44 v by rw [← hoa51]; exact up_ne (by omega)).trans (hag v hv)
  rw [← hq51]
  have hz12 : oa51 u = oa44 u := (by rw [← hoa51]; exact up_ne (by have := c_lt hu0 (by decide); omega))
  rw [← hz12]
  have hcn51 := c_clN (c := (4, 0)) (U := ((((((((U ++ [(9, 0)]) ++ [(902, 65536)]) ++ [(12, 0)]) ++ [(902, 64), (902, 64), (902, 64), (904, 64)]) ++ [(7, 0)]) ++ [(902, 3), (902, 3), (902, 3), (902, 3), (902, 3), (902, 3), (902, 12288), (902, 192), (902, 12288)]) ++ [(10, 0)]) ++ [(902, 3), (902, 3), (902, 3), (902, 192)])) (n := U.length + 22) (by first | rfl | (simp only [List.length_append, List.length_cons, List.length_nil]; omega))
  have hu := c_clA (V := [(4, 0)]) hu (by decide)
  have hcn5 := c_clA (V := [(4, 0)]) hcn5 (by decide)
  have hcn18 := c_clA (V := [(4, 0)]) hcn18 (by decide)
  have hcn29 := c_clA (V := [(4, 0)]) hcn29 (by decide)
  have hcn40 := c_clA (V := [(4, 0)]) hcn40 (by decide)
  refine a_dup C dc_Pa_init_54 rfl ?_
  refine c_call (rest := [.ref (oa51 (U.length + 22)), .ref (oa51 u)]) (av := .ref (oa51 (U.length + 22)) :: []) C dc_Pa_init_55 (ct_Li_init (U.length + 22) (c_pr S44 u 3 (U.length + 17)) hcn51 hp) cd_C_Li_init i_Li (Nat.le_of_ble_eq_true rfl) (by rw [hR]; exact Nat.le_of_ble_eq_true rfl) (by rw [hR]; exact Nat.le_of_ble_eq_true rfl) (by rw [hR]; exact Nat.le_of_ble_eq_true rfl) (by rw [hR]; exact Nat.le_of_ble_eq_true rfl) (inv_IN C dc_Pa_init_55 l_Pa_44 rfl im_C_Li_init cd_C_Li_init ⟨by decide, by decide⟩ ln_C_Li_init rfl) (fun oc L1 hL => ?_)
  obtain ⟨oa55, S55, hp, hb55, rfl, rfl⟩ := hL
  refine ⟨_, rfl, ?_⟩
  have hag : ∀ v, v < U.length → oa55 v = oa v := fun v hv => (hb55 v (by simp only [List.length_append, List.length_cons, List.length_nil]; omega)).trans (hag v hv)
  refine aw_eq (lo' := [some (.ref (oa51 u))]) (st' := [.ref (oa51 (U.length + 22)), .ref (oa51 u)]) (L' := (cw lt_C ((((((((((U ++ [(9, 0)]) ++ [(902, 65536)]) ++ [(12, 0)]) ++ [(902, 64), (902, 64), (902, 64), (904, 64)]) ++ [(7, 0)]) ++ [(902, 3), (902, 3), (902, 3), (902, 3), (902, 3), (902, 3), (902, 12288), (902, 192), (902, 12288)]) ++ [(10, 0)]) ++ [(902, 3), (902, 3), (902, 3), (902, 192)]) ++ [(4, 0)]) ++ [(902, 257), (903, 8224), (902, 514), (902, 514)]) oa55 S55)) rfl rfl rfl ?_
  have hz13 : oa55 u = oa51 u := (hb55 u (by simp only [List.length_append, List.length_cons, List.length_nil]; have := c_lt hu0 (by decide); omega))
  rw [← hz13]
  have hz14 : oa55 (U.length + 22) = oa51 (U.length + 22) := (hb55 (U.length + 22) (by simp only [List.length_append, List.length_cons, List.length_nil]; omega))
  rw [← hz14]
  have hu := c_clA (V := [(902, 257), (903, 8224), (902, 514), (902, 514)]) hu (by decide)
  have hcn5 := c_clA (V := [(902, 257), (903, 8224), (902, 514), (902, 514)]) hcn5 (by decide)
  have hcn18 := c_clA (V := [(902, 257), (903, 8224), (902, 514), (902, 514)]) hcn18 (by decide)
  have hcn29 := c_clA (V := [(902, 257), (903, 8224), (902, 514), (902, 514)]) hcn29 (by decide)
  have hcn40 := c_clA (V := [(902, 257), (903, 8224), (902, 514), (902, 514)]) hcn40 (by decide)
  have hcn51 := c_clA (V := [(902, 257), (903, 8224), (902, 514), (902, 514)]) hcn51 (by decide)
  refine c_putRF (ty := .object "BlockPicture$Lines") C u 4 hin dc_Pa_init_58 hu rfl rfl (Nat.le_of_ble_eq_true rfl) f_Pa_45 rfl rfl rfl (fun _ => rfl) (fun _ => rfl) rfl rfl hp.1 ?_
  have hp := hp.2
  refine a_aload_n C dc_Pa_init_61 rfl rfl ?_
  refine a_iconst (v := 2) C dc_Pa_init_62 (by decide) ?_
  refine c_anew (ci := 950) (N := 2) (n := U.length + 27) C 0 dc_Pa_init_63 x_Pa_49 ao_950 rfl rfl (by decide) (by decide) (by decide) (by first | rfl | (simp only [List.length_append, List.length_cons, List.length_nil]; omega)) hp.1 (by rw [hR]; exact Nat.le_of_ble_eq_true rfl) (by rw [hR]; exact Nat.le_of_ble_eq_true rfl) (fun q63 => ?_)
  have hp := hp.2
  generalize hoa63 : va_up oa55 (U.length + 27) q63 = oa63
  have hq63 : oa63 (U.length + 27) = q63 := by rw [← hoa63]; exact up_at
  have hag : ∀ v, v < U.length → oa63 v = oa v := fun v hv => (show oa63 v = oa55 v by rw [← hoa63]; exact up_ne (by omega)).trans (hag v hv)
  rw [← hq63]
  have hz15 : oa63 u = oa55 u := (by rw [← hoa63]; exact up_ne (by have := c_lt hu0 (by decide); omega))
  rw [← hz15]
  have hcn63 := c_clN (c := (950, 2)) (U := ((((((((((U ++ [(9, 0)]) ++ [(902, 65536)]) ++ [(12, 0)]) ++ [(902, 64), (902, 64), (902, 64), (904, 64)]) ++ [(7, 0)]) ++ [(902, 3), (902, 3), (902, 3), (902, 3), (902, 3), (902, 3), (902, 12288), (902, 192), (902, 12288)]) ++ [(10, 0)]) ++ [(902, 3), (902, 3), (902, 3), (902, 192)]) ++ [(4, 0)]) ++ [(902, 257), (903, 8224), (902, 514), (902, 514)])) (n := U.length + 27) (by first | rfl | (simp only [List.length_append, List.length_cons, List.length_nil]; omega))
  have hu := c_clA (V := [(950, 2)]) hu (by decide)
  have hcn5 := c_clA (V := [(950, 2)]) hcn5 (by decide)
  have hcn18 := c_clA (V := [(950, 2)]) hcn18 (by decide)
  have hcn29 := c_clA (V := [(950, 2)]) hcn29 (by decide)
  have hcn40 := c_clA (V := [(950, 2)]) hcn40 (by decide)
  have hcn51 := c_clA (V := [(950, 2)]) hcn51 (by decide)
  refine a_dup C dc_Pa_init_66 rfl ?_
  refine a_iconst (v := 0) C dc_Pa_init_67 (by decide) ?_
  refine c_new (ci := 5) (n := U.length + 28) C y_Oc g_ty_Oc dc_Pa_init_68 rfl rfl x_Pa_49 nn_Oc i_Oc df_Oc (by decide) (by first | rfl | (simp only [List.length_append, List.length_cons, List.length_nil]; omega)) hp.1 (by rw [hR]; exact Nat.le_of_ble_eq_true rfl) (by rw [hR]; exact Nat.le_of_ble_eq_true rfl) (fun q68 => ?_)
  have hp := hp.2
  generalize hoa68 : va_up oa63 (U.length + 28) q68 = oa68
  have hq68 : oa68 (U.length + 28) = q68 := by rw [← hoa68]; exact up_at
  have hag : ∀ v, v < U.length → oa68 v = oa v := fun v hv => (show oa68 v = oa63 v by rw [← hoa68]; exact up_ne (by omega)).trans (hag v hv)
  rw [← hq68]
  have hz16 : oa68 u = oa63 u := (by rw [← hoa68]; exact up_ne (by have := c_lt hu0 (by decide); omega))
  rw [← hz16]
  have hz17 : oa68 (U.length + 27) = oa63 (U.length + 27) := (by rw [← hoa68]; exact up_ne (by omega))
  rw [← hz17]
  have hcn68 := c_clN (c := (5, 0)) (U := (((((((((((U ++ [(9, 0)]) ++ [(902, 65536)]) ++ [(12, 0)]) ++ [(902, 64), (902, 64), (902, 64), (904, 64)]) ++ [(7, 0)]) ++ [(902, 3), (902, 3), (902, 3), (902, 3), (902, 3), (902, 3), (902, 12288), (902, 192), (902, 12288)]) ++ [(10, 0)]) ++ [(902, 3), (902, 3), (902, 3), (902, 192)]) ++ [(4, 0)]) ++ [(902, 257), (903, 8224), (902, 514), (902, 514)]) ++ [(950, 2)])) (n := U.length + 28) (by first | rfl | (simp only [List.length_append, List.length_cons, List.length_nil]; omega))
  have hu := c_clA (V := [(5, 0)]) hu (by decide)
  have hcn5 := c_clA (V := [(5, 0)]) hcn5 (by decide)
  have hcn18 := c_clA (V := [(5, 0)]) hcn18 (by decide)
  have hcn29 := c_clA (V := [(5, 0)]) hcn29 (by decide)
  have hcn40 := c_clA (V := [(5, 0)]) hcn40 (by decide)
  have hcn51 := c_clA (V := [(5, 0)]) hcn51 (by decide)
  have hcn63 := c_clA (V := [(5, 0)]) hcn63 (by decide)
  refine a_dup C dc_Pa_init_71 rfl ?_
  refine c_call (rest := [.ref (oa68 (U.length + 28)), .int 0, .ref (oa68 (U.length + 27)), .ref (oa68 (U.length + 27)), .ref (oa68 u)]) (av := .ref (oa68 (U.length + 28)) :: []) C dc_Pa_init_72 (ct_Oc_init (U.length + 28) (c_pr S55 u 4 (U.length + 22)) hcn68 hp) cd_C_Oc_init i_Oc (Nat.le_of_ble_eq_true rfl) (by rw [hR]; exact Nat.le_of_ble_eq_true rfl) (by rw [hR]; exact Nat.le_of_ble_eq_true rfl) (by rw [hR]; exact Nat.le_of_ble_eq_true rfl) (by rw [hR]; exact Nat.le_of_ble_eq_true rfl) (inv_IN C dc_Pa_init_72 l_Pa_51 rfl im_C_Oc_init cd_C_Oc_init ⟨by decide, by decide⟩ ln_C_Oc_init rfl) (fun oc L1 hL => ?_)
  obtain ⟨oa72, S72, hp, hb72, rfl, rfl⟩ := hL
  refine ⟨_, rfl, ?_⟩
  have hag : ∀ v, v < U.length → oa72 v = oa v := fun v hv => (hb72 v (by simp only [List.length_append, List.length_cons, List.length_nil]; omega)).trans (hag v hv)
  refine aw_eq (lo' := [some (.ref (oa68 u))]) (st' := [.ref (oa68 (U.length + 28)), .int 0, .ref (oa68 (U.length + 27)), .ref (oa68 (U.length + 27)), .ref (oa68 u)]) (L' := (cw lt_C (((((((((((((U ++ [(9, 0)]) ++ [(902, 65536)]) ++ [(12, 0)]) ++ [(902, 64), (902, 64), (902, 64), (904, 64)]) ++ [(7, 0)]) ++ [(902, 3), (902, 3), (902, 3), (902, 3), (902, 3), (902, 3), (902, 12288), (902, 192), (902, 12288)]) ++ [(10, 0)]) ++ [(902, 3), (902, 3), (902, 3), (902, 192)]) ++ [(4, 0)]) ++ [(902, 257), (903, 8224), (902, 514), (902, 514)]) ++ [(950, 2)]) ++ [(5, 0)]) ++ [(902, 257), (902, 257), (902, 256), (902, 256), (902, 17)]) oa72 S72)) rfl rfl rfl ?_
  have hz18 : oa72 u = oa68 u := (hb72 u (by simp only [List.length_append, List.length_cons, List.length_nil]; have := c_lt hu0 (by decide); omega))
  rw [← hz18]
  have hz19 : oa72 (U.length + 27) = oa68 (U.length + 27) := (hb72 (U.length + 27) (by simp only [List.length_append, List.length_cons, List.length_nil]; omega))
  rw [← hz19]
  have hz20 : oa72 (U.length + 28) = oa68 (U.length + 28) := (hb72 (U.length + 28) (by simp only [List.length_append, List.length_cons, List.length_nil]; omega))
  rw [← hz20]
  have hu := c_clA (V := [(902, 257), (902, 257), (902, 256), (902, 256), (902, 17)]) hu (by decide)
  have hcn5 := c_clA (V := [(902, 257), (902, 257), (902, 256), (902, 256), (902, 17)]) hcn5 (by decide)
  have hcn18 := c_clA (V := [(902, 257), (902, 257), (902, 256), (902, 256), (902, 17)]) hcn18 (by decide)
  have hcn29 := c_clA (V := [(902, 257), (902, 257), (902, 256), (902, 256), (902, 17)]) hcn29 (by decide)
  have hcn40 := c_clA (V := [(902, 257), (902, 257), (902, 256), (902, 256), (902, 17)]) hcn40 (by decide)
  have hcn51 := c_clA (V := [(902, 257), (902, 257), (902, 256), (902, 256), (902, 17)]) hcn51 (by decide)
  have hcn63 := c_clA (V := [(902, 257), (902, 257), (902, 256), (902, 256), (902, 17)]) hcn63 (by decide)
  have hcn68 := c_clA (V := [(902, 257), (902, 257), (902, 256), (902, 256), (902, 17)]) hcn68 (by decide)
  refine c_aast (ci := 950) (ce := 5) C (U.length + 27) (U.length + 28) 0 dc_Pa_init_75 hcn63 rfl (by decide) rfl hcn68 rfl rfl hp.1 hp.2.1 ?_
  have hp := hp.2.2
  refine a_dup C dc_Pa_init_76 rfl ?_
  refine a_iconst (v := 1) C dc_Pa_init_77 (by decide) ?_
  refine c_new (ci := 5) (n := U.length + 34) C y_Oc g_ty_Oc dc_Pa_init_78 rfl rfl x_Pa_49 nn_Oc i_Oc df_Oc (by decide) (by first | rfl | (simp only [List.length_append, List.length_cons, List.length_nil]; omega)) hp.1 (by rw [hR]; exact Nat.le_of_ble_eq_true rfl) (by rw [hR]; exact Nat.le_of_ble_eq_true rfl) (fun q78 => ?_)
  have hp := hp.2
  generalize hoa78 : va_up oa72 (U.length + 34) q78 = oa78
  have hq78 : oa78 (U.length + 34) = q78 := by rw [← hoa78]; exact up_at
  have hag : ∀ v, v < U.length → oa78 v = oa v := fun v hv => (show oa78 v = oa72 v by rw [← hoa78]; exact up_ne (by omega)).trans (hag v hv)
  rw [← hq78]
  have hz21 : oa78 u = oa72 u := (by rw [← hoa78]; exact up_ne (by have := c_lt hu0 (by decide); omega))
  rw [← hz21]
  have hz22 : oa78 (U.length + 27) = oa72 (U.length + 27) := (by rw [← hoa78]; exact up_ne (by omega))
  rw [← hz22]
  have hcn78 := c_clN (c := (5, 0)) (U := (((((((((((((U ++ [(9, 0)]) ++ [(902, 65536)]) ++ [(12, 0)]) ++ [(902, 64), (902, 64), (902, 64), (904, 64)]) ++ [(7, 0)]) ++ [(902, 3), (902, 3), (902, 3), (902, 3), (902, 3), (902, 3), (902, 12288), (902, 192), (902, 12288)]) ++ [(10, 0)]) ++ [(902, 3), (902, 3), (902, 3), (902, 192)]) ++ [(4, 0)]) ++ [(902, 257), (903, 8224), (902, 514), (902, 514)]) ++ [(950, 2)]) ++ [(5, 0)]) ++ [(902, 257), (902, 257), (902, 256), (902, 256), (902, 17)])) (n := U.length + 34) (by first | rfl | (simp only [List.length_append, List.length_cons, List.length_nil]; omega))
  have hu := c_clA (V := [(5, 0)]) hu (by decide)
  have hcn5 := c_clA (V := [(5, 0)]) hcn5 (by decide)
  have hcn18 := c_clA (V := [(5, 0)]) hcn18 (by decide)
  have hcn29 := c_clA (V := [(5, 0)]) hcn29 (by decide)
  have hcn40 := c_clA (V := [(5, 0)]) hcn40 (by decide)
  have hcn51 := c_clA (V := [(5, 0)]) hcn51 (by decide)
  have hcn63 := c_clA (V := [(5, 0)]) hcn63 (by decide)
  have hcn68 := c_clA (V := [(5, 0)]) hcn68 (by decide)
  refine a_dup C dc_Pa_init_81 rfl ?_
  refine c_call (rest := [.ref (oa78 (U.length + 34)), .int 1, .ref (oa78 (U.length + 27)), .ref (oa78 (U.length + 27)), .ref (oa78 u)]) (av := .ref (oa78 (U.length + 34)) :: []) C dc_Pa_init_82 (ct_Oc_init (U.length + 34) (c_pr S72 (U.length + 27) (0 : Int32).toNatClampNeg (U.length + 28)) hcn78 hp) cd_C_Oc_init i_Oc (Nat.le_of_ble_eq_true rfl) (by rw [hR]; exact Nat.le_of_ble_eq_true rfl) (by rw [hR]; exact Nat.le_of_ble_eq_true rfl) (by rw [hR]; exact Nat.le_of_ble_eq_true rfl) (by rw [hR]; exact Nat.le_of_ble_eq_true rfl) (inv_IN C dc_Pa_init_82 l_Pa_51 rfl im_C_Oc_init cd_C_Oc_init ⟨by decide, by decide⟩ ln_C_Oc_init rfl) (fun oc L1 hL => ?_)
  obtain ⟨oa82, S82, hp, hb82, rfl, rfl⟩ := hL
  refine ⟨_, rfl, ?_⟩
  have hag : ∀ v, v < U.length → oa82 v = oa v := fun v hv => (hb82 v (by simp only [List.length_append, List.length_cons, List.length_nil]; omega)).trans (hag v hv)
  refine aw_eq (lo' := [some (.ref (oa78 u))]) (st' := [.ref (oa78 (U.length + 34)), .int 1, .ref (oa78 (U.length + 27)), .ref (oa78 (U.length + 27)), .ref (oa78 u)]) (L' := (cw lt_C (((((((((((((((U ++ [(9, 0)]) ++ [(902, 65536)]) ++ [(12, 0)]) ++ [(902, 64), (902, 64), (902, 64), (904, 64)]) ++ [(7, 0)]) ++ [(902, 3), (902, 3), (902, 3), (902, 3), (902, 3), (902, 3), (902, 12288), (902, 192), (902, 12288)]) ++ [(10, 0)]) ++ [(902, 3), (902, 3), (902, 3), (902, 192)]) ++ [(4, 0)]) ++ [(902, 257), (903, 8224), (902, 514), (902, 514)]) ++ [(950, 2)]) ++ [(5, 0)]) ++ [(902, 257), (902, 257), (902, 256), (902, 256), (902, 17)]) ++ [(5, 0)]) ++ [(902, 257), (902, 257), (902, 256), (902, 256), (902, 17)]) oa82 S82)) rfl rfl rfl ?_
  have hz23 : oa82 u = oa78 u := (hb82 u (by simp only [List.length_append, List.length_cons, List.length_nil]; have := c_lt hu0 (by decide); omega))
  rw [← hz23]
  have hz24 : oa82 (U.length + 27) = oa78 (U.length + 27) := (hb82 (U.length + 27) (by simp only [List.length_append, List.length_cons, List.length_nil]; omega))
  rw [← hz24]
  have hz25 : oa82 (U.length + 34) = oa78 (U.length + 34) := (hb82 (U.length + 34) (by simp only [List.length_append, List.length_cons, List.length_nil]; omega))
  rw [← hz25]
  have hu := c_clA (V := [(902, 257), (902, 257), (902, 256), (902, 256), (902, 17)]) hu (by decide)
  have hcn5 := c_clA (V := [(902, 257), (902, 257), (902, 256), (902, 256), (902, 17)]) hcn5 (by decide)
  have hcn18 := c_clA (V := [(902, 257), (902, 257), (902, 256), (902, 256), (902, 17)]) hcn18 (by decide)
  have hcn29 := c_clA (V := [(902, 257), (902, 257), (902, 256), (902, 256), (902, 17)]) hcn29 (by decide)
  have hcn40 := c_clA (V := [(902, 257), (902, 257), (902, 256), (902, 256), (902, 17)]) hcn40 (by decide)
  have hcn51 := c_clA (V := [(902, 257), (902, 257), (902, 256), (902, 256), (902, 17)]) hcn51 (by decide)
  have hcn63 := c_clA (V := [(902, 257), (902, 257), (902, 256), (902, 256), (902, 17)]) hcn63 (by decide)
  have hcn68 := c_clA (V := [(902, 257), (902, 257), (902, 256), (902, 256), (902, 17)]) hcn68 (by decide)
  have hcn78 := c_clA (V := [(902, 257), (902, 257), (902, 256), (902, 256), (902, 17)]) hcn78 (by decide)
  refine c_aast (ci := 950) (ce := 5) C (U.length + 27) (U.length + 34) 0 dc_Pa_init_85 hcn63 rfl (by decide) rfl hcn78 rfl rfl hp.1 hp.2.1 ?_
  have hp := hp.2.2
  refine c_putRF (ty := .array (.object "BlockPicture$OwnCodes")) C u 5 hin dc_Pa_init_86 hu rfl rfl (Nat.le_of_ble_eq_true rfl) f_Pa_52 rfl rfl rfl (fun _ => rfl) (fun _ => rfl) rfl rfl hp.1 ?_
  have hp := hp.2
  refine a_aload_n C dc_Pa_init_89 rfl rfl ?_
  refine a_iconst (v := 2) C dc_Pa_init_90 (by decide) ?_
  refine c_anew (ci := 950) (N := 2) (n := U.length + 40) C 0 dc_Pa_init_91 x_Pa_49 ao_950 rfl rfl (by decide) (by decide) (by decide) (by first | rfl | (simp only [List.length_append, List.length_cons, List.length_nil]; omega)) hp.1 (by rw [hR]; exact Nat.le_of_ble_eq_true rfl) (by rw [hR]; exact Nat.le_of_ble_eq_true rfl) (fun q91 => ?_)
  have hp := hp.2
  generalize hoa91 : va_up oa82 (U.length + 40) q91 = oa91
  have hq91 : oa91 (U.length + 40) = q91 := by rw [← hoa91]; exact up_at
  have hag : ∀ v, v < U.length → oa91 v = oa v := fun v hv => (show oa91 v = oa82 v by rw [← hoa91]; exact up_ne (by omega)).trans (hag v hv)
  rw [← hq91]
  have hz26 : oa91 u = oa82 u := (by rw [← hoa91]; exact up_ne (by have := c_lt hu0 (by decide); omega))
  rw [← hz26]
  have hcn91 := c_clN (c := (950, 2)) (U := (((((((((((((((U ++ [(9, 0)]) ++ [(902, 65536)]) ++ [(12, 0)]) ++ [(902, 64), (902, 64), (902, 64), (904, 64)]) ++ [(7, 0)]) ++ [(902, 3), (902, 3), (902, 3), (902, 3), (902, 3), (902, 3), (902, 12288), (902, 192), (902, 12288)]) ++ [(10, 0)]) ++ [(902, 3), (902, 3), (902, 3), (902, 192)]) ++ [(4, 0)]) ++ [(902, 257), (903, 8224), (902, 514), (902, 514)]) ++ [(950, 2)]) ++ [(5, 0)]) ++ [(902, 257), (902, 257), (902, 256), (902, 256), (902, 17)]) ++ [(5, 0)]) ++ [(902, 257), (902, 257), (902, 256), (902, 256), (902, 17)])) (n := U.length + 40) (by first | rfl | (simp only [List.length_append, List.length_cons, List.length_nil]; omega))
  have hu := c_clA (V := [(950, 2)]) hu (by decide)
  have hcn5 := c_clA (V := [(950, 2)]) hcn5 (by decide)
  have hcn18 := c_clA (V := [(950, 2)]) hcn18 (by decide)
  have hcn29 := c_clA (V := [(950, 2)]) hcn29 (by decide)
  have hcn40 := c_clA (V := [(950, 2)]) hcn40 (by decide)
  have hcn51 := c_clA (V := [(950, 2)]) hcn51 (by decide)
  have hcn63 := c_clA (V := [(950, 2)]) hcn63 (by decide)
  have hcn68 := c_clA (V := [(950, 2)]) hcn68 (by decide)
  have hcn78 := c_clA (V := [(950, 2)]) hcn78 (by decide)
  refine a_dup C dc_Pa_init_94 rfl ?_
  refine a_iconst (v := 0) C dc_Pa_init_95 (by decide) ?_
  refine c_new (ci := 5) (n := U.length + 41) C y_Oc g_ty_Oc dc_Pa_init_96 rfl rfl x_Pa_49 nn_Oc i_Oc df_Oc (by decide) (by first | rfl | (simp only [List.length_append, List.length_cons, List.length_nil]; omega)) hp.1 (by rw [hR]; exact Nat.le_of_ble_eq_true rfl) (by rw [hR]; exact Nat.le_of_ble_eq_true rfl) (fun q96 => ?_)
  have hp := hp.2
  generalize hoa96 : va_up oa91 (U.length + 41) q96 = oa96
  have hq96 : oa96 (U.length + 41) = q96 := by rw [← hoa96]; exact up_at
  have hag : ∀ v, v < U.length → oa96 v = oa v := fun v hv => (show oa96 v = oa91 v by rw [← hoa96]; exact up_ne (by omega)).trans (hag v hv)
  rw [← hq96]
  have hz27 : oa96 u = oa91 u := (by rw [← hoa96]; exact up_ne (by have := c_lt hu0 (by decide); omega))
  rw [← hz27]
  have hz28 : oa96 (U.length + 40) = oa91 (U.length + 40) := (by rw [← hoa96]; exact up_ne (by omega))
  rw [← hz28]
  have hcn96 := c_clN (c := (5, 0)) (U := ((((((((((((((((U ++ [(9, 0)]) ++ [(902, 65536)]) ++ [(12, 0)]) ++ [(902, 64), (902, 64), (902, 64), (904, 64)]) ++ [(7, 0)]) ++ [(902, 3), (902, 3), (902, 3), (902, 3), (902, 3), (902, 3), (902, 12288), (902, 192), (902, 12288)]) ++ [(10, 0)]) ++ [(902, 3), (902, 3), (902, 3), (902, 192)]) ++ [(4, 0)]) ++ [(902, 257), (903, 8224), (902, 514), (902, 514)]) ++ [(950, 2)]) ++ [(5, 0)]) ++ [(902, 257), (902, 257), (902, 256), (902, 256), (902, 17)]) ++ [(5, 0)]) ++ [(902, 257), (902, 257), (902, 256), (902, 256), (902, 17)]) ++ [(950, 2)])) (n := U.length + 41) (by first | rfl | (simp only [List.length_append, List.length_cons, List.length_nil]; omega))
  have hu := c_clA (V := [(5, 0)]) hu (by decide)
  have hcn5 := c_clA (V := [(5, 0)]) hcn5 (by decide)
  have hcn18 := c_clA (V := [(5, 0)]) hcn18 (by decide)
  have hcn29 := c_clA (V := [(5, 0)]) hcn29 (by decide)
  have hcn40 := c_clA (V := [(5, 0)]) hcn40 (by decide)
  have hcn51 := c_clA (V := [(5, 0)]) hcn51 (by decide)
  have hcn63 := c_clA (V := [(5, 0)]) hcn63 (by decide)
  have hcn68 := c_clA (V := [(5, 0)]) hcn68 (by decide)
  have hcn78 := c_clA (V := [(5, 0)]) hcn78 (by decide)
  have hcn91 := c_clA (V := [(5, 0)]) hcn91 (by decide)
  refine a_dup C dc_Pa_init_99 rfl ?_
  refine c_call (rest := [.ref (oa96 (U.length + 41)), .int 0, .ref (oa96 (U.length + 40)), .ref (oa96 (U.length + 40)), .ref (oa96 u)]) (av := .ref (oa96 (U.length + 41)) :: []) C dc_Pa_init_100 (ct_Oc_init (U.length + 41) (c_pr (c_pr S82 (U.length + 27) (1 : Int32).toNatClampNeg (U.length + 34)) u 5 (U.length + 27)) hcn96 hp) cd_C_Oc_init i_Oc (Nat.le_of_ble_eq_true rfl) (by rw [hR]; exact Nat.le_of_ble_eq_true rfl) (by rw [hR]; exact Nat.le_of_ble_eq_true rfl) (by rw [hR]; exact Nat.le_of_ble_eq_true rfl) (by rw [hR]; exact Nat.le_of_ble_eq_true rfl) (inv_IN C dc_Pa_init_100 l_Pa_51 rfl im_C_Oc_init cd_C_Oc_init ⟨by decide, by decide⟩ ln_C_Oc_init rfl) (fun oc L1 hL => ?_)
  obtain ⟨oa100, S100, hp, hb100, rfl, rfl⟩ := hL
  refine ⟨_, rfl, ?_⟩
  have hag : ∀ v, v < U.length → oa100 v = oa v := fun v hv => (hb100 v (by simp only [List.length_append, List.length_cons, List.length_nil]; omega)).trans (hag v hv)
  refine aw_eq (lo' := [some (.ref (oa96 u))]) (st' := [.ref (oa96 (U.length + 41)), .int 0, .ref (oa96 (U.length + 40)), .ref (oa96 (U.length + 40)), .ref (oa96 u)]) (L' := (cw lt_C ((((((((((((((((((U ++ [(9, 0)]) ++ [(902, 65536)]) ++ [(12, 0)]) ++ [(902, 64), (902, 64), (902, 64), (904, 64)]) ++ [(7, 0)]) ++ [(902, 3), (902, 3), (902, 3), (902, 3), (902, 3), (902, 3), (902, 12288), (902, 192), (902, 12288)]) ++ [(10, 0)]) ++ [(902, 3), (902, 3), (902, 3), (902, 192)]) ++ [(4, 0)]) ++ [(902, 257), (903, 8224), (902, 514), (902, 514)]) ++ [(950, 2)]) ++ [(5, 0)]) ++ [(902, 257), (902, 257), (902, 256), (902, 256), (902, 17)]) ++ [(5, 0)]) ++ [(902, 257), (902, 257), (902, 256), (902, 256), (902, 17)]) ++ [(950, 2)]) ++ [(5, 0)]) ++ [(902, 257), (902, 257), (902, 256), (902, 256), (902, 17)]) oa100 S100)) rfl rfl rfl ?_
  have hz29 : oa100 u = oa96 u := (hb100 u (by simp only [List.length_append, List.length_cons, List.length_nil]; have := c_lt hu0 (by decide); omega))
  rw [← hz29]
  have hz30 : oa100 (U.length + 40) = oa96 (U.length + 40) := (hb100 (U.length + 40) (by simp only [List.length_append, List.length_cons, List.length_nil]; omega))
  rw [← hz30]
  have hz31 : oa100 (U.length + 41) = oa96 (U.length + 41) := (hb100 (U.length + 41) (by simp only [List.length_append, List.length_cons, List.length_nil]; omega))
  rw [← hz31]
  have hu := c_clA (V := [(902, 257), (902, 257), (902, 256), (902, 256), (902, 17)]) hu (by decide)
  have hcn5 := c_clA (V := [(902, 257), (902, 257), (902, 256), (902, 256), (902, 17)]) hcn5 (by decide)
  have hcn18 := c_clA (V := [(902, 257), (902, 257), (902, 256), (902, 256), (902, 17)]) hcn18 (by decide)
  have hcn29 := c_clA (V := [(902, 257), (902, 257), (902, 256), (902, 256), (902, 17)]) hcn29 (by decide)
  have hcn40 := c_clA (V := [(902, 257), (902, 257), (902, 256), (902, 256), (902, 17)]) hcn40 (by decide)
  have hcn51 := c_clA (V := [(902, 257), (902, 257), (902, 256), (902, 256), (902, 17)]) hcn51 (by decide)
  have hcn63 := c_clA (V := [(902, 257), (902, 257), (902, 256), (902, 256), (902, 17)]) hcn63 (by decide)
  have hcn68 := c_clA (V := [(902, 257), (902, 257), (902, 256), (902, 256), (902, 17)]) hcn68 (by decide)
  have hcn78 := c_clA (V := [(902, 257), (902, 257), (902, 256), (902, 256), (902, 17)]) hcn78 (by decide)
  have hcn91 := c_clA (V := [(902, 257), (902, 257), (902, 256), (902, 256), (902, 17)]) hcn91 (by decide)
  have hcn96 := c_clA (V := [(902, 257), (902, 257), (902, 256), (902, 256), (902, 17)]) hcn96 (by decide)
  refine c_aast (ci := 950) (ce := 5) C (U.length + 40) (U.length + 41) 0 dc_Pa_init_103 hcn91 rfl (by decide) rfl hcn96 rfl rfl hp.1 hp.2.1 ?_
  have hp := hp.2.2
  refine a_dup C dc_Pa_init_104 rfl ?_
  refine a_iconst (v := 1) C dc_Pa_init_105 (by decide) ?_
  refine c_new (ci := 5) (n := U.length + 47) C y_Oc g_ty_Oc dc_Pa_init_106 rfl rfl x_Pa_49 nn_Oc i_Oc df_Oc (by decide) (by first | rfl | (simp only [List.length_append, List.length_cons, List.length_nil]; omega)) hp.1 (by rw [hR]; exact Nat.le_of_ble_eq_true rfl) (by rw [hR]; exact Nat.le_of_ble_eq_true rfl) (fun q106 => ?_)
  have hp := hp.2
  generalize hoa106 : va_up oa100 (U.length + 47) q106 = oa106
  have hq106 : oa106 (U.length + 47) = q106 := by rw [← hoa106]; exact up_at
  have hag : ∀ v, v < U.length → oa106 v = oa v := fun v hv => (show oa106 v = oa100 v by rw [← hoa106]; exact up_ne (by omega)).trans (hag v hv)
  rw [← hq106]
  have hz32 : oa106 u = oa100 u := (by rw [← hoa106]; exact up_ne (by have := c_lt hu0 (by decide); omega))
  rw [← hz32]
  have hz33 : oa106 (U.length + 40) = oa100 (U.length + 40) := (by rw [← hoa106]; exact up_ne (by omega))
  rw [← hz33]
  have hcn106 := c_clN (c := (5, 0)) (U := ((((((((((((((((((U ++ [(9, 0)]) ++ [(902, 65536)]) ++ [(12, 0)]) ++ [(902, 64), (902, 64), (902, 64), (904, 64)]) ++ [(7, 0)]) ++ [(902, 3), (902, 3), (902, 3), (902, 3), (902, 3), (902, 3), (902, 12288), (902, 192), (902, 12288)]) ++ [(10, 0)]) ++ [(902, 3), (902, 3), (902, 3), (902, 192)]) ++ [(4, 0)]) ++ [(902, 257), (903, 8224), (902, 514), (902, 514)]) ++ [(950, 2)]) ++ [(5, 0)]) ++ [(902, 257), (902, 257), (902, 256), (902, 256), (902, 17)]) ++ [(5, 0)]) ++ [(902, 257), (902, 257), (902, 256), (902, 256), (902, 17)]) ++ [(950, 2)]) ++ [(5, 0)]) ++ [(902, 257), (902, 257), (902, 256), (902, 256), (902, 17)])) (n := U.length + 47) (by first | rfl | (simp only [List.length_append, List.length_cons, List.length_nil]; omega))
  have hu := c_clA (V := [(5, 0)]) hu (by decide)
  have hcn5 := c_clA (V := [(5, 0)]) hcn5 (by decide)
  have hcn18 := c_clA (V := [(5, 0)]) hcn18 (by decide)
  have hcn29 := c_clA (V := [(5, 0)]) hcn29 (by decide)
  have hcn40 := c_clA (V := [(5, 0)]) hcn40 (by decide)
  have hcn51 := c_clA (V := [(5, 0)]) hcn51 (by decide)
  have hcn63 := c_clA (V := [(5, 0)]) hcn63 (by decide)
  have hcn68 := c_clA (V := [(5, 0)]) hcn68 (by decide)
  have hcn78 := c_clA (V := [(5, 0)]) hcn78 (by decide)
  have hcn91 := c_clA (V := [(5, 0)]) hcn91 (by decide)
  have hcn96 := c_clA (V := [(5, 0)]) hcn96 (by decide)
  refine a_dup C dc_Pa_init_109 rfl ?_
  refine c_call (rest := [.ref (oa106 (U.length + 47)), .int 1, .ref (oa106 (U.length + 40)), .ref (oa106 (U.length + 40)), .ref (oa106 u)]) (av := .ref (oa106 (U.length + 47)) :: []) C dc_Pa_init_110 (ct_Oc_init (U.length + 47) (c_pr S100 (U.length + 40) (0 : Int32).toNatClampNeg (U.length + 41)) hcn106 hp) cd_C_Oc_init i_Oc (Nat.le_of_ble_eq_true rfl) (by rw [hR]; exact Nat.le_of_ble_eq_true rfl) (by rw [hR]; exact Nat.le_of_ble_eq_true rfl) (by rw [hR]; exact Nat.le_of_ble_eq_true rfl) (by rw [hR]; exact Nat.le_of_ble_eq_true rfl) (inv_IN C dc_Pa_init_110 l_Pa_51 rfl im_C_Oc_init cd_C_Oc_init ⟨by decide, by decide⟩ ln_C_Oc_init rfl) (fun oc L1 hL => ?_)
  obtain ⟨oa110, S110, hp, hb110, rfl, rfl⟩ := hL
  refine ⟨_, rfl, ?_⟩
  have hag : ∀ v, v < U.length → oa110 v = oa v := fun v hv => (hb110 v (by simp only [List.length_append, List.length_cons, List.length_nil]; omega)).trans (hag v hv)
  refine aw_eq (lo' := [some (.ref (oa106 u))]) (st' := [.ref (oa106 (U.length + 47)), .int 1, .ref (oa106 (U.length + 40)), .ref (oa106 (U.length + 40)), .ref (oa106 u)]) (L' := (cw lt_C ((((((((((((((((((((U ++ [(9, 0)]) ++ [(902, 65536)]) ++ [(12, 0)]) ++ [(902, 64), (902, 64), (902, 64), (904, 64)]) ++ [(7, 0)]) ++ [(902, 3), (902, 3), (902, 3), (902, 3), (902, 3), (902, 3), (902, 12288), (902, 192), (902, 12288)]) ++ [(10, 0)]) ++ [(902, 3), (902, 3), (902, 3), (902, 192)]) ++ [(4, 0)]) ++ [(902, 257), (903, 8224), (902, 514), (902, 514)]) ++ [(950, 2)]) ++ [(5, 0)]) ++ [(902, 257), (902, 257), (902, 256), (902, 256), (902, 17)]) ++ [(5, 0)]) ++ [(902, 257), (902, 257), (902, 256), (902, 256), (902, 17)]) ++ [(950, 2)]) ++ [(5, 0)]) ++ [(902, 257), (902, 257), (902, 256), (902, 256), (902, 17)]) ++ [(5, 0)]) ++ [(902, 257), (902, 257), (902, 256), (902, 256), (902, 17)]) oa110 S110)) rfl rfl rfl ?_
  have hz34 : oa110 u = oa106 u := (hb110 u (by simp only [List.length_append, List.length_cons, List.length_nil]; have := c_lt hu0 (by decide); omega))
  rw [← hz34]
  have hz35 : oa110 (U.length + 40) = oa106 (U.length + 40) := (hb110 (U.length + 40) (by simp only [List.length_append, List.length_cons, List.length_nil]; omega))
  rw [← hz35]
  have hz36 : oa110 (U.length + 47) = oa106 (U.length + 47) := (hb110 (U.length + 47) (by simp only [List.length_append, List.length_cons, List.length_nil]; omega))
  rw [← hz36]
  have hu := c_clA (V := [(902, 257), (902, 257), (902, 256), (902, 256), (902, 17)]) hu (by decide)
  have hcn5 := c_clA (V := [(902, 257), (902, 257), (902, 256), (902, 256), (902, 17)]) hcn5 (by decide)
  have hcn18 := c_clA (V := [(902, 257), (902, 257), (902, 256), (902, 256), (902, 17)]) hcn18 (by decide)
  have hcn29 := c_clA (V := [(902, 257), (902, 257), (902, 256), (902, 256), (902, 17)]) hcn29 (by decide)
  have hcn40 := c_clA (V := [(902, 257), (902, 257), (902, 256), (902, 256), (902, 17)]) hcn40 (by decide)
  have hcn51 := c_clA (V := [(902, 257), (902, 257), (902, 256), (902, 256), (902, 17)]) hcn51 (by decide)
  have hcn63 := c_clA (V := [(902, 257), (902, 257), (902, 256), (902, 256), (902, 17)]) hcn63 (by decide)
  have hcn68 := c_clA (V := [(902, 257), (902, 257), (902, 256), (902, 256), (902, 17)]) hcn68 (by decide)
  have hcn78 := c_clA (V := [(902, 257), (902, 257), (902, 256), (902, 256), (902, 17)]) hcn78 (by decide)
  have hcn91 := c_clA (V := [(902, 257), (902, 257), (902, 256), (902, 256), (902, 17)]) hcn91 (by decide)
  have hcn96 := c_clA (V := [(902, 257), (902, 257), (902, 256), (902, 256), (902, 17)]) hcn96 (by decide)
  have hcn106 := c_clA (V := [(902, 257), (902, 257), (902, 256), (902, 256), (902, 17)]) hcn106 (by decide)
  refine c_aast (ci := 950) (ce := 5) C (U.length + 40) (U.length + 47) 0 dc_Pa_init_113 hcn91 rfl (by decide) rfl hcn106 rfl rfl hp.1 hp.2.1 ?_
  have hp := hp.2.2
  refine c_putRF (ty := .array (.object "BlockPicture$OwnCodes")) C u 6 hin dc_Pa_init_114 hu rfl rfl (Nat.le_of_ble_eq_true rfl) f_Pa_56 rfl rfl rfl (fun _ => rfl) (fun _ => rfl) rfl rfl hp.1 ?_
  have hp := hp.2
  refine a_aload_n C dc_Pa_init_117 rfl rfl ?_
  refine a_iconst (v := 3) C dc_Pa_init_118 (by decide) ?_
  refine c_newa (ty := .int) (N := 3) (n := U.length + 53) C 2 dc_Pa_init_119 ac_int rfl (C.kn.2 0 _ rfl).2 (fun _ => rfl) (by decide) (by decide) (by decide) (by decide) (by first | rfl | (simp only [List.length_append, List.length_cons, List.length_nil]; omega)) hp.1 (by rw [hR]; exact Nat.le_of_ble_eq_true rfl) (by rw [hR]; exact Nat.le_of_ble_eq_true rfl) (fun q119 => ?_)
  have hp := hp.2
  generalize hoa119 : va_up oa110 (U.length + 53) q119 = oa119
  have hq119 : oa119 (U.length + 53) = q119 := by rw [← hoa119]; exact up_at
  have hag : ∀ v, v < U.length → oa119 v = oa v := fun v hv => (show oa119 v = oa110 v by rw [← hoa119]; exact up_ne (by omega)).trans (hag v hv)
  rw [← hq119]
  have hz37 : oa119 u = oa110 u := (by rw [← hoa119]; exact up_ne (by have := c_lt hu0 (by decide); omega))
  rw [← hz37]
  have hcn119 := c_clN (c := (902, 3)) (U := ((((((((((((((((((((U ++ [(9, 0)]) ++ [(902, 65536)]) ++ [(12, 0)]) ++ [(902, 64), (902, 64), (902, 64), (904, 64)]) ++ [(7, 0)]) ++ [(902, 3), (902, 3), (902, 3), (902, 3), (902, 3), (902, 3), (902, 12288), (902, 192), (902, 12288)]) ++ [(10, 0)]) ++ [(902, 3), (902, 3), (902, 3), (902, 192)]) ++ [(4, 0)]) ++ [(902, 257), (903, 8224), (902, 514), (902, 514)]) ++ [(950, 2)]) ++ [(5, 0)]) ++ [(902, 257), (902, 257), (902, 256), (902, 256), (902, 17)]) ++ [(5, 0)]) ++ [(902, 257), (902, 257), (902, 256), (902, 256), (902, 17)]) ++ [(950, 2)]) ++ [(5, 0)]) ++ [(902, 257), (902, 257), (902, 256), (902, 256), (902, 17)]) ++ [(5, 0)]) ++ [(902, 257), (902, 257), (902, 256), (902, 256), (902, 17)])) (n := U.length + 53) (by first | rfl | (simp only [List.length_append, List.length_cons, List.length_nil]; omega))
  have hu := c_clA (V := [(902, 3)]) hu (by decide)
  have hcn5 := c_clA (V := [(902, 3)]) hcn5 (by decide)
  have hcn18 := c_clA (V := [(902, 3)]) hcn18 (by decide)
  have hcn29 := c_clA (V := [(902, 3)]) hcn29 (by decide)
  have hcn40 := c_clA (V := [(902, 3)]) hcn40 (by decide)
  have hcn51 := c_clA (V := [(902, 3)]) hcn51 (by decide)
  have hcn63 := c_clA (V := [(902, 3)]) hcn63 (by decide)
  have hcn68 := c_clA (V := [(902, 3)]) hcn68 (by decide)
  have hcn78 := c_clA (V := [(902, 3)]) hcn78 (by decide)
  have hcn91 := c_clA (V := [(902, 3)]) hcn91 (by decide)
  have hcn96 := c_clA (V := [(902, 3)]) hcn96 (by decide)
  have hcn106 := c_clA (V := [(902, 3)]) hcn106 (by decide)
  refine c_putRF (ty := .array .int) C u 7 hin dc_Pa_init_121 hu rfl rfl (Nat.le_of_ble_eq_true rfl) f_Pa_59 rfl rfl rfl (fun _ => rfl) (fun _ => rfl) rfl rfl hp.1 ?_
  have hp := hp.2
  refine aw_widen (nc' := 54) (ns' := 104528) (Nat.le_of_ble_eq_true rfl) (Nat.le_of_ble_eq_true rfl) ?_
  refine aw_eq (lo' := _) (st' := _) (L' := (cw lt_C (U ++ ext_Pa_init) oa119 (c_pr (c_pr (c_pr S110 (U.length + 40) (1 : Int32).toNatClampNeg (U.length + 47)) u 6 (U.length + 40)) u 7 (U.length + 53)))) rfl rfl (by simp only [ext_Pa_init, List.append_assoc, List.cons_append, List.nil_append, List.append_nil]) ?_
  exact a_vret C hQ hA dc_Pa_init_124 rfl ⟨oa119, (c_pr (c_pr (c_pr S110 (U.length + 40) (1 : Int32).toNatClampNeg (U.length + 47)) u 6 (U.length + 40)) u 7 (U.length + 53)), hp, hag, rfl, rfl⟩
end I_Pa_init
def ext_Re_init : ut := [(9, 0), (902, 32768)]
def p_Re_init (U : ut) (u : Nat) (S : cs) (K : cs → Prop) : Prop :=
  fresh S U.length ∧ (p_Ro_init (U ++ [(9, 0)]) U.length 32768 S 32768 (fun S11 => ¬ U.length = NU ∧ (K (c_pr S11 u 0 U.length))))

section I_Re_init
variable {D : va_G} {z : Nat → ClassId} {U : ut} {oa : Nat → Nat}
set_option maxRecDepth 100000 in
set_option maxHeartbeats 4000000 in
theorem ct_Re_init {l : Launch} (u : Nat) (S : cs) {K : cs → Prop} (hu : c_cl U u = 8) (hp : p_Re_init U u S K) : ct gG D z l n_C_Re_init c_C_Re_init 1 (none) 3 300 [.ref (oa u)] (cw lt_C U oa S) 2 32770 (pC_n lt_C U ext_Re_init oa K) := by
  refine ct_ofI (lo := [some (.ref (oa u))]) (by decide) g_ok (Nat.le_of_ble_eq_true rfl) rfl ?_
  intro X A _ C hR hQ hA _ hin
  unfold p_Re_init at hp
  have hu0 := hu
  have hag : ∀ v, v < U.length → oa v = oa v := fun _ _ => rfl
  refine a_aload_n C dc_Re_init_0 rfl rfl ?_
  refine a_obj C dc_Re_init_1 l_Re_3 oi_M oc_M (Nat.le_of_ble_eq_true rfl) (by rw [hR]; exact Nat.le_of_ble_eq_true rfl) (by rw [hR]; exact Nat.le_of_ble_eq_true rfl) ?_
  refine a_aload_n C dc_Re_init_4 rfl rfl ?_
  refine c_new (ci := 9) (n := U.length) C y_Ro g_ty_Ro dc_Re_init_5 rfl rfl x_Re_9 nn_Ro i_Ro df_Ro (by decide) (by first | rfl | (simp only [List.length_append, List.length_cons, List.length_nil]; omega)) hp.1 (by rw [hR]; exact Nat.le_of_ble_eq_true rfl) (by rw [hR]; exact Nat.le_of_ble_eq_true rfl) (fun q5 => ?_)
  have hp := hp.2
  generalize hoa5 : va_up oa U.length q5 = oa5
  have hq5 : oa5 U.length = q5 := by rw [← hoa5]; exact up_at
  have hag : ∀ v, v < U.length → oa5 v = oa v := fun v hv => (show oa5 v = oa v by rw [← hoa5]; exact up_ne (by omega)).trans (hag v hv)
  rw [← hq5]
  have hz0 : oa5 u = oa u := (by rw [← hoa5]; exact up_ne (by have := c_lt hu0 (by decide); omega))
  rw [← hz0]
  have hcn5 := c_clN (c := (9, 0)) (U := U) (n := U.length) (by first | rfl | (simp only [List.length_append, List.length_cons, List.length_nil]; omega))
  have hu := c_clA (V := [(9, 0)]) hu (by decide)
  refine a_dup C dc_Re_init_8 rfl ?_
  refine a_ldc (v := 32768) C dc_Re_init_9 k_Re_11 ?_
  refine c_call (rest := [.ref (oa5 U.length), .ref (oa5 u)]) (av := .ref (oa5 U.length) :: [.int 32768]) C dc_Re_init_11 (ct_Ro_init U.length 32768 S 32768 (by decide +kernel) (by decide +kernel) (by decide) hcn5 hp) cd_C_Ro_init i_Ro (Nat.le_of_ble_eq_true rfl) (by rw [hR]; exact Nat.le_of_ble_eq_true rfl) (by rw [hR]; exact Nat.le_of_ble_eq_true rfl) (by rw [hR]; exact Nat.le_of_ble_eq_true rfl) (by rw [hR]; exact Nat.le_of_ble_eq_true rfl) (inv_I C dc_Re_init_11 l_Re_12 rfl im_C_Ro_init cd_C_Ro_init ⟨by decide, by decide⟩ ln_C_Ro_init rfl) (fun oc L1 hL => ?_)
  obtain ⟨oa11, S11, hp, hb11, rfl, rfl⟩ := hL
  refine ⟨_, rfl, ?_⟩
  have hag : ∀ v, v < U.length → oa11 v = oa v := fun v hv => (hb11 v (by simp only [List.length_append, List.length_cons, List.length_nil]; omega)).trans (hag v hv)
  refine aw_eq (lo' := [some (.ref (oa5 u))]) (st' := [.ref (oa5 U.length), .ref (oa5 u)]) (L' := (cw lt_C ((U ++ [(9, 0)]) ++ [(902, 32768)]) oa11 S11)) rfl rfl rfl ?_
  have hz1 : oa11 u = oa5 u := (hb11 u (by simp only [List.length_append, List.length_cons, List.length_nil]; have := c_lt hu0 (by decide); omega))
  rw [← hz1]
  have hz2 : oa11 U.length = oa5 U.length := (hb11 U.length (by simp only [List.length_append, List.length_cons, List.length_nil]; omega))
  rw [← hz2]
  have hu := c_clA (V := [(902, 32768)]) hu (by decide)
  have hcn5 := c_clA (V := [(902, 32768)]) hcn5 (by decide)
  refine c_putRF (ty := .object "BlockPicture$Row") C u 0 hin dc_Re_init_14 hu rfl rfl (Nat.le_of_ble_eq_true rfl) f_Re_15 rfl rfl rfl (fun _ => rfl) (fun _ => rfl) rfl rfl hp.1 ?_
  have hp := hp.2
  refine aw_widen (nc' := 2) (ns' := 32770) (Nat.le_of_ble_eq_true rfl) (Nat.le_of_ble_eq_true rfl) ?_
  refine aw_eq (lo' := _) (st' := _) (L' := (cw lt_C (U ++ ext_Re_init) oa11 (c_pr S11 u 0 U.length))) rfl rfl (by simp only [ext_Re_init, List.append_assoc, List.cons_append, List.nil_append, List.append_nil]) ?_
  exact a_vret C hQ hA dc_Re_init_17 rfl ⟨oa11, (c_pr S11 u 0 U.length), hp, hag, rfl, rfl⟩
end I_Re_init
def ext_Co_init : ut := [(902, 17), (902, 17), (902, 17), (902, 256)]
def p_Co_init (U : ut) (u : Nat) (S : cs) (K : cs → Prop) : Prop :=
  fresh S U.length ∧ (¬ U.length = NU ∧ (fresh (c_pr S u 1 U.length) (U.length + 1) ∧ (¬ (U.length + 1) = NU ∧ (fresh (c_pr (c_pr S u 1 U.length) u 2 (U.length + 1)) (U.length + 2) ∧ (¬ (U.length + 2) = NU ∧ (fresh (c_pr (c_pr (c_pr S u 1 U.length) u 2 (U.length + 1)) u 3 (U.length + 2)) (U.length + 3) ∧ (¬ (U.length + 3) = NU ∧ (K (c_pr (c_pr (c_pr (c_pr S u 1 U.length) u 2 (U.length + 1)) u 3 (U.length + 2)) u 4 (U.length + 3))))))))))

section I_Co_init
variable {D : va_G} {z : Nat → ClassId} {U : ut} {oa : Nat → Nat}
set_option maxRecDepth 100000 in
set_option maxHeartbeats 4000000 in
theorem ct_Co_init {l : Launch} (u : Nat) (S : cs) {K : cs → Prop} (hu : c_cl U u = 3) (hp : p_Co_init U u S K) : ct gG D z l n_C_Co_init c_C_Co_init 1 (none) 2 200 [.ref (oa u)] (cw lt_C U oa S) 4 307 (pC_n lt_C U ext_Co_init oa K) := by
  refine ct_ofI (lo := [some (.ref (oa u))]) (by decide) g_ok (Nat.le_of_ble_eq_true rfl) rfl ?_
  intro X A _ C hR hQ hA _ hin
  unfold p_Co_init at hp
  have hu0 := hu
  have hag : ∀ v, v < U.length → oa v = oa v := fun _ _ => rfl
  refine a_aload_n C dc_Co_init_0 rfl rfl ?_
  refine a_obj C dc_Co_init_1 l_Co_3 oi_M oc_M (Nat.le_of_ble_eq_true rfl) (by rw [hR]; exact Nat.le_of_ble_eq_true rfl) (by rw [hR]; exact Nat.le_of_ble_eq_true rfl) ?_
  refine a_aload_n C dc_Co_init_4 rfl rfl ?_
  refine a_bipush (v := 17) C dc_Co_init_5 (by decide) ?_
  refine c_newa (ty := .int) (N := 17) (n := U.length) C 2 dc_Co_init_7 ac_int rfl (C.kn.2 0 _ rfl).2 (fun _ => rfl) (by decide) (by decide) (by decide) (by decide) (by first | rfl | (simp only [List.length_append, List.length_cons, List.length_nil]; omega)) hp.1 (by rw [hR]; exact Nat.le_of_ble_eq_true rfl) (by rw [hR]; exact Nat.le_of_ble_eq_true rfl) (fun q7 => ?_)
  have hp := hp.2
  generalize hoa7 : va_up oa U.length q7 = oa7
  have hq7 : oa7 U.length = q7 := by rw [← hoa7]; exact up_at
  have hag : ∀ v, v < U.length → oa7 v = oa v := fun v hv => (show oa7 v = oa v by rw [← hoa7]; exact up_ne (by omega)).trans (hag v hv)
  rw [← hq7]
  have hz0 : oa7 u = oa u := (by rw [← hoa7]; exact up_ne (by have := c_lt hu0 (by decide); omega))
  rw [← hz0]
  have hcn7 := c_clN (c := (902, 17)) (U := U) (n := U.length) (by first | rfl | (simp only [List.length_append, List.length_cons, List.length_nil]; omega))
  have hu := c_clA (V := [(902, 17)]) hu (by decide)
  refine c_putRF (ty := .array .int) C u 1 hin dc_Co_init_9 hu rfl rfl (Nat.le_of_ble_eq_true rfl) f_Co_9 rfl rfl rfl (fun _ => rfl) (fun _ => rfl) rfl rfl hp.1 ?_
  have hp := hp.2
  refine a_aload_n C dc_Co_init_12 rfl rfl ?_
  refine a_bipush (v := 17) C dc_Co_init_13 (by decide) ?_
  refine c_newa (ty := .int) (N := 17) (n := U.length + 1) C 2 dc_Co_init_15 ac_int rfl (C.kn.2 0 _ rfl).2 (fun _ => rfl) (by decide) (by decide) (by decide) (by decide) (by first | rfl | (simp only [List.length_append, List.length_cons, List.length_nil]; omega)) hp.1 (by rw [hR]; exact Nat.le_of_ble_eq_true rfl) (by rw [hR]; exact Nat.le_of_ble_eq_true rfl) (fun q15 => ?_)
  have hp := hp.2
  generalize hoa15 : va_up oa7 (U.length + 1) q15 = oa15
  have hq15 : oa15 (U.length + 1) = q15 := by rw [← hoa15]; exact up_at
  have hag : ∀ v, v < U.length → oa15 v = oa v := fun v hv => (show oa15 v = oa7 v by rw [← hoa15]; exact up_ne (by omega)).trans (hag v hv)
  rw [← hq15]
  have hz1 : oa15 u = oa7 u := (by rw [← hoa15]; exact up_ne (by have := c_lt hu0 (by decide); omega))
  rw [← hz1]
  have hcn15 := c_clN (c := (902, 17)) (U := (U ++ [(902, 17)])) (n := U.length + 1) (by first | rfl | (simp only [List.length_append, List.length_cons, List.length_nil]; omega))
  have hu := c_clA (V := [(902, 17)]) hu (by decide)
  have hcn7 := c_clA (V := [(902, 17)]) hcn7 (by decide)
  refine c_putRF (ty := .array .int) C u 2 hin dc_Co_init_17 hu rfl rfl (Nat.le_of_ble_eq_true rfl) f_Co_15 rfl rfl rfl (fun _ => rfl) (fun _ => rfl) rfl rfl hp.1 ?_
  have hp := hp.2
  refine a_aload_n C dc_Co_init_20 rfl rfl ?_
  refine a_bipush (v := 17) C dc_Co_init_21 (by decide) ?_
  refine c_newa (ty := .int) (N := 17) (n := U.length + 2) C 2 dc_Co_init_23 ac_int rfl (C.kn.2 0 _ rfl).2 (fun _ => rfl) (by decide) (by decide) (by decide) (by decide) (by first | rfl | (simp only [List.length_append, List.length_cons, List.length_nil]; omega)) hp.1 (by rw [hR]; exact Nat.le_of_ble_eq_true rfl) (by rw [hR]; exact Nat.le_of_ble_eq_true rfl) (fun q23 => ?_)
  have hp := hp.2
  generalize hoa23 : va_up oa15 (U.length + 2) q23 = oa23
  have hq23 : oa23 (U.length + 2) = q23 := by rw [← hoa23]; exact up_at
  have hag : ∀ v, v < U.length → oa23 v = oa v := fun v hv => (show oa23 v = oa15 v by rw [← hoa23]; exact up_ne (by omega)).trans (hag v hv)
  rw [← hq23]
  have hz2 : oa23 u = oa15 u := (by rw [← hoa23]; exact up_ne (by have := c_lt hu0 (by decide); omega))
  rw [← hz2]
  have hcn23 := c_clN (c := (902, 17)) (U := ((U ++ [(902, 17)]) ++ [(902, 17)])) (n := U.length + 2) (by first | rfl | (simp only [List.length_append, List.length_cons, List.length_nil]; omega))
  have hu := c_clA (V := [(902, 17)]) hu (by decide)
  have hcn7 := c_clA (V := [(902, 17)]) hcn7 (by decide)
  have hcn15 := c_clA (V := [(902, 17)]) hcn15 (by decide)
  refine c_putRF (ty := .array .int) C u 3 hin dc_Co_init_25 hu rfl rfl (Nat.le_of_ble_eq_true rfl) f_Co_18 rfl rfl rfl (fun _ => rfl) (fun _ => rfl) rfl rfl hp.1 ?_
  have hp := hp.2
  refine a_aload_n C dc_Co_init_28 rfl rfl ?_
  refine a_sipush (v := 256) C dc_Co_init_29 (by decide) ?_
  refine c_newa (ty := .int) (N := 256) (n := U.length + 3) C 2 dc_Co_init_32 ac_int rfl (C.kn.2 0 _ rfl).2 (fun _ => rfl) (by decide) (by decide) (by decide) (by decide) (by first | rfl | (simp only [List.length_append, List.length_cons, List.length_nil]; omega)) hp.1 (by rw [hR]; exact Nat.le_of_ble_eq_true rfl) (by rw [hR]; exact Nat.le_of_ble_eq_true rfl) (fun q32 => ?_)
  have hp := hp.2
  generalize hoa32 : va_up oa23 (U.length + 3) q32 = oa32
  have hq32 : oa32 (U.length + 3) = q32 := by rw [← hoa32]; exact up_at
  have hag : ∀ v, v < U.length → oa32 v = oa v := fun v hv => (show oa32 v = oa23 v by rw [← hoa32]; exact up_ne (by omega)).trans (hag v hv)
  rw [← hq32]
  have hz3 : oa32 u = oa23 u := (by rw [← hoa32]; exact up_ne (by have := c_lt hu0 (by decide); omega))
  rw [← hz3]
  have hcn32 := c_clN (c := (902, 256)) (U := (((U ++ [(902, 17)]) ++ [(902, 17)]) ++ [(902, 17)])) (n := U.length + 3) (by first | rfl | (simp only [List.length_append, List.length_cons, List.length_nil]; omega))
  have hu := c_clA (V := [(902, 256)]) hu (by decide)
  have hcn7 := c_clA (V := [(902, 256)]) hcn7 (by decide)
  have hcn15 := c_clA (V := [(902, 256)]) hcn15 (by decide)
  have hcn23 := c_clA (V := [(902, 256)]) hcn23 (by decide)
  refine c_putRF (ty := .array .int) C u 4 hin dc_Co_init_34 hu rfl rfl (Nat.le_of_ble_eq_true rfl) f_Co_21 rfl rfl rfl (fun _ => rfl) (fun _ => rfl) rfl rfl hp.1 ?_
  have hp := hp.2
  refine aw_widen (nc' := 4) (ns' := 307) (Nat.le_of_ble_eq_true rfl) (Nat.le_of_ble_eq_true rfl) ?_
  refine aw_eq (lo' := _) (st' := _) (L' := (cw lt_C (U ++ ext_Co_init) oa32 (c_pr (c_pr (c_pr (c_pr S u 1 U.length) u 2 (U.length + 1)) u 3 (U.length + 2)) u 4 (U.length + 3)))) rfl rfl (by simp only [ext_Co_init, List.append_assoc, List.cons_append, List.nil_append, List.append_nil]) ?_
  exact a_vret C hQ hA dc_Co_init_37 rfl ⟨oa32, (c_pr (c_pr (c_pr (c_pr S u 1 U.length) u 2 (U.length + 1)) u 3 (U.length + 2)) u 4 (U.length + 3)), hp, hag, rfl, rfl⟩
end I_Co_init
def ext_Un_init : ut := [(8, 0), (9, 0), (902, 32768), (7, 0), (902, 3), (902, 3), (902, 3), (902, 3), (902, 3), (902, 3), (902, 12288), (902, 192), (902, 12288), (10, 0), (902, 3), (902, 3), (902, 3), (902, 192), (902, 256), (903, 4), (951, 4), (3, 0), (902, 17), (902, 17), (902, 17), (902, 256), (3, 0), (902, 17), (902, 17), (902, 17), (902, 256), (3, 0), (902, 17), (902, 17), (902, 17), (902, 256), (3, 0), (902, 17), (902, 17), (902, 17), (902, 256), (902, 3), (902, 3), (903, 3), (902, 3)]
def p_Un_init (U : ut) (u : Nat) (S : cs) (K : cs → Prop) : Prop :=
  fresh S U.length ∧ (p_Re_init (U ++ [(8, 0)]) U.length S (fun S9 => ¬ U.length = NU ∧ (fresh (c_pr S9 u 0 U.length) (U.length + 3) ∧ (p_Pi_init (((U ++ [(8, 0)]) ++ [(9, 0), (902, 32768)]) ++ [(7, 0)]) (U.length + 3) (c_pr S9 u 0 U.length) (fun S20 => ¬ (U.length + 3) = NU ∧ (fresh (c_pr S20 u 1 (U.length + 3)) (U.length + 13) ∧ (p_Sc_init (((((U ++ [(8, 0)]) ++ [(9, 0), (902, 32768)]) ++ [(7, 0)]) ++ [(902, 3), (902, 3), (902, 3), (902, 3), (902, 3), (902, 3), (902, 12288), (902, 192), (902, 12288)]) ++ [(10, 0)]) (U.length + 13) (c_pr S20 u 1 (U.length + 3)) (fun S31 => ¬ (U.length + 13) = NU ∧ (fresh (c_pr S31 u 2 (U.length + 13)) (U.length + 18) ∧ (¬ (U.length + 18) = NU ∧ (fresh (c_pr (c_pr S31 u 2 (U.length + 13)) u 3 (U.length + 18)) (U.length + 19) ∧ (¬ (U.length + 19) = NU ∧ (fresh (c_pr (c_pr (c_pr S31 u 2 (U.length + 13)) u 3 (U.length + 18)) u 4 (U.length + 19)) (U.length + 20) ∧ (fresh (c_pr (c_pr (c_pr S31 u 2 (U.length + 13)) u 3 (U.length + 18)) u 4 (U.length + 19)) (U.length + 21) ∧ (p_Co_init ((((((((((U ++ [(8, 0)]) ++ [(9, 0), (902, 32768)]) ++ [(7, 0)]) ++ [(902, 3), (902, 3), (902, 3), (902, 3), (902, 3), (902, 3), (902, 12288), (902, 192), (902, 12288)]) ++ [(10, 0)]) ++ [(902, 3), (902, 3), (902, 3), (902, 192)]) ++ [(902, 256)]) ++ [(903, 4)]) ++ [(951, 4)]) ++ [(3, 0)]) (U.length + 21) (c_pr (c_pr (c_pr S31 u 2 (U.length + 13)) u 3 (U.length + 18)) u 4 (U.length + 19)) (fun S64 => vp_in 0 (c_ln (((((((((((U ++ [(8, 0)]) ++ [(9, 0), (902, 32768)]) ++ [(7, 0)]) ++ [(902, 3), (902, 3), (902, 3), (902, 3), (902, 3), (902, 3), (902, 12288), (902, 192), (902, 12288)]) ++ [(10, 0)]) ++ [(902, 3), (902, 3), (902, 3), (902, 192)]) ++ [(902, 256)]) ++ [(903, 4)]) ++ [(951, 4)]) ++ [(3, 0)]) ++ [(902, 17), (902, 17), (902, 17), (902, 256)]) (U.length + 20)) ∧ ¬ (U.length + 21) = NU ∧ (fresh (c_pr S64 (U.length + 20) (0 : Int32).toNatClampNeg (U.length + 21)) (U.length + 26) ∧ (p_Co_init ((((((((((((U ++ [(8, 0)]) ++ [(9, 0), (902, 32768)]) ++ [(7, 0)]) ++ [(902, 3), (902, 3), (902, 3), (902, 3), (902, 3), (902, 3), (902, 12288), (902, 192), (902, 12288)]) ++ [(10, 0)]) ++ [(902, 3), (902, 3), (902, 3), (902, 192)]) ++ [(902, 256)]) ++ [(903, 4)]) ++ [(951, 4)]) ++ [(3, 0)]) ++ [(902, 17), (902, 17), (902, 17), (902, 256)]) ++ [(3, 0)]) (U.length + 26) (c_pr S64 (U.length + 20) (0 : Int32).toNatClampNeg (U.length + 21)) (fun S74 => vp_in 1 (c_ln (((((((((((((U ++ [(8, 0)]) ++ [(9, 0), (902, 32768)]) ++ [(7, 0)]) ++ [(902, 3), (902, 3), (902, 3), (902, 3), (902, 3), (902, 3), (902, 12288), (902, 192), (902, 12288)]) ++ [(10, 0)]) ++ [(902, 3), (902, 3), (902, 3), (902, 192)]) ++ [(902, 256)]) ++ [(903, 4)]) ++ [(951, 4)]) ++ [(3, 0)]) ++ [(902, 17), (902, 17), (902, 17), (902, 256)]) ++ [(3, 0)]) ++ [(902, 17), (902, 17), (902, 17), (902, 256)]) (U.length + 20)) ∧ ¬ (U.length + 26) = NU ∧ (fresh (c_pr S74 (U.length + 20) (1 : Int32).toNatClampNeg (U.length + 26)) (U.length + 31) ∧ (p_Co_init ((((((((((((((U ++ [(8, 0)]) ++ [(9, 0), (902, 32768)]) ++ [(7, 0)]) ++ [(902, 3), (902, 3), (902, 3), (902, 3), (902, 3), (902, 3), (902, 12288), (902, 192), (902, 12288)]) ++ [(10, 0)]) ++ [(902, 3), (902, 3), (902, 3), (902, 192)]) ++ [(902, 256)]) ++ [(903, 4)]) ++ [(951, 4)]) ++ [(3, 0)]) ++ [(902, 17), (902, 17), (902, 17), (902, 256)]) ++ [(3, 0)]) ++ [(902, 17), (902, 17), (902, 17), (902, 256)]) ++ [(3, 0)]) (U.length + 31) (c_pr S74 (U.length + 20) (1 : Int32).toNatClampNeg (U.length + 26)) (fun S84 => vp_in 2 (c_ln (((((((((((((((U ++ [(8, 0)]) ++ [(9, 0), (902, 32768)]) ++ [(7, 0)]) ++ [(902, 3), (902, 3), (902, 3), (902, 3), (902, 3), (902, 3), (902, 12288), (902, 192), (902, 12288)]) ++ [(10, 0)]) ++ [(902, 3), (902, 3), (902, 3), (902, 192)]) ++ [(902, 256)]) ++ [(903, 4)]) ++ [(951, 4)]) ++ [(3, 0)]) ++ [(902, 17), (902, 17), (902, 17), (902, 256)]) ++ [(3, 0)]) ++ [(902, 17), (902, 17), (902, 17), (902, 256)]) ++ [(3, 0)]) ++ [(902, 17), (902, 17), (902, 17), (902, 256)]) (U.length + 20)) ∧ ¬ (U.length + 31) = NU ∧ (fresh (c_pr S84 (U.length + 20) (2 : Int32).toNatClampNeg (U.length + 31)) (U.length + 36) ∧ (p_Co_init ((((((((((((((((U ++ [(8, 0)]) ++ [(9, 0), (902, 32768)]) ++ [(7, 0)]) ++ [(902, 3), (902, 3), (902, 3), (902, 3), (902, 3), (902, 3), (902, 12288), (902, 192), (902, 12288)]) ++ [(10, 0)]) ++ [(902, 3), (902, 3), (902, 3), (902, 192)]) ++ [(902, 256)]) ++ [(903, 4)]) ++ [(951, 4)]) ++ [(3, 0)]) ++ [(902, 17), (902, 17), (902, 17), (902, 256)]) ++ [(3, 0)]) ++ [(902, 17), (902, 17), (902, 17), (902, 256)]) ++ [(3, 0)]) ++ [(902, 17), (902, 17), (902, 17), (902, 256)]) ++ [(3, 0)]) (U.length + 36) (c_pr S84 (U.length + 20) (2 : Int32).toNatClampNeg (U.length + 31)) (fun S94 => vp_in 3 (c_ln (((((((((((((((((U ++ [(8, 0)]) ++ [(9, 0), (902, 32768)]) ++ [(7, 0)]) ++ [(902, 3), (902, 3), (902, 3), (902, 3), (902, 3), (902, 3), (902, 12288), (902, 192), (902, 12288)]) ++ [(10, 0)]) ++ [(902, 3), (902, 3), (902, 3), (902, 192)]) ++ [(902, 256)]) ++ [(903, 4)]) ++ [(951, 4)]) ++ [(3, 0)]) ++ [(902, 17), (902, 17), (902, 17), (902, 256)]) ++ [(3, 0)]) ++ [(902, 17), (902, 17), (902, 17), (902, 256)]) ++ [(3, 0)]) ++ [(902, 17), (902, 17), (902, 17), (902, 256)]) ++ [(3, 0)]) ++ [(902, 17), (902, 17), (902, 17), (902, 256)]) (U.length + 20)) ∧ ¬ (U.length + 36) = NU ∧ (¬ (U.length + 20) = NU ∧ (fresh (c_pr (c_pr S94 (U.length + 20) (3 : Int32).toNatClampNeg (U.length + 36)) u 5 (U.length + 20)) (U.length + 41) ∧ (¬ (U.length + 41) = NU ∧ (fresh (c_pr (c_pr (c_pr S94 (U.length + 20) (3 : Int32).toNatClampNeg (U.length + 36)) u 5 (U.length + 20)) u 7 (U.length + 41)) (U.length + 42) ∧ (¬ (U.length + 42) = NU ∧ (fresh (c_pr (c_pr (c_pr (c_pr S94 (U.length + 20) (3 : Int32).toNatClampNeg (U.length + 36)) u 5 (U.length + 20)) u 7 (U.length + 41)) u 8 (U.length + 42)) (U.length + 43) ∧ (¬ (U.length + 43) = NU ∧ (fresh (c_pr (c_pr (c_pr (c_pr (c_pr S94 (U.length + 20) (3 : Int32).toNatClampNeg (U.length + 36)) u 5 (U.length + 20)) u 7 (U.length + 41)) u 8 (U.length + 42)) u 9 (U.length + 43)) (U.length + 44) ∧ (¬ (U.length + 44) = NU ∧ (K (c_pr (c_pr (c_pr (c_pr (c_pr (c_pr S94 (U.length + 20) (3 : Int32).toNatClampNeg (U.length + 36)) u 5 (U.length + 20)) u 7 (U.length + 41)) u 8 (U.length + 42)) u 9 (U.length + 43)) u 10 (U.length + 44)))))))))))))))))))))))))))))))))))))

section I_Un_init
variable {D : va_G} {z : Nat → ClassId} {U : ut} {oa : Nat → Nat}
set_option maxRecDepth 100000 in
set_option maxHeartbeats 4000000 in
theorem ct_Un_init {l : Launch} (u : Nat) (S : cs) {K : cs → Prop} (hu : c_cl U u = 11) (hp : p_Un_init U u S K) : ct gG D z l n_C_Un_init c_C_Un_init 1 (none) 4 400 [.ref (oa u)] (cw lt_C U oa S) 45 59319 (pC_n lt_C U ext_Un_init oa K) := by
  refine ct_ofI (lo := [some (.ref (oa u))]) (by decide) g_ok (Nat.le_of_ble_eq_true rfl) rfl ?_
  intro X A _ C hR hQ hA _ hin
  unfold p_Un_init at hp
  have hu0 := hu
  have hag : ∀ v, v < U.length → oa v = oa v := fun _ _ => rfl
  refine a_aload_n C dc_Un_init_0 rfl rfl ?_
  refine a_obj C dc_Un_init_1 l_Un_3 oi_M oc_M (Nat.le_of_ble_eq_true rfl) (by rw [hR]; exact Nat.le_of_ble_eq_true rfl) (by rw [hR]; exact Nat.le_of_ble_eq_true rfl) ?_
  refine a_aload_n C dc_Un_init_4 rfl rfl ?_
  refine c_new (ci := 8) (n := U.length) C y_Re g_ty_Re dc_Un_init_5 rfl rfl x_Un_9 nn_Re i_Re df_Re (by decide) (by first | rfl | (simp only [List.length_append, List.length_cons, List.length_nil]; omega)) hp.1 (by rw [hR]; exact Nat.le_of_ble_eq_true rfl) (by rw [hR]; exact Nat.le_of_ble_eq_true rfl) (fun q5 => ?_)
  have hp := hp.2
  generalize hoa5 : va_up oa U.length q5 = oa5
  have hq5 : oa5 U.length = q5 := by rw [← hoa5]; exact up_at
  have hag : ∀ v, v < U.length → oa5 v = oa v := fun v hv => (show oa5 v = oa v by rw [← hoa5]; exact up_ne (by omega)).trans (hag v hv)
  rw [← hq5]
  have hz0 : oa5 u = oa u := (by rw [← hoa5]; exact up_ne (by have := c_lt hu0 (by decide); omega))
  rw [← hz0]
  have hcn5 := c_clN (c := (8, 0)) (U := U) (n := U.length) (by first | rfl | (simp only [List.length_append, List.length_cons, List.length_nil]; omega))
  have hu := c_clA (V := [(8, 0)]) hu (by decide)
  refine a_dup C dc_Un_init_8 rfl ?_
  refine c_call (rest := [.ref (oa5 U.length), .ref (oa5 u)]) (av := .ref (oa5 U.length) :: []) C dc_Un_init_9 (ct_Re_init U.length S hcn5 hp) cd_C_Re_init i_Re (Nat.le_of_ble_eq_true rfl) (by rw [hR]; exact Nat.le_of_ble_eq_true rfl) (by rw [hR]; exact Nat.le_of_ble_eq_true rfl) (by rw [hR]; exact Nat.le_of_ble_eq_true rfl) (by rw [hR]; exact Nat.le_of_ble_eq_true rfl) (inv_IN C dc_Un_init_9 l_Un_11 rfl im_C_Re_init cd_C_Re_init ⟨by decide, by decide⟩ ln_C_Re_init rfl) (fun oc L1 hL => ?_)
  obtain ⟨oa9, S9, hp, hb9, rfl, rfl⟩ := hL
  refine ⟨_, rfl, ?_⟩
  have hag : ∀ v, v < U.length → oa9 v = oa v := fun v hv => (hb9 v (by simp only [List.length_append, List.length_cons, List.length_nil]; omega)).trans (hag v hv)
  refine aw_eq (lo' := [some (.ref (oa5 u))]) (st' := [.ref (oa5 U.length), .ref (oa5 u)]) (L' := (cw lt_C ((U ++ [(8, 0)]) ++ [(9, 0), (902, 32768)]) oa9 S9)) rfl rfl rfl ?_
  have hz1 : oa9 u = oa5 u := (hb9 u (by simp only [List.length_append, List.length_cons, List.length_nil]; have := c_lt hu0 (by decide); omega))
  rw [← hz1]
  have hz2 : oa9 U.length = oa5 U.length := (hb9 U.length (by simp only [List.length_append, List.length_cons, List.length_nil]; omega))
  rw [← hz2]
  have hu := c_clA (V := [(9, 0), (902, 32768)]) hu (by decide)
  have hcn5 := c_clA (V := [(9, 0), (902, 32768)]) hcn5 (by decide)
  refine c_putRF (ty := .object "BlockPicture$Reader") C u 0 hin dc_Un_init_12 hu rfl rfl (Nat.le_of_ble_eq_true rfl) f_Un_12 rfl rfl rfl (fun _ => rfl) (fun _ => rfl) rfl rfl hp.1 ?_
  have hp := hp.2
  refine a_aload_n C dc_Un_init_15 rfl rfl ?_
  refine c_new (ci := 7) (n := U.length + 3) C y_Pi g_ty_Pi dc_Un_init_16 rfl rfl x_Un_18 nn_Pi i_Pi df_Pi (by decide) (by first | rfl | (simp only [List.length_append, List.length_cons, List.length_nil]; omega)) hp.1 (by rw [hR]; exact Nat.le_of_ble_eq_true rfl) (by rw [hR]; exact Nat.le_of_ble_eq_true rfl) (fun q16 => ?_)
  have hp := hp.2
  generalize hoa16 : va_up oa9 (U.length + 3) q16 = oa16
  have hq16 : oa16 (U.length + 3) = q16 := by rw [← hoa16]; exact up_at
  have hag : ∀ v, v < U.length → oa16 v = oa v := fun v hv => (show oa16 v = oa9 v by rw [← hoa16]; exact up_ne (by omega)).trans (hag v hv)
  rw [← hq16]
  have hz3 : oa16 u = oa9 u := (by rw [← hoa16]; exact up_ne (by have := c_lt hu0 (by decide); omega))
  rw [← hz3]
  have hcn16 := c_clN (c := (7, 0)) (U := ((U ++ [(8, 0)]) ++ [(9, 0), (902, 32768)])) (n := U.length + 3) (by first | rfl | (simp only [List.length_append, List.length_cons, List.length_nil]; omega))
  have hu := c_clA (V := [(7, 0)]) hu (by decide)
  have hcn5 := c_clA (V := [(7, 0)]) hcn5 (by decide)
  refine a_dup C dc_Un_init_19 rfl ?_
  refine c_call (rest := [.ref (oa16 (U.length + 3)), .ref (oa16 u)]) (av := .ref (oa16 (U.length + 3)) :: []) C dc_Un_init_20 (ct_Pi_init (U.length + 3) (c_pr S9 u 0 U.length) hcn16 hp) cd_C_Pi_init i_Pi (Nat.le_of_ble_eq_true rfl) (by rw [hR]; exact Nat.le_of_ble_eq_true rfl) (by rw [hR]; exact Nat.le_of_ble_eq_true rfl) (by rw [hR]; exact Nat.le_of_ble_eq_true rfl) (by rw [hR]; exact Nat.le_of_ble_eq_true rfl) (inv_IN C dc_Un_init_20 l_Un_20 rfl im_C_Pi_init cd_C_Pi_init ⟨by decide, by decide⟩ ln_C_Pi_init rfl) (fun oc L1 hL => ?_)
  obtain ⟨oa20, S20, hp, hb20, rfl, rfl⟩ := hL
  refine ⟨_, rfl, ?_⟩
  have hag : ∀ v, v < U.length → oa20 v = oa v := fun v hv => (hb20 v (by simp only [List.length_append, List.length_cons, List.length_nil]; omega)).trans (hag v hv)
  refine aw_eq (lo' := [some (.ref (oa16 u))]) (st' := [.ref (oa16 (U.length + 3)), .ref (oa16 u)]) (L' := (cw lt_C ((((U ++ [(8, 0)]) ++ [(9, 0), (902, 32768)]) ++ [(7, 0)]) ++ [(902, 3), (902, 3), (902, 3), (902, 3), (902, 3), (902, 3), (902, 12288), (902, 192), (902, 12288)]) oa20 S20)) rfl rfl rfl ?_
  have hz4 : oa20 u = oa16 u := (hb20 u (by simp only [List.length_append, List.length_cons, List.length_nil]; have := c_lt hu0 (by decide); omega))
  rw [← hz4]
  have hz5 : oa20 (U.length + 3) = oa16 (U.length + 3) := (hb20 (U.length + 3) (by simp only [List.length_append, List.length_cons, List.length_nil]; omega))
  rw [← hz5]
  have hu := c_clA (V := [(902, 3), (902, 3), (902, 3), (902, 3), (902, 3), (902, 3), (902, 12288), (902, 192), (902, 12288)]) hu (by decide)
  have hcn5 := c_clA (V := [(902, 3), (902, 3), (902, 3), (902, 3), (902, 3), (902, 3), (902, 12288), (902, 192), (902, 12288)]) hcn5 (by decide)
  have hcn16 := c_clA (V := [(902, 3), (902, 3), (902, 3), (902, 3), (902, 3), (902, 3), (902, 12288), (902, 192), (902, 12288)]) hcn16 (by decide)
  refine c_putR (ty := .object "BlockPicture$Picture") C u 1 dc_Un_init_23 hu rfl rfl (Nat.le_of_ble_eq_true rfl) f_Un_21 rfl rfl (fun _ => rfl) (fun _ => rfl) rfl rfl hp.1 ?_
  have hp := hp.2
  refine a_aload_n C dc_Un_init_26 rfl rfl ?_
  refine c_new (ci := 10) (n := U.length + 13) C y_Sc g_ty_Sc dc_Un_init_27 rfl rfl x_Un_25 nn_Sc i_Sc df_Sc (by decide) (by first | rfl | (simp only [List.length_append, List.length_cons, List.length_nil]; omega)) hp.1 (by rw [hR]; exact Nat.le_of_ble_eq_true rfl) (by rw [hR]; exact Nat.le_of_ble_eq_true rfl) (fun q27 => ?_)
  have hp := hp.2
  generalize hoa27 : va_up oa20 (U.length + 13) q27 = oa27
  have hq27 : oa27 (U.length + 13) = q27 := by rw [← hoa27]; exact up_at
  have hag : ∀ v, v < U.length → oa27 v = oa v := fun v hv => (show oa27 v = oa20 v by rw [← hoa27]; exact up_ne (by omega)).trans (hag v hv)
  rw [← hq27]
  have hz6 : oa27 u = oa20 u := (by rw [← hoa27]; exact up_ne (by have := c_lt hu0 (by decide); omega))
  rw [← hz6]
  have hcn27 := c_clN (c := (10, 0)) (U := ((((U ++ [(8, 0)]) ++ [(9, 0), (902, 32768)]) ++ [(7, 0)]) ++ [(902, 3), (902, 3), (902, 3), (902, 3), (902, 3), (902, 3), (902, 12288), (902, 192), (902, 12288)])) (n := U.length + 13) (by first | rfl | (simp only [List.length_append, List.length_cons, List.length_nil]; omega))
  have hu := c_clA (V := [(10, 0)]) hu (by decide)
  have hcn5 := c_clA (V := [(10, 0)]) hcn5 (by decide)
  have hcn16 := c_clA (V := [(10, 0)]) hcn16 (by decide)
  refine a_dup C dc_Un_init_30 rfl ?_
  refine c_call (rest := [.ref (oa27 (U.length + 13)), .ref (oa27 u)]) (av := .ref (oa27 (U.length + 13)) :: []) C dc_Un_init_31 (ct_Sc_init (U.length + 13) (c_pr S20 u 1 (U.length + 3)) hcn27 hp) cd_C_Sc_init i_Sc (Nat.le_of_ble_eq_true rfl) (by rw [hR]; exact Nat.le_of_ble_eq_true rfl) (by rw [hR]; exact Nat.le_of_ble_eq_true rfl) (by rw [hR]; exact Nat.le_of_ble_eq_true rfl) (by rw [hR]; exact Nat.le_of_ble_eq_true rfl) (inv_IN C dc_Un_init_31 l_Un_27 rfl im_C_Sc_init cd_C_Sc_init ⟨by decide, by decide⟩ ln_C_Sc_init rfl) (fun oc L1 hL => ?_)
  obtain ⟨oa31, S31, hp, hb31, rfl, rfl⟩ := hL
  refine ⟨_, rfl, ?_⟩
  have hag : ∀ v, v < U.length → oa31 v = oa v := fun v hv => (hb31 v (by simp only [List.length_append, List.length_cons, List.length_nil]; omega)).trans (hag v hv)
  refine aw_eq (lo' := [some (.ref (oa27 u))]) (st' := [.ref (oa27 (U.length + 13)), .ref (oa27 u)]) (L' := (cw lt_C ((((((U ++ [(8, 0)]) ++ [(9, 0), (902, 32768)]) ++ [(7, 0)]) ++ [(902, 3), (902, 3), (902, 3), (902, 3), (902, 3), (902, 3), (902, 12288), (902, 192), (902, 12288)]) ++ [(10, 0)]) ++ [(902, 3), (902, 3), (902, 3), (902, 192)]) oa31 S31)) rfl rfl rfl ?_
  have hz7 : oa31 u = oa27 u := (hb31 u (by simp only [List.length_append, List.length_cons, List.length_nil]; have := c_lt hu0 (by decide); omega))
  rw [← hz7]
  have hz8 : oa31 (U.length + 13) = oa27 (U.length + 13) := (hb31 (U.length + 13) (by simp only [List.length_append, List.length_cons, List.length_nil]; omega))
  rw [← hz8]
  have hu := c_clA (V := [(902, 3), (902, 3), (902, 3), (902, 192)]) hu (by decide)
  have hcn5 := c_clA (V := [(902, 3), (902, 3), (902, 3), (902, 192)]) hcn5 (by decide)
  have hcn16 := c_clA (V := [(902, 3), (902, 3), (902, 3), (902, 192)]) hcn16 (by decide)
  have hcn27 := c_clA (V := [(902, 3), (902, 3), (902, 3), (902, 192)]) hcn27 (by decide)
  refine c_putRF (ty := .object "BlockPicture$Scan") C u 2 hin dc_Un_init_34 hu rfl rfl (Nat.le_of_ble_eq_true rfl) f_Un_28 rfl rfl rfl (fun _ => rfl) (fun _ => rfl) rfl rfl hp.1 ?_
  have hp := hp.2
  refine a_aload_n C dc_Un_init_37 rfl rfl ?_
  refine a_sipush (v := 256) C dc_Un_init_38 (by decide) ?_
  refine c_newa (ty := .int) (N := 256) (n := U.length + 18) C 2 dc_Un_init_41 ac_int rfl (C.kn.2 0 _ rfl).2 (fun _ => rfl) (by decide) (by decide) (by decide) (by decide) (by first | rfl | (simp only [List.length_append, List.length_cons, List.length_nil]; omega)) hp.1 (by rw [hR]; exact Nat.le_of_ble_eq_true rfl) (by rw [hR]; exact Nat.le_of_ble_eq_true rfl) (fun q41 => ?_)
  have hp := hp.2
  generalize hoa41 : va_up oa31 (U.length + 18) q41 = oa41
  have hq41 : oa41 (U.length + 18) = q41 := by rw [← hoa41]; exact up_at
  have hag : ∀ v, v < U.length → oa41 v = oa v := fun v hv => (show oa41 v = oa31 v by rw [← hoa41]; exact up_ne (by omega)).trans (hag v hv)
  rw [← hq41]
  have hz9 : oa41 u = oa31 u := (by rw [← hoa41]; exact up_ne (by have := c_lt hu0 (by decide); omega))
  rw [← hz9]
  have hcn41 := c_clN (c := (902, 256)) (U := ((((((U ++ [(8, 0)]) ++ [(9, 0), (902, 32768)]) ++ [(7, 0)]) ++ [(902, 3), (902, 3), (902, 3), (902, 3), (902, 3), (902, 3), (902, 12288), (902, 192), (902, 12288)]) ++ [(10, 0)]) ++ [(902, 3), (902, 3), (902, 3), (902, 192)])) (n := U.length + 18) (by first | rfl | (simp only [List.length_append, List.length_cons, List.length_nil]; omega))
  have hu := c_clA (V := [(902, 256)]) hu (by decide)
  have hcn5 := c_clA (V := [(902, 256)]) hcn5 (by decide)
  have hcn16 := c_clA (V := [(902, 256)]) hcn16 (by decide)
  have hcn27 := c_clA (V := [(902, 256)]) hcn27 (by decide)
  refine c_putRF (ty := .array .int) C u 3 hin dc_Un_init_43 hu rfl rfl (Nat.le_of_ble_eq_true rfl) f_Un_32 rfl rfl rfl (fun _ => rfl) (fun _ => rfl) rfl rfl hp.1 ?_
  have hp := hp.2
  refine a_aload_n C dc_Un_init_46 rfl rfl ?_
  refine a_iconst (v := 4) C dc_Un_init_47 (by decide) ?_
  refine c_newa (ty := .boolean) (N := 4) (n := U.length + 19) C 3 dc_Un_init_48 ac_boolean rfl (C.kn.2 1 _ rfl).2 (fun _ => rfl) (by decide) (by decide) (by decide) (by decide) (by first | rfl | (simp only [List.length_append, List.length_cons, List.length_nil]; omega)) hp.1 (by rw [hR]; exact Nat.le_of_ble_eq_true rfl) (by rw [hR]; exact Nat.le_of_ble_eq_true rfl) (fun q48 => ?_)
  have hp := hp.2
  generalize hoa48 : va_up oa41 (U.length + 19) q48 = oa48
  have hq48 : oa48 (U.length + 19) = q48 := by rw [← hoa48]; exact up_at
  have hag : ∀ v, v < U.length → oa48 v = oa v := fun v hv => (show oa48 v = oa41 v by rw [← hoa48]; exact up_ne (by omega)).trans (hag v hv)
  rw [← hq48]
  have hz10 : oa48 u = oa41 u := (by rw [← hoa48]; exact up_ne (by have := c_lt hu0 (by decide); omega))
  rw [← hz10]
  have hcn48 := c_clN (c := (903, 4)) (U := (((((((U ++ [(8, 0)]) ++ [(9, 0), (902, 32768)]) ++ [(7, 0)]) ++ [(902, 3), (902, 3), (902, 3), (902, 3), (902, 3), (902, 3), (902, 12288), (902, 192), (902, 12288)]) ++ [(10, 0)]) ++ [(902, 3), (902, 3), (902, 3), (902, 192)]) ++ [(902, 256)])) (n := U.length + 19) (by first | rfl | (simp only [List.length_append, List.length_cons, List.length_nil]; omega))
  have hu := c_clA (V := [(903, 4)]) hu (by decide)
  have hcn5 := c_clA (V := [(903, 4)]) hcn5 (by decide)
  have hcn16 := c_clA (V := [(903, 4)]) hcn16 (by decide)
  have hcn27 := c_clA (V := [(903, 4)]) hcn27 (by decide)
  have hcn41 := c_clA (V := [(903, 4)]) hcn41 (by decide)
  refine c_putRF (ty := .array .boolean) C u 4 hin dc_Un_init_50 hu rfl rfl (Nat.le_of_ble_eq_true rfl) f_Un_36 rfl rfl rfl (fun _ => rfl) (fun _ => rfl) rfl rfl hp.1 ?_
  have hp := hp.2
  refine a_aload_n C dc_Un_init_53 rfl rfl ?_
  refine a_iconst (v := 4) C dc_Un_init_54 (by decide) ?_
  refine c_anew (ci := 951) (N := 4) (n := U.length + 20) C 1 dc_Un_init_55 x_Un_40 ao_951 rfl rfl (by decide) (by decide) (by decide) (by first | rfl | (simp only [List.length_append, List.length_cons, List.length_nil]; omega)) hp.1 (by rw [hR]; exact Nat.le_of_ble_eq_true rfl) (by rw [hR]; exact Nat.le_of_ble_eq_true rfl) (fun q55 => ?_)
  have hp := hp.2
  generalize hoa55 : va_up oa48 (U.length + 20) q55 = oa55
  have hq55 : oa55 (U.length + 20) = q55 := by rw [← hoa55]; exact up_at
  have hag : ∀ v, v < U.length → oa55 v = oa v := fun v hv => (show oa55 v = oa48 v by rw [← hoa55]; exact up_ne (by omega)).trans (hag v hv)
  rw [← hq55]
  have hz11 : oa55 u = oa48 u := (by rw [← hoa55]; exact up_ne (by have := c_lt hu0 (by decide); omega))
  rw [← hz11]
  have hcn55 := c_clN (c := (951, 4)) (U := ((((((((U ++ [(8, 0)]) ++ [(9, 0), (902, 32768)]) ++ [(7, 0)]) ++ [(902, 3), (902, 3), (902, 3), (902, 3), (902, 3), (902, 3), (902, 12288), (902, 192), (902, 12288)]) ++ [(10, 0)]) ++ [(902, 3), (902, 3), (902, 3), (902, 192)]) ++ [(902, 256)]) ++ [(903, 4)])) (n := U.length + 20) (by first | rfl | (simp only [List.length_append, List.length_cons, List.length_nil]; omega))
  have hu := c_clA (V := [(951, 4)]) hu (by decide)
  have hcn5 := c_clA (V := [(951, 4)]) hcn5 (by decide)
  have hcn16 := c_clA (V := [(951, 4)]) hcn16 (by decide)
  have hcn27 := c_clA (V := [(951, 4)]) hcn27 (by decide)
  have hcn41 := c_clA (V := [(951, 4)]) hcn41 (by decide)
  have hcn48 := c_clA (V := [(951, 4)]) hcn48 (by decide)
  refine a_dup C dc_Un_init_58 rfl ?_
  refine a_iconst (v := 0) C dc_Un_init_59 (by decide) ?_
  refine c_new (ci := 3) (n := U.length + 21) C y_Co g_ty_Co dc_Un_init_60 rfl rfl x_Un_40 nn_Co i_Co df_Co (by decide) (by first | rfl | (simp only [List.length_append, List.length_cons, List.length_nil]; omega)) hp.1 (by rw [hR]; exact Nat.le_of_ble_eq_true rfl) (by rw [hR]; exact Nat.le_of_ble_eq_true rfl) (fun q60 => ?_)
  have hp := hp.2
  generalize hoa60 : va_up oa55 (U.length + 21) q60 = oa60
  have hq60 : oa60 (U.length + 21) = q60 := by rw [← hoa60]; exact up_at
  have hag : ∀ v, v < U.length → oa60 v = oa v := fun v hv => (show oa60 v = oa55 v by rw [← hoa60]; exact up_ne (by omega)).trans (hag v hv)
  rw [← hq60]
  have hz12 : oa60 u = oa55 u := (by rw [← hoa60]; exact up_ne (by have := c_lt hu0 (by decide); omega))
  rw [← hz12]
  have hz13 : oa60 (U.length + 20) = oa55 (U.length + 20) := (by rw [← hoa60]; exact up_ne (by omega))
  rw [← hz13]
  have hcn60 := c_clN (c := (3, 0)) (U := (((((((((U ++ [(8, 0)]) ++ [(9, 0), (902, 32768)]) ++ [(7, 0)]) ++ [(902, 3), (902, 3), (902, 3), (902, 3), (902, 3), (902, 3), (902, 12288), (902, 192), (902, 12288)]) ++ [(10, 0)]) ++ [(902, 3), (902, 3), (902, 3), (902, 192)]) ++ [(902, 256)]) ++ [(903, 4)]) ++ [(951, 4)])) (n := U.length + 21) (by first | rfl | (simp only [List.length_append, List.length_cons, List.length_nil]; omega))
  have hu := c_clA (V := [(3, 0)]) hu (by decide)
  have hcn5 := c_clA (V := [(3, 0)]) hcn5 (by decide)
  have hcn16 := c_clA (V := [(3, 0)]) hcn16 (by decide)
  have hcn27 := c_clA (V := [(3, 0)]) hcn27 (by decide)
  have hcn41 := c_clA (V := [(3, 0)]) hcn41 (by decide)
  have hcn48 := c_clA (V := [(3, 0)]) hcn48 (by decide)
  have hcn55 := c_clA (V := [(3, 0)]) hcn55 (by decide)
  refine a_dup C dc_Un_init_63 rfl ?_
  refine c_call (rest := [.ref (oa60 (U.length + 21)), .int 0, .ref (oa60 (U.length + 20)), .ref (oa60 (U.length + 20)), .ref (oa60 u)]) (av := .ref (oa60 (U.length + 21)) :: []) C dc_Un_init_64 (ct_Co_init (U.length + 21) (c_pr (c_pr (c_pr S31 u 2 (U.length + 13)) u 3 (U.length + 18)) u 4 (U.length + 19)) hcn60 hp) cd_C_Co_init i_Co (Nat.le_of_ble_eq_true rfl) (by rw [hR]; exact Nat.le_of_ble_eq_true rfl) (by rw [hR]; exact Nat.le_of_ble_eq_true rfl) (by rw [hR]; exact Nat.le_of_ble_eq_true rfl) (by rw [hR]; exact Nat.le_of_ble_eq_true rfl) (inv_IN C dc_Un_init_64 l_Un_42 rfl im_C_Co_init cd_C_Co_init ⟨by decide, by decide⟩ ln_C_Co_init rfl) (fun oc L1 hL => ?_)
  obtain ⟨oa64, S64, hp, hb64, rfl, rfl⟩ := hL
  refine ⟨_, rfl, ?_⟩
  have hag : ∀ v, v < U.length → oa64 v = oa v := fun v hv => (hb64 v (by simp only [List.length_append, List.length_cons, List.length_nil]; omega)).trans (hag v hv)
  refine aw_eq (lo' := [some (.ref (oa60 u))]) (st' := [.ref (oa60 (U.length + 21)), .int 0, .ref (oa60 (U.length + 20)), .ref (oa60 (U.length + 20)), .ref (oa60 u)]) (L' := (cw lt_C (((((((((((U ++ [(8, 0)]) ++ [(9, 0), (902, 32768)]) ++ [(7, 0)]) ++ [(902, 3), (902, 3), (902, 3), (902, 3), (902, 3), (902, 3), (902, 12288), (902, 192), (902, 12288)]) ++ [(10, 0)]) ++ [(902, 3), (902, 3), (902, 3), (902, 192)]) ++ [(902, 256)]) ++ [(903, 4)]) ++ [(951, 4)]) ++ [(3, 0)]) ++ [(902, 17), (902, 17), (902, 17), (902, 256)]) oa64 S64)) rfl rfl rfl ?_
  have hz14 : oa64 u = oa60 u := (hb64 u (by simp only [List.length_append, List.length_cons, List.length_nil]; have := c_lt hu0 (by decide); omega))
  rw [← hz14]
  have hz15 : oa64 (U.length + 20) = oa60 (U.length + 20) := (hb64 (U.length + 20) (by simp only [List.length_append, List.length_cons, List.length_nil]; omega))
  rw [← hz15]
  have hz16 : oa64 (U.length + 21) = oa60 (U.length + 21) := (hb64 (U.length + 21) (by simp only [List.length_append, List.length_cons, List.length_nil]; omega))
  rw [← hz16]
  have hu := c_clA (V := [(902, 17), (902, 17), (902, 17), (902, 256)]) hu (by decide)
  have hcn5 := c_clA (V := [(902, 17), (902, 17), (902, 17), (902, 256)]) hcn5 (by decide)
  have hcn16 := c_clA (V := [(902, 17), (902, 17), (902, 17), (902, 256)]) hcn16 (by decide)
  have hcn27 := c_clA (V := [(902, 17), (902, 17), (902, 17), (902, 256)]) hcn27 (by decide)
  have hcn41 := c_clA (V := [(902, 17), (902, 17), (902, 17), (902, 256)]) hcn41 (by decide)
  have hcn48 := c_clA (V := [(902, 17), (902, 17), (902, 17), (902, 256)]) hcn48 (by decide)
  have hcn55 := c_clA (V := [(902, 17), (902, 17), (902, 17), (902, 256)]) hcn55 (by decide)
  have hcn60 := c_clA (V := [(902, 17), (902, 17), (902, 17), (902, 256)]) hcn60 (by decide)
  refine c_aast (ci := 951) (ce := 3) C (U.length + 20) (U.length + 21) 1 dc_Un_init_67 hcn55 rfl (by decide) rfl hcn60 rfl rfl hp.1 hp.2.1 ?_
  have hp := hp.2.2
  refine a_dup C dc_Un_init_68 rfl ?_
  refine a_iconst (v := 1) C dc_Un_init_69 (by decide) ?_
  refine c_new (ci := 3) (n := U.length + 26) C y_Co g_ty_Co dc_Un_init_70 rfl rfl x_Un_40 nn_Co i_Co df_Co (by decide) (by first | rfl | (simp only [List.length_append, List.length_cons, List.length_nil]; omega)) hp.1 (by rw [hR]; exact Nat.le_of_ble_eq_true rfl) (by rw [hR]; exact Nat.le_of_ble_eq_true rfl) (fun q70 => ?_)
  have hp := hp.2
  generalize hoa70 : va_up oa64 (U.length + 26) q70 = oa70
  have hq70 : oa70 (U.length + 26) = q70 := by rw [← hoa70]; exact up_at
  have hag : ∀ v, v < U.length → oa70 v = oa v := fun v hv => (show oa70 v = oa64 v by rw [← hoa70]; exact up_ne (by omega)).trans (hag v hv)
  rw [← hq70]
  have hz17 : oa70 u = oa64 u := (by rw [← hoa70]; exact up_ne (by have := c_lt hu0 (by decide); omega))
  rw [← hz17]
  have hz18 : oa70 (U.length + 20) = oa64 (U.length + 20) := (by rw [← hoa70]; exact up_ne (by omega))
  rw [← hz18]
  have hcn70 := c_clN (c := (3, 0)) (U := (((((((((((U ++ [(8, 0)]) ++ [(9, 0), (902, 32768)]) ++ [(7, 0)]) ++ [(902, 3), (902, 3), (902, 3), (902, 3), (902, 3), (902, 3), (902, 12288), (902, 192), (902, 12288)]) ++ [(10, 0)]) ++ [(902, 3), (902, 3), (902, 3), (902, 192)]) ++ [(902, 256)]) ++ [(903, 4)]) ++ [(951, 4)]) ++ [(3, 0)]) ++ [(902, 17), (902, 17), (902, 17), (902, 256)])) (n := U.length + 26) (by first | rfl | (simp only [List.length_append, List.length_cons, List.length_nil]; omega))
  have hu := c_clA (V := [(3, 0)]) hu (by decide)
  have hcn5 := c_clA (V := [(3, 0)]) hcn5 (by decide)
  have hcn16 := c_clA (V := [(3, 0)]) hcn16 (by decide)
  have hcn27 := c_clA (V := [(3, 0)]) hcn27 (by decide)
  have hcn41 := c_clA (V := [(3, 0)]) hcn41 (by decide)
  have hcn48 := c_clA (V := [(3, 0)]) hcn48 (by decide)
  have hcn55 := c_clA (V := [(3, 0)]) hcn55 (by decide)
  have hcn60 := c_clA (V := [(3, 0)]) hcn60 (by decide)
  refine a_dup C dc_Un_init_73 rfl ?_
  refine c_call (rest := [.ref (oa70 (U.length + 26)), .int 1, .ref (oa70 (U.length + 20)), .ref (oa70 (U.length + 20)), .ref (oa70 u)]) (av := .ref (oa70 (U.length + 26)) :: []) C dc_Un_init_74 (ct_Co_init (U.length + 26) (c_pr S64 (U.length + 20) (0 : Int32).toNatClampNeg (U.length + 21)) hcn70 hp) cd_C_Co_init i_Co (Nat.le_of_ble_eq_true rfl) (by rw [hR]; exact Nat.le_of_ble_eq_true rfl) (by rw [hR]; exact Nat.le_of_ble_eq_true rfl) (by rw [hR]; exact Nat.le_of_ble_eq_true rfl) (by rw [hR]; exact Nat.le_of_ble_eq_true rfl) (inv_IN C dc_Un_init_74 l_Un_42 rfl im_C_Co_init cd_C_Co_init ⟨by decide, by decide⟩ ln_C_Co_init rfl) (fun oc L1 hL => ?_)
  obtain ⟨oa74, S74, hp, hb74, rfl, rfl⟩ := hL
  refine ⟨_, rfl, ?_⟩
  have hag : ∀ v, v < U.length → oa74 v = oa v := fun v hv => (hb74 v (by simp only [List.length_append, List.length_cons, List.length_nil]; omega)).trans (hag v hv)
  refine aw_eq (lo' := [some (.ref (oa70 u))]) (st' := [.ref (oa70 (U.length + 26)), .int 1, .ref (oa70 (U.length + 20)), .ref (oa70 (U.length + 20)), .ref (oa70 u)]) (L' := (cw lt_C (((((((((((((U ++ [(8, 0)]) ++ [(9, 0), (902, 32768)]) ++ [(7, 0)]) ++ [(902, 3), (902, 3), (902, 3), (902, 3), (902, 3), (902, 3), (902, 12288), (902, 192), (902, 12288)]) ++ [(10, 0)]) ++ [(902, 3), (902, 3), (902, 3), (902, 192)]) ++ [(902, 256)]) ++ [(903, 4)]) ++ [(951, 4)]) ++ [(3, 0)]) ++ [(902, 17), (902, 17), (902, 17), (902, 256)]) ++ [(3, 0)]) ++ [(902, 17), (902, 17), (902, 17), (902, 256)]) oa74 S74)) rfl rfl rfl ?_
  have hz19 : oa74 u = oa70 u := (hb74 u (by simp only [List.length_append, List.length_cons, List.length_nil]; have := c_lt hu0 (by decide); omega))
  rw [← hz19]
  have hz20 : oa74 (U.length + 20) = oa70 (U.length + 20) := (hb74 (U.length + 20) (by simp only [List.length_append, List.length_cons, List.length_nil]; omega))
  rw [← hz20]
  have hz21 : oa74 (U.length + 26) = oa70 (U.length + 26) := (hb74 (U.length + 26) (by simp only [List.length_append, List.length_cons, List.length_nil]; omega))
  rw [← hz21]
  have hu := c_clA (V := [(902, 17), (902, 17), (902, 17), (902, 256)]) hu (by decide)
  have hcn5 := c_clA (V := [(902, 17), (902, 17), (902, 17), (902, 256)]) hcn5 (by decide)
  have hcn16 := c_clA (V := [(902, 17), (902, 17), (902, 17), (902, 256)]) hcn16 (by decide)
  have hcn27 := c_clA (V := [(902, 17), (902, 17), (902, 17), (902, 256)]) hcn27 (by decide)
  have hcn41 := c_clA (V := [(902, 17), (902, 17), (902, 17), (902, 256)]) hcn41 (by decide)
  have hcn48 := c_clA (V := [(902, 17), (902, 17), (902, 17), (902, 256)]) hcn48 (by decide)
  have hcn55 := c_clA (V := [(902, 17), (902, 17), (902, 17), (902, 256)]) hcn55 (by decide)
  have hcn60 := c_clA (V := [(902, 17), (902, 17), (902, 17), (902, 256)]) hcn60 (by decide)
  have hcn70 := c_clA (V := [(902, 17), (902, 17), (902, 17), (902, 256)]) hcn70 (by decide)
  refine c_aast (ci := 951) (ce := 3) C (U.length + 20) (U.length + 26) 1 dc_Un_init_77 hcn55 rfl (by decide) rfl hcn70 rfl rfl hp.1 hp.2.1 ?_
  have hp := hp.2.2
  refine a_dup C dc_Un_init_78 rfl ?_
  refine a_iconst (v := 2) C dc_Un_init_79 (by decide) ?_
  refine c_new (ci := 3) (n := U.length + 31) C y_Co g_ty_Co dc_Un_init_80 rfl rfl x_Un_40 nn_Co i_Co df_Co (by decide) (by first | rfl | (simp only [List.length_append, List.length_cons, List.length_nil]; omega)) hp.1 (by rw [hR]; exact Nat.le_of_ble_eq_true rfl) (by rw [hR]; exact Nat.le_of_ble_eq_true rfl) (fun q80 => ?_)
  have hp := hp.2
  generalize hoa80 : va_up oa74 (U.length + 31) q80 = oa80
  have hq80 : oa80 (U.length + 31) = q80 := by rw [← hoa80]; exact up_at
  have hag : ∀ v, v < U.length → oa80 v = oa v := fun v hv => (show oa80 v = oa74 v by rw [← hoa80]; exact up_ne (by omega)).trans (hag v hv)
  rw [← hq80]
  have hz22 : oa80 u = oa74 u := (by rw [← hoa80]; exact up_ne (by have := c_lt hu0 (by decide); omega))
  rw [← hz22]
  have hz23 : oa80 (U.length + 20) = oa74 (U.length + 20) := (by rw [← hoa80]; exact up_ne (by omega))
  rw [← hz23]
  have hcn80 := c_clN (c := (3, 0)) (U := (((((((((((((U ++ [(8, 0)]) ++ [(9, 0), (902, 32768)]) ++ [(7, 0)]) ++ [(902, 3), (902, 3), (902, 3), (902, 3), (902, 3), (902, 3), (902, 12288), (902, 192), (902, 12288)]) ++ [(10, 0)]) ++ [(902, 3), (902, 3), (902, 3), (902, 192)]) ++ [(902, 256)]) ++ [(903, 4)]) ++ [(951, 4)]) ++ [(3, 0)]) ++ [(902, 17), (902, 17), (902, 17), (902, 256)]) ++ [(3, 0)]) ++ [(902, 17), (902, 17), (902, 17), (902, 256)])) (n := U.length + 31) (by first | rfl | (simp only [List.length_append, List.length_cons, List.length_nil]; omega))
  have hu := c_clA (V := [(3, 0)]) hu (by decide)
  have hcn5 := c_clA (V := [(3, 0)]) hcn5 (by decide)
  have hcn16 := c_clA (V := [(3, 0)]) hcn16 (by decide)
  have hcn27 := c_clA (V := [(3, 0)]) hcn27 (by decide)
  have hcn41 := c_clA (V := [(3, 0)]) hcn41 (by decide)
  have hcn48 := c_clA (V := [(3, 0)]) hcn48 (by decide)
  have hcn55 := c_clA (V := [(3, 0)]) hcn55 (by decide)
  have hcn60 := c_clA (V := [(3, 0)]) hcn60 (by decide)
  have hcn70 := c_clA (V := [(3, 0)]) hcn70 (by decide)
  refine a_dup C dc_Un_init_83 rfl ?_
  refine c_call (rest := [.ref (oa80 (U.length + 31)), .int 2, .ref (oa80 (U.length + 20)), .ref (oa80 (U.length + 20)), .ref (oa80 u)]) (av := .ref (oa80 (U.length + 31)) :: []) C dc_Un_init_84 (ct_Co_init (U.length + 31) (c_pr S74 (U.length + 20) (1 : Int32).toNatClampNeg (U.length + 26)) hcn80 hp) cd_C_Co_init i_Co (Nat.le_of_ble_eq_true rfl) (by rw [hR]; exact Nat.le_of_ble_eq_true rfl) (by rw [hR]; exact Nat.le_of_ble_eq_true rfl) (by rw [hR]; exact Nat.le_of_ble_eq_true rfl) (by rw [hR]; exact Nat.le_of_ble_eq_true rfl) (inv_IN C dc_Un_init_84 l_Un_42 rfl im_C_Co_init cd_C_Co_init ⟨by decide, by decide⟩ ln_C_Co_init rfl) (fun oc L1 hL => ?_)
  obtain ⟨oa84, S84, hp, hb84, rfl, rfl⟩ := hL
  refine ⟨_, rfl, ?_⟩
  have hag : ∀ v, v < U.length → oa84 v = oa v := fun v hv => (hb84 v (by simp only [List.length_append, List.length_cons, List.length_nil]; omega)).trans (hag v hv)
  refine aw_eq (lo' := [some (.ref (oa80 u))]) (st' := [.ref (oa80 (U.length + 31)), .int 2, .ref (oa80 (U.length + 20)), .ref (oa80 (U.length + 20)), .ref (oa80 u)]) (L' := (cw lt_C (((((((((((((((U ++ [(8, 0)]) ++ [(9, 0), (902, 32768)]) ++ [(7, 0)]) ++ [(902, 3), (902, 3), (902, 3), (902, 3), (902, 3), (902, 3), (902, 12288), (902, 192), (902, 12288)]) ++ [(10, 0)]) ++ [(902, 3), (902, 3), (902, 3), (902, 192)]) ++ [(902, 256)]) ++ [(903, 4)]) ++ [(951, 4)]) ++ [(3, 0)]) ++ [(902, 17), (902, 17), (902, 17), (902, 256)]) ++ [(3, 0)]) ++ [(902, 17), (902, 17), (902, 17), (902, 256)]) ++ [(3, 0)]) ++ [(902, 17), (902, 17), (902, 17), (902, 256)]) oa84 S84)) rfl rfl rfl ?_
  have hz24 : oa84 u = oa80 u := (hb84 u (by simp only [List.length_append, List.length_cons, List.length_nil]; have := c_lt hu0 (by decide); omega))
  rw [← hz24]
  have hz25 : oa84 (U.length + 20) = oa80 (U.length + 20) := (hb84 (U.length + 20) (by simp only [List.length_append, List.length_cons, List.length_nil]; omega))
  rw [← hz25]
  have hz26 : oa84 (U.length + 31) = oa80 (U.length + 31) := (hb84 (U.length + 31) (by simp only [List.length_append, List.length_cons, List.length_nil]; omega))
  rw [← hz26]
  have hu := c_clA (V := [(902, 17), (902, 17), (902, 17), (902, 256)]) hu (by decide)
  have hcn5 := c_clA (V := [(902, 17), (902, 17), (902, 17), (902, 256)]) hcn5 (by decide)
  have hcn16 := c_clA (V := [(902, 17), (902, 17), (902, 17), (902, 256)]) hcn16 (by decide)
  have hcn27 := c_clA (V := [(902, 17), (902, 17), (902, 17), (902, 256)]) hcn27 (by decide)
  have hcn41 := c_clA (V := [(902, 17), (902, 17), (902, 17), (902, 256)]) hcn41 (by decide)
  have hcn48 := c_clA (V := [(902, 17), (902, 17), (902, 17), (902, 256)]) hcn48 (by decide)
  have hcn55 := c_clA (V := [(902, 17), (902, 17), (902, 17), (902, 256)]) hcn55 (by decide)
  have hcn60 := c_clA (V := [(902, 17), (902, 17), (902, 17), (902, 256)]) hcn60 (by decide)
  have hcn70 := c_clA (V := [(902, 17), (902, 17), (902, 17), (902, 256)]) hcn70 (by decide)
  have hcn80 := c_clA (V := [(902, 17), (902, 17), (902, 17), (902, 256)]) hcn80 (by decide)
  refine c_aast (ci := 951) (ce := 3) C (U.length + 20) (U.length + 31) 1 dc_Un_init_87 hcn55 rfl (by decide) rfl hcn80 rfl rfl hp.1 hp.2.1 ?_
  have hp := hp.2.2
  refine a_dup C dc_Un_init_88 rfl ?_
  refine a_iconst (v := 3) C dc_Un_init_89 (by decide) ?_
  refine c_new (ci := 3) (n := U.length + 36) C y_Co g_ty_Co dc_Un_init_90 rfl rfl x_Un_40 nn_Co i_Co df_Co (by decide) (by first | rfl | (simp only [List.length_append, List.length_cons, List.length_nil]; omega)) hp.1 (by rw [hR]; exact Nat.le_of_ble_eq_true rfl) (by rw [hR]; exact Nat.le_of_ble_eq_true rfl) (fun q90 => ?_)
  have hp := hp.2
  generalize hoa90 : va_up oa84 (U.length + 36) q90 = oa90
  have hq90 : oa90 (U.length + 36) = q90 := by rw [← hoa90]; exact up_at
  have hag : ∀ v, v < U.length → oa90 v = oa v := fun v hv => (show oa90 v = oa84 v by rw [← hoa90]; exact up_ne (by omega)).trans (hag v hv)
  rw [← hq90]
  have hz27 : oa90 u = oa84 u := (by rw [← hoa90]; exact up_ne (by have := c_lt hu0 (by decide); omega))
  rw [← hz27]
  have hz28 : oa90 (U.length + 20) = oa84 (U.length + 20) := (by rw [← hoa90]; exact up_ne (by omega))
  rw [← hz28]
  have hcn90 := c_clN (c := (3, 0)) (U := (((((((((((((((U ++ [(8, 0)]) ++ [(9, 0), (902, 32768)]) ++ [(7, 0)]) ++ [(902, 3), (902, 3), (902, 3), (902, 3), (902, 3), (902, 3), (902, 12288), (902, 192), (902, 12288)]) ++ [(10, 0)]) ++ [(902, 3), (902, 3), (902, 3), (902, 192)]) ++ [(902, 256)]) ++ [(903, 4)]) ++ [(951, 4)]) ++ [(3, 0)]) ++ [(902, 17), (902, 17), (902, 17), (902, 256)]) ++ [(3, 0)]) ++ [(902, 17), (902, 17), (902, 17), (902, 256)]) ++ [(3, 0)]) ++ [(902, 17), (902, 17), (902, 17), (902, 256)])) (n := U.length + 36) (by first | rfl | (simp only [List.length_append, List.length_cons, List.length_nil]; omega))
  have hu := c_clA (V := [(3, 0)]) hu (by decide)
  have hcn5 := c_clA (V := [(3, 0)]) hcn5 (by decide)
  have hcn16 := c_clA (V := [(3, 0)]) hcn16 (by decide)
  have hcn27 := c_clA (V := [(3, 0)]) hcn27 (by decide)
  have hcn41 := c_clA (V := [(3, 0)]) hcn41 (by decide)
  have hcn48 := c_clA (V := [(3, 0)]) hcn48 (by decide)
  have hcn55 := c_clA (V := [(3, 0)]) hcn55 (by decide)
  have hcn60 := c_clA (V := [(3, 0)]) hcn60 (by decide)
  have hcn70 := c_clA (V := [(3, 0)]) hcn70 (by decide)
  have hcn80 := c_clA (V := [(3, 0)]) hcn80 (by decide)
  refine a_dup C dc_Un_init_93 rfl ?_
  refine c_call (rest := [.ref (oa90 (U.length + 36)), .int 3, .ref (oa90 (U.length + 20)), .ref (oa90 (U.length + 20)), .ref (oa90 u)]) (av := .ref (oa90 (U.length + 36)) :: []) C dc_Un_init_94 (ct_Co_init (U.length + 36) (c_pr S84 (U.length + 20) (2 : Int32).toNatClampNeg (U.length + 31)) hcn90 hp) cd_C_Co_init i_Co (Nat.le_of_ble_eq_true rfl) (by rw [hR]; exact Nat.le_of_ble_eq_true rfl) (by rw [hR]; exact Nat.le_of_ble_eq_true rfl) (by rw [hR]; exact Nat.le_of_ble_eq_true rfl) (by rw [hR]; exact Nat.le_of_ble_eq_true rfl) (inv_IN C dc_Un_init_94 l_Un_42 rfl im_C_Co_init cd_C_Co_init ⟨by decide, by decide⟩ ln_C_Co_init rfl) (fun oc L1 hL => ?_)
  obtain ⟨oa94, S94, hp, hb94, rfl, rfl⟩ := hL
  refine ⟨_, rfl, ?_⟩
  have hag : ∀ v, v < U.length → oa94 v = oa v := fun v hv => (hb94 v (by simp only [List.length_append, List.length_cons, List.length_nil]; omega)).trans (hag v hv)
  refine aw_eq (lo' := [some (.ref (oa90 u))]) (st' := [.ref (oa90 (U.length + 36)), .int 3, .ref (oa90 (U.length + 20)), .ref (oa90 (U.length + 20)), .ref (oa90 u)]) (L' := (cw lt_C (((((((((((((((((U ++ [(8, 0)]) ++ [(9, 0), (902, 32768)]) ++ [(7, 0)]) ++ [(902, 3), (902, 3), (902, 3), (902, 3), (902, 3), (902, 3), (902, 12288), (902, 192), (902, 12288)]) ++ [(10, 0)]) ++ [(902, 3), (902, 3), (902, 3), (902, 192)]) ++ [(902, 256)]) ++ [(903, 4)]) ++ [(951, 4)]) ++ [(3, 0)]) ++ [(902, 17), (902, 17), (902, 17), (902, 256)]) ++ [(3, 0)]) ++ [(902, 17), (902, 17), (902, 17), (902, 256)]) ++ [(3, 0)]) ++ [(902, 17), (902, 17), (902, 17), (902, 256)]) ++ [(3, 0)]) ++ [(902, 17), (902, 17), (902, 17), (902, 256)]) oa94 S94)) rfl rfl rfl ?_
  have hz29 : oa94 u = oa90 u := (hb94 u (by simp only [List.length_append, List.length_cons, List.length_nil]; have := c_lt hu0 (by decide); omega))
  rw [← hz29]
  have hz30 : oa94 (U.length + 20) = oa90 (U.length + 20) := (hb94 (U.length + 20) (by simp only [List.length_append, List.length_cons, List.length_nil]; omega))
  rw [← hz30]
  have hz31 : oa94 (U.length + 36) = oa90 (U.length + 36) := (hb94 (U.length + 36) (by simp only [List.length_append, List.length_cons, List.length_nil]; omega))
  rw [← hz31]
  have hu := c_clA (V := [(902, 17), (902, 17), (902, 17), (902, 256)]) hu (by decide)
  have hcn5 := c_clA (V := [(902, 17), (902, 17), (902, 17), (902, 256)]) hcn5 (by decide)
  have hcn16 := c_clA (V := [(902, 17), (902, 17), (902, 17), (902, 256)]) hcn16 (by decide)
  have hcn27 := c_clA (V := [(902, 17), (902, 17), (902, 17), (902, 256)]) hcn27 (by decide)
  have hcn41 := c_clA (V := [(902, 17), (902, 17), (902, 17), (902, 256)]) hcn41 (by decide)
  have hcn48 := c_clA (V := [(902, 17), (902, 17), (902, 17), (902, 256)]) hcn48 (by decide)
  have hcn55 := c_clA (V := [(902, 17), (902, 17), (902, 17), (902, 256)]) hcn55 (by decide)
  have hcn60 := c_clA (V := [(902, 17), (902, 17), (902, 17), (902, 256)]) hcn60 (by decide)
  have hcn70 := c_clA (V := [(902, 17), (902, 17), (902, 17), (902, 256)]) hcn70 (by decide)
  have hcn80 := c_clA (V := [(902, 17), (902, 17), (902, 17), (902, 256)]) hcn80 (by decide)
  have hcn90 := c_clA (V := [(902, 17), (902, 17), (902, 17), (902, 256)]) hcn90 (by decide)
  refine c_aast (ci := 951) (ce := 3) C (U.length + 20) (U.length + 36) 1 dc_Un_init_97 hcn55 rfl (by decide) rfl hcn90 rfl rfl hp.1 hp.2.1 ?_
  have hp := hp.2.2
  refine c_putRF (ty := .array (.object "BlockPicture$Codes")) C u 5 hin dc_Un_init_98 hu rfl rfl (Nat.le_of_ble_eq_true rfl) f_Un_43 rfl rfl rfl (fun _ => rfl) (fun _ => rfl) rfl rfl hp.1 ?_
  have hp := hp.2
  refine a_aload_n C dc_Un_init_101 rfl rfl ?_
  refine a_iconst (v := 3) C dc_Un_init_102 (by decide) ?_
  refine c_newa (ty := .int) (N := 3) (n := U.length + 41) C 2 dc_Un_init_103 ac_int rfl (C.kn.2 0 _ rfl).2 (fun _ => rfl) (by decide) (by decide) (by decide) (by decide) (by first | rfl | (simp only [List.length_append, List.length_cons, List.length_nil]; omega)) hp.1 (by rw [hR]; exact Nat.le_of_ble_eq_true rfl) (by rw [hR]; exact Nat.le_of_ble_eq_true rfl) (fun q103 => ?_)
  have hp := hp.2
  generalize hoa103 : va_up oa94 (U.length + 41) q103 = oa103
  have hq103 : oa103 (U.length + 41) = q103 := by rw [← hoa103]; exact up_at
  have hag : ∀ v, v < U.length → oa103 v = oa v := fun v hv => (show oa103 v = oa94 v by rw [← hoa103]; exact up_ne (by omega)).trans (hag v hv)
  rw [← hq103]
  have hz32 : oa103 u = oa94 u := (by rw [← hoa103]; exact up_ne (by have := c_lt hu0 (by decide); omega))
  rw [← hz32]
  have hcn103 := c_clN (c := (902, 3)) (U := (((((((((((((((((U ++ [(8, 0)]) ++ [(9, 0), (902, 32768)]) ++ [(7, 0)]) ++ [(902, 3), (902, 3), (902, 3), (902, 3), (902, 3), (902, 3), (902, 12288), (902, 192), (902, 12288)]) ++ [(10, 0)]) ++ [(902, 3), (902, 3), (902, 3), (902, 192)]) ++ [(902, 256)]) ++ [(903, 4)]) ++ [(951, 4)]) ++ [(3, 0)]) ++ [(902, 17), (902, 17), (902, 17), (902, 256)]) ++ [(3, 0)]) ++ [(902, 17), (902, 17), (902, 17), (902, 256)]) ++ [(3, 0)]) ++ [(902, 17), (902, 17), (902, 17), (902, 256)]) ++ [(3, 0)]) ++ [(902, 17), (902, 17), (902, 17), (902, 256)])) (n := U.length + 41) (by first | rfl | (simp only [List.length_append, List.length_cons, List.length_nil]; omega))
  have hu := c_clA (V := [(902, 3)]) hu (by decide)
  have hcn5 := c_clA (V := [(902, 3)]) hcn5 (by decide)
  have hcn16 := c_clA (V := [(902, 3)]) hcn16 (by decide)
  have hcn27 := c_clA (V := [(902, 3)]) hcn27 (by decide)
  have hcn41 := c_clA (V := [(902, 3)]) hcn41 (by decide)
  have hcn48 := c_clA (V := [(902, 3)]) hcn48 (by decide)
  have hcn55 := c_clA (V := [(902, 3)]) hcn55 (by decide)
  have hcn60 := c_clA (V := [(902, 3)]) hcn60 (by decide)
  have hcn70 := c_clA (V := [(902, 3)]) hcn70 (by decide)
  have hcn80 := c_clA (V := [(902, 3)]) hcn80 (by decide)
  have hcn90 := c_clA (V := [(902, 3)]) hcn90 (by decide)
  refine c_putRF (ty := .array .int) C u 7 hin dc_Un_init_105 hu rfl rfl (Nat.le_of_ble_eq_true rfl) f_Un_47 rfl rfl rfl (fun _ => rfl) (fun _ => rfl) rfl rfl hp.1 ?_
  have hp := hp.2
  refine a_aload_n C dc_Un_init_108 rfl rfl ?_
  refine a_iconst (v := 3) C dc_Un_init_109 (by decide) ?_
  refine c_newa (ty := .int) (N := 3) (n := U.length + 42) C 2 dc_Un_init_110 ac_int rfl (C.kn.2 0 _ rfl).2 (fun _ => rfl) (by decide) (by decide) (by decide) (by decide) (by first | rfl | (simp only [List.length_append, List.length_cons, List.length_nil]; omega)) hp.1 (by rw [hR]; exact Nat.le_of_ble_eq_true rfl) (by rw [hR]; exact Nat.le_of_ble_eq_true rfl) (fun q110 => ?_)
  have hp := hp.2
  generalize hoa110 : va_up oa103 (U.length + 42) q110 = oa110
  have hq110 : oa110 (U.length + 42) = q110 := by rw [← hoa110]; exact up_at
  have hag : ∀ v, v < U.length → oa110 v = oa v := fun v hv => (show oa110 v = oa103 v by rw [← hoa110]; exact up_ne (by omega)).trans (hag v hv)
  rw [← hq110]
  have hz33 : oa110 u = oa103 u := (by rw [← hoa110]; exact up_ne (by have := c_lt hu0 (by decide); omega))
  rw [← hz33]
  have hcn110 := c_clN (c := (902, 3)) (U := ((((((((((((((((((U ++ [(8, 0)]) ++ [(9, 0), (902, 32768)]) ++ [(7, 0)]) ++ [(902, 3), (902, 3), (902, 3), (902, 3), (902, 3), (902, 3), (902, 12288), (902, 192), (902, 12288)]) ++ [(10, 0)]) ++ [(902, 3), (902, 3), (902, 3), (902, 192)]) ++ [(902, 256)]) ++ [(903, 4)]) ++ [(951, 4)]) ++ [(3, 0)]) ++ [(902, 17), (902, 17), (902, 17), (902, 256)]) ++ [(3, 0)]) ++ [(902, 17), (902, 17), (902, 17), (902, 256)]) ++ [(3, 0)]) ++ [(902, 17), (902, 17), (902, 17), (902, 256)]) ++ [(3, 0)]) ++ [(902, 17), (902, 17), (902, 17), (902, 256)]) ++ [(902, 3)])) (n := U.length + 42) (by first | rfl | (simp only [List.length_append, List.length_cons, List.length_nil]; omega))
  have hu := c_clA (V := [(902, 3)]) hu (by decide)
  have hcn5 := c_clA (V := [(902, 3)]) hcn5 (by decide)
  have hcn16 := c_clA (V := [(902, 3)]) hcn16 (by decide)
  have hcn27 := c_clA (V := [(902, 3)]) hcn27 (by decide)
  have hcn41 := c_clA (V := [(902, 3)]) hcn41 (by decide)
  have hcn48 := c_clA (V := [(902, 3)]) hcn48 (by decide)
  have hcn55 := c_clA (V := [(902, 3)]) hcn55 (by decide)
  have hcn60 := c_clA (V := [(902, 3)]) hcn60 (by decide)
  have hcn70 := c_clA (V := [(902, 3)]) hcn70 (by decide)
  have hcn80 := c_clA (V := [(902, 3)]) hcn80 (by decide)
  have hcn90 := c_clA (V := [(902, 3)]) hcn90 (by decide)
  have hcn103 := c_clA (V := [(902, 3)]) hcn103 (by decide)
  refine c_putRF (ty := .array .int) C u 8 hin dc_Un_init_112 hu rfl rfl (Nat.le_of_ble_eq_true rfl) f_Un_50 rfl rfl rfl (fun _ => rfl) (fun _ => rfl) rfl rfl hp.1 ?_
  have hp := hp.2
  refine a_aload_n C dc_Un_init_115 rfl rfl ?_
  refine a_iconst (v := 3) C dc_Un_init_116 (by decide) ?_
  refine c_newa (ty := .boolean) (N := 3) (n := U.length + 43) C 3 dc_Un_init_117 ac_boolean rfl (C.kn.2 1 _ rfl).2 (fun _ => rfl) (by decide) (by decide) (by decide) (by decide) (by first | rfl | (simp only [List.length_append, List.length_cons, List.length_nil]; omega)) hp.1 (by rw [hR]; exact Nat.le_of_ble_eq_true rfl) (by rw [hR]; exact Nat.le_of_ble_eq_true rfl) (fun q117 => ?_)
  have hp := hp.2
  generalize hoa117 : va_up oa110 (U.length + 43) q117 = oa117
  have hq117 : oa117 (U.length + 43) = q117 := by rw [← hoa117]; exact up_at
  have hag : ∀ v, v < U.length → oa117 v = oa v := fun v hv => (show oa117 v = oa110 v by rw [← hoa117]; exact up_ne (by omega)).trans (hag v hv)
  rw [← hq117]
  have hz34 : oa117 u = oa110 u := (by rw [← hoa117]; exact up_ne (by have := c_lt hu0 (by decide); omega))
  rw [← hz34]
  have hcn117 := c_clN (c := (903, 3)) (U := (((((((((((((((((((U ++ [(8, 0)]) ++ [(9, 0), (902, 32768)]) ++ [(7, 0)]) ++ [(902, 3), (902, 3), (902, 3), (902, 3), (902, 3), (902, 3), (902, 12288), (902, 192), (902, 12288)]) ++ [(10, 0)]) ++ [(902, 3), (902, 3), (902, 3), (902, 192)]) ++ [(902, 256)]) ++ [(903, 4)]) ++ [(951, 4)]) ++ [(3, 0)]) ++ [(902, 17), (902, 17), (902, 17), (902, 256)]) ++ [(3, 0)]) ++ [(902, 17), (902, 17), (902, 17), (902, 256)]) ++ [(3, 0)]) ++ [(902, 17), (902, 17), (902, 17), (902, 256)]) ++ [(3, 0)]) ++ [(902, 17), (902, 17), (902, 17), (902, 256)]) ++ [(902, 3)]) ++ [(902, 3)])) (n := U.length + 43) (by first | rfl | (simp only [List.length_append, List.length_cons, List.length_nil]; omega))
  have hu := c_clA (V := [(903, 3)]) hu (by decide)
  have hcn5 := c_clA (V := [(903, 3)]) hcn5 (by decide)
  have hcn16 := c_clA (V := [(903, 3)]) hcn16 (by decide)
  have hcn27 := c_clA (V := [(903, 3)]) hcn27 (by decide)
  have hcn41 := c_clA (V := [(903, 3)]) hcn41 (by decide)
  have hcn48 := c_clA (V := [(903, 3)]) hcn48 (by decide)
  have hcn55 := c_clA (V := [(903, 3)]) hcn55 (by decide)
  have hcn60 := c_clA (V := [(903, 3)]) hcn60 (by decide)
  have hcn70 := c_clA (V := [(903, 3)]) hcn70 (by decide)
  have hcn80 := c_clA (V := [(903, 3)]) hcn80 (by decide)
  have hcn90 := c_clA (V := [(903, 3)]) hcn90 (by decide)
  have hcn103 := c_clA (V := [(903, 3)]) hcn103 (by decide)
  have hcn110 := c_clA (V := [(903, 3)]) hcn110 (by decide)
  refine c_putRF (ty := .array .boolean) C u 9 hin dc_Un_init_119 hu rfl rfl (Nat.le_of_ble_eq_true rfl) f_Un_53 rfl rfl rfl (fun _ => rfl) (fun _ => rfl) rfl rfl hp.1 ?_
  have hp := hp.2
  refine a_aload_n C dc_Un_init_122 rfl rfl ?_
  refine a_iconst (v := 3) C dc_Un_init_123 (by decide) ?_
  refine c_newa (ty := .int) (N := 3) (n := U.length + 44) C 2 dc_Un_init_124 ac_int rfl (C.kn.2 0 _ rfl).2 (fun _ => rfl) (by decide) (by decide) (by decide) (by decide) (by first | rfl | (simp only [List.length_append, List.length_cons, List.length_nil]; omega)) hp.1 (by rw [hR]; exact Nat.le_of_ble_eq_true rfl) (by rw [hR]; exact Nat.le_of_ble_eq_true rfl) (fun q124 => ?_)
  have hp := hp.2
  generalize hoa124 : va_up oa117 (U.length + 44) q124 = oa124
  have hq124 : oa124 (U.length + 44) = q124 := by rw [← hoa124]; exact up_at
  have hag : ∀ v, v < U.length → oa124 v = oa v := fun v hv => (show oa124 v = oa117 v by rw [← hoa124]; exact up_ne (by omega)).trans (hag v hv)
  rw [← hq124]
  have hz35 : oa124 u = oa117 u := (by rw [← hoa124]; exact up_ne (by have := c_lt hu0 (by decide); omega))
  rw [← hz35]
  have hcn124 := c_clN (c := (902, 3)) (U := ((((((((((((((((((((U ++ [(8, 0)]) ++ [(9, 0), (902, 32768)]) ++ [(7, 0)]) ++ [(902, 3), (902, 3), (902, 3), (902, 3), (902, 3), (902, 3), (902, 12288), (902, 192), (902, 12288)]) ++ [(10, 0)]) ++ [(902, 3), (902, 3), (902, 3), (902, 192)]) ++ [(902, 256)]) ++ [(903, 4)]) ++ [(951, 4)]) ++ [(3, 0)]) ++ [(902, 17), (902, 17), (902, 17), (902, 256)]) ++ [(3, 0)]) ++ [(902, 17), (902, 17), (902, 17), (902, 256)]) ++ [(3, 0)]) ++ [(902, 17), (902, 17), (902, 17), (902, 256)]) ++ [(3, 0)]) ++ [(902, 17), (902, 17), (902, 17), (902, 256)]) ++ [(902, 3)]) ++ [(902, 3)]) ++ [(903, 3)])) (n := U.length + 44) (by first | rfl | (simp only [List.length_append, List.length_cons, List.length_nil]; omega))
  have hu := c_clA (V := [(902, 3)]) hu (by decide)
  have hcn5 := c_clA (V := [(902, 3)]) hcn5 (by decide)
  have hcn16 := c_clA (V := [(902, 3)]) hcn16 (by decide)
  have hcn27 := c_clA (V := [(902, 3)]) hcn27 (by decide)
  have hcn41 := c_clA (V := [(902, 3)]) hcn41 (by decide)
  have hcn48 := c_clA (V := [(902, 3)]) hcn48 (by decide)
  have hcn55 := c_clA (V := [(902, 3)]) hcn55 (by decide)
  have hcn60 := c_clA (V := [(902, 3)]) hcn60 (by decide)
  have hcn70 := c_clA (V := [(902, 3)]) hcn70 (by decide)
  have hcn80 := c_clA (V := [(902, 3)]) hcn80 (by decide)
  have hcn90 := c_clA (V := [(902, 3)]) hcn90 (by decide)
  have hcn103 := c_clA (V := [(902, 3)]) hcn103 (by decide)
  have hcn110 := c_clA (V := [(902, 3)]) hcn110 (by decide)
  have hcn117 := c_clA (V := [(902, 3)]) hcn117 (by decide)
  refine c_putRF (ty := .array .int) C u 10 hin dc_Un_init_126 hu rfl rfl (Nat.le_of_ble_eq_true rfl) f_Un_56 rfl rfl rfl (fun _ => rfl) (fun _ => rfl) rfl rfl hp.1 ?_
  have hp := hp.2
  refine aw_widen (nc' := 45) (ns' := 59319) (Nat.le_of_ble_eq_true rfl) (Nat.le_of_ble_eq_true rfl) ?_
  refine aw_eq (lo' := _) (st' := _) (L' := (cw lt_C (U ++ ext_Un_init) oa124 (c_pr (c_pr (c_pr (c_pr (c_pr (c_pr S94 (U.length + 20) (3 : Int32).toNatClampNeg (U.length + 36)) u 5 (U.length + 20)) u 7 (U.length + 41)) u 8 (U.length + 42)) u 9 (U.length + 43)) u 10 (U.length + 44)))) rfl rfl (by simp only [ext_Un_init, List.append_assoc, List.cons_append, List.nil_append, List.append_nil]) ?_
  exact a_vret C hQ hA dc_Un_init_129 rfl ⟨oa124, (c_pr (c_pr (c_pr (c_pr (c_pr (c_pr S94 (U.length + 20) (3 : Int32).toNatClampNeg (U.length + 36)) u 5 (U.length + 20)) u 7 (U.length + 41)) u 8 (U.length + 42)) u 9 (U.length + 43)) u 10 (U.length + 44)), hp, hag, rfl, rfl⟩
end I_Un_init
def ext_B_init : ut := [(2, 0), (902, 12288), (902, 128), (6, 0), (9, 0), (902, 65536), (12, 0), (902, 64), (902, 64), (902, 64), (904, 64), (7, 0), (902, 3), (902, 3), (902, 3), (902, 3), (902, 3), (902, 3), (902, 12288), (902, 192), (902, 12288), (10, 0), (902, 3), (902, 3), (902, 3), (902, 192), (4, 0), (902, 257), (903, 8224), (902, 514), (902, 514), (950, 2), (5, 0), (902, 257), (902, 257), (902, 256), (902, 256), (902, 17), (5, 0), (902, 257), (902, 257), (902, 256), (902, 256), (902, 17), (950, 2), (5, 0), (902, 257), (902, 257), (902, 256), (902, 256), (902, 17), (5, 0), (902, 257), (902, 257), (902, 256), (902, 256), (902, 17), (902, 3), (11, 0), (8, 0), (9, 0), (902, 32768), (7, 0), (902, 3), (902, 3), (902, 3), (902, 3), (902, 3), (902, 3), (902, 12288), (902, 192), (902, 12288), (10, 0), (902, 3), (902, 3), (902, 3), (902, 192), (902, 256), (903, 4), (951, 4), (3, 0), (902, 17), (902, 17), (902, 17), (902, 256), (3, 0), (902, 17), (902, 17), (902, 17), (902, 256), (3, 0), (902, 17), (902, 17), (902, 17), (902, 256), (3, 0), (902, 17), (902, 17), (902, 17), (902, 256), (902, 3), (902, 3), (903, 3), (902, 3), (7, 0), (902, 3), (902, 3), (902, 3), (902, 3), (902, 3), (902, 3), (902, 12288), (902, 192), (902, 12288)]
def p_B_init (U : ut) (u : Nat) (S : cs) (K : cs → Prop) : Prop :=
  fresh S U.length ∧ (p_Ca_init (U ++ [(2, 0)]) U.length S (fun S9 => ¬ U.length = NU ∧ (fresh (c_pr S9 u 0 U.length) (U.length + 2) ∧ (¬ (U.length + 2) = NU ∧ (fresh (c_pr (c_pr S9 u 0 U.length) u 1 (U.length + 2)) (U.length + 3) ∧ (p_Pa_init ((((U ++ [(2, 0)]) ++ [(902, 12288)]) ++ [(902, 128)]) ++ [(6, 0)]) (U.length + 3) (c_pr (c_pr S9 u 0 U.length) u 1 (U.length + 2)) (fun S29 => ¬ (U.length + 3) = NU ∧ (fresh (c_pr S29 u 2 (U.length + 3)) (U.length + 58) ∧ (p_Un_init ((((((U ++ [(2, 0)]) ++ [(902, 12288)]) ++ [(902, 128)]) ++ [(6, 0)]) ++ [(9, 0), (902, 65536), (12, 0), (902, 64), (902, 64), (902, 64), (904, 64), (7, 0), (902, 3), (902, 3), (902, 3), (902, 3), (902, 3), (902, 3), (902, 12288), (902, 192), (902, 12288), (10, 0), (902, 3), (902, 3), (902, 3), (902, 192), (4, 0), (902, 257), (903, 8224), (902, 514), (902, 514), (950, 2), (5, 0), (902, 257), (902, 257), (902, 256), (902, 256), (902, 17), (5, 0), (902, 257), (902, 257), (902, 256), (902, 256), (902, 17), (950, 2), (5, 0), (902, 257), (902, 257), (902, 256), (902, 256), (902, 17), (5, 0), (902, 257), (902, 257), (902, 256), (902, 256), (902, 17), (902, 3)]) ++ [(11, 0)]) (U.length + 58) (c_pr S29 u 2 (U.length + 3)) (fun S40 => ¬ (U.length + 58) = NU ∧ (¬ ((c_pr S40 u 3 (U.length + 58)).2.2) u 2 = NU ∧ (c_cl (((((((U ++ [(2, 0)]) ++ [(902, 12288)]) ++ [(902, 128)]) ++ [(6, 0)]) ++ [(9, 0), (902, 65536), (12, 0), (902, 64), (902, 64), (902, 64), (904, 64), (7, 0), (902, 3), (902, 3), (902, 3), (902, 3), (902, 3), (902, 3), (902, 12288), (902, 192), (902, 12288), (10, 0), (902, 3), (902, 3), (902, 3), (902, 192), (4, 0), (902, 257), (903, 8224), (902, 514), (902, 514), (950, 2), (5, 0), (902, 257), (902, 257), (902, 256), (902, 256), (902, 17), (5, 0), (902, 257), (902, 257), (902, 256), (902, 256), (902, 17), (950, 2), (5, 0), (902, 257), (902, 257), (902, 256), (902, 256), (902, 17), (5, 0), (902, 257), (902, 257), (902, 256), (902, 256), (902, 17), (902, 3)]) ++ [(11, 0)]) ++ [(8, 0), (9, 0), (902, 32768), (7, 0), (902, 3), (902, 3), (902, 3), (902, 3), (902, 3), (902, 3), (902, 12288), (902, 192), (902, 12288), (10, 0), (902, 3), (902, 3), (902, 3), (902, 192), (902, 256), (903, 4), (951, 4), (3, 0), (902, 17), (902, 17), (902, 17), (902, 256), (3, 0), (902, 17), (902, 17), (902, 17), (902, 256), (3, 0), (902, 17), (902, 17), (902, 17), (902, 256), (3, 0), (902, 17), (902, 17), (902, 17), (902, 256), (902, 3), (902, 3), (903, 3), (902, 3)]) (((c_pr S40 u 3 (U.length + 58)).2.2) u 2) = 6 ∧ (¬ ((c_pr S40 u 3 (U.length + 58)).2.2) (((c_pr S40 u 3 (U.length + 58)).2.2) u 2) 0 = NU ∧ (¬ (((c_pr S40 u 3 (U.length + 58)).2.2) (((c_pr S40 u 3 (U.length + 58)).2.2) u 2) 0) = NU ∧ (¬ ((c_pr (c_pr S40 u 3 (U.length + 58)) u 4 (((c_pr S40 u 3 (U.length + 58)).2.2) (((c_pr S40 u 3 (U.length + 58)).2.2) u 2) 0)).2.2) u 2 = NU ∧ (c_cl (((((((U ++ [(2, 0)]) ++ [(902, 12288)]) ++ [(902, 128)]) ++ [(6, 0)]) ++ [(9, 0), (902, 65536), (12, 0), (902, 64), (902, 64), (902, 64), (904, 64), (7, 0), (902, 3), (902, 3), (902, 3), (902, 3), (902, 3), (902, 3), (902, 12288), (902, 192), (902, 12288), (10, 0), (902, 3), (902, 3), (902, 3), (902, 192), (4, 0), (902, 257), (903, 8224), (902, 514), (902, 514), (950, 2), (5, 0), (902, 257), (902, 257), (902, 256), (902, 256), (902, 17), (5, 0), (902, 257), (902, 257), (902, 256), (902, 256), (902, 17), (950, 2), (5, 0), (902, 257), (902, 257), (902, 256), (902, 256), (902, 17), (5, 0), (902, 257), (902, 257), (902, 256), (902, 256), (902, 17), (902, 3)]) ++ [(11, 0)]) ++ [(8, 0), (9, 0), (902, 32768), (7, 0), (902, 3), (902, 3), (902, 3), (902, 3), (902, 3), (902, 3), (902, 12288), (902, 192), (902, 12288), (10, 0), (902, 3), (902, 3), (902, 3), (902, 192), (902, 256), (903, 4), (951, 4), (3, 0), (902, 17), (902, 17), (902, 17), (902, 256), (3, 0), (902, 17), (902, 17), (902, 17), (902, 256), (3, 0), (902, 17), (902, 17), (902, 17), (902, 256), (3, 0), (902, 17), (902, 17), (902, 17), (902, 256), (902, 3), (902, 3), (903, 3), (902, 3)]) (((c_pr (c_pr S40 u 3 (U.length + 58)) u 4 (((c_pr S40 u 3 (U.length + 58)).2.2) (((c_pr S40 u 3 (U.length + 58)).2.2) u 2) 0)).2.2) u 2) = 6 ∧ (¬ ((c_pr (c_pr S40 u 3 (U.length + 58)) u 4 (((c_pr S40 u 3 (U.length + 58)).2.2) (((c_pr S40 u 3 (U.length + 58)).2.2) u 2) 0)).2.2) (((c_pr (c_pr S40 u 3 (U.length + 58)) u 4 (((c_pr S40 u 3 (U.length + 58)).2.2) (((c_pr S40 u 3 (U.length + 58)).2.2) u 2) 0)).2.2) u 2) 1 = NU ∧ (¬ (((c_pr (c_pr S40 u 3 (U.length + 58)) u 4 (((c_pr S40 u 3 (U.length + 58)).2.2) (((c_pr S40 u 3 (U.length + 58)).2.2) u 2) 0)).2.2) (((c_pr (c_pr S40 u 3 (U.length + 58)) u 4 (((c_pr S40 u 3 (U.length + 58)).2.2) (((c_pr S40 u 3 (U.length + 58)).2.2) u 2) 0)).2.2) u 2) 1) = NU ∧ (¬ ((c_pr (c_pr (c_pr S40 u 3 (U.length + 58)) u 4 (((c_pr S40 u 3 (U.length + 58)).2.2) (((c_pr S40 u 3 (U.length + 58)).2.2) u 2) 0)) u 5 (((c_pr (c_pr S40 u 3 (U.length + 58)) u 4 (((c_pr S40 u 3 (U.length + 58)).2.2) (((c_pr S40 u 3 (U.length + 58)).2.2) u 2) 0)).2.2) (((c_pr (c_pr S40 u 3 (U.length + 58)) u 4 (((c_pr S40 u 3 (U.length + 58)).2.2) (((c_pr S40 u 3 (U.length + 58)).2.2) u 2) 0)).2.2) u 2) 1)).2.2) u 3 = NU ∧ (c_cl (((((((U ++ [(2, 0)]) ++ [(902, 12288)]) ++ [(902, 128)]) ++ [(6, 0)]) ++ [(9, 0), (902, 65536), (12, 0), (902, 64), (902, 64), (902, 64), (904, 64), (7, 0), (902, 3), (902, 3), (902, 3), (902, 3), (902, 3), (902, 3), (902, 12288), (902, 192), (902, 12288), (10, 0), (902, 3), (902, 3), (902, 3), (902, 192), (4, 0), (902, 257), (903, 8224), (902, 514), (902, 514), (950, 2), (5, 0), (902, 257), (902, 257), (902, 256), (902, 256), (902, 17), (5, 0), (902, 257), (902, 257), (902, 256), (902, 256), (902, 17), (950, 2), (5, 0), (902, 257), (902, 257), (902, 256), (902, 256), (902, 17), (5, 0), (902, 257), (902, 257), (902, 256), (902, 256), (902, 17), (902, 3)]) ++ [(11, 0)]) ++ [(8, 0), (9, 0), (902, 32768), (7, 0), (902, 3), (902, 3), (902, 3), (902, 3), (902, 3), (902, 3), (902, 12288), (902, 192), (902, 12288), (10, 0), (902, 3), (902, 3), (902, 3), (902, 192), (902, 256), (903, 4), (951, 4), (3, 0), (902, 17), (902, 17), (902, 17), (902, 256), (3, 0), (902, 17), (902, 17), (902, 17), (902, 256), (3, 0), (902, 17), (902, 17), (902, 17), (902, 256), (3, 0), (902, 17), (902, 17), (902, 17), (902, 256), (902, 3), (902, 3), (903, 3), (902, 3)]) (((c_pr (c_pr (c_pr S40 u 3 (U.length + 58)) u 4 (((c_pr S40 u 3 (U.length + 58)).2.2) (((c_pr S40 u 3 (U.length + 58)).2.2) u 2) 0)) u 5 (((c_pr (c_pr S40 u 3 (U.length + 58)) u 4 (((c_pr S40 u 3 (U.length + 58)).2.2) (((c_pr S40 u 3 (U.length + 58)).2.2) u 2) 0)).2.2) (((c_pr (c_pr S40 u 3 (U.length + 58)) u 4 (((c_pr S40 u 3 (U.length + 58)).2.2) (((c_pr S40 u 3 (U.length + 58)).2.2) u 2) 0)).2.2) u 2) 1)).2.2) u 3) = 11 ∧ (¬ ((c_pr (c_pr (c_pr S40 u 3 (U.length + 58)) u 4 (((c_pr S40 u 3 (U.length + 58)).2.2) (((c_pr S40 u 3 (U.length + 58)).2.2) u 2) 0)) u 5 (((c_pr (c_pr S40 u 3 (U.length + 58)) u 4 (((c_pr S40 u 3 (U.length + 58)).2.2) (((c_pr S40 u 3 (U.length + 58)).2.2) u 2) 0)).2.2) (((c_pr (c_pr S40 u 3 (U.length + 58)) u 4 (((c_pr S40 u 3 (U.length + 58)).2.2) (((c_pr S40 u 3 (U.length + 58)).2.2) u 2) 0)).2.2) u 2) 1)).2.2) (((c_pr (c_pr (c_pr S40 u 3 (U.length + 58)) u 4 (((c_pr S40 u 3 (U.length + 58)).2.2) (((c_pr S40 u 3 (U.length + 58)).2.2) u 2) 0)) u 5 (((c_pr (c_pr S40 u 3 (U.length + 58)) u 4 (((c_pr S40 u 3 (U.length + 58)).2.2) (((c_pr S40 u 3 (U.length + 58)).2.2) u 2) 0)).2.2) (((c_pr (c_pr S40 u 3 (U.length + 58)) u 4 (((c_pr S40 u 3 (U.length + 58)).2.2) (((c_pr S40 u 3 (U.length + 58)).2.2) u 2) 0)).2.2) u 2) 1)).2.2) u 3) 0 = NU ∧ (c_cl (((((((U ++ [(2, 0)]) ++ [(902, 12288)]) ++ [(902, 128)]) ++ [(6, 0)]) ++ [(9, 0), (902, 65536), (12, 0), (902, 64), (902, 64), (902, 64), (904, 64), (7, 0), (902, 3), (902, 3), (902, 3), (902, 3), (902, 3), (902, 3), (902, 12288), (902, 192), (902, 12288), (10, 0), (902, 3), (902, 3), (902, 3), (902, 192), (4, 0), (902, 257), (903, 8224), (902, 514), (902, 514), (950, 2), (5, 0), (902, 257), (902, 257), (902, 256), (902, 256), (902, 17), (5, 0), (902, 257), (902, 257), (902, 256), (902, 256), (902, 17), (950, 2), (5, 0), (902, 257), (902, 257), (902, 256), (902, 256), (902, 17), (5, 0), (902, 257), (902, 257), (902, 256), (902, 256), (902, 17), (902, 3)]) ++ [(11, 0)]) ++ [(8, 0), (9, 0), (902, 32768), (7, 0), (902, 3), (902, 3), (902, 3), (902, 3), (902, 3), (902, 3), (902, 12288), (902, 192), (902, 12288), (10, 0), (902, 3), (902, 3), (902, 3), (902, 192), (902, 256), (903, 4), (951, 4), (3, 0), (902, 17), (902, 17), (902, 17), (902, 256), (3, 0), (902, 17), (902, 17), (902, 17), (902, 256), (3, 0), (902, 17), (902, 17), (902, 17), (902, 256), (3, 0), (902, 17), (902, 17), (902, 17), (902, 256), (902, 3), (902, 3), (903, 3), (902, 3)]) (((c_pr (c_pr (c_pr S40 u 3 (U.length + 58)) u 4 (((c_pr S40 u 3 (U.length + 58)).2.2) (((c_pr S40 u 3 (U.length + 58)).2.2) u 2) 0)) u 5 (((c_pr (c_pr S40 u 3 (U.length + 58)) u 4 (((c_pr S40 u 3 (U.length + 58)).2.2) (((c_pr S40 u 3 (U.length + 58)).2.2) u 2) 0)).2.2) (((c_pr (c_pr S40 u 3 (U.length + 58)) u 4 (((c_pr S40 u 3 (U.length + 58)).2.2) (((c_pr S40 u 3 (U.length + 58)).2.2) u 2) 0)).2.2) u 2) 1)).2.2) (((c_pr (c_pr (c_pr S40 u 3 (U.length + 58)) u 4 (((c_pr S40 u 3 (U.length + 58)).2.2) (((c_pr S40 u 3 (U.length + 58)).2.2) u 2) 0)) u 5 (((c_pr (c_pr S40 u 3 (U.length + 58)) u 4 (((c_pr S40 u 3 (U.length + 58)).2.2) (((c_pr S40 u 3 (U.length + 58)).2.2) u 2) 0)).2.2) (((c_pr (c_pr S40 u 3 (U.length + 58)) u 4 (((c_pr S40 u 3 (U.length + 58)).2.2) (((c_pr S40 u 3 (U.length + 58)).2.2) u 2) 0)).2.2) u 2) 1)).2.2) u 3) 0) = 8 ∧ (¬ ((c_pr (c_pr (c_pr S40 u 3 (U.length + 58)) u 4 (((c_pr S40 u 3 (U.length + 58)).2.2) (((c_pr S40 u 3 (U.length + 58)).2.2) u 2) 0)) u 5 (((c_pr (c_pr S40 u 3 (U.length + 58)) u 4 (((c_pr S40 u 3 (U.length + 58)).2.2) (((c_pr S40 u 3 (U.length + 58)).2.2) u 2) 0)).2.2) (((c_pr (c_pr S40 u 3 (U.length + 58)) u 4 (((c_pr S40 u 3 (U.length + 58)).2.2) (((c_pr S40 u 3 (U.length + 58)).2.2) u 2) 0)).2.2) u 2) 1)).2.2) (((c_pr (c_pr (c_pr S40 u 3 (U.length + 58)) u 4 (((c_pr S40 u 3 (U.length + 58)).2.2) (((c_pr S40 u 3 (U.length + 58)).2.2) u 2) 0)) u 5 (((c_pr (c_pr S40 u 3 (U.length + 58)) u 4 (((c_pr S40 u 3 (U.length + 58)).2.2) (((c_pr S40 u 3 (U.length + 58)).2.2) u 2) 0)).2.2) (((c_pr (c_pr S40 u 3 (U.length + 58)) u 4 (((c_pr S40 u 3 (U.length + 58)).2.2) (((c_pr S40 u 3 (U.length + 58)).2.2) u 2) 0)).2.2) u 2) 1)).2.2) (((c_pr (c_pr (c_pr S40 u 3 (U.length + 58)) u 4 (((c_pr S40 u 3 (U.length + 58)).2.2) (((c_pr S40 u 3 (U.length + 58)).2.2) u 2) 0)) u 5 (((c_pr (c_pr S40 u 3 (U.length + 58)) u 4 (((c_pr S40 u 3 (U.length + 58)).2.2) (((c_pr S40 u 3 (U.length + 58)).2.2) u 2) 0)).2.2) (((c_pr (c_pr S40 u 3 (U.length + 58)) u 4 (((c_pr S40 u 3 (U.length + 58)).2.2) (((c_pr S40 u 3 (U.length + 58)).2.2) u 2) 0)).2.2) u 2) 1)).2.2) u 3) 0) 0 = NU ∧ (¬ (((c_pr (c_pr (c_pr S40 u 3 (U.length + 58)) u 4 (((c_pr S40 u 3 (U.length + 58)).2.2) (((c_pr S40 u 3 (U.length + 58)).2.2) u 2) 0)) u 5 (((c_pr (c_pr S40 u 3 (U.length + 58)) u 4 (((c_pr S40 u 3 (U.length + 58)).2.2) (((c_pr S40 u 3 (U.length + 58)).2.2) u 2) 0)).2.2) (((c_pr (c_pr S40 u 3 (U.length + 58)) u 4 (((c_pr S40 u 3 (U.length + 58)).2.2) (((c_pr S40 u 3 (U.length + 58)).2.2) u 2) 0)).2.2) u 2) 1)).2.2) (((c_pr (c_pr (c_pr S40 u 3 (U.length + 58)) u 4 (((c_pr S40 u 3 (U.length + 58)).2.2) (((c_pr S40 u 3 (U.length + 58)).2.2) u 2) 0)) u 5 (((c_pr (c_pr S40 u 3 (U.length + 58)) u 4 (((c_pr S40 u 3 (U.length + 58)).2.2) (((c_pr S40 u 3 (U.length + 58)).2.2) u 2) 0)).2.2) (((c_pr (c_pr S40 u 3 (U.length + 58)) u 4 (((c_pr S40 u 3 (U.length + 58)).2.2) (((c_pr S40 u 3 (U.length + 58)).2.2) u 2) 0)).2.2) u 2) 1)).2.2) (((c_pr (c_pr (c_pr S40 u 3 (U.length + 58)) u 4 (((c_pr S40 u 3 (U.length + 58)).2.2) (((c_pr S40 u 3 (U.length + 58)).2.2) u 2) 0)) u 5 (((c_pr (c_pr S40 u 3 (U.length + 58)) u 4 (((c_pr S40 u 3 (U.length + 58)).2.2) (((c_pr S40 u 3 (U.length + 58)).2.2) u 2) 0)).2.2) (((c_pr (c_pr S40 u 3 (U.length + 58)) u 4 (((c_pr S40 u 3 (U.length + 58)).2.2) (((c_pr S40 u 3 (U.length + 58)).2.2) u 2) 0)).2.2) u 2) 1)).2.2) u 3) 0) 0) = NU ∧ (fresh (c_pr (c_pr (c_pr (c_pr S40 u 3 (U.length + 58)) u 4 (((c_pr S40 u 3 (U.length + 58)).2.2) (((c_pr S40 u 3 (U.length + 58)).2.2) u 2) 0)) u 5 (((c_pr (c_pr S40 u 3 (U.length + 58)) u 4 (((c_pr S40 u 3 (U.length + 58)).2.2) (((c_pr S40 u 3 (U.length + 58)).2.2) u 2) 0)).2.2) (((c_pr (c_pr S40 u 3 (U.length + 58)) u 4 (((c_pr S40 u 3 (U.length + 58)).2.2) (((c_pr S40 u 3 (U.length + 58)).2.2) u 2) 0)).2.2) u 2) 1)) u 6 (((c_pr (c_pr (c_pr S40 u 3 (U.length + 58)) u 4 (((c_pr S40 u 3 (U.length + 58)).2.2) (((c_pr S40 u 3 (U.length + 58)).2.2) u 2) 0)) u 5 (((c_pr (c_pr S40 u 3 (U.length + 58)) u 4 (((c_pr S40 u 3 (U.length + 58)).2.2) (((c_pr S40 u 3 (U.length + 58)).2.2) u 2) 0)).2.2) (((c_pr (c_pr S40 u 3 (U.length + 58)) u 4 (((c_pr S40 u 3 (U.length + 58)).2.2) (((c_pr S40 u 3 (U.length + 58)).2.2) u 2) 0)).2.2) u 2) 1)).2.2) (((c_pr (c_pr (c_pr S40 u 3 (U.length + 58)) u 4 (((c_pr S40 u 3 (U.length + 58)).2.2) (((c_pr S40 u 3 (U.length + 58)).2.2) u 2) 0)) u 5 (((c_pr (c_pr S40 u 3 (U.length + 58)) u 4 (((c_pr S40 u 3 (U.length + 58)).2.2) (((c_pr S40 u 3 (U.length + 58)).2.2) u 2) 0)).2.2) (((c_pr (c_pr S40 u 3 (U.length + 58)) u 4 (((c_pr S40 u 3 (U.length + 58)).2.2) (((c_pr S40 u 3 (U.length + 58)).2.2) u 2) 0)).2.2) u 2) 1)).2.2) (((c_pr (c_pr (c_pr S40 u 3 (U.length + 58)) u 4 (((c_pr S40 u 3 (U.length + 58)).2.2) (((c_pr S40 u 3 (U.length + 58)).2.2) u 2) 0)) u 5 (((c_pr (c_pr S40 u 3 (U.length + 58)) u 4 (((c_pr S40 u 3 (U.length + 58)).2.2) (((c_pr S40 u 3 (U.length + 58)).2.2) u 2) 0)).2.2) (((c_pr (c_pr S40 u 3 (U.length + 58)) u 4 (((c_pr S40 u 3 (U.length + 58)).2.2) (((c_pr S40 u 3 (U.length + 58)).2.2) u 2) 0)).2.2) u 2) 1)).2.2) u 3) 0) 0)) (U.length + 104) ∧ (p_Pi_init ((((((((U ++ [(2, 0)]) ++ [(902, 12288)]) ++ [(902, 128)]) ++ [(6, 0)]) ++ [(9, 0), (902, 65536), (12, 0), (902, 64), (902, 64), (902, 64), (904, 64), (7, 0), (902, 3), (902, 3), (902, 3), (902, 3), (902, 3), (902, 3), (902, 12288), (902, 192), (902, 12288), (10, 0), (902, 3), (902, 3), (902, 3), (902, 192), (4, 0), (902, 257), (903, 8224), (902, 514), (902, 514), (950, 2), (5, 0), (902, 257), (902, 257), (902, 256), (902, 256), (902, 17), (5, 0), (902, 257), (902, 257), (902, 256), (902, 256), (902, 17), (950, 2), (5, 0), (902, 257), (902, 257), (902, 256), (902, 256), (902, 17), (5, 0), (902, 257), (902, 257), (902, 256), (902, 256), (902, 17), (902, 3)]) ++ [(11, 0)]) ++ [(8, 0), (9, 0), (902, 32768), (7, 0), (902, 3), (902, 3), (902, 3), (902, 3), (902, 3), (902, 3), (902, 12288), (902, 192), (902, 12288), (10, 0), (902, 3), (902, 3), (902, 3), (902, 192), (902, 256), (903, 4), (951, 4), (3, 0), (902, 17), (902, 17), (902, 17), (902, 256), (3, 0), (902, 17), (902, 17), (902, 17), (902, 256), (3, 0), (902, 17), (902, 17), (902, 17), (902, 256), (3, 0), (902, 17), (902, 17), (902, 17), (902, 256), (902, 3), (902, 3), (903, 3), (902, 3)]) ++ [(7, 0)]) (U.length + 104) (c_pr (c_pr (c_pr (c_pr S40 u 3 (U.length + 58)) u 4 (((c_pr S40 u 3 (U.length + 58)).2.2) (((c_pr S40 u 3 (U.length + 58)).2.2) u 2) 0)) u 5 (((c_pr (c_pr S40 u 3 (U.length + 58)) u 4 (((c_pr S40 u 3 (U.length + 58)).2.2) (((c_pr S40 u 3 (U.length + 58)).2.2) u 2) 0)).2.2) (((c_pr (c_pr S40 u 3 (U.length + 58)) u 4 (((c_pr S40 u 3 (U.length + 58)).2.2) (((c_pr S40 u 3 (U.length + 58)).2.2) u 2) 0)).2.2) u 2) 1)) u 6 (((c_pr (c_pr (c_pr S40 u 3 (U.length + 58)) u 4 (((c_pr S40 u 3 (U.length + 58)).2.2) (((c_pr S40 u 3 (U.length + 58)).2.2) u 2) 0)) u 5 (((c_pr (c_pr S40 u 3 (U.length + 58)) u 4 (((c_pr S40 u 3 (U.length + 58)).2.2) (((c_pr S40 u 3 (U.length + 58)).2.2) u 2) 0)).2.2) (((c_pr (c_pr S40 u 3 (U.length + 58)) u 4 (((c_pr S40 u 3 (U.length + 58)).2.2) (((c_pr S40 u 3 (U.length + 58)).2.2) u 2) 0)).2.2) u 2) 1)).2.2) (((c_pr (c_pr (c_pr S40 u 3 (U.length + 58)) u 4 (((c_pr S40 u 3 (U.length + 58)).2.2) (((c_pr S40 u 3 (U.length + 58)).2.2) u 2) 0)) u 5 (((c_pr (c_pr S40 u 3 (U.length + 58)) u 4 (((c_pr S40 u 3 (U.length + 58)).2.2) (((c_pr S40 u 3 (U.length + 58)).2.2) u 2) 0)).2.2) (((c_pr (c_pr S40 u 3 (U.length + 58)) u 4 (((c_pr S40 u 3 (U.length + 58)).2.2) (((c_pr S40 u 3 (U.length + 58)).2.2) u 2) 0)).2.2) u 2) 1)).2.2) (((c_pr (c_pr (c_pr S40 u 3 (U.length + 58)) u 4 (((c_pr S40 u 3 (U.length + 58)).2.2) (((c_pr S40 u 3 (U.length + 58)).2.2) u 2) 0)) u 5 (((c_pr (c_pr S40 u 3 (U.length + 58)) u 4 (((c_pr S40 u 3 (U.length + 58)).2.2) (((c_pr S40 u 3 (U.length + 58)).2.2) u 2) 0)).2.2) (((c_pr (c_pr S40 u 3 (U.length + 58)) u 4 (((c_pr S40 u 3 (U.length + 58)).2.2) (((c_pr S40 u 3 (U.length + 58)).2.2) u 2) 0)).2.2) u 2) 1)).2.2) u 3) 0) 0)) (fun S87 => ¬ (U.length + 104) = NU ∧ (¬ ((c_pi (c_pr S87 u 7 (U.length + 104)) u 8 (-1)).2.2) u 1 = NU ∧ (p_Ar_fillI (((((((((U ++ [(2, 0)]) ++ [(902, 12288)]) ++ [(902, 128)]) ++ [(6, 0)]) ++ [(9, 0), (902, 65536), (12, 0), (902, 64), (902, 64), (902, 64), (904, 64), (7, 0), (902, 3), (902, 3), (902, 3), (902, 3), (902, 3), (902, 3), (902, 12288), (902, 192), (902, 12288), (10, 0), (902, 3), (902, 3), (902, 3), (902, 192), (4, 0), (902, 257), (903, 8224), (902, 514), (902, 514), (950, 2), (5, 0), (902, 257), (902, 257), (902, 256), (902, 256), (902, 17), (5, 0), (902, 257), (902, 257), (902, 256), (902, 256), (902, 17), (950, 2), (5, 0), (902, 257), (902, 257), (902, 256), (902, 256), (902, 17), (5, 0), (902, 257), (902, 257), (902, 256), (902, 256), (902, 17), (902, 3)]) ++ [(11, 0)]) ++ [(8, 0), (9, 0), (902, 32768), (7, 0), (902, 3), (902, 3), (902, 3), (902, 3), (902, 3), (902, 3), (902, 12288), (902, 192), (902, 12288), (10, 0), (902, 3), (902, 3), (902, 3), (902, 192), (902, 256), (903, 4), (951, 4), (3, 0), (902, 17), (902, 17), (902, 17), (902, 256), (3, 0), (902, 17), (902, 17), (902, 17), (902, 256), (3, 0), (902, 17), (902, 17), (902, 17), (902, 256), (3, 0), (902, 17), (902, 17), (902, 17), (902, 256), (902, 3), (902, 3), (903, 3), (902, 3)]) ++ [(7, 0)]) ++ [(902, 3), (902, 3), (902, 3), (902, 3), (902, 3), (902, 3), (902, 12288), (902, 192), (902, 12288)]) (((c_pi (c_pr S87 u 7 (U.length + 104)) u 8 (-1)).2.2) u 1) 1 (c_pi (c_pr S87 u 7 (U.length + 104)) u 8 (-1)) (fun S103 => K S103))))))))))))))))))))))))))))))

section I_B_init
variable {D : va_G} {z : Nat → ClassId} {U : ut} {oa : Nat → Nat}
set_option maxRecDepth 100000 in
set_option maxHeartbeats 4000000 in
theorem ct_B_init {l : Launch} (u : Nat) (S : cs) {K : cs → Prop} (hu : c_cl U u = 1) (hp : p_B_init U u S K) : ct gG D z l n_C_B_init c_C_B_init 1 (none) 5 500 [.ref (oa u)] (cw lt_C U oa S) 114 201097 (pC_n lt_C U ext_B_init oa K) := by
  refine ct_ofI (lo := [some (.ref (oa u))]) (by decide) g_ok (Nat.le_of_ble_eq_true rfl) rfl ?_
  intro X A _ C hR hQ hA _ hin
  unfold p_B_init at hp
  have hu0 := hu
  have hag : ∀ v, v < U.length → oa v = oa v := fun _ _ => rfl
  refine a_aload_n C dc_B_init_0 rfl rfl ?_
  refine a_obj C dc_B_init_1 l_B_3 oi_M oc_M (Nat.le_of_ble_eq_true rfl) (by rw [hR]; exact Nat.le_of_ble_eq_true rfl) (by rw [hR]; exact Nat.le_of_ble_eq_true rfl) ?_
  refine a_aload_n C dc_B_init_4 rfl rfl ?_
  refine c_new (ci := 2) (n := U.length) C y_Ca g_ty_Ca dc_B_init_5 rfl rfl x_B_9 nn_Ca i_Ca df_Ca (by decide) (by first | rfl | (simp only [List.length_append, List.length_cons, List.length_nil]; omega)) hp.1 (by rw [hR]; exact Nat.le_of_ble_eq_true rfl) (by rw [hR]; exact Nat.le_of_ble_eq_true rfl) (fun q5 => ?_)
  have hp := hp.2
  generalize hoa5 : va_up oa U.length q5 = oa5
  have hq5 : oa5 U.length = q5 := by rw [← hoa5]; exact up_at
  have hag : ∀ v, v < U.length → oa5 v = oa v := fun v hv => (show oa5 v = oa v by rw [← hoa5]; exact up_ne (by omega)).trans (hag v hv)
  rw [← hq5]
  have hz0 : oa5 u = oa u := (by rw [← hoa5]; exact up_ne (by have := c_lt hu0 (by decide); omega))
  rw [← hz0]
  have hcn5 := c_clN (c := (2, 0)) (U := U) (n := U.length) (by first | rfl | (simp only [List.length_append, List.length_cons, List.length_nil]; omega))
  have hu := c_clA (V := [(2, 0)]) hu (by decide)
  refine a_dup C dc_B_init_8 rfl ?_
  refine c_call (rest := [.ref (oa5 U.length), .ref (oa5 u)]) (av := .ref (oa5 U.length) :: []) C dc_B_init_9 (ct_Ca_init U.length S hcn5 hp) cd_C_Ca_init i_Ca (Nat.le_of_ble_eq_true rfl) (by rw [hR]; exact Nat.le_of_ble_eq_true rfl) (by rw [hR]; exact Nat.le_of_ble_eq_true rfl) (by rw [hR]; exact Nat.le_of_ble_eq_true rfl) (by rw [hR]; exact Nat.le_of_ble_eq_true rfl) (inv_IN C dc_B_init_9 l_B_11 rfl im_C_Ca_init cd_C_Ca_init ⟨by decide, by decide⟩ ln_C_Ca_init rfl) (fun oc L1 hL => ?_)
  obtain ⟨oa9, S9, hp, hb9, rfl, rfl⟩ := hL
  refine ⟨_, rfl, ?_⟩
  have hag : ∀ v, v < U.length → oa9 v = oa v := fun v hv => (hb9 v (by simp only [List.length_append, List.length_cons, List.length_nil]; omega)).trans (hag v hv)
  refine aw_eq (lo' := [some (.ref (oa5 u))]) (st' := [.ref (oa5 U.length), .ref (oa5 u)]) (L' := (cw lt_C ((U ++ [(2, 0)]) ++ [(902, 12288)]) oa9 S9)) rfl rfl rfl ?_
  have hz1 : oa9 u = oa5 u := (hb9 u (by simp only [List.length_append, List.length_cons, List.length_nil]; have := c_lt hu0 (by decide); omega))
  rw [← hz1]
  have hz2 : oa9 U.length = oa5 U.length := (hb9 U.length (by simp only [List.length_append, List.length_cons, List.length_nil]; omega))
  rw [← hz2]
  have hu := c_clA (V := [(902, 12288)]) hu (by decide)
  have hcn5 := c_clA (V := [(902, 12288)]) hcn5 (by decide)
  refine c_putRF (ty := .object "BlockPicture$Canvas") C u 0 hin dc_B_init_12 hu rfl rfl (Nat.le_of_ble_eq_true rfl) f_B_12 rfl rfl rfl (fun _ => rfl) (fun _ => rfl) rfl rfl hp.1 ?_
  have hp := hp.2
  refine a_aload_n C dc_B_init_15 rfl rfl ?_
  refine a_sipush (v := 128) C dc_B_init_16 (by decide) ?_
  refine c_newa (ty := .int) (N := 128) (n := U.length + 2) C 2 dc_B_init_19 ac_int rfl (C.kn.2 0 _ rfl).2 (fun _ => rfl) (by decide) (by decide) (by decide) (by decide) (by first | rfl | (simp only [List.length_append, List.length_cons, List.length_nil]; omega)) hp.1 (by rw [hR]; exact Nat.le_of_ble_eq_true rfl) (by rw [hR]; exact Nat.le_of_ble_eq_true rfl) (fun q19 => ?_)
  have hp := hp.2
  generalize hoa19 : va_up oa9 (U.length + 2) q19 = oa19
  have hq19 : oa19 (U.length + 2) = q19 := by rw [← hoa19]; exact up_at
  have hag : ∀ v, v < U.length → oa19 v = oa v := fun v hv => (show oa19 v = oa9 v by rw [← hoa19]; exact up_ne (by omega)).trans (hag v hv)
  rw [← hq19]
  have hz3 : oa19 u = oa9 u := (by rw [← hoa19]; exact up_ne (by have := c_lt hu0 (by decide); omega))
  rw [← hz3]
  have hcn19 := c_clN (c := (902, 128)) (U := ((U ++ [(2, 0)]) ++ [(902, 12288)])) (n := U.length + 2) (by first | rfl | (simp only [List.length_append, List.length_cons, List.length_nil]; omega))
  have hu := c_clA (V := [(902, 128)]) hu (by decide)
  have hcn5 := c_clA (V := [(902, 128)]) hcn5 (by decide)
  refine c_putRF (ty := .array .int) C u 1 hin dc_B_init_21 hu rfl rfl (Nat.le_of_ble_eq_true rfl) f_B_16 rfl rfl rfl (fun _ => rfl) (fun _ => rfl) rfl rfl hp.1 ?_
  have hp := hp.2
  refine a_aload_n C dc_B_init_24 rfl rfl ?_
  refine c_new (ci := 6) (n := U.length + 3) C y_Pa g_ty_Pa dc_B_init_25 rfl rfl x_B_20 nn_Pa i_Pa df_Pa (by decide) (by first | rfl | (simp only [List.length_append, List.length_cons, List.length_nil]; omega)) hp.1 (by rw [hR]; exact Nat.le_of_ble_eq_true rfl) (by rw [hR]; exact Nat.le_of_ble_eq_true rfl) (fun q25 => ?_)
  have hp := hp.2
  generalize hoa25 : va_up oa19 (U.length + 3) q25 = oa25
  have hq25 : oa25 (U.length + 3) = q25 := by rw [← hoa25]; exact up_at
  have hag : ∀ v, v < U.length → oa25 v = oa v := fun v hv => (show oa25 v = oa19 v by rw [← hoa25]; exact up_ne (by omega)).trans (hag v hv)
  rw [← hq25]
  have hz4 : oa25 u = oa19 u := (by rw [← hoa25]; exact up_ne (by have := c_lt hu0 (by decide); omega))
  rw [← hz4]
  have hcn25 := c_clN (c := (6, 0)) (U := (((U ++ [(2, 0)]) ++ [(902, 12288)]) ++ [(902, 128)])) (n := U.length + 3) (by first | rfl | (simp only [List.length_append, List.length_cons, List.length_nil]; omega))
  have hu := c_clA (V := [(6, 0)]) hu (by decide)
  have hcn5 := c_clA (V := [(6, 0)]) hcn5 (by decide)
  have hcn19 := c_clA (V := [(6, 0)]) hcn19 (by decide)
  refine a_dup C dc_B_init_28 rfl ?_
  refine c_call (rest := [.ref (oa25 (U.length + 3)), .ref (oa25 u)]) (av := .ref (oa25 (U.length + 3)) :: []) C dc_B_init_29 (ct_Pa_init (U.length + 3) (c_pr (c_pr S9 u 0 U.length) u 1 (U.length + 2)) hcn25 hp) cd_C_Pa_init i_Pa (Nat.le_of_ble_eq_true rfl) (by rw [hR]; exact Nat.le_of_ble_eq_true rfl) (by rw [hR]; exact Nat.le_of_ble_eq_true rfl) (by rw [hR]; exact Nat.le_of_ble_eq_true rfl) (by rw [hR]; exact Nat.le_of_ble_eq_true rfl) (inv_IN C dc_B_init_29 l_B_22 rfl im_C_Pa_init cd_C_Pa_init ⟨by decide, by decide⟩ ln_C_Pa_init rfl) (fun oc L1 hL => ?_)
  obtain ⟨oa29, S29, hp, hb29, rfl, rfl⟩ := hL
  refine ⟨_, rfl, ?_⟩
  have hag : ∀ v, v < U.length → oa29 v = oa v := fun v hv => (hb29 v (by simp only [List.length_append, List.length_cons, List.length_nil]; omega)).trans (hag v hv)
  refine aw_eq (lo' := [some (.ref (oa25 u))]) (st' := [.ref (oa25 (U.length + 3)), .ref (oa25 u)]) (L' := (cw lt_C (((((U ++ [(2, 0)]) ++ [(902, 12288)]) ++ [(902, 128)]) ++ [(6, 0)]) ++ [(9, 0), (902, 65536), (12, 0), (902, 64), (902, 64), (902, 64), (904, 64), (7, 0), (902, 3), (902, 3), (902, 3), (902, 3), (902, 3), (902, 3), (902, 12288), (902, 192), (902, 12288), (10, 0), (902, 3), (902, 3), (902, 3), (902, 192), (4, 0), (902, 257), (903, 8224), (902, 514), (902, 514), (950, 2), (5, 0), (902, 257), (902, 257), (902, 256), (902, 256), (902, 17), (5, 0), (902, 257), (902, 257), (902, 256), (902, 256), (902, 17), (950, 2), (5, 0), (902, 257), (902, 257), (902, 256), (902, 256), (902, 17), (5, 0), (902, 257), (902, 257), (902, 256), (902, 256), (902, 17), (902, 3)]) oa29 S29)) rfl rfl rfl ?_
  have hz5 : oa29 u = oa25 u := (hb29 u (by simp only [List.length_append, List.length_cons, List.length_nil]; have := c_lt hu0 (by decide); omega))
  rw [← hz5]
  have hz6 : oa29 (U.length + 3) = oa25 (U.length + 3) := (hb29 (U.length + 3) (by simp only [List.length_append, List.length_cons, List.length_nil]; omega))
  rw [← hz6]
  have hu := c_clA (V := [(9, 0), (902, 65536), (12, 0), (902, 64), (902, 64), (902, 64), (904, 64), (7, 0), (902, 3), (902, 3), (902, 3), (902, 3), (902, 3), (902, 3), (902, 12288), (902, 192), (902, 12288), (10, 0), (902, 3), (902, 3), (902, 3), (902, 192), (4, 0), (902, 257), (903, 8224), (902, 514), (902, 514), (950, 2), (5, 0), (902, 257), (902, 257), (902, 256), (902, 256), (902, 17), (5, 0), (902, 257), (902, 257), (902, 256), (902, 256), (902, 17), (950, 2), (5, 0), (902, 257), (902, 257), (902, 256), (902, 256), (902, 17), (5, 0), (902, 257), (902, 257), (902, 256), (902, 256), (902, 17), (902, 3)]) hu (by decide)
  have hcn5 := c_clA (V := [(9, 0), (902, 65536), (12, 0), (902, 64), (902, 64), (902, 64), (904, 64), (7, 0), (902, 3), (902, 3), (902, 3), (902, 3), (902, 3), (902, 3), (902, 12288), (902, 192), (902, 12288), (10, 0), (902, 3), (902, 3), (902, 3), (902, 192), (4, 0), (902, 257), (903, 8224), (902, 514), (902, 514), (950, 2), (5, 0), (902, 257), (902, 257), (902, 256), (902, 256), (902, 17), (5, 0), (902, 257), (902, 257), (902, 256), (902, 256), (902, 17), (950, 2), (5, 0), (902, 257), (902, 257), (902, 256), (902, 256), (902, 17), (5, 0), (902, 257), (902, 257), (902, 256), (902, 256), (902, 17), (902, 3)]) hcn5 (by decide)
  have hcn19 := c_clA (V := [(9, 0), (902, 65536), (12, 0), (902, 64), (902, 64), (902, 64), (904, 64), (7, 0), (902, 3), (902, 3), (902, 3), (902, 3), (902, 3), (902, 3), (902, 12288), (902, 192), (902, 12288), (10, 0), (902, 3), (902, 3), (902, 3), (902, 192), (4, 0), (902, 257), (903, 8224), (902, 514), (902, 514), (950, 2), (5, 0), (902, 257), (902, 257), (902, 256), (902, 256), (902, 17), (5, 0), (902, 257), (902, 257), (902, 256), (902, 256), (902, 17), (950, 2), (5, 0), (902, 257), (902, 257), (902, 256), (902, 256), (902, 17), (5, 0), (902, 257), (902, 257), (902, 256), (902, 256), (902, 17), (902, 3)]) hcn19 (by decide)
  have hcn25 := c_clA (V := [(9, 0), (902, 65536), (12, 0), (902, 64), (902, 64), (902, 64), (904, 64), (7, 0), (902, 3), (902, 3), (902, 3), (902, 3), (902, 3), (902, 3), (902, 12288), (902, 192), (902, 12288), (10, 0), (902, 3), (902, 3), (902, 3), (902, 192), (4, 0), (902, 257), (903, 8224), (902, 514), (902, 514), (950, 2), (5, 0), (902, 257), (902, 257), (902, 256), (902, 256), (902, 17), (5, 0), (902, 257), (902, 257), (902, 256), (902, 256), (902, 17), (950, 2), (5, 0), (902, 257), (902, 257), (902, 256), (902, 256), (902, 17), (5, 0), (902, 257), (902, 257), (902, 256), (902, 256), (902, 17), (902, 3)]) hcn25 (by decide)
  refine c_putRF (ty := .object "BlockPicture$Packer") C u 2 hin dc_B_init_32 hu rfl rfl (Nat.le_of_ble_eq_true rfl) f_B_23 rfl rfl rfl (fun _ => rfl) (fun _ => rfl) rfl rfl hp.1 ?_
  have hp := hp.2
  refine a_aload_n C dc_B_init_35 rfl rfl ?_
  refine c_new (ci := 11) (n := U.length + 58) C y_Un g_ty_Un dc_B_init_36 rfl rfl x_B_27 nn_Un i_Un df_Un (by decide) (by first | rfl | (simp only [List.length_append, List.length_cons, List.length_nil]; omega)) hp.1 (by rw [hR]; exact Nat.le_of_ble_eq_true rfl) (by rw [hR]; exact Nat.le_of_ble_eq_true rfl) (fun q36 => ?_)
  have hp := hp.2
  generalize hoa36 : va_up oa29 (U.length + 58) q36 = oa36
  have hq36 : oa36 (U.length + 58) = q36 := by rw [← hoa36]; exact up_at
  have hag : ∀ v, v < U.length → oa36 v = oa v := fun v hv => (show oa36 v = oa29 v by rw [← hoa36]; exact up_ne (by omega)).trans (hag v hv)
  rw [← hq36]
  have hz7 : oa36 u = oa29 u := (by rw [← hoa36]; exact up_ne (by have := c_lt hu0 (by decide); omega))
  rw [← hz7]
  have hcn36 := c_clN (c := (11, 0)) (U := (((((U ++ [(2, 0)]) ++ [(902, 12288)]) ++ [(902, 128)]) ++ [(6, 0)]) ++ [(9, 0), (902, 65536), (12, 0), (902, 64), (902, 64), (902, 64), (904, 64), (7, 0), (902, 3), (902, 3), (902, 3), (902, 3), (902, 3), (902, 3), (902, 12288), (902, 192), (902, 12288), (10, 0), (902, 3), (902, 3), (902, 3), (902, 192), (4, 0), (902, 257), (903, 8224), (902, 514), (902, 514), (950, 2), (5, 0), (902, 257), (902, 257), (902, 256), (902, 256), (902, 17), (5, 0), (902, 257), (902, 257), (902, 256), (902, 256), (902, 17), (950, 2), (5, 0), (902, 257), (902, 257), (902, 256), (902, 256), (902, 17), (5, 0), (902, 257), (902, 257), (902, 256), (902, 256), (902, 17), (902, 3)])) (n := U.length + 58) (by first | rfl | (simp only [List.length_append, List.length_cons, List.length_nil]; omega))
  have hu := c_clA (V := [(11, 0)]) hu (by decide)
  have hcn5 := c_clA (V := [(11, 0)]) hcn5 (by decide)
  have hcn19 := c_clA (V := [(11, 0)]) hcn19 (by decide)
  have hcn25 := c_clA (V := [(11, 0)]) hcn25 (by decide)
  refine a_dup C dc_B_init_39 rfl ?_
  refine c_call (rest := [.ref (oa36 (U.length + 58)), .ref (oa36 u)]) (av := .ref (oa36 (U.length + 58)) :: []) C dc_B_init_40 (ct_Un_init (U.length + 58) (c_pr S29 u 2 (U.length + 3)) hcn36 hp) cd_C_Un_init i_Un (Nat.le_of_ble_eq_true rfl) (by rw [hR]; exact Nat.le_of_ble_eq_true rfl) (by rw [hR]; exact Nat.le_of_ble_eq_true rfl) (by rw [hR]; exact Nat.le_of_ble_eq_true rfl) (by rw [hR]; exact Nat.le_of_ble_eq_true rfl) (inv_IN C dc_B_init_40 l_B_29 rfl im_C_Un_init cd_C_Un_init ⟨by decide, by decide⟩ ln_C_Un_init rfl) (fun oc L1 hL => ?_)
  obtain ⟨oa40, S40, hp, hb40, rfl, rfl⟩ := hL
  refine ⟨_, rfl, ?_⟩
  have hag : ∀ v, v < U.length → oa40 v = oa v := fun v hv => (hb40 v (by simp only [List.length_append, List.length_cons, List.length_nil]; omega)).trans (hag v hv)
  refine aw_eq (lo' := [some (.ref (oa36 u))]) (st' := [.ref (oa36 (U.length + 58)), .ref (oa36 u)]) (L' := (cw lt_C (((((((U ++ [(2, 0)]) ++ [(902, 12288)]) ++ [(902, 128)]) ++ [(6, 0)]) ++ [(9, 0), (902, 65536), (12, 0), (902, 64), (902, 64), (902, 64), (904, 64), (7, 0), (902, 3), (902, 3), (902, 3), (902, 3), (902, 3), (902, 3), (902, 12288), (902, 192), (902, 12288), (10, 0), (902, 3), (902, 3), (902, 3), (902, 192), (4, 0), (902, 257), (903, 8224), (902, 514), (902, 514), (950, 2), (5, 0), (902, 257), (902, 257), (902, 256), (902, 256), (902, 17), (5, 0), (902, 257), (902, 257), (902, 256), (902, 256), (902, 17), (950, 2), (5, 0), (902, 257), (902, 257), (902, 256), (902, 256), (902, 17), (5, 0), (902, 257), (902, 257), (902, 256), (902, 256), (902, 17), (902, 3)]) ++ [(11, 0)]) ++ [(8, 0), (9, 0), (902, 32768), (7, 0), (902, 3), (902, 3), (902, 3), (902, 3), (902, 3), (902, 3), (902, 12288), (902, 192), (902, 12288), (10, 0), (902, 3), (902, 3), (902, 3), (902, 192), (902, 256), (903, 4), (951, 4), (3, 0), (902, 17), (902, 17), (902, 17), (902, 256), (3, 0), (902, 17), (902, 17), (902, 17), (902, 256), (3, 0), (902, 17), (902, 17), (902, 17), (902, 256), (3, 0), (902, 17), (902, 17), (902, 17), (902, 256), (902, 3), (902, 3), (903, 3), (902, 3)]) oa40 S40)) rfl rfl rfl ?_
  have hz8 : oa40 u = oa36 u := (hb40 u (by simp only [List.length_append, List.length_cons, List.length_nil]; have := c_lt hu0 (by decide); omega))
  rw [← hz8]
  have hz9 : oa40 (U.length + 58) = oa36 (U.length + 58) := (hb40 (U.length + 58) (by simp only [List.length_append, List.length_cons, List.length_nil]; omega))
  rw [← hz9]
  have hu := c_clA (V := [(8, 0), (9, 0), (902, 32768), (7, 0), (902, 3), (902, 3), (902, 3), (902, 3), (902, 3), (902, 3), (902, 12288), (902, 192), (902, 12288), (10, 0), (902, 3), (902, 3), (902, 3), (902, 192), (902, 256), (903, 4), (951, 4), (3, 0), (902, 17), (902, 17), (902, 17), (902, 256), (3, 0), (902, 17), (902, 17), (902, 17), (902, 256), (3, 0), (902, 17), (902, 17), (902, 17), (902, 256), (3, 0), (902, 17), (902, 17), (902, 17), (902, 256), (902, 3), (902, 3), (903, 3), (902, 3)]) hu (by decide)
  have hcn5 := c_clA (V := [(8, 0), (9, 0), (902, 32768), (7, 0), (902, 3), (902, 3), (902, 3), (902, 3), (902, 3), (902, 3), (902, 12288), (902, 192), (902, 12288), (10, 0), (902, 3), (902, 3), (902, 3), (902, 192), (902, 256), (903, 4), (951, 4), (3, 0), (902, 17), (902, 17), (902, 17), (902, 256), (3, 0), (902, 17), (902, 17), (902, 17), (902, 256), (3, 0), (902, 17), (902, 17), (902, 17), (902, 256), (3, 0), (902, 17), (902, 17), (902, 17), (902, 256), (902, 3), (902, 3), (903, 3), (902, 3)]) hcn5 (by decide)
  have hcn19 := c_clA (V := [(8, 0), (9, 0), (902, 32768), (7, 0), (902, 3), (902, 3), (902, 3), (902, 3), (902, 3), (902, 3), (902, 12288), (902, 192), (902, 12288), (10, 0), (902, 3), (902, 3), (902, 3), (902, 192), (902, 256), (903, 4), (951, 4), (3, 0), (902, 17), (902, 17), (902, 17), (902, 256), (3, 0), (902, 17), (902, 17), (902, 17), (902, 256), (3, 0), (902, 17), (902, 17), (902, 17), (902, 256), (3, 0), (902, 17), (902, 17), (902, 17), (902, 256), (902, 3), (902, 3), (903, 3), (902, 3)]) hcn19 (by decide)
  have hcn25 := c_clA (V := [(8, 0), (9, 0), (902, 32768), (7, 0), (902, 3), (902, 3), (902, 3), (902, 3), (902, 3), (902, 3), (902, 12288), (902, 192), (902, 12288), (10, 0), (902, 3), (902, 3), (902, 3), (902, 192), (902, 256), (903, 4), (951, 4), (3, 0), (902, 17), (902, 17), (902, 17), (902, 256), (3, 0), (902, 17), (902, 17), (902, 17), (902, 256), (3, 0), (902, 17), (902, 17), (902, 17), (902, 256), (3, 0), (902, 17), (902, 17), (902, 17), (902, 256), (902, 3), (902, 3), (903, 3), (902, 3)]) hcn25 (by decide)
  have hcn36 := c_clA (V := [(8, 0), (9, 0), (902, 32768), (7, 0), (902, 3), (902, 3), (902, 3), (902, 3), (902, 3), (902, 3), (902, 12288), (902, 192), (902, 12288), (10, 0), (902, 3), (902, 3), (902, 3), (902, 192), (902, 256), (903, 4), (951, 4), (3, 0), (902, 17), (902, 17), (902, 17), (902, 256), (3, 0), (902, 17), (902, 17), (902, 17), (902, 256), (3, 0), (902, 17), (902, 17), (902, 17), (902, 256), (3, 0), (902, 17), (902, 17), (902, 17), (902, 256), (902, 3), (902, 3), (903, 3), (902, 3)]) hcn36 (by decide)
  refine c_putRF (ty := .object "BlockPicture$Unpacker") C u 3 hin dc_B_init_43 hu rfl rfl (Nat.le_of_ble_eq_true rfl) f_B_30 rfl rfl rfl (fun _ => rfl) (fun _ => rfl) rfl rfl hp.1 ?_
  have hp := hp.2
  refine a_aload_n C dc_B_init_46 rfl rfl ?_
  refine a_aload_n C dc_B_init_47 rfl rfl ?_
  refine c_getR C u 2 dc_B_init_48 hu rfl rfl (Nat.le_of_ble_eq_true rfl) f_B_23 rfl hp.1 ?_
  have hp := hp.2
  have hc51 := hp.1
  have hp := hp.2
  refine c_getRN C (((c_pr S40 u 3 (U.length + 58)).2.2) u 2) 0 dc_B_init_51 hc51 rfl rfl (Nat.le_of_ble_eq_true rfl) f_B_34 rfl hp.1 ?_
  have hp := hp.2
  refine c_putRF (ty := .object "BlockPicture$Row") C u 4 hin dc_B_init_54 hu rfl rfl (Nat.le_of_ble_eq_true rfl) f_B_38 rfl rfl rfl (fun _ => rfl) (fun _ => rfl) rfl rfl hp.1 ?_
  have hp := hp.2
  refine a_aload_n C dc_B_init_57 rfl rfl ?_
  refine a_aload_n C dc_B_init_58 rfl rfl ?_
  refine c_getR C u 2 dc_B_init_59 hu rfl rfl (Nat.le_of_ble_eq_true rfl) f_B_23 rfl hp.1 ?_
  have hp := hp.2
  have hc62 := hp.1
  have hp := hp.2
  refine c_getRN C (((c_pr (c_pr S40 u 3 (U.length + 58)) u 4 (((c_pr S40 u 3 (U.length + 58)).2.2) (((c_pr S40 u 3 (U.length + 58)).2.2) u 2) 0)).2.2) u 2) 1 dc_B_init_62 hc62 rfl rfl (Nat.le_of_ble_eq_true rfl) f_B_39 rfl hp.1 ?_
  have hp := hp.2
  refine c_putRF (ty := .object "BlockPicture$Waves") C u 5 hin dc_B_init_65 hu rfl rfl (Nat.le_of_ble_eq_true rfl) f_B_43 rfl rfl rfl (fun _ => rfl) (fun _ => rfl) rfl rfl hp.1 ?_
  have hp := hp.2
  refine a_aload_n C dc_B_init_68 rfl rfl ?_
  refine a_aload_n C dc_B_init_69 rfl rfl ?_
  refine c_getR C u 3 dc_B_init_70 hu rfl rfl (Nat.le_of_ble_eq_true rfl) f_B_30 rfl hp.1 ?_
  have hp := hp.2
  have hc73 := hp.1
  have hp := hp.2
  refine c_getRN C (((c_pr (c_pr (c_pr S40 u 3 (U.length + 58)) u 4 (((c_pr S40 u 3 (U.length + 58)).2.2) (((c_pr S40 u 3 (U.length + 58)).2.2) u 2) 0)) u 5 (((c_pr (c_pr S40 u 3 (U.length + 58)) u 4 (((c_pr S40 u 3 (U.length + 58)).2.2) (((c_pr S40 u 3 (U.length + 58)).2.2) u 2) 0)).2.2) (((c_pr (c_pr S40 u 3 (U.length + 58)) u 4 (((c_pr S40 u 3 (U.length + 58)).2.2) (((c_pr S40 u 3 (U.length + 58)).2.2) u 2) 0)).2.2) u 2) 1)).2.2) u 3) 0 dc_B_init_73 hc73 rfl rfl (Nat.le_of_ble_eq_true rfl) f_B_44 rfl hp.1 ?_
  have hp := hp.2
  have hc76 := hp.1
  have hp := hp.2
  refine c_getRN C (((c_pr (c_pr (c_pr S40 u 3 (U.length + 58)) u 4 (((c_pr S40 u 3 (U.length + 58)).2.2) (((c_pr S40 u 3 (U.length + 58)).2.2) u 2) 0)) u 5 (((c_pr (c_pr S40 u 3 (U.length + 58)) u 4 (((c_pr S40 u 3 (U.length + 58)).2.2) (((c_pr S40 u 3 (U.length + 58)).2.2) u 2) 0)).2.2) (((c_pr (c_pr S40 u 3 (U.length + 58)) u 4 (((c_pr S40 u 3 (U.length + 58)).2.2) (((c_pr S40 u 3 (U.length + 58)).2.2) u 2) 0)).2.2) u 2) 1)).2.2) (((c_pr (c_pr (c_pr S40 u 3 (U.length + 58)) u 4 (((c_pr S40 u 3 (U.length + 58)).2.2) (((c_pr S40 u 3 (U.length + 58)).2.2) u 2) 0)) u 5 (((c_pr (c_pr S40 u 3 (U.length + 58)) u 4 (((c_pr S40 u 3 (U.length + 58)).2.2) (((c_pr S40 u 3 (U.length + 58)).2.2) u 2) 0)).2.2) (((c_pr (c_pr S40 u 3 (U.length + 58)) u 4 (((c_pr S40 u 3 (U.length + 58)).2.2) (((c_pr S40 u 3 (U.length + 58)).2.2) u 2) 0)).2.2) u 2) 1)).2.2) u 3) 0) 0 dc_B_init_76 hc76 rfl rfl (Nat.le_of_ble_eq_true rfl) f_B_48 rfl hp.1 ?_
  have hp := hp.2
  refine c_putRF (ty := .object "BlockPicture$Row") C u 6 hin dc_B_init_79 hu rfl rfl (Nat.le_of_ble_eq_true rfl) f_B_53 rfl rfl rfl (fun _ => rfl) (fun _ => rfl) rfl rfl hp.1 ?_
  have hp := hp.2
  refine a_aload_n C dc_B_init_82 rfl rfl ?_
  refine c_new (ci := 7) (n := U.length + 104) C y_Pi g_ty_Pi dc_B_init_83 rfl rfl x_B_54 nn_Pi i_Pi df_Pi (by decide) (by first | rfl | (simp only [List.length_append, List.length_cons, List.length_nil]; omega)) hp.1 (by rw [hR]; exact Nat.le_of_ble_eq_true rfl) (by rw [hR]; exact Nat.le_of_ble_eq_true rfl) (fun q83 => ?_)
  have hp := hp.2
  generalize hoa83 : va_up oa40 (U.length + 104) q83 = oa83
  have hq83 : oa83 (U.length + 104) = q83 := by rw [← hoa83]; exact up_at
  have hag : ∀ v, v < U.length → oa83 v = oa v := fun v hv => (show oa83 v = oa40 v by rw [← hoa83]; exact up_ne (by omega)).trans (hag v hv)
  rw [← hq83]
  have hz10 : oa83 u = oa40 u := (by rw [← hoa83]; exact up_ne (by have := c_lt hu0 (by decide); omega))
  rw [← hz10]
  have hcn83 := c_clN (c := (7, 0)) (U := (((((((U ++ [(2, 0)]) ++ [(902, 12288)]) ++ [(902, 128)]) ++ [(6, 0)]) ++ [(9, 0), (902, 65536), (12, 0), (902, 64), (902, 64), (902, 64), (904, 64), (7, 0), (902, 3), (902, 3), (902, 3), (902, 3), (902, 3), (902, 3), (902, 12288), (902, 192), (902, 12288), (10, 0), (902, 3), (902, 3), (902, 3), (902, 192), (4, 0), (902, 257), (903, 8224), (902, 514), (902, 514), (950, 2), (5, 0), (902, 257), (902, 257), (902, 256), (902, 256), (902, 17), (5, 0), (902, 257), (902, 257), (902, 256), (902, 256), (902, 17), (950, 2), (5, 0), (902, 257), (902, 257), (902, 256), (902, 256), (902, 17), (5, 0), (902, 257), (902, 257), (902, 256), (902, 256), (902, 17), (902, 3)]) ++ [(11, 0)]) ++ [(8, 0), (9, 0), (902, 32768), (7, 0), (902, 3), (902, 3), (902, 3), (902, 3), (902, 3), (902, 3), (902, 12288), (902, 192), (902, 12288), (10, 0), (902, 3), (902, 3), (902, 3), (902, 192), (902, 256), (903, 4), (951, 4), (3, 0), (902, 17), (902, 17), (902, 17), (902, 256), (3, 0), (902, 17), (902, 17), (902, 17), (902, 256), (3, 0), (902, 17), (902, 17), (902, 17), (902, 256), (3, 0), (902, 17), (902, 17), (902, 17), (902, 256), (902, 3), (902, 3), (903, 3), (902, 3)])) (n := U.length + 104) (by first | rfl | (simp only [List.length_append, List.length_cons, List.length_nil]; omega))
  have hu := c_clA (V := [(7, 0)]) hu (by decide)
  have hcn5 := c_clA (V := [(7, 0)]) hcn5 (by decide)
  have hcn19 := c_clA (V := [(7, 0)]) hcn19 (by decide)
  have hcn25 := c_clA (V := [(7, 0)]) hcn25 (by decide)
  have hcn36 := c_clA (V := [(7, 0)]) hcn36 (by decide)
  have hc51 := c_clA (V := [(7, 0)]) hc51 (by decide)
  have hc62 := c_clA (V := [(7, 0)]) hc62 (by decide)
  have hc73 := c_clA (V := [(7, 0)]) hc73 (by decide)
  have hc76 := c_clA (V := [(7, 0)]) hc76 (by decide)
  refine a_dup C dc_B_init_86 rfl ?_
  refine c_call (rest := [.ref (oa83 (U.length + 104)), .ref (oa83 u)]) (av := .ref (oa83 (U.length + 104)) :: []) C dc_B_init_87 (ct_Pi_init (U.length + 104) (c_pr (c_pr (c_pr (c_pr S40 u 3 (U.length + 58)) u 4 (((c_pr S40 u 3 (U.length + 58)).2.2) (((c_pr S40 u 3 (U.length + 58)).2.2) u 2) 0)) u 5 (((c_pr (c_pr S40 u 3 (U.length + 58)) u 4 (((c_pr S40 u 3 (U.length + 58)).2.2) (((c_pr S40 u 3 (U.length + 58)).2.2) u 2) 0)).2.2) (((c_pr (c_pr S40 u 3 (U.length + 58)) u 4 (((c_pr S40 u 3 (U.length + 58)).2.2) (((c_pr S40 u 3 (U.length + 58)).2.2) u 2) 0)).2.2) u 2) 1)) u 6 (((c_pr (c_pr (c_pr S40 u 3 (U.length + 58)) u 4 (((c_pr S40 u 3 (U.length + 58)).2.2) (((c_pr S40 u 3 (U.length + 58)).2.2) u 2) 0)) u 5 (((c_pr (c_pr S40 u 3 (U.length + 58)) u 4 (((c_pr S40 u 3 (U.length + 58)).2.2) (((c_pr S40 u 3 (U.length + 58)).2.2) u 2) 0)).2.2) (((c_pr (c_pr S40 u 3 (U.length + 58)) u 4 (((c_pr S40 u 3 (U.length + 58)).2.2) (((c_pr S40 u 3 (U.length + 58)).2.2) u 2) 0)).2.2) u 2) 1)).2.2) (((c_pr (c_pr (c_pr S40 u 3 (U.length + 58)) u 4 (((c_pr S40 u 3 (U.length + 58)).2.2) (((c_pr S40 u 3 (U.length + 58)).2.2) u 2) 0)) u 5 (((c_pr (c_pr S40 u 3 (U.length + 58)) u 4 (((c_pr S40 u 3 (U.length + 58)).2.2) (((c_pr S40 u 3 (U.length + 58)).2.2) u 2) 0)).2.2) (((c_pr (c_pr S40 u 3 (U.length + 58)) u 4 (((c_pr S40 u 3 (U.length + 58)).2.2) (((c_pr S40 u 3 (U.length + 58)).2.2) u 2) 0)).2.2) u 2) 1)).2.2) (((c_pr (c_pr (c_pr S40 u 3 (U.length + 58)) u 4 (((c_pr S40 u 3 (U.length + 58)).2.2) (((c_pr S40 u 3 (U.length + 58)).2.2) u 2) 0)) u 5 (((c_pr (c_pr S40 u 3 (U.length + 58)) u 4 (((c_pr S40 u 3 (U.length + 58)).2.2) (((c_pr S40 u 3 (U.length + 58)).2.2) u 2) 0)).2.2) (((c_pr (c_pr S40 u 3 (U.length + 58)) u 4 (((c_pr S40 u 3 (U.length + 58)).2.2) (((c_pr S40 u 3 (U.length + 58)).2.2) u 2) 0)).2.2) u 2) 1)).2.2) u 3) 0) 0)) hcn83 hp) cd_C_Pi_init i_Pi (Nat.le_of_ble_eq_true rfl) (by rw [hR]; exact Nat.le_of_ble_eq_true rfl) (by rw [hR]; exact Nat.le_of_ble_eq_true rfl) (by rw [hR]; exact Nat.le_of_ble_eq_true rfl) (by rw [hR]; exact Nat.le_of_ble_eq_true rfl) (inv_IN C dc_B_init_87 l_B_56 rfl im_C_Pi_init cd_C_Pi_init ⟨by decide, by decide⟩ ln_C_Pi_init rfl) (fun oc L1 hL => ?_)
  obtain ⟨oa87, S87, hp, hb87, rfl, rfl⟩ := hL
  refine ⟨_, rfl, ?_⟩
  have hag : ∀ v, v < U.length → oa87 v = oa v := fun v hv => (hb87 v (by simp only [List.length_append, List.length_cons, List.length_nil]; omega)).trans (hag v hv)
  refine aw_eq (lo' := [some (.ref (oa83 u))]) (st' := [.ref (oa83 (U.length + 104)), .ref (oa83 u)]) (L' := (cw lt_C (((((((((U ++ [(2, 0)]) ++ [(902, 12288)]) ++ [(902, 128)]) ++ [(6, 0)]) ++ [(9, 0), (902, 65536), (12, 0), (902, 64), (902, 64), (902, 64), (904, 64), (7, 0), (902, 3), (902, 3), (902, 3), (902, 3), (902, 3), (902, 3), (902, 12288), (902, 192), (902, 12288), (10, 0), (902, 3), (902, 3), (902, 3), (902, 192), (4, 0), (902, 257), (903, 8224), (902, 514), (902, 514), (950, 2), (5, 0), (902, 257), (902, 257), (902, 256), (902, 256), (902, 17), (5, 0), (902, 257), (902, 257), (902, 256), (902, 256), (902, 17), (950, 2), (5, 0), (902, 257), (902, 257), (902, 256), (902, 256), (902, 17), (5, 0), (902, 257), (902, 257), (902, 256), (902, 256), (902, 17), (902, 3)]) ++ [(11, 0)]) ++ [(8, 0), (9, 0), (902, 32768), (7, 0), (902, 3), (902, 3), (902, 3), (902, 3), (902, 3), (902, 3), (902, 12288), (902, 192), (902, 12288), (10, 0), (902, 3), (902, 3), (902, 3), (902, 192), (902, 256), (903, 4), (951, 4), (3, 0), (902, 17), (902, 17), (902, 17), (902, 256), (3, 0), (902, 17), (902, 17), (902, 17), (902, 256), (3, 0), (902, 17), (902, 17), (902, 17), (902, 256), (3, 0), (902, 17), (902, 17), (902, 17), (902, 256), (902, 3), (902, 3), (903, 3), (902, 3)]) ++ [(7, 0)]) ++ [(902, 3), (902, 3), (902, 3), (902, 3), (902, 3), (902, 3), (902, 12288), (902, 192), (902, 12288)]) oa87 S87)) rfl rfl rfl ?_
  have hz11 : oa87 u = oa83 u := (hb87 u (by simp only [List.length_append, List.length_cons, List.length_nil]; have := c_lt hu0 (by decide); omega))
  rw [← hz11]
  have hz12 : oa87 (U.length + 104) = oa83 (U.length + 104) := (hb87 (U.length + 104) (by simp only [List.length_append, List.length_cons, List.length_nil]; omega))
  rw [← hz12]
  have hu := c_clA (V := [(902, 3), (902, 3), (902, 3), (902, 3), (902, 3), (902, 3), (902, 12288), (902, 192), (902, 12288)]) hu (by decide)
  have hcn5 := c_clA (V := [(902, 3), (902, 3), (902, 3), (902, 3), (902, 3), (902, 3), (902, 12288), (902, 192), (902, 12288)]) hcn5 (by decide)
  have hcn19 := c_clA (V := [(902, 3), (902, 3), (902, 3), (902, 3), (902, 3), (902, 3), (902, 12288), (902, 192), (902, 12288)]) hcn19 (by decide)
  have hcn25 := c_clA (V := [(902, 3), (902, 3), (902, 3), (902, 3), (902, 3), (902, 3), (902, 12288), (902, 192), (902, 12288)]) hcn25 (by decide)
  have hcn36 := c_clA (V := [(902, 3), (902, 3), (902, 3), (902, 3), (902, 3), (902, 3), (902, 12288), (902, 192), (902, 12288)]) hcn36 (by decide)
  have hc51 := c_clA (V := [(902, 3), (902, 3), (902, 3), (902, 3), (902, 3), (902, 3), (902, 12288), (902, 192), (902, 12288)]) hc51 (by decide)
  have hc62 := c_clA (V := [(902, 3), (902, 3), (902, 3), (902, 3), (902, 3), (902, 3), (902, 12288), (902, 192), (902, 12288)]) hc62 (by decide)
  have hc73 := c_clA (V := [(902, 3), (902, 3), (902, 3), (902, 3), (902, 3), (902, 3), (902, 12288), (902, 192), (902, 12288)]) hc73 (by decide)
  have hc76 := c_clA (V := [(902, 3), (902, 3), (902, 3), (902, 3), (902, 3), (902, 3), (902, 12288), (902, 192), (902, 12288)]) hc76 (by decide)
  have hcn83 := c_clA (V := [(902, 3), (902, 3), (902, 3), (902, 3), (902, 3), (902, 3), (902, 12288), (902, 192), (902, 12288)]) hcn83 (by decide)
  refine c_putR (ty := .object "BlockPicture$Picture") C u 7 dc_B_init_90 hu rfl rfl (Nat.le_of_ble_eq_true rfl) f_B_57 rfl rfl (fun _ => rfl) (fun _ => rfl) rfl rfl hp.1 ?_
  have hp := hp.2
  refine a_aload_n C dc_B_init_93 rfl rfl ?_
  refine a_iconst (v := (-1)) C dc_B_init_94 (by decide) ?_
  refine c_putI (ty := .int) C u 8 dc_B_init_95 hu rfl rfl (Nat.le_of_ble_eq_true rfl) f_B_61 (Nat.le_of_ble_eq_true rfl) rfl rfl rfl rfl ?_
  refine a_aload_n C dc_B_init_98 rfl rfl ?_
  refine c_getR C u 1 dc_B_init_99 hu rfl rfl (Nat.le_of_ble_eq_true rfl) f_B_16 rfl hp.1 ?_
  have hp := hp.2
  refine a_iconst (v := 1) C dc_B_init_102 (by decide) ?_
  refine c_call (rest := []) (av := [.ref (oa87 (((c_pi (c_pr S87 u 7 (U.length + 104)) u 8 (-1)).2.2) u 1)), .int 1]) C dc_B_init_103 (ct_Ar_fillI (((c_pi (c_pr S87 u 7 (U.length + 104)) u 8 (-1)).2.2) u 1) 1 (c_pi (c_pr S87 u 7 (U.length + 104)) u 8 (-1)) hp) cd_C_Ar_fillI i_Ar (Nat.le_of_ble_eq_true rfl) (by rw [hR]; exact Nat.le_of_ble_eq_true rfl) (by rw [hR]; exact Nat.le_of_ble_eq_true rfl) (by rw [hR]; exact Nat.le_of_ble_eq_true rfl) (by rw [hR]; exact Nat.le_of_ble_eq_true rfl) (inv_S C dc_B_init_103 l_B_65 st_C_Ar_fillI i_Ar cd_C_Ar_fillI ⟨by decide, by decide⟩ ln_C_Ar_fillI rfl) (fun oc L1 hL => ?_)
  obtain ⟨S103, hp, rfl, rfl⟩ := hL.resolve_right pC_no
  refine ⟨_, rfl, ?_⟩
  refine aw_eq (lo' := _) (st' := []) (L' := (cw lt_C (((((((((U ++ [(2, 0)]) ++ [(902, 12288)]) ++ [(902, 128)]) ++ [(6, 0)]) ++ [(9, 0), (902, 65536), (12, 0), (902, 64), (902, 64), (902, 64), (904, 64), (7, 0), (902, 3), (902, 3), (902, 3), (902, 3), (902, 3), (902, 3), (902, 12288), (902, 192), (902, 12288), (10, 0), (902, 3), (902, 3), (902, 3), (902, 192), (4, 0), (902, 257), (903, 8224), (902, 514), (902, 514), (950, 2), (5, 0), (902, 257), (902, 257), (902, 256), (902, 256), (902, 17), (5, 0), (902, 257), (902, 257), (902, 256), (902, 256), (902, 17), (950, 2), (5, 0), (902, 257), (902, 257), (902, 256), (902, 256), (902, 17), (5, 0), (902, 257), (902, 257), (902, 256), (902, 256), (902, 17), (902, 3)]) ++ [(11, 0)]) ++ [(8, 0), (9, 0), (902, 32768), (7, 0), (902, 3), (902, 3), (902, 3), (902, 3), (902, 3), (902, 3), (902, 12288), (902, 192), (902, 12288), (10, 0), (902, 3), (902, 3), (902, 3), (902, 192), (902, 256), (903, 4), (951, 4), (3, 0), (902, 17), (902, 17), (902, 17), (902, 256), (3, 0), (902, 17), (902, 17), (902, 17), (902, 256), (3, 0), (902, 17), (902, 17), (902, 17), (902, 256), (3, 0), (902, 17), (902, 17), (902, 17), (902, 256), (902, 3), (902, 3), (903, 3), (902, 3)]) ++ [(7, 0)]) ++ [(902, 3), (902, 3), (902, 3), (902, 3), (902, 3), (902, 3), (902, 12288), (902, 192), (902, 12288)]) oa87 S103)) rfl rfl rfl ?_
  refine aw_widen (nc' := 114) (ns' := 201097) (Nat.le_of_ble_eq_true rfl) (Nat.le_of_ble_eq_true rfl) ?_
  refine aw_eq (lo' := _) (st' := _) (L' := (cw lt_C (U ++ ext_B_init) oa87 S103)) rfl rfl (by simp only [ext_B_init, List.append_assoc, List.cons_append, List.nil_append, List.append_nil]) ?_
  exact a_vret C hQ hA dc_B_init_106 rfl ⟨oa87, S103, hp, hag, rfl, rfl⟩
end I_B_init
