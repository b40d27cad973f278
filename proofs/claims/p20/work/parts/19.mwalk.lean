def b_out_38 (s0 : Int32) (S : ms) (K : Int32 → ms → Prop) : Prop :=
  K s0 S
def b_out_18 (x1 : Int32) (s1 : Int32) (S : ms) (K : Int32 → ms → Prop) : Prop :=
  (((upd S.1 0 s1) 0) ≤ 0 → (vp_in x1 65536 ∧ (b_out_38 (S.2.1 8 x1.toNatClampNeg) (upd S.1 0 s1, S.2.1, S.2.2) K))) ∧ (¬ (((upd S.1 0 s1) 0) ≤ 0) → (b_out_38 0 (upd S.1 0 s1, S.2.1, S.2.2) K))
def b_out_13 (x1 : Int32) (S : ms) (K : Int32 → ms → Prop) : Prop :=
  b_out_18 x1 1 S K
def p_out (x1 : Int32) (S : ms) (K : Int32 → ms → Prop) : Prop :=
  (x1 < 0 → (b_out_13 x1 S K)) ∧ (¬ (x1 < 0) → ((x1 < (S.1 9) → (b_out_18 x1 0 S K)) ∧ (¬ (x1 < (S.1 9)) → (b_out_13 x1 S K))))
section M_out
variable {D : va_G} {z : Nat → ClassId} {A : Nat → Prop} {X : cx} {L0 : fw} {K : Int32 → ms → Prop} {o : Nat} {ad : Nat → Nat}
set_option maxRecDepth 100000 in
set_option maxHeartbeats 1000000 in
theorem s_out_38 (C : fcx gG D z A X R_M c_M_out 2 (some .int)) (hQ : X.2.2.2.2.2.2.2.2.2.2 = eQ gG D z X.2.2.2.2.2.2.2.1 X.2.2.2.2.1 L0 0 0 (pM_i K o ad)) (hA : A = owA gG L0 X.2.2.2.2.1.heap.size) (hR : X.2.2.2.1 = { frames := 1, cells := 1, slots := 6, locals := 100 }) (s0 : Int32) (S : ms) (hp : b_out_38 s0 S K) : aw gG D z A X 2 38 [some (.ref o), none] [.int s0] [(0, ly_M, (o, ad, S.1, S.2.1, S.2.2))] 0 0 := by
  unfold b_out_38 at hp
  exact a_iret (ty := .int) C hQ hA d_out_38 rfl rfl ⟨_, S, hp, rfl, rfl⟩
set_option maxRecDepth 100000 in
set_option maxHeartbeats 1000000 in
theorem s_out_18 (C : fcx gG D z A X R_M c_M_out 2 (some .int)) (hQ : X.2.2.2.2.2.2.2.2.2.2 = eQ gG D z X.2.2.2.2.2.2.2.1 X.2.2.2.2.1 L0 0 0 (pM_i K o ad)) (hA : A = owA gG L0 X.2.2.2.2.1.heap.size) (hR : X.2.2.2.1 = { frames := 1, cells := 1, slots := 6, locals := 100 }) (x1 : Int32) (s1 : Int32) (S : ms) (hp : b_out_18 x1 s1 S K) : aw gG D z A X 2 18 [some (.ref o), some (.int x1)] [.int s1, .ref o] [(0, ly_M, (o, ad, S.1, S.2.1, S.2.2))] 0 0 := by
  unfold b_out_18 at hp
  refine a_putI (ty := .int) C 0 0 d_out_18 rfl rfl rfl (Nat.le_of_ble_eq_true rfl) f_M_146 (Nat.le_of_ble_eq_true rfl) rfl rfl rfl rfl ?_
  refine aw_eq (lo' := _) (st' := _) (L' := [(0, ly_M, (o, ad, upd S.1 0 s1, S.2.1, S.2.2))]) rfl rfl rfl ?_
  refine a_aload_n C d_out_21 rfl rfl ?_
  refine a_getI C 0 0 d_out_22 rfl rfl rfl (Nat.le_of_ble_eq_true rfl) f_M_146 (Nat.le_of_ble_eq_true rfl) ?_
  refine a_if_le (tgt := 32) C d_out_25 (by decide) ⟨fun hc => ?_, fun hc => ?_⟩
  · have hp := hp.1 hc
    refine a_aload_n C d_out_32 rfl rfl ?_
    refine a_getR C 0 8 d_out_33 rfl rfl rfl (Nat.le_of_ble_eq_true rfl) f_M_31 ⟨Nat.le_of_ble_eq_true rfl, Nat.le_of_ble_eq_true rfl⟩ ?_
    refine a_iload_n C d_out_36 rfl rfl ?_
    refine a_iald C 0 8 d_out_37 rfl rfl rfl hp.1 ?_
    have hp := hp.2
    refine aw_lo (lo' := [some (.ref o), none]) ⟨.inr rfl, .inl rfl, trivial⟩ ?_
    exact s_out_38 C hQ hA hR (S.2.1 8 x1.toNatClampNeg) (upd S.1 0 s1, S.2.1, S.2.2)  hp
  · have hp := hp.2 hc
    refine a_iconst (v := 0) C d_out_28 (by decide) ?_
    refine a_goto (tgt := 38) C d_out_29 (by decide) ?_
    refine aw_lo (lo' := [some (.ref o), none]) ⟨.inr rfl, .inl rfl, trivial⟩ ?_
    exact s_out_38 C hQ hA hR 0 (upd S.1 0 s1, S.2.1, S.2.2)  hp
set_option maxRecDepth 100000 in
set_option maxHeartbeats 1000000 in
theorem s_out_13 (C : fcx gG D z A X R_M c_M_out 2 (some .int)) (hQ : X.2.2.2.2.2.2.2.2.2.2 = eQ gG D z X.2.2.2.2.2.2.2.1 X.2.2.2.2.1 L0 0 0 (pM_i K o ad)) (hA : A = owA gG L0 X.2.2.2.2.1.heap.size) (hR : X.2.2.2.1 = { frames := 1, cells := 1, slots := 6, locals := 100 }) (x1 : Int32) (S : ms) (hp : b_out_13 x1 S K) : aw gG D z A X 2 13 [some (.ref o), some (.int x1)] [.ref o] [(0, ly_M, (o, ad, S.1, S.2.1, S.2.2))] 0 0 := by
  unfold b_out_13 at hp
  refine a_iconst (v := 1) C d_out_13 (by decide) ?_
  refine a_goto (tgt := 18) C d_out_14 (by decide) ?_
  refine aw_lo (lo' := [some (.ref o), some (.int x1)]) ⟨.inr rfl, .inr rfl, trivial⟩ ?_
  exact s_out_18 C hQ hA hR x1 1 S  hp
set_option maxRecDepth 100000 in
set_option maxHeartbeats 1000000 in
theorem s_out_0 (C : fcx gG D z A X R_M c_M_out 2 (some .int)) (hQ : X.2.2.2.2.2.2.2.2.2.2 = eQ gG D z X.2.2.2.2.2.2.2.1 X.2.2.2.2.1 L0 0 0 (pM_i K o ad)) (hA : A = owA gG L0 X.2.2.2.2.1.heap.size) (hR : X.2.2.2.1 = { frames := 1, cells := 1, slots := 6, locals := 100 }) (x1 : Int32) (S : ms) (hp : p_out x1 S K) : aw gG D z A X 2 0 [some (.ref o), some (.int x1)] [] [(0, ly_M, (o, ad, S.1, S.2.1, S.2.2))] 0 0 := by
  unfold p_out at hp
  refine a_aload_n C d_out_0 rfl rfl ?_
  refine a_iload_n C d_out_1 rfl rfl ?_
  refine a_if_lt (tgt := 13) C d_out_2 (by decide) ⟨fun hc => ?_, fun hc => ?_⟩
  · have hp := hp.1 hc
    refine aw_lo (lo' := [some (.ref o), some (.int x1)]) ⟨.inr rfl, .inr rfl, trivial⟩ ?_
    exact s_out_13 C hQ hA hR x1 S  hp
  · have hp := hp.2 hc
    refine a_iload_n C d_out_5 rfl rfl ?_
    refine a_aload_n C d_out_6 rfl rfl ?_
    refine a_getI C 0 9 d_out_7 rfl rfl rfl (Nat.le_of_ble_eq_true rfl) f_M_197 (Nat.le_of_ble_eq_true rfl) ?_
    refine a_icmp_lt (tgt := 17) C d_out_10 (by decide) ⟨fun hc => ?_, fun hc => ?_⟩
    · have hp := hp.1 hc
      refine a_iconst (v := 0) C d_out_17 (by decide) ?_
      refine aw_lo (lo' := [some (.ref o), some (.int x1)]) ⟨.inr rfl, .inr rfl, trivial⟩ ?_
      exact s_out_18 C hQ hA hR x1 0 S  hp
    · have hp := hp.2 hc
      refine aw_lo (lo' := [some (.ref o), some (.int x1)]) ⟨.inr rfl, .inr rfl, trivial⟩ ?_
      exact s_out_13 C hQ hA hR x1 S  hp
end M_out
section M_outc
variable {D : va_G} {z : Nat → ClassId} {o : Nat} {ad : Nat → Nat}
set_option maxRecDepth 100000 in
theorem ct_out {l : Launch} (x1 : Int32) (S : ms) {K : Int32 → ms → Prop} (hp : p_out x1 S K) : ct gG D z l n_M_out c_M_out 2 (some .int) 1 100 [.ref o, .int x1] [(0, ly_M, (o, ad, S.1, S.2.1, S.2.2))] 0 0 (pM_i K o ad) := by
  refine ct_of (lo := [some (.ref o), some (.int x1)]) (by decide) g_ok (Nat.le_of_ble_eq_true rfl) rfl ?_
  intro X A _ C hR hQ hA _
  exact s_out_0 C hQ hA hR x1 S hp
end M_outc
def b_feed_86 (x1 : Int32) (x2 : Int32) (x3 : Int32) (x4 : Int32) (x5 : Int32) (x6 : Int32) (s0 : Int32) (S : ms) (R33 : Int32 → Int32 → Int32 → Int32 → Int32 → Int32 → ms → Prop) (K : Int32 → ms → Prop) : Prop :=
  vp_in (S.1 7) 32768 ∧ (R33 x1 x2 x3 x4 x5 (x6 + 1) (upd S.1 7 ((S.1 7) + 1), va_up S.2.1 6 (upd (S.2.1 6) (S.1 7).toNatClampNeg ((s0 >>> ((24 - (8 * (x6 - x6 / 4 * 4))) &&& 31 : Int32) : Int32) &&& 255)), S.2.2))
def b_feed_33 (x1 : Int32) (x2 : Int32) (x3 : Int32) (x4 : Int32) (x5 : Int32) (x6 : Int32) (S : ms) (R33 : Int32 → Int32 → Int32 → Int32 → Int32 → Int32 → ms → Prop) (K : Int32 → ms → Prop) : Prop :=
  (20 ≤ x6 → (K (S.1 7) S)) ∧ (¬ (20 ≤ x6) → ((4 ≤ x6 → ((8 ≤ x6 → ((12 ≤ x6 → ((16 ≤ x6 → (b_feed_86 x1 x2 x3 x4 x5 x6 x5 S R33 K)) ∧ (¬ (16 ≤ x6) → (b_feed_86 x1 x2 x3 x4 x5 x6 x4 S R33 K)))) ∧ (¬ (12 ≤ x6) → (b_feed_86 x1 x2 x3 x4 x5 x6 x3 S R33 K)))) ∧ (¬ (8 ≤ x6) → (b_feed_86 x1 x2 x3 x4 x5 x6 x2 S R33 K)))) ∧ (¬ (4 ≤ x6) → (b_feed_86 x1 x2 x3 x4 x5 x6 x1 S R33 K))))
def e_feed_33 (x1 : Int32) (x2 : Int32) (x3 : Int32) (x4 : Int32) (x5 : Int32) (x6 : Int32) (S : ms) (K : Int32 → ms → Prop) : Prop :=
  ∃ (I : Int32 → Int32 → Int32 → Int32 → Int32 → Int32 → ms → Prop) (μ : Int32 → Int32 → Int32 → Int32 → Int32 → Int32 → ms → Nat), I x1 x2 x3 x4 x5 x6 S ∧ ∀ yx1 yx2 yx3 yx4 yx5 yx6 yS, I yx1 yx2 yx3 yx4 yx5 yx6 yS → b_feed_33 yx1 yx2 yx3 yx4 yx5 yx6 yS (fun zx1 zx2 zx3 zx4 zx5 zx6 zS => I zx1 zx2 zx3 zx4 zx5 zx6 zS ∧ μ zx1 zx2 zx3 zx4 zx5 zx6 zS < μ yx1 yx2 yx3 yx4 yx5 yx6 yS) K
def b_feed_18 (x1 : Int32) (x2 : Int32) (x3 : Int32) (x4 : Int32) (x5 : Int32) (s1 : Int32) (S : ms) (K : Int32 → ms → Prop) : Prop :=
  (((upd S.1 0 s1) 0) ≤ 0 → (e_feed_33 x1 x2 x3 x4 x5 0 (upd S.1 0 s1, S.2.1, S.2.2) K)) ∧ (¬ (((upd S.1 0 s1) 0) ≤ 0) → (K 0 (upd S.1 0 s1, S.2.1, S.2.2)))
def p_feed (x1 : Int32) (x2 : Int32) (x3 : Int32) (x4 : Int32) (x5 : Int32) (S : ms) (K : Int32 → ms → Prop) : Prop :=
  (((S.1 7) + 20) ≤ 32768 → (b_feed_18 x1 x2 x3 x4 x5 0 S K)) ∧ (¬ (((S.1 7) + 20) ≤ 32768) → (b_feed_18 x1 x2 x3 x4 x5 1 S K))
section M_feed
variable {D : va_G} {z : Nat → ClassId} {A : Nat → Prop} {X : cx} {L0 : fw} {K : Int32 → ms → Prop} {o : Nat} {ad : Nat → Nat}
set_option maxRecDepth 100000 in
set_option maxHeartbeats 1000000 in
theorem s_feed_86 (C : fcx gG D z A X R_M c_M_feed 8 (some .int)) (hQ : X.2.2.2.2.2.2.2.2.2.2 = eQ gG D z X.2.2.2.2.2.2.2.1 X.2.2.2.2.1 L0 0 0 (pM_i K o ad)) (hA : A = owA gG L0 X.2.2.2.2.1.heap.size) (hR : X.2.2.2.1 = { frames := 1, cells := 1, slots := 6, locals := 100 }) (x1 : Int32) (x2 : Int32) (x3 : Int32) (x4 : Int32) (x5 : Int32) (x6 : Int32) (s0 : Int32) (S : ms) (R33 : Int32 → Int32 → Int32 → Int32 → Int32 → Int32 → ms → Prop) (hR33 : ∀ yx1 yx2 yx3 yx4 yx5 yx6 yS, R33 yx1 yx2 yx3 yx4 yx5 yx6 yS → aw gG D z A X 8 33 [some (.ref o), some (.int yx1), some (.int yx2), some (.int yx3), some (.int yx4), some (.int yx5), some (.int yx6), none] [] [(0, ly_M, (o, ad, yS.1, yS.2.1, yS.2.2))] 0 0) (hp : b_feed_86 x1 x2 x3 x4 x5 x6 s0 S R33 K) : aw gG D z A X 8 86 [some (.ref o), some (.int x1), some (.int x2), some (.int x3), some (.int x4), some (.int x5), some (.int x6), none] [.int s0] [(0, ly_M, (o, ad, S.1, S.2.1, S.2.2))] 0 0 := by
  unfold b_feed_86 at hp
  refine a_istore (lo' := [some (.ref o), some (.int x1), some (.int x2), some (.int x3), some (.int x4), some (.int x5), some (.int x6), some (.int s0)]) C d_feed_86 (by decide) rfl ?_
  refine a_aload_n C d_feed_88 rfl rfl ?_
  refine a_getR C 0 6 d_feed_89 rfl rfl rfl (Nat.le_of_ble_eq_true rfl) f_M_27 ⟨Nat.le_of_ble_eq_true rfl, Nat.le_of_ble_eq_true rfl⟩ ?_
  refine a_aload_n C d_feed_92 rfl rfl ?_
  refine a_getI C 0 7 d_feed_93 rfl rfl rfl (Nat.le_of_ble_eq_true rfl) f_M_262 (Nat.le_of_ble_eq_true rfl) ?_
  refine a_iload C d_feed_96 rfl ?_
  refine a_bipush (v := 24) C d_feed_98 (by decide) ?_
  refine a_bipush (v := 8) C d_feed_100 (by decide) ?_
  refine a_iload C d_feed_102 rfl ?_
  refine a_iconst (v := 4) C d_feed_104 (by decide) ?_
  refine a_irem C d_feed_105 (by decide) ?_
  refine a_imul C d_feed_106 ?_
  refine a_isub C d_feed_107 ?_
  refine a_ishr C d_feed_108 ?_
  refine a_sipush (v := 255) C d_feed_109 (by decide) ?_
  refine a_iand C d_feed_112 ?_
  refine a_iast C 0 6 d_feed_113 rfl rfl rfl hp.1 ?_
  have hp := hp.2
  refine aw_eq (lo' := _) (st' := _) (L' := [(0, ly_M, (o, ad, S.1, va_up S.2.1 6 (upd (S.2.1 6) (S.1 7).toNatClampNeg ((s0 >>> ((24 - (8 * (x6 - x6 / 4 * 4))) &&& 31 : Int32) : Int32) &&& 255)), S.2.2))]) rfl rfl rfl ?_
  refine a_aload_n C d_feed_114 rfl rfl ?_
  refine a_dup C d_feed_115 rfl ?_
  refine a_getI C 0 7 d_feed_116 rfl rfl rfl (Nat.le_of_ble_eq_true rfl) f_M_262 (Nat.le_of_ble_eq_true rfl) ?_
  refine a_iconst (v := 1) C d_feed_119 (by decide) ?_
  refine a_iadd C d_feed_120 ?_
  refine a_putI (ty := .int) C 0 7 d_feed_121 rfl rfl rfl (Nat.le_of_ble_eq_true rfl) f_M_262 (Nat.le_of_ble_eq_true rfl) rfl rfl rfl rfl ?_
  refine aw_eq (lo' := _) (st' := _) (L' := [(0, ly_M, (o, ad, upd S.1 7 ((S.1 7) + 1), va_up S.2.1 6 (upd (S.2.1 6) (S.1 7).toNatClampNeg ((s0 >>> ((24 - (8 * (x6 - x6 / 4 * 4))) &&& 31 : Int32) : Int32) &&& 255)), S.2.2))]) rfl rfl rfl ?_
  refine a_iinc (v := x6 + 1) (lo' := [some (.ref o), some (.int x1), some (.int x2), some (.int x3), some (.int x4), some (.int x5), some (.int (x6 + 1)), some (.int s0)]) C d_feed_124 rfl rfl (by decide) rfl ?_
  refine a_goto (tgt := 33) C d_feed_127 (by decide) ?_
  refine aw_lo (lo' := [some (.ref o), some (.int x1), some (.int x2), some (.int x3), some (.int x4), some (.int x5), some (.int (x6 + 1)), none]) ⟨.inr rfl, .inr rfl, .inr rfl, .inr rfl, .inr rfl, .inr rfl, .inr rfl, .inl rfl, trivial⟩ ?_
  exact hR33 x1 x2 x3 x4 x5 (x6 + 1) (upd S.1 7 ((S.1 7) + 1), va_up S.2.1 6 (upd (S.2.1 6) (S.1 7).toNatClampNeg ((s0 >>> ((24 - (8 * (x6 - x6 / 4 * 4))) &&& 31 : Int32) : Int32) &&& 255)), S.2.2) hp
set_option maxRecDepth 100000 in
set_option maxHeartbeats 1000000 in
theorem s_feed_33 (C : fcx gG D z A X R_M c_M_feed 8 (some .int)) (hQ : X.2.2.2.2.2.2.2.2.2.2 = eQ gG D z X.2.2.2.2.2.2.2.1 X.2.2.2.2.1 L0 0 0 (pM_i K o ad)) (hA : A = owA gG L0 X.2.2.2.2.1.heap.size) (hR : X.2.2.2.1 = { frames := 1, cells := 1, slots := 6, locals := 100 }) (x1 : Int32) (x2 : Int32) (x3 : Int32) (x4 : Int32) (x5 : Int32) (x6 : Int32) (S : ms) (R33 : Int32 → Int32 → Int32 → Int32 → Int32 → Int32 → ms → Prop) (hR33 : ∀ yx1 yx2 yx3 yx4 yx5 yx6 yS, R33 yx1 yx2 yx3 yx4 yx5 yx6 yS → aw gG D z A X 8 33 [some (.ref o), some (.int yx1), some (.int yx2), some (.int yx3), some (.int yx4), some (.int yx5), some (.int yx6), none] [] [(0, ly_M, (o, ad, yS.1, yS.2.1, yS.2.2))] 0 0) (hp : b_feed_33 x1 x2 x3 x4 x5 x6 S R33 K) : aw gG D z A X 8 33 [some (.ref o), some (.int x1), some (.int x2), some (.int x3), some (.int x4), some (.int x5), some (.int x6), none] [] [(0, ly_M, (o, ad, S.1, S.2.1, S.2.2))] 0 0 := by
  unfold b_feed_33 at hp
  refine a_iload C d_feed_33 rfl ?_
  refine a_bipush (v := 20) C d_feed_35 (by decide) ?_
  refine a_icmp_ge (tgt := 130) C d_feed_37 (by decide) ⟨fun hc => ?_, fun hc => ?_⟩
  · have hp := hp.1 hc
    refine a_aload_n C d_feed_130 rfl rfl ?_
    refine a_getI C 0 7 d_feed_131 rfl rfl rfl (Nat.le_of_ble_eq_true rfl) f_M_262 (Nat.le_of_ble_eq_true rfl) ?_
    exact a_iret (ty := .int) C hQ hA d_feed_134 rfl rfl ⟨_, S, hp, rfl, rfl⟩
  · have hp := hp.2 hc
    refine a_iload C d_feed_40 rfl ?_
    refine a_iconst (v := 4) C d_feed_42 (by decide) ?_
    refine a_icmp_ge (tgt := 50) C d_feed_43 (by decide) ⟨fun hc => ?_, fun hc => ?_⟩
    · have hp := hp.1 hc
      refine a_iload C d_feed_50 rfl ?_
      refine a_bipush (v := 8) C d_feed_52 (by decide) ?_
      refine a_icmp_ge (tgt := 61) C d_feed_54 (by decide) ⟨fun hc => ?_, fun hc => ?_⟩
      · have hp := hp.1 hc
        refine a_iload C d_feed_61 rfl ?_
        refine a_bipush (v := 12) C d_feed_63 (by decide) ?_
        refine a_icmp_ge (tgt := 72) C d_feed_65 (by decide) ⟨fun hc => ?_, fun hc => ?_⟩
        · have hp := hp.1 hc
          refine a_iload C d_feed_72 rfl ?_
          refine a_bipush (v := 16) C d_feed_74 (by decide) ?_
          refine a_icmp_ge (tgt := 84) C d_feed_76 (by decide) ⟨fun hc => ?_, fun hc => ?_⟩
          · have hp := hp.1 hc
            refine a_iload C d_feed_84 rfl ?_
            refine aw_lo (lo' := [some (.ref o), some (.int x1), some (.int x2), some (.int x3), some (.int x4), some (.int x5), some (.int x6), none]) ⟨.inr rfl, .inr rfl, .inr rfl, .inr rfl, .inr rfl, .inr rfl, .inr rfl, .inr rfl, trivial⟩ ?_
            exact s_feed_86 C hQ hA hR x1 x2 x3 x4 x5 x6 x5 S R33 hR33 hp
          · have hp := hp.2 hc
            refine a_iload C d_feed_79 rfl ?_
            refine a_goto (tgt := 86) C d_feed_81 (by decide) ?_
            refine aw_lo (lo' := [some (.ref o), some (.int x1), some (.int x2), some (.int x3), some (.int x4), some (.int x5), some (.int x6), none]) ⟨.inr rfl, .inr rfl, .inr rfl, .inr rfl, .inr rfl, .inr rfl, .inr rfl, .inr rfl, trivial⟩ ?_
            exact s_feed_86 C hQ hA hR x1 x2 x3 x4 x5 x6 x4 S R33 hR33 hp
        · have hp := hp.2 hc
          refine a_iload_n C d_feed_68 rfl rfl ?_
          refine a_goto (tgt := 86) C d_feed_69 (by decide) ?_
          refine aw_lo (lo' := [some (.ref o), some (.int x1), some (.int x2), some (.int x3), some (.int x4), some (.int x5), some (.int x6), none]) ⟨.inr rfl, .inr rfl, .inr rfl, .inr rfl, .inr rfl, .inr rfl, .inr rfl, .inr rfl, trivial⟩ ?_
          exact s_feed_86 C hQ hA hR x1 x2 x3 x4 x5 x6 x3 S R33 hR33 hp
      · have hp := hp.2 hc
        refine a_iload_n C d_feed_57 rfl rfl ?_
        refine a_goto (tgt := 86) C d_feed_58 (by decide) ?_
        refine aw_lo (lo' := [some (.ref o), some (.int x1), some (.int x2), some (.int x3), some (.int x4), some (.int x5), some (.int x6), none]) ⟨.inr rfl, .inr rfl, .inr rfl, .inr rfl, .inr rfl, .inr rfl, .inr rfl, .inr rfl, trivial⟩ ?_
        exact s_feed_86 C hQ hA hR x1 x2 x3 x4 x5 x6 x2 S R33 hR33 hp
    · have hp := hp.2 hc
      refine a_iload_n C d_feed_46 rfl rfl ?_
      refine a_goto (tgt := 86) C d_feed_47 (by decide) ?_
      refine aw_lo (lo' := [some (.ref o), some (.int x1), some (.int x2), some (.int x3), some (.int x4), some (.int x5), some (.int x6), none]) ⟨.inr rfl, .inr rfl, .inr rfl, .inr rfl, .inr rfl, .inr rfl, .inr rfl, .inr rfl, trivial⟩ ?_
      exact s_feed_86 C hQ hA hR x1 x2 x3 x4 x5 x6 x1 S R33 hR33 hp
set_option maxRecDepth 100000 in
set_option maxHeartbeats 1000000 in
theorem se_feed_33 (C : fcx gG D z A X R_M c_M_feed 8 (some .int)) (hQ : X.2.2.2.2.2.2.2.2.2.2 = eQ gG D z X.2.2.2.2.2.2.2.1 X.2.2.2.2.1 L0 0 0 (pM_i K o ad)) (hA : A = owA gG L0 X.2.2.2.2.1.heap.size) (hR : X.2.2.2.1 = { frames := 1, cells := 1, slots := 6, locals := 100 }) (x1 : Int32) (x2 : Int32) (x3 : Int32) (x4 : Int32) (x5 : Int32) (x6 : Int32) (S : ms) (hp : e_feed_33 x1 x2 x3 x4 x5 x6 S K) : aw gG D z A X 8 33 [some (.ref o), some (.int x1), some (.int x2), some (.int x3), some (.int x4), some (.int x5), some (.int x6), none] [] [(0, ly_M, (o, ad, S.1, S.2.1, S.2.2))] 0 0 := by
  obtain ⟨I, μ, h0, hs⟩ := hp
  have key : ∀ (n : Nat) (yx1 : Int32) (yx2 : Int32) (yx3 : Int32) (yx4 : Int32) (yx5 : Int32) (yx6 : Int32) (yS : ms), μ yx1 yx2 yx3 yx4 yx5 yx6 yS < n → I yx1 yx2 yx3 yx4 yx5 yx6 yS → aw gG D z A X 8 33 [some (.ref o), some (.int yx1), some (.int yx2), some (.int yx3), some (.int yx4), some (.int yx5), some (.int yx6), none] [] [(0, ly_M, (o, ad, yS.1, yS.2.1, yS.2.2))] 0 0 := by
    intro n
    induction n with
    | zero => intro yx1 yx2 yx3 yx4 yx5 yx6 yS h; omega
    | succ n ih =>
      intro yx1 yx2 yx3 yx4 yx5 yx6 yS hn hI
      exact s_feed_33 C hQ hA hR yx1 yx2 yx3 yx4 yx5 yx6 yS _ (fun zx1 zx2 zx3 zx4 zx5 zx6 zS hw => ih zx1 zx2 zx3 zx4 zx5 zx6 zS (by omega) hw.1) (hs yx1 yx2 yx3 yx4 yx5 yx6 yS hI)
  exact key (μ x1 x2 x3 x4 x5 x6 S + 1) x1 x2 x3 x4 x5 x6 S (Nat.lt_succ_self _) h0
set_option maxRecDepth 100000 in
set_option maxHeartbeats 1000000 in
theorem s_feed_18 (C : fcx gG D z A X R_M c_M_feed 8 (some .int)) (hQ : X.2.2.2.2.2.2.2.2.2.2 = eQ gG D z X.2.2.2.2.2.2.2.1 X.2.2.2.2.1 L0 0 0 (pM_i K o ad)) (hA : A = owA gG L0 X.2.2.2.2.1.heap.size) (hR : X.2.2.2.1 = { frames := 1, cells := 1, slots := 6, locals := 100 }) (x1 : Int32) (x2 : Int32) (x3 : Int32) (x4 : Int32) (x5 : Int32) (s1 : Int32) (S : ms) (hp : b_feed_18 x1 x2 x3 x4 x5 s1 S K) : aw gG D z A X 8 18 [some (.ref o), some (.int x1), some (.int x2), some (.int x3), some (.int x4), some (.int x5), none, none] [.int s1, .ref o] [(0, ly_M, (o, ad, S.1, S.2.1, S.2.2))] 0 0 := by
  unfold b_feed_18 at hp
  refine a_putI (ty := .int) C 0 0 d_feed_18 rfl rfl rfl (Nat.le_of_ble_eq_true rfl) f_M_146 (Nat.le_of_ble_eq_true rfl) rfl rfl rfl rfl ?_
  refine aw_eq (lo' := _) (st' := _) (L' := [(0, ly_M, (o, ad, upd S.1 0 s1, S.2.1, S.2.2))]) rfl rfl rfl ?_
  refine a_aload_n C d_feed_21 rfl rfl ?_
  refine a_getI C 0 0 d_feed_22 rfl rfl rfl (Nat.le_of_ble_eq_true rfl) f_M_146 (Nat.le_of_ble_eq_true rfl) ?_
  refine a_if_le (tgt := 30) C d_feed_25 (by decide) ⟨fun hc => ?_, fun hc => ?_⟩
  · have hp := hp.1 hc
    refine a_iconst (v := 0) C d_feed_30 (by decide) ?_
    refine a_istore (lo' := [some (.ref o), some (.int x1), some (.int x2), some (.int x3), some (.int x4), some (.int x5), some (.int 0), none]) C d_feed_31 (by decide) rfl ?_
    refine aw_lo (lo' := [some (.ref o), some (.int x1), some (.int x2), some (.int x3), some (.int x4), some (.int x5), some (.int 0), none]) ⟨.inr rfl, .inr rfl, .inr rfl, .inr rfl, .inr rfl, .inr rfl, .inr rfl, .inr rfl, trivial⟩ ?_
    exact se_feed_33 C hQ hA hR x1 x2 x3 x4 x5 0 (upd S.1 0 s1, S.2.1, S.2.2)  hp
  · have hp := hp.2 hc
    refine a_iconst (v := 0) C d_feed_28 (by decide) ?_
    exact a_iret (ty := .int) C hQ hA d_feed_29 rfl rfl ⟨_, (upd S.1 0 s1, S.2.1, S.2.2), hp, rfl, rfl⟩
set_option maxRecDepth 100000 in
set_option maxHeartbeats 1000000 in
theorem s_feed_0 (C : fcx gG D z A X R_M c_M_feed 8 (some .int)) (hQ : X.2.2.2.2.2.2.2.2.2.2 = eQ gG D z X.2.2.2.2.2.2.2.1 X.2.2.2.2.1 L0 0 0 (pM_i K o ad)) (hA : A = owA gG L0 X.2.2.2.2.1.heap.size) (hR : X.2.2.2.1 = { frames := 1, cells := 1, slots := 6, locals := 100 }) (x1 : Int32) (x2 : Int32) (x3 : Int32) (x4 : Int32) (x5 : Int32) (S : ms) (hp : p_feed x1 x2 x3 x4 x5 S K) : aw gG D z A X 8 0 [some (.ref o), some (.int x1), some (.int x2), some (.int x3), some (.int x4), some (.int x5), none, none] [] [(0, ly_M, (o, ad, S.1, S.2.1, S.2.2))] 0 0 := by
  unfold p_feed at hp
  refine a_aload_n C d_feed_0 rfl rfl ?_
  refine a_aload_n C d_feed_1 rfl rfl ?_
  refine a_getI C 0 7 d_feed_2 rfl rfl rfl (Nat.le_of_ble_eq_true rfl) f_M_262 (Nat.le_of_ble_eq_true rfl) ?_
  refine a_bipush (v := 20) C d_feed_5 (by decide) ?_
  refine a_iadd C d_feed_7 ?_
  refine a_ldc (v := 32768) C d_feed_8 k_M_26 ?_
  refine a_icmp_le (tgt := 17) C d_feed_10 (by decide) ⟨fun hc => ?_, fun hc => ?_⟩
  · have hp := hp.1 hc
    refine a_iconst (v := 0) C d_feed_17 (by decide) ?_
    refine aw_lo (lo' := [some (.ref o), some (.int x1), some (.int x2), some (.int x3), some (.int x4), some (.int x5), none, none]) ⟨.inr rfl, .inr rfl, .inr rfl, .inr rfl, .inr rfl, .inr rfl, .inr rfl, .inr rfl, trivial⟩ ?_
    exact s_feed_18 C hQ hA hR x1 x2 x3 x4 x5 0 S  hp
  · have hp := hp.2 hc
    refine a_iconst (v := 1) C d_feed_13 (by decide) ?_
    refine a_goto (tgt := 18) C d_feed_14 (by decide) ?_
    refine aw_lo (lo' := [some (.ref o), some (.int x1), some (.int x2), some (.int x3), some (.int x4), some (.int x5), none, none]) ⟨.inr rfl, .inr rfl, .inr rfl, .inr rfl, .inr rfl, .inr rfl, .inr rfl, .inr rfl, trivial⟩ ?_
    exact s_feed_18 C hQ hA hR x1 x2 x3 x4 x5 1 S  hp
end M_feed
section M_feedc
variable {D : va_G} {z : Nat → ClassId} {o : Nat} {ad : Nat → Nat}
set_option maxRecDepth 100000 in
theorem ct_feed {l : Launch} (x1 : Int32) (x2 : Int32) (x3 : Int32) (x4 : Int32) (x5 : Int32) (S : ms) {K : Int32 → ms → Prop} (hp : p_feed x1 x2 x3 x4 x5 S K) : ct gG D z l n_M_feed c_M_feed 8 (some .int) 1 100 [.ref o, .int x1, .int x2, .int x3, .int x4, .int x5] [(0, ly_M, (o, ad, S.1, S.2.1, S.2.2))] 0 0 (pM_i K o ad) := by
  refine ct_of (lo := [some (.ref o), some (.int x1), some (.int x2), some (.int x3), some (.int x4), some (.int x5), none, none]) (by decide) g_ok (Nat.le_of_ble_eq_true rfl) rfl ?_
  intro X A _ C hR hQ hA _
  exact s_feed_0 C hQ hA hR x1 x2 x3 x4 x5 S hp
end M_feedc
def b_end_37 (s1 : Int32) (S : ms) (K : ms → Prop) : Prop :=
  K (upd S.1 7 s1, S.2.1, S.2.2)
def b_end_18 (x1 : Int32) (s1 : Int32) (S : ms) (K : ms → Prop) : Prop :=
  (((upd S.1 0 s1) 0) ≤ 0 → (b_end_37 x1 (upd S.1 0 s1, S.2.1, S.2.2) K)) ∧ (¬ (((upd S.1 0 s1) 0) ≤ 0) → (b_end_37 ((upd S.1 0 s1) 7) (upd S.1 0 s1, S.2.1, S.2.2) K))
def b_end_13 (x1 : Int32) (S : ms) (K : ms → Prop) : Prop :=
  b_end_18 x1 1 S K
def p_end (x1 : Int32) (S : ms) (K : ms → Prop) : Prop :=
  (x1 < 0 → (b_end_13 x1 S K)) ∧ (¬ (x1 < 0) → ((x1 ≤ (S.1 7) → (b_end_18 x1 0 S K)) ∧ (¬ (x1 ≤ (S.1 7)) → (b_end_13 x1 S K))))
section M_end
variable {D : va_G} {z : Nat → ClassId} {A : Nat → Prop} {X : cx} {L0 : fw} {K : ms → Prop} {o : Nat} {ad : Nat → Nat}
set_option maxRecDepth 100000 in
set_option maxHeartbeats 1000000 in
theorem s_end_37 (C : fcx gG D z A X R_M c_M_end 2 (none)) (hQ : X.2.2.2.2.2.2.2.2.2.2 = eQ gG D z X.2.2.2.2.2.2.2.1 X.2.2.2.2.1 L0 0 0 (pM_v K o ad)) (hA : A = owA gG L0 X.2.2.2.2.1.heap.size) (hR : X.2.2.2.1 = { frames := 1, cells := 1, slots := 6, locals := 100 }) (s1 : Int32) (S : ms) (hp : b_end_37 s1 S K) : aw gG D z A X 2 37 [some (.ref o), none] [.int s1, .ref o] [(0, ly_M, (o, ad, S.1, S.2.1, S.2.2))] 0 0 := by
  unfold b_end_37 at hp
  refine a_putI (ty := .int) C 0 7 d_end_37 rfl rfl rfl (Nat.le_of_ble_eq_true rfl) f_M_262 (Nat.le_of_ble_eq_true rfl) rfl rfl rfl rfl ?_
  refine aw_eq (lo' := _) (st' := _) (L' := [(0, ly_M, (o, ad, upd S.1 7 s1, S.2.1, S.2.2))]) rfl rfl rfl ?_
  exact a_vret C hQ hA d_end_40 rfl ⟨(upd S.1 7 s1, S.2.1, S.2.2), hp, rfl, rfl⟩
set_option maxRecDepth 100000 in
set_option maxHeartbeats 1000000 in
theorem s_end_18 (C : fcx gG D z A X R_M c_M_end 2 (none)) (hQ : X.2.2.2.2.2.2.2.2.2.2 = eQ gG D z X.2.2.2.2.2.2.2.1 X.2.2.2.2.1 L0 0 0 (pM_v K o ad)) (hA : A = owA gG L0 X.2.2.2.2.1.heap.size) (hR : X.2.2.2.1 = { frames := 1, cells := 1, slots := 6, locals := 100 }) (x1 : Int32) (s1 : Int32) (S : ms) (hp : b_end_18 x1 s1 S K) : aw gG D z A X 2 18 [some (.ref o), some (.int x1)] [.int s1, .ref o] [(0, ly_M, (o, ad, S.1, S.2.1, S.2.2))] 0 0 := by
  unfold b_end_18 at hp
  refine a_putI (ty := .int) C 0 0 d_end_18 rfl rfl rfl (Nat.le_of_ble_eq_true rfl) f_M_146 (Nat.le_of_ble_eq_true rfl) rfl rfl rfl rfl ?_
  refine aw_eq (lo' := _) (st' := _) (L' := [(0, ly_M, (o, ad, upd S.1 0 s1, S.2.1, S.2.2))]) rfl rfl rfl ?_
  refine a_aload_n C d_end_21 rfl rfl ?_
  refine a_aload_n C d_end_22 rfl rfl ?_
  refine a_getI C 0 0 d_end_23 rfl rfl rfl (Nat.le_of_ble_eq_true rfl) f_M_146 (Nat.le_of_ble_eq_true rfl) ?_
  refine a_if_le (tgt := 36) C d_end_26 (by decide) ⟨fun hc => ?_, fun hc => ?_⟩
  · have hp := hp.1 hc
    refine a_iload_n C d_end_36 rfl rfl ?_
    refine aw_lo (lo' := [some (.ref o), none]) ⟨.inr rfl, .inl rfl, trivial⟩ ?_
    exact s_end_37 C hQ hA hR x1 (upd S.1 0 s1, S.2.1, S.2.2)  hp
  · have hp := hp.2 hc
    refine a_aload_n C d_end_29 rfl rfl ?_
    refine a_getI C 0 7 d_end_30 rfl rfl rfl (Nat.le_of_ble_eq_true rfl) f_M_262 (Nat.le_of_ble_eq_true rfl) ?_
    refine a_goto (tgt := 37) C d_end_33 (by decide) ?_
    refine aw_lo (lo' := [some (.ref o), none]) ⟨.inr rfl, .inl rfl, trivial⟩ ?_
    exact s_end_37 C hQ hA hR ((upd S.1 0 s1) 7) (upd S.1 0 s1, S.2.1, S.2.2)  hp
set_option maxRecDepth 100000 in
set_option maxHeartbeats 1000000 in
theorem s_end_13 (C : fcx gG D z A X R_M c_M_end 2 (none)) (hQ : X.2.2.2.2.2.2.2.2.2.2 = eQ gG D z X.2.2.2.2.2.2.2.1 X.2.2.2.2.1 L0 0 0 (pM_v K o ad)) (hA : A = owA gG L0 X.2.2.2.2.1.heap.size) (hR : X.2.2.2.1 = { frames := 1, cells := 1, slots := 6, locals := 100 }) (x1 : Int32) (S : ms) (hp : b_end_13 x1 S K) : aw gG D z A X 2 13 [some (.ref o), some (.int x1)] [.ref o] [(0, ly_M, (o, ad, S.1, S.2.1, S.2.2))] 0 0 := by
  unfold b_end_13 at hp
  refine a_iconst (v := 1) C d_end_13 (by decide) ?_
  refine a_goto (tgt := 18) C d_end_14 (by decide) ?_
  refine aw_lo (lo' := [some (.ref o), some (.int x1)]) ⟨.inr rfl, .inr rfl, trivial⟩ ?_
  exact s_end_18 C hQ hA hR x1 1 S  hp
set_option maxRecDepth 100000 in
set_option maxHeartbeats 1000000 in
theorem s_end_0 (C : fcx gG D z A X R_M c_M_end 2 (none)) (hQ : X.2.2.2.2.2.2.2.2.2.2 = eQ gG D z X.2.2.2.2.2.2.2.1 X.2.2.2.2.1 L0 0 0 (pM_v K o ad)) (hA : A = owA gG L0 X.2.2.2.2.1.heap.size) (hR : X.2.2.2.1 = { frames := 1, cells := 1, slots := 6, locals := 100 }) (x1 : Int32) (S : ms) (hp : p_end x1 S K) : aw gG D z A X 2 0 [some (.ref o), some (.int x1)] [] [(0, ly_M, (o, ad, S.1, S.2.1, S.2.2))] 0 0 := by
  unfold p_end at hp
  refine a_aload_n C d_end_0 rfl rfl ?_
  refine a_iload_n C d_end_1 rfl rfl ?_
  refine a_if_lt (tgt := 13) C d_end_2 (by decide) ⟨fun hc => ?_, fun hc => ?_⟩
  · have hp := hp.1 hc
    refine aw_lo (lo' := [some (.ref o), some (.int x1)]) ⟨.inr rfl, .inr rfl, trivial⟩ ?_
    exact s_end_13 C hQ hA hR x1 S  hp
  · have hp := hp.2 hc
    refine a_iload_n C d_end_5 rfl rfl ?_
    refine a_aload_n C d_end_6 rfl rfl ?_
    refine a_getI C 0 7 d_end_7 rfl rfl rfl (Nat.le_of_ble_eq_true rfl) f_M_262 (Nat.le_of_ble_eq_true rfl) ?_
    refine a_icmp_le (tgt := 17) C d_end_10 (by decide) ⟨fun hc => ?_, fun hc => ?_⟩
    · have hp := hp.1 hc
      refine a_iconst (v := 0) C d_end_17 (by decide) ?_
      refine aw_lo (lo' := [some (.ref o), some (.int x1)]) ⟨.inr rfl, .inr rfl, trivial⟩ ?_
      exact s_end_18 C hQ hA hR x1 0 S  hp
    · have hp := hp.2 hc
      refine aw_lo (lo' := [some (.ref o), some (.int x1)]) ⟨.inr rfl, .inr rfl, trivial⟩ ?_
      exact s_end_13 C hQ hA hR x1 S  hp
end M_end
section M_endc
variable {D : va_G} {z : Nat → ClassId} {o : Nat} {ad : Nat → Nat}
set_option maxRecDepth 100000 in
theorem ct_end {l : Launch} (x1 : Int32) (S : ms) {K : ms → Prop} (hp : p_end x1 S K) : ct gG D z l n_M_end c_M_end 2 (none) 1 100 [.ref o, .int x1] [(0, ly_M, (o, ad, S.1, S.2.1, S.2.2))] 0 0 (pM_v K o ad) := by
  refine ct_of (lo := [some (.ref o), some (.int x1)]) (by decide) g_ok (Nat.le_of_ble_eq_true rfl) rfl ?_
  intro X A _ C hR hQ hA _
  exact s_end_0 C hQ hA hR x1 S hp
end M_endc
def b_change_33 (x1 : Int32) (x2 : Int32) (s1 : Int32) (S : ms) (K : Int32 → ms → Prop) : Prop :=
  (((upd S.1 0 s1) 0) ≤ 0 → (vp_in x1 32768 ∧ (vp_in x1 32768 ∧ (vp_in x1 32768 ∧ (K ((va_up S.2.1 6 (upd (S.2.1 6) x1.toNatClampNeg ((S.2.1 6 x1.toNatClampNeg) ^^^ x2))) 6 x1.toNatClampNeg) (upd S.1 0 s1, va_up S.2.1 6 (upd (S.2.1 6) x1.toNatClampNeg ((S.2.1 6 x1.toNatClampNeg) ^^^ x2)), S.2.2)))))) ∧ (¬ (((upd S.1 0 s1) 0) ≤ 0) → (K 0 (upd S.1 0 s1, S.2.1, S.2.2)))
def b_change_28 (x1 : Int32) (x2 : Int32) (S : ms) (K : Int32 → ms → Prop) : Prop :=
  b_change_33 x1 x2 2 S K
def b_change_13 (x1 : Int32) (x2 : Int32) (S : ms) (K : Int32 → ms → Prop) : Prop :=
  b_change_33 x1 x2 1 S K
def p_change (x1 : Int32) (x2 : Int32) (S : ms) (K : Int32 → ms → Prop) : Prop :=
  (x1 < 0 → (b_change_13 x1 x2 S K)) ∧ (¬ (x1 < 0) → ((x1 < (S.1 7) → ((x2 < 0 → (b_change_28 x1 x2 S K)) ∧ (¬ (x2 < 0) → ((x2 ≤ 255 → (b_change_33 x1 x2 0 S K)) ∧ (¬ (x2 ≤ 255) → (b_change_28 x1 x2 S K)))))) ∧ (¬ (x1 < (S.1 7)) → (b_change_13 x1 x2 S K))))
section M_change
variable {D : va_G} {z : Nat → ClassId} {A : Nat → Prop} {X : cx} {L0 : fw} {K : Int32 → ms → Prop} {o : Nat} {ad : Nat → Nat}
set_option maxRecDepth 100000 in
set_option maxHeartbeats 1000000 in
theorem s_change_33 (C : fcx gG D z A X R_M c_M_change 3 (some .int)) (hQ : X.2.2.2.2.2.2.2.2.2.2 = eQ gG D z X.2.2.2.2.2.2.2.1 X.2.2.2.2.1 L0 0 0 (pM_i K o ad)) (hA : A = owA gG L0 X.2.2.2.2.1.heap.size) (hR : X.2.2.2.1 = { frames := 1, cells := 1, slots := 6, locals := 100 }) (x1 : Int32) (x2 : Int32) (s1 : Int32) (S : ms) (hp : b_change_33 x1 x2 s1 S K) : aw gG D z A X 3 33 [some (.ref o), some (.int x1), some (.int x2)] [.int s1, .ref o] [(0, ly_M, (o, ad, S.1, S.2.1, S.2.2))] 0 0 := by
  unfold b_change_33 at hp
  refine a_putI (ty := .int) C 0 0 d_change_33 rfl rfl rfl (Nat.le_of_ble_eq_true rfl) f_M_146 (Nat.le_of_ble_eq_true rfl) rfl rfl rfl rfl ?_
  refine aw_eq (lo' := _) (st' := _) (L' := [(0, ly_M, (o, ad, upd S.1 0 s1, S.2.1, S.2.2))]) rfl rfl rfl ?_
  refine a_aload_n C d_change_36 rfl rfl ?_
  refine a_getI C 0 0 d_change_37 rfl rfl rfl (Nat.le_of_ble_eq_true rfl) f_M_146 (Nat.le_of_ble_eq_true rfl) ?_
  refine a_if_le (tgt := 45) C d_change_40 (by decide) ⟨fun hc => ?_, fun hc => ?_⟩
  · have hp := hp.1 hc
    refine a_aload_n C d_change_45 rfl rfl ?_
    refine a_getR C 0 6 d_change_46 rfl rfl rfl (Nat.le_of_ble_eq_true rfl) f_M_27 ⟨Nat.le_of_ble_eq_true rfl, Nat.le_of_ble_eq_true rfl⟩ ?_
    refine a_iload_n C d_change_49 rfl rfl ?_
    refine a_aload_n C d_change_50 rfl rfl ?_
    refine a_getR C 0 6 d_change_51 rfl rfl rfl (Nat.le_of_ble_eq_true rfl) f_M_27 ⟨Nat.le_of_ble_eq_true rfl, Nat.le_of_ble_eq_true rfl⟩ ?_
    refine a_iload_n C d_change_54 rfl rfl ?_
    refine a_iald C 0 6 d_change_55 rfl rfl rfl hp.1 ?_
    have hp := hp.2
    refine a_iload_n C d_change_56 rfl rfl ?_
    refine a_ixor C d_change_57 ?_
    refine a_iast C 0 6 d_change_58 rfl rfl rfl hp.1 ?_
    have hp := hp.2
    refine aw_eq (lo' := _) (st' := _) (L' := [(0, ly_M, (o, ad, upd S.1 0 s1, va_up S.2.1 6 (upd (S.2.1 6) x1.toNatClampNeg ((S.2.1 6 x1.toNatClampNeg) ^^^ x2)), S.2.2))]) rfl rfl rfl ?_
    refine a_aload_n C d_change_59 rfl rfl ?_
    refine a_getR C 0 6 d_change_60 rfl rfl rfl (Nat.le_of_ble_eq_true rfl) f_M_27 ⟨Nat.le_of_ble_eq_true rfl, Nat.le_of_ble_eq_true rfl⟩ ?_
    refine a_iload_n C d_change_63 rfl rfl ?_
    refine a_iald C 0 6 d_change_64 rfl rfl rfl hp.1 ?_
    have hp := hp.2
    exact a_iret (ty := .int) C hQ hA d_change_65 rfl rfl ⟨_, (upd S.1 0 s1, va_up S.2.1 6 (upd (S.2.1 6) x1.toNatClampNeg ((S.2.1 6 x1.toNatClampNeg) ^^^ x2)), S.2.2), hp, rfl, rfl⟩
  · have hp := hp.2 hc
    refine a_iconst (v := 0) C d_change_43 (by decide) ?_
    exact a_iret (ty := .int) C hQ hA d_change_44 rfl rfl ⟨_, (upd S.1 0 s1, S.2.1, S.2.2), hp, rfl, rfl⟩
set_option maxRecDepth 100000 in
set_option maxHeartbeats 1000000 in
theorem s_change_28 (C : fcx gG D z A X R_M c_M_change 3 (some .int)) (hQ : X.2.2.2.2.2.2.2.2.2.2 = eQ gG D z X.2.2.2.2.2.2.2.1 X.2.2.2.2.1 L0 0 0 (pM_i K o ad)) (hA : A = owA gG L0 X.2.2.2.2.1.heap.size) (hR : X.2.2.2.1 = { frames := 1, cells := 1, slots := 6, locals := 100 }) (x1 : Int32) (x2 : Int32) (S : ms) (hp : b_change_28 x1 x2 S K) : aw gG D z A X 3 28 [some (.ref o), some (.int x1), some (.int x2)] [.ref o] [(0, ly_M, (o, ad, S.1, S.2.1, S.2.2))] 0 0 := by
  unfold b_change_28 at hp
  refine a_iconst (v := 2) C d_change_28 (by decide) ?_
  refine a_goto (tgt := 33) C d_change_29 (by decide) ?_
  refine aw_lo (lo' := [some (.ref o), some (.int x1), some (.int x2)]) ⟨.inr rfl, .inr rfl, .inr rfl, trivial⟩ ?_
  exact s_change_33 C hQ hA hR x1 x2 2 S  hp
set_option maxRecDepth 100000 in
set_option maxHeartbeats 1000000 in
theorem s_change_13 (C : fcx gG D z A X R_M c_M_change 3 (some .int)) (hQ : X.2.2.2.2.2.2.2.2.2.2 = eQ gG D z X.2.2.2.2.2.2.2.1 X.2.2.2.2.1 L0 0 0 (pM_i K o ad)) (hA : A = owA gG L0 X.2.2.2.2.1.heap.size) (hR : X.2.2.2.1 = { frames := 1, cells := 1, slots := 6, locals := 100 }) (x1 : Int32) (x2 : Int32) (S : ms) (hp : b_change_13 x1 x2 S K) : aw gG D z A X 3 13 [some (.ref o), some (.int x1), some (.int x2)] [.ref o] [(0, ly_M, (o, ad, S.1, S.2.1, S.2.2))] 0 0 := by
  unfold b_change_13 at hp
  refine a_iconst (v := 1) C d_change_13 (by decide) ?_
  refine a_goto (tgt := 33) C d_change_14 (by decide) ?_
  refine aw_lo (lo' := [some (.ref o), some (.int x1), some (.int x2)]) ⟨.inr rfl, .inr rfl, .inr rfl, trivial⟩ ?_
  exact s_change_33 C hQ hA hR x1 x2 1 S  hp
set_option maxRecDepth 100000 in
set_option maxHeartbeats 1000000 in
theorem s_change_0 (C : fcx gG D z A X R_M c_M_change 3 (some .int)) (hQ : X.2.2.2.2.2.2.2.2.2.2 = eQ gG D z X.2.2.2.2.2.2.2.1 X.2.2.2.2.1 L0 0 0 (pM_i K o ad)) (hA : A = owA gG L0 X.2.2.2.2.1.heap.size) (hR : X.2.2.2.1 = { frames := 1, cells := 1, slots := 6, locals := 100 }) (x1 : Int32) (x2 : Int32) (S : ms) (hp : p_change x1 x2 S K) : aw gG D z A X 3 0 [some (.ref o), some (.int x1), some (.int x2)] [] [(0, ly_M, (o, ad, S.1, S.2.1, S.2.2))] 0 0 := by
  unfold p_change at hp
  refine a_aload_n C d_change_0 rfl rfl ?_
  refine a_iload_n C d_change_1 rfl rfl ?_
  refine a_if_lt (tgt := 13) C d_change_2 (by decide) ⟨fun hc => ?_, fun hc => ?_⟩
  · have hp := hp.1 hc
    refine aw_lo (lo' := [some (.ref o), some (.int x1), some (.int x2)]) ⟨.inr rfl, .inr rfl, .inr rfl, trivial⟩ ?_
    exact s_change_13 C hQ hA hR x1 x2 S  hp
  · have hp := hp.2 hc
    refine a_iload_n C d_change_5 rfl rfl ?_
    refine a_aload_n C d_change_6 rfl rfl ?_
    refine a_getI C 0 7 d_change_7 rfl rfl rfl (Nat.le_of_ble_eq_true rfl) f_M_262 (Nat.le_of_ble_eq_true rfl) ?_
    refine a_icmp_lt (tgt := 17) C d_change_10 (by decide) ⟨fun hc => ?_, fun hc => ?_⟩
    · have hp := hp.1 hc
      refine a_iload_n C d_change_17 rfl rfl ?_
      refine a_if_lt (tgt := 28) C d_change_18 (by decide) ⟨fun hc => ?_, fun hc => ?_⟩
      · have hp := hp.1 hc
        refine aw_lo (lo' := [some (.ref o), some (.int x1), some (.int x2)]) ⟨.inr rfl, .inr rfl, .inr rfl, trivial⟩ ?_
        exact s_change_28 C hQ hA hR x1 x2 S  hp
      · have hp := hp.2 hc
        refine a_iload_n C d_change_21 rfl rfl ?_
        refine a_sipush (v := 255) C d_change_22 (by decide) ?_
        refine a_icmp_le (tgt := 32) C d_change_25 (by decide) ⟨fun hc => ?_, fun hc => ?_⟩
        · have hp := hp.1 hc
          refine a_iconst (v := 0) C d_change_32 (by decide) ?_
          refine aw_lo (lo' := [some (.ref o), some (.int x1), some (.int x2)]) ⟨.inr rfl, .inr rfl, .inr rfl, trivial⟩ ?_
          exact s_change_33 C hQ hA hR x1 x2 0 S  hp
        · have hp := hp.2 hc
          refine aw_lo (lo' := [some (.ref o), some (.int x1), some (.int x2)]) ⟨.inr rfl, .inr rfl, .inr rfl, trivial⟩ ?_
          exact s_change_28 C hQ hA hR x1 x2 S  hp
    · have hp := hp.2 hc
      refine aw_lo (lo' := [some (.ref o), some (.int x1), some (.int x2)]) ⟨.inr rfl, .inr rfl, .inr rfl, trivial⟩ ?_
      exact s_change_13 C hQ hA hR x1 x2 S  hp
end M_change
section M_changec
variable {D : va_G} {z : Nat → ClassId} {o : Nat} {ad : Nat → Nat}
set_option maxRecDepth 100000 in
theorem ct_change {l : Launch} (x1 : Int32) (x2 : Int32) (S : ms) {K : Int32 → ms → Prop} (hp : p_change x1 x2 S K) : ct gG D z l n_M_change c_M_change 3 (some .int) 1 100 [.ref o, .int x1, .int x2] [(0, ly_M, (o, ad, S.1, S.2.1, S.2.2))] 0 0 (pM_i K o ad) := by
  refine ct_of (lo := [some (.ref o), some (.int x1), some (.int x2)]) (by decide) g_ok (Nat.le_of_ble_eq_true rfl) rfl ?_
  intro X A _ C hR hQ hA _
  exact s_change_0 C hQ hA hR x1 x2 S hp
end M_changec
def b_turn2_29 (x1 : Int32) (S : ms) (R29 : Int32 → ms → Prop) (K : Int32 → ms → Prop) : Prop :=
  ((S.1 9) ≤ x1 → (K ((upd S.1 7 (S.1 9)) 7) (upd S.1 7 (S.1 9), S.2.1, S.2.2))) ∧ (¬ ((S.1 9) ≤ x1) → (vp_in x1 65536 ∧ (vp_in x1 32768 ∧ (R29 (x1 + 1) (S.1, va_up S.2.1 6 (upd (S.2.1 6) x1.toNatClampNeg (S.2.1 8 x1.toNatClampNeg)), S.2.2)))))
def e_turn2_29 (x1 : Int32) (S : ms) (K : Int32 → ms → Prop) : Prop :=
  ∃ (I : Int32 → ms → Prop) (μ : Int32 → ms → Nat), I x1 S ∧ ∀ yx1 yS, I yx1 yS → b_turn2_29 yx1 yS (fun zx1 zS => I zx1 zS ∧ μ zx1 zS < μ yx1 yS) K
def b_turn2_15 (s1 : Int32) (S : ms) (K : Int32 → ms → Prop) : Prop :=
  (((upd S.1 0 s1) 0) ≤ 0 → (e_turn2_29 0 (upd S.1 0 s1, S.2.1, S.2.2) K)) ∧ (¬ (((upd S.1 0 s1) 0) ≤ 0) → (K 0 (upd S.1 0 s1, S.2.1, S.2.2)))
def p_turn2  (S : ms) (K : Int32 → ms → Prop) : Prop :=
  ((S.1 9) ≤ 32768 → (b_turn2_15 0 S K)) ∧ (¬ ((S.1 9) ≤ 32768) → (b_turn2_15 1 S K))
section M_turn2
variable {D : va_G} {z : Nat → ClassId} {A : Nat → Prop} {X : cx} {L0 : fw} {K : Int32 → ms → Prop} {o : Nat} {ad : Nat → Nat}
set_option maxRecDepth 100000 in
set_option maxHeartbeats 1000000 in
theorem s_turn2_29 (C : fcx gG D z A X R_M c_M_turn2 2 (some .int)) (hQ : X.2.2.2.2.2.2.2.2.2.2 = eQ gG D z X.2.2.2.2.2.2.2.1 X.2.2.2.2.1 L0 0 0 (pM_i K o ad)) (hA : A = owA gG L0 X.2.2.2.2.1.heap.size) (hR : X.2.2.2.1 = { frames := 1, cells := 1, slots := 6, locals := 100 }) (x1 : Int32) (S : ms) (R29 : Int32 → ms → Prop) (hR29 : ∀ yx1 yS, R29 yx1 yS → aw gG D z A X 2 29 [some (.ref o), some (.int yx1)] [] [(0, ly_M, (o, ad, yS.1, yS.2.1, yS.2.2))] 0 0) (hp : b_turn2_29 x1 S R29 K) : aw gG D z A X 2 29 [some (.ref o), some (.int x1)] [] [(0, ly_M, (o, ad, S.1, S.2.1, S.2.2))] 0 0 := by
  unfold b_turn2_29 at hp
  refine a_iload_n C d_turn2_29 rfl rfl ?_
  refine a_aload_n C d_turn2_30 rfl rfl ?_
  refine a_getI C 0 9 d_turn2_31 rfl rfl rfl (Nat.le_of_ble_eq_true rfl) f_M_197 (Nat.le_of_ble_eq_true rfl) ?_
  refine a_icmp_ge (tgt := 55) C d_turn2_34 (by decide) ⟨fun hc => ?_, fun hc => ?_⟩
  · have hp := hp.1 hc
    refine a_aload_n C d_turn2_55 rfl rfl ?_
    refine a_aload_n C d_turn2_56 rfl rfl ?_
    refine a_getI C 0 9 d_turn2_57 rfl rfl rfl (Nat.le_of_ble_eq_true rfl) f_M_197 (Nat.le_of_ble_eq_true rfl) ?_
    refine a_putI (ty := .int) C 0 7 d_turn2_60 rfl rfl rfl (Nat.le_of_ble_eq_true rfl) f_M_262 (Nat.le_of_ble_eq_true rfl) rfl rfl rfl rfl ?_
    refine aw_eq (lo' := _) (st' := _) (L' := [(0, ly_M, (o, ad, upd S.1 7 (S.1 9), S.2.1, S.2.2))]) rfl rfl rfl ?_
    refine a_aload_n C d_turn2_63 rfl rfl ?_
    refine a_getI C 0 7 d_turn2_64 rfl rfl rfl (Nat.le_of_ble_eq_true rfl) f_M_262 (Nat.le_of_ble_eq_true rfl) ?_
    exact a_iret (ty := .int) C hQ hA d_turn2_67 rfl rfl ⟨_, (upd S.1 7 (S.1 9), S.2.1, S.2.2), hp, rfl, rfl⟩
  · have hp := hp.2 hc
    refine a_aload_n C d_turn2_37 rfl rfl ?_
    refine a_getR C 0 6 d_turn2_38 rfl rfl rfl (Nat.le_of_ble_eq_true rfl) f_M_27 ⟨Nat.le_of_ble_eq_true rfl, Nat.le_of_ble_eq_true rfl⟩ ?_
    refine a_iload_n C d_turn2_41 rfl rfl ?_
    refine a_aload_n C d_turn2_42 rfl rfl ?_
    refine a_getR C 0 8 d_turn2_43 rfl rfl rfl (Nat.le_of_ble_eq_true rfl) f_M_31 ⟨Nat.le_of_ble_eq_true rfl, Nat.le_of_ble_eq_true rfl⟩ ?_
    refine a_iload_n C d_turn2_46 rfl rfl ?_
    refine a_iald C 0 8 d_turn2_47 rfl rfl rfl hp.1 ?_
    have hp := hp.2
    refine a_iast C 0 6 d_turn2_48 rfl rfl rfl hp.1 ?_
    have hp := hp.2
    refine aw_eq (lo' := _) (st' := _) (L' := [(0, ly_M, (o, ad, S.1, va_up S.2.1 6 (upd (S.2.1 6) x1.toNatClampNeg (S.2.1 8 x1.toNatClampNeg)), S.2.2))]) rfl rfl rfl ?_
    refine a_iinc (v := x1 + 1) (lo' := [some (.ref o), some (.int (x1 + 1))]) C d_turn2_49 rfl rfl (by decide) rfl ?_
    refine a_goto (tgt := 29) C d_turn2_52 (by decide) ?_
    refine aw_lo (lo' := [some (.ref o), some (.int (x1 + 1))]) ⟨.inr rfl, .inr rfl, trivial⟩ ?_
    exact hR29 (x1 + 1) (S.1, va_up S.2.1 6 (upd (S.2.1 6) x1.toNatClampNeg (S.2.1 8 x1.toNatClampNeg)), S.2.2) hp
set_option maxRecDepth 100000 in
set_option maxHeartbeats 1000000 in
theorem se_turn2_29 (C : fcx gG D z A X R_M c_M_turn2 2 (some .int)) (hQ : X.2.2.2.2.2.2.2.2.2.2 = eQ gG D z X.2.2.2.2.2.2.2.1 X.2.2.2.2.1 L0 0 0 (pM_i K o ad)) (hA : A = owA gG L0 X.2.2.2.2.1.heap.size) (hR : X.2.2.2.1 = { frames := 1, cells := 1, slots := 6, locals := 100 }) (x1 : Int32) (S : ms) (hp : e_turn2_29 x1 S K) : aw gG D z A X 2 29 [some (.ref o), some (.int x1)] [] [(0, ly_M, (o, ad, S.1, S.2.1, S.2.2))] 0 0 := by
  obtain ⟨I, μ, h0, hs⟩ := hp
  have key : ∀ (n : Nat) (yx1 : Int32) (yS : ms), μ yx1 yS < n → I yx1 yS → aw gG D z A X 2 29 [some (.ref o), some (.int yx1)] [] [(0, ly_M, (o, ad, yS.1, yS.2.1, yS.2.2))] 0 0 := by
    intro n
    induction n with
    | zero => intro yx1 yS h; omega
    | succ n ih =>
      intro yx1 yS hn hI
      exact s_turn2_29 C hQ hA hR yx1 yS _ (fun zx1 zS hw => ih zx1 zS (by omega) hw.1) (hs yx1 yS hI)
  exact key (μ x1 S + 1) x1 S (Nat.lt_succ_self _) h0
set_option maxRecDepth 100000 in
set_option maxHeartbeats 1000000 in
theorem s_turn2_15 (C : fcx gG D z A X R_M c_M_turn2 2 (some .int)) (hQ : X.2.2.2.2.2.2.2.2.2.2 = eQ gG D z X.2.2.2.2.2.2.2.1 X.2.2.2.2.1 L0 0 0 (pM_i K o ad)) (hA : A = owA gG L0 X.2.2.2.2.1.heap.size) (hR : X.2.2.2.1 = { frames := 1, cells := 1, slots := 6, locals := 100 }) (s1 : Int32) (S : ms) (hp : b_turn2_15 s1 S K) : aw gG D z A X 2 15 [some (.ref o), none] [.int s1, .ref o] [(0, ly_M, (o, ad, S.1, S.2.1, S.2.2))] 0 0 := by
  unfold b_turn2_15 at hp
  refine a_putI (ty := .int) C 0 0 d_turn2_15 rfl rfl rfl (Nat.le_of_ble_eq_true rfl) f_M_146 (Nat.le_of_ble_eq_true rfl) rfl rfl rfl rfl ?_
  refine aw_eq (lo' := _) (st' := _) (L' := [(0, ly_M, (o, ad, upd S.1 0 s1, S.2.1, S.2.2))]) rfl rfl rfl ?_
  refine a_aload_n C d_turn2_18 rfl rfl ?_
  refine a_getI C 0 0 d_turn2_19 rfl rfl rfl (Nat.le_of_ble_eq_true rfl) f_M_146 (Nat.le_of_ble_eq_true rfl) ?_
  refine a_if_le (tgt := 27) C d_turn2_22 (by decide) ⟨fun hc => ?_, fun hc => ?_⟩
  · have hp := hp.1 hc
    refine a_iconst (v := 0) C d_turn2_27 (by decide) ?_
    refine a_istore_n (lo' := [some (.ref o), some (.int 0)]) C d_turn2_28 rfl (by decide) rfl ?_
    refine aw_lo (lo' := [some (.ref o), some (.int 0)]) ⟨.inr rfl, .inr rfl, trivial⟩ ?_
    exact se_turn2_29 C hQ hA hR 0 (upd S.1 0 s1, S.2.1, S.2.2)  hp
  · have hp := hp.2 hc
    refine a_iconst (v := 0) C d_turn2_25 (by decide) ?_
    exact a_iret (ty := .int) C hQ hA d_turn2_26 rfl rfl ⟨_, (upd S.1 0 s1, S.2.1, S.2.2), hp, rfl, rfl⟩
set_option maxRecDepth 100000 in
set_option maxHeartbeats 1000000 in
theorem s_turn2_0 (C : fcx gG D z A X R_M c_M_turn2 2 (some .int)) (hQ : X.2.2.2.2.2.2.2.2.2.2 = eQ gG D z X.2.2.2.2.2.2.2.1 X.2.2.2.2.1 L0 0 0 (pM_i K o ad)) (hA : A = owA gG L0 X.2.2.2.2.1.heap.size) (hR : X.2.2.2.1 = { frames := 1, cells := 1, slots := 6, locals := 100 })  (S : ms) (hp : p_turn2  S K) : aw gG D z A X 2 0 [some (.ref o), none] [] [(0, ly_M, (o, ad, S.1, S.2.1, S.2.2))] 0 0 := by
  unfold p_turn2 at hp
  refine a_aload_n C d_turn2_0 rfl rfl ?_
  refine a_aload_n C d_turn2_1 rfl rfl ?_
  refine a_getI C 0 9 d_turn2_2 rfl rfl rfl (Nat.le_of_ble_eq_true rfl) f_M_197 (Nat.le_of_ble_eq_true rfl) ?_
  refine a_ldc (v := 32768) C d_turn2_5 k_M_26 ?_
  refine a_icmp_le (tgt := 14) C d_turn2_7 (by decide) ⟨fun hc => ?_, fun hc => ?_⟩
  · have hp := hp.1 hc
    refine a_iconst (v := 0) C d_turn2_14 (by decide) ?_
    refine aw_lo (lo' := [some (.ref o), none]) ⟨.inr rfl, .inr rfl, trivial⟩ ?_
    exact s_turn2_15 C hQ hA hR 0 S  hp
  · have hp := hp.2 hc
    refine a_iconst (v := 1) C d_turn2_10 (by decide) ?_
    refine a_goto (tgt := 15) C d_turn2_11 (by decide) ?_
    refine aw_lo (lo' := [some (.ref o), none]) ⟨.inr rfl, .inr rfl, trivial⟩ ?_
    exact s_turn2_15 C hQ hA hR 1 S  hp
end M_turn2
section M_turn2c
variable {D : va_G} {z : Nat → ClassId} {o : Nat} {ad : Nat → Nat}
set_option maxRecDepth 100000 in
theorem ct_turn2 {l : Launch}  (S : ms) {K : Int32 → ms → Prop} (hp : p_turn2  S K) : ct gG D z l n_M_turn2 c_M_turn2 2 (some .int) 1 100 [.ref o] [(0, ly_M, (o, ad, S.1, S.2.1, S.2.2))] 0 0 (pM_i K o ad) := by
  refine ct_of (lo := [some (.ref o), none]) (by decide) g_ok (Nat.le_of_ble_eq_true rfl) rfl ?_
  intro X A _ C hR hQ hA _
  exact s_turn2_0 C hQ hA hR  S hp
end M_turn2c
def b_fail_17  (S : ms) (K : Int32 → ms → Prop) : Prop :=
  K 0 S
def p_fail (x1 : Int32) (x2 : Int32) (S : ms) (K : Int32 → ms → Prop) : Prop :=
  (¬ (S.1 35) = 0 → (b_fail_17 S K)) ∧ ((S.1 35) = 0 → (b_fail_17 (upd (upd S.1 35 x1) 10 x2, S.2.1, S.2.2) K))
section M_fail
variable {D : va_G} {z : Nat → ClassId} {A : Nat → Prop} {X : cx} {L0 : fw} {K : Int32 → ms → Prop} {o : Nat} {ad : Nat → Nat}
set_option maxRecDepth 100000 in
set_option maxHeartbeats 1000000 in
theorem s_fail_17 (C : fcx gG D z A X R_M c_M_fail 3 (some .boolean)) (hQ : X.2.2.2.2.2.2.2.2.2.2 = eQ gG D z X.2.2.2.2.2.2.2.1 X.2.2.2.2.1 L0 0 0 (pM_i K o ad)) (hA : A = owA gG L0 X.2.2.2.2.1.heap.size) (hR : X.2.2.2.1 = { frames := 1, cells := 1, slots := 6, locals := 100 })  (S : ms) (hp : b_fail_17  S K) : aw gG D z A X 3 17 [some (.ref o), none, none] [] [(0, ly_M, (o, ad, S.1, S.2.1, S.2.2))] 0 0 := by
  unfold b_fail_17 at hp
  refine a_iconst (v := 0) C d_fail_17 (by decide) ?_
  exact a_iret (ty := .boolean) C hQ hA d_fail_18 rfl rfl ⟨_, S, hp, rfl, rfl⟩
set_option maxRecDepth 100000 in
set_option maxHeartbeats 1000000 in
theorem s_fail_0 (C : fcx gG D z A X R_M c_M_fail 3 (some .boolean)) (hQ : X.2.2.2.2.2.2.2.2.2.2 = eQ gG D z X.2.2.2.2.2.2.2.1 X.2.2.2.2.1 L0 0 0 (pM_i K o ad)) (hA : A = owA gG L0 X.2.2.2.2.1.heap.size) (hR : X.2.2.2.1 = { frames := 1, cells := 1, slots := 6, locals := 100 }) (x1 : Int32) (x2 : Int32) (S : ms) (hp : p_fail x1 x2 S K) : aw gG D z A X 3 0 [some (.ref o), some (.int x1), some (.int x2)] [] [(0, ly_M, (o, ad, S.1, S.2.1, S.2.2))] 0 0 := by
  unfold p_fail at hp
  refine a_aload_n C d_fail_0 rfl rfl ?_
  refine a_getI C 0 35 d_fail_1 rfl rfl rfl (Nat.le_of_ble_eq_true rfl) f_M_265 (Nat.le_of_ble_eq_true rfl) ?_
  refine a_if_ne (tgt := 17) C d_fail_4 (by decide) ⟨fun hc => ?_, fun hc => ?_⟩
  · have hp := hp.1 hc
    refine aw_lo (lo' := [some (.ref o), none, none]) ⟨.inr rfl, .inl rfl, .inl rfl, trivial⟩ ?_
    exact s_fail_17 C hQ hA hR S  hp
  · have hp := hp.2 hc
    refine a_aload_n C d_fail_7 rfl rfl ?_
    refine a_iload_n C d_fail_8 rfl rfl ?_
    refine a_putI (ty := .int) C 0 35 d_fail_9 rfl rfl rfl (Nat.le_of_ble_eq_true rfl) f_M_265 (Nat.le_of_ble_eq_true rfl) rfl rfl rfl rfl ?_
    refine aw_eq (lo' := _) (st' := _) (L' := [(0, ly_M, (o, ad, upd S.1 35 x1, S.2.1, S.2.2))]) rfl rfl rfl ?_
    refine a_aload_n C d_fail_12 rfl rfl ?_
    refine a_iload_n C d_fail_13 rfl rfl ?_
    refine a_putI (ty := .int) C 0 10 d_fail_14 rfl rfl rfl (Nat.le_of_ble_eq_true rfl) f_M_34 (Nat.le_of_ble_eq_true rfl) rfl rfl rfl rfl ?_
    refine aw_eq (lo' := _) (st' := _) (L' := [(0, ly_M, (o, ad, upd (upd S.1 35 x1) 10 x2, S.2.1, S.2.2))]) rfl rfl rfl ?_
    refine aw_lo (lo' := [some (.ref o), none, none]) ⟨.inr rfl, .inl rfl, .inl rfl, trivial⟩ ?_
    exact s_fail_17 C hQ hA hR (upd (upd S.1 35 x1) 10 x2, S.2.1, S.2.2)  hp
end M_fail
section M_failc
variable {D : va_G} {z : Nat → ClassId} {o : Nat} {ad : Nat → Nat}
set_option maxRecDepth 100000 in
theorem ct_fail {l : Launch} (x1 : Int32) (x2 : Int32) (S : ms) {K : Int32 → ms → Prop} (hp : p_fail x1 x2 S K) : ct gG D z l n_M_fail c_M_fail 3 (some .boolean) 1 100 [.ref o, .int x1, .int x2] [(0, ly_M, (o, ad, S.1, S.2.1, S.2.2))] 0 0 (pM_i K o ad) := by
  refine ct_of (lo := [some (.ref o), some (.int x1), some (.int x2)]) (by decide) g_ok (Nat.le_of_ble_eq_true rfl) rfl ?_
  intro X A _ C hR hQ hA _
  exact s_fail_0 C hQ hA hR x1 x2 S hp
end M_failc
def p_next  (S : ms) (K : Int32 → ms → Prop) : Prop :=
  ((S.1 34) < (S.1 7) → (vp_in (((upd S.1 34 ((S.1 34) + 1)) 34) - 1) 32768 ∧ (K (S.2.1 6 (((upd S.1 34 ((S.1 34) + 1)) 34) - 1).toNatClampNeg) (upd S.1 34 ((S.1 34) + 1), S.2.1, S.2.2)))) ∧ (¬ ((S.1 34) < (S.1 7)) → (p_fail 1 (S.1 7) S (fun v17 S17 => K 0 (S17.1, S17.2.1, S17.2.2))))
section M_next
variable {D : va_G} {z : Nat → ClassId} {A : Nat → Prop} {X : cx} {L0 : fw} {K : Int32 → ms → Prop} {o : Nat} {ad : Nat → Nat}
set_option maxRecDepth 100000 in
set_option maxHeartbeats 1000000 in
theorem s_next_0 (C : fcx gG D z A X R_M c_M_next 2 (some .int)) (hQ : X.2.2.2.2.2.2.2.2.2.2 = eQ gG D z X.2.2.2.2.2.2.2.1 X.2.2.2.2.1 L0 0 0 (pM_i K o ad)) (hA : A = owA gG L0 X.2.2.2.2.1.heap.size) (hR : X.2.2.2.1 = { frames := 2, cells := 1, slots := 6, locals := 200 })  (S : ms) (hp : p_next  S K) : aw gG D z A X 2 0 [some (.ref o), none] [] [(0, ly_M, (o, ad, S.1, S.2.1, S.2.2))] 0 0 := by
  unfold p_next at hp
  refine a_aload_n C d_next_0 rfl rfl ?_
  refine a_getI C 0 34 d_next_1 rfl rfl rfl (Nat.le_of_ble_eq_true rfl) f_M_268 (Nat.le_of_ble_eq_true rfl) ?_
  refine a_aload_n C d_next_4 rfl rfl ?_
  refine a_getI C 0 7 d_next_5 rfl rfl rfl (Nat.le_of_ble_eq_true rfl) f_M_262 (Nat.le_of_ble_eq_true rfl) ?_
  refine a_icmp_lt (tgt := 23) C d_next_8 (by decide) ⟨fun hc => ?_, fun hc => ?_⟩
  · have hp := hp.1 hc
    refine a_aload_n C d_next_23 rfl rfl ?_
    refine a_dup C d_next_24 rfl ?_
    refine a_getI C 0 34 d_next_25 rfl rfl rfl (Nat.le_of_ble_eq_true rfl) f_M_268 (Nat.le_of_ble_eq_true rfl) ?_
    refine a_iconst (v := 1) C d_next_28 (by decide) ?_
    refine a_iadd C d_next_29 ?_
    refine a_putI (ty := .int) C 0 34 d_next_30 rfl rfl rfl (Nat.le_of_ble_eq_true rfl) f_M_268 (Nat.le_of_ble_eq_true rfl) rfl rfl rfl rfl ?_
    refine aw_eq (lo' := _) (st' := _) (L' := [(0, ly_M, (o, ad, upd S.1 34 ((S.1 34) + 1), S.2.1, S.2.2))]) rfl rfl rfl ?_
    refine a_aload_n C d_next_33 rfl rfl ?_
    refine a_getR C 0 6 d_next_34 rfl rfl rfl (Nat.le_of_ble_eq_true rfl) f_M_27 ⟨Nat.le_of_ble_eq_true rfl, Nat.le_of_ble_eq_true rfl⟩ ?_
    refine a_aload_n C d_next_37 rfl rfl ?_
    refine a_getI C 0 34 d_next_38 rfl rfl rfl (Nat.le_of_ble_eq_true rfl) f_M_268 (Nat.le_of_ble_eq_true rfl) ?_
    refine a_iconst (v := 1) C d_next_41 (by decide) ?_
    refine a_isub C d_next_42 ?_
    refine a_iald C 0 6 d_next_43 rfl rfl rfl hp.1 ?_
    have hp := hp.2
    exact a_iret (ty := .int) C hQ hA d_next_44 rfl rfl ⟨_, (upd S.1 34 ((S.1 34) + 1), S.2.1, S.2.2), hp, rfl, rfl⟩
  · have hp := hp.2 hc
    refine a_aload_n C d_next_11 rfl rfl ?_
    refine a_iconst (v := 1) C d_next_12 (by decide) ?_
    refine a_aload_n C d_next_13 rfl rfl ?_
    refine a_getI C 0 7 d_next_14 rfl rfl rfl (Nat.le_of_ble_eq_true rfl) f_M_262 (Nat.le_of_ble_eq_true rfl) ?_
    refine a_call (Lr := []) (rest := []) (av := .ref o :: [.int 1, .int (S.1 7)]) C [0] [] d_next_17 (ct_fail 1 (S.1 7) S hp) cd_M_fail i_M (Nat.le_of_ble_eq_true rfl) (by rw [hR]; exact Nat.le_of_ble_eq_true rfl) (by rw [hR]; exact Nat.le_of_ble_eq_true rfl) (by rw [hR]; exact Nat.le_of_ble_eq_true rfl) (by rw [hR]; exact Nat.le_of_ble_eq_true rfl) rfl rfl (by decide) (by decide) (by decide) (inv_V C 0 d_next_17 l_M_271 im_M_fail se_M_fail cd_M_fail ⟨by decide, by decide⟩ ln_M_fail rfl rfl rfl rfl rfl) (fun oc L1 hL => ?_)
    obtain ⟨v17, S17, hp, rfl, rfl⟩ := hL
    refine ⟨_, rfl, ?_⟩
    refine aw_eq (lo' := _) (st' := [.int v17]) (L' := [(0, ly_M, (o, ad, S17.1, S17.2.1, S17.2.2))]) rfl rfl rfl ?_
    refine a_istore_n (lo' := [some (.ref o), some (.int v17)]) C d_next_20 rfl (by decide) rfl ?_
    refine a_iconst (v := 0) C d_next_21 (by decide) ?_
    exact a_iret (ty := .int) C hQ hA d_next_22 rfl rfl ⟨_, (S17.1, S17.2.1, S17.2.2), hp, rfl, rfl⟩
end M_next
section M_nextc
variable {D : va_G} {z : Nat → ClassId} {o : Nat} {ad : Nat → Nat}
set_option maxRecDepth 100000 in
theorem ct_next {l : Launch}  (S : ms) {K : Int32 → ms → Prop} (hp : p_next  S K) : ct gG D z l n_M_next c_M_next 2 (some .int) 2 200 [.ref o] [(0, ly_M, (o, ad, S.1, S.2.1, S.2.2))] 0 0 (pM_i K o ad) := by
  refine ct_of (lo := [some (.ref o), none]) (by decide) g_ok (Nat.le_of_ble_eq_true rfl) rfl ?_
  intro X A _ C hR hQ hA _
  exact s_next_0 C hQ hA hR  S hp
end M_nextc
def p_nextWithin  (S : ms) (K : Int32 → ms → Prop) : Prop :=
  ((S.1 34) < (S.1 36) → (p_next S (fun v24 S24 => K v24 (S24.1, S24.2.1, S24.2.2)))) ∧ (¬ ((S.1 34) < (S.1 36)) → (p_fail 4 (S.1 37) S (fun v17 S17 => K 0 (S17.1, S17.2.1, S17.2.2))))
section M_nextWithin
variable {D : va_G} {z : Nat → ClassId} {A : Nat → Prop} {X : cx} {L0 : fw} {K : Int32 → ms → Prop} {o : Nat} {ad : Nat → Nat}
set_option maxRecDepth 100000 in
set_option maxHeartbeats 1000000 in
theorem s_nextWithin_0 (C : fcx gG D z A X R_M c_M_nextWithin 2 (some .int)) (hQ : X.2.2.2.2.2.2.2.2.2.2 = eQ gG D z X.2.2.2.2.2.2.2.1 X.2.2.2.2.1 L0 0 0 (pM_i K o ad)) (hA : A = owA gG L0 X.2.2.2.2.1.heap.size) (hR : X.2.2.2.1 = { frames := 3, cells := 1, slots := 6, locals := 300 })  (S : ms) (hp : p_nextWithin  S K) : aw gG D z A X 2 0 [some (.ref o), none] [] [(0, ly_M, (o, ad, S.1, S.2.1, S.2.2))] 0 0 := by
  unfold p_nextWithin at hp
  refine a_aload_n C d_nextWithin_0 rfl rfl ?_
  refine a_getI C 0 34 d_nextWithin_1 rfl rfl rfl (Nat.le_of_ble_eq_true rfl) f_M_268 (Nat.le_of_ble_eq_true rfl) ?_
  refine a_aload_n C d_nextWithin_4 rfl rfl ?_
  refine a_getI C 0 36 d_nextWithin_5 rfl rfl rfl (Nat.le_of_ble_eq_true rfl) f_M_275 (Nat.le_of_ble_eq_true rfl) ?_
  refine a_icmp_lt (tgt := 23) C d_nextWithin_8 (by decide) ⟨fun hc => ?_, fun hc => ?_⟩
  · have hp := hp.1 hc
    refine a_aload_n C d_nextWithin_23 rfl rfl ?_
    refine a_call (Lr := []) (rest := []) (av := .ref o :: []) C [0] [] d_nextWithin_24 (ct_next S hp) cd_M_next i_M (Nat.le_of_ble_eq_true rfl) (by rw [hR]; exact Nat.le_of_ble_eq_true rfl) (by rw [hR]; exact Nat.le_of_ble_eq_true rfl) (by rw [hR]; exact Nat.le_of_ble_eq_true rfl) (by rw [hR]; exact Nat.le_of_ble_eq_true rfl) rfl rfl (by decide) (by decide) (by decide) (inv_V C 0 d_nextWithin_24 l_M_281 im_M_next se_M_next cd_M_next ⟨by decide, by decide⟩ ln_M_next rfl rfl rfl rfl rfl) (fun oc L1 hL => ?_)
    obtain ⟨v24, S24, hp, rfl, rfl⟩ := hL
    refine ⟨_, rfl, ?_⟩
    refine aw_eq (lo' := _) (st' := [.int v24]) (L' := [(0, ly_M, (o, ad, S24.1, S24.2.1, S24.2.2))]) rfl rfl rfl ?_
    exact a_iret (ty := .int) C hQ hA d_nextWithin_27 rfl rfl ⟨_, (S24.1, S24.2.1, S24.2.2), hp, rfl, rfl⟩
  · have hp := hp.2 hc
    refine a_aload_n C d_nextWithin_11 rfl rfl ?_
    refine a_iconst (v := 4) C d_nextWithin_12 (by decide) ?_
    refine a_aload_n C d_nextWithin_13 rfl rfl ?_
    refine a_getI C 0 37 d_nextWithin_14 rfl rfl rfl (Nat.le_of_ble_eq_true rfl) f_M_278 (Nat.le_of_ble_eq_true rfl) ?_
    refine a_call (Lr := []) (rest := []) (av := .ref o :: [.int 4, .int (S.1 37)]) C [0] [] d_nextWithin_17 (ct_fail 4 (S.1 37) S hp) cd_M_fail i_M (Nat.le_of_ble_eq_true rfl) (by rw [hR]; exact Nat.le_of_ble_eq_true rfl) (by rw [hR]; exact Nat.le_of_ble_eq_true rfl) (by rw [hR]; exact Nat.le_of_ble_eq_true rfl) (by rw [hR]; exact Nat.le_of_ble_eq_true rfl) rfl rfl (by decide) (by decide) (by decide) (inv_V C 0 d_nextWithin_17 l_M_271 im_M_fail se_M_fail cd_M_fail ⟨by decide, by decide⟩ ln_M_fail rfl rfl rfl rfl rfl) (fun oc L1 hL => ?_)
    obtain ⟨v17, S17, hp, rfl, rfl⟩ := hL
    refine ⟨_, rfl, ?_⟩
    refine aw_eq (lo' := _) (st' := [.int v17]) (L' := [(0, ly_M, (o, ad, S17.1, S17.2.1, S17.2.2))]) rfl rfl rfl ?_
    refine a_istore_n (lo' := [some (.ref o), some (.int v17)]) C d_nextWithin_20 rfl (by decide) rfl ?_
    refine a_iconst (v := 0) C d_nextWithin_21 (by decide) ?_
    exact a_iret (ty := .int) C hQ hA d_nextWithin_22 rfl rfl ⟨_, (S17.1, S17.2.1, S17.2.2), hp, rfl, rfl⟩
end M_nextWithin
section M_nextWithinc
variable {D : va_G} {z : Nat → ClassId} {o : Nat} {ad : Nat → Nat}
set_option maxRecDepth 100000 in
theorem ct_nextWithin {l : Launch}  (S : ms) {K : Int32 → ms → Prop} (hp : p_nextWithin  S K) : ct gG D z l n_M_nextWithin c_M_nextWithin 2 (some .int) 3 300 [.ref o] [(0, ly_M, (o, ad, S.1, S.2.1, S.2.2))] 0 0 (pM_i K o ad) := by
  refine ct_of (lo := [some (.ref o), none]) (by decide) g_ok (Nat.le_of_ble_eq_true rfl) rfl ?_
  intro X A _ C hR hQ hA _
  exact s_nextWithin_0 C hQ hA hR  S hp
end M_nextWithinc
def b_readMark_53 (x2 : Int32) (S : ms) (K : Int32 → ms → Prop) : Prop :=
  K x2 S
def b_readMark_31 (x2 : Int32) (S : ms) (R31 : Int32 → ms → Prop) (K : Int32 → ms → Prop) : Prop :=
  (¬ (S.1 35) = 0 → (b_readMark_53 x2 S K)) ∧ ((S.1 35) = 0 → ((¬ x2 = 255 → (b_readMark_53 x2 S K)) ∧ (x2 = 255 → (p_next S (fun v46 S46 => R31 v46 (S46.1, S46.2.1, S46.2.2))))))
def e_readMark_31 (x2 : Int32) (S : ms) (K : Int32 → ms → Prop) : Prop :=
  ∃ (I : Int32 → ms → Prop) (μ : Int32 → ms → Nat), I x2 S ∧ ∀ yx2 yS, I yx2 yS → b_readMark_31 yx2 yS (fun zx2 zS => I zx2 zS ∧ μ zx2 zS < μ yx2 yS) K
def p_readMark  (S : ms) (K : Int32 → ms → Prop) : Prop :=
  p_next S (fun v6 S6 => (¬ (S6.1 35) = 0 → (e_readMark_31 v6 (S6.1, S6.2.1, S6.2.2) K)) ∧ ((S6.1 35) = 0 → ((v6 = 255 → (e_readMark_31 v6 (S6.1, S6.2.1, S6.2.2) K)) ∧ (¬ (v6 = 255) → (p_fail 2 (S.1 34) (S6.1, S6.2.1, S6.2.2) (fun v27 S27 => e_readMark_31 v6 (S27.1, S27.2.1, S27.2.2) K))))))
section M_readMark
variable {D : va_G} {z : Nat → ClassId} {A : Nat → Prop} {X : cx} {L0 : fw} {K : Int32 → ms → Prop} {o : Nat} {ad : Nat → Nat}
set_option maxRecDepth 100000 in
set_option maxHeartbeats 1000000 in
theorem s_readMark_53 (C : fcx gG D z A X R_M c_M_readMark 4 (some .int)) (hQ : X.2.2.2.2.2.2.2.2.2.2 = eQ gG D z X.2.2.2.2.2.2.2.1 X.2.2.2.2.1 L0 0 0 (pM_i K o ad)) (hA : A = owA gG L0 X.2.2.2.2.1.heap.size) (hR : X.2.2.2.1 = { frames := 3, cells := 1, slots := 6, locals := 300 }) (x2 : Int32) (S : ms) (hp : b_readMark_53 x2 S K) : aw gG D z A X 4 53 [some (.ref o), none, some (.int x2), none] [] [(0, ly_M, (o, ad, S.1, S.2.1, S.2.2))] 0 0 := by
  unfold b_readMark_53 at hp
  refine a_iload_n C d_readMark_53 rfl rfl ?_
  exact a_iret (ty := .int) C hQ hA d_readMark_54 rfl rfl ⟨_, S, hp, rfl, rfl⟩
set_option maxRecDepth 100000 in
set_option maxHeartbeats 1000000 in
theorem s_readMark_31 (C : fcx gG D z A X R_M c_M_readMark 4 (some .int)) (hQ : X.2.2.2.2.2.2.2.2.2.2 = eQ gG D z X.2.2.2.2.2.2.2.1 X.2.2.2.2.1 L0 0 0 (pM_i K o ad)) (hA : A = owA gG L0 X.2.2.2.2.1.heap.size) (hR : X.2.2.2.1 = { frames := 3, cells := 1, slots := 6, locals := 300 }) (x2 : Int32) (S : ms) (R31 : Int32 → ms → Prop) (hR31 : ∀ yx2 yS, R31 yx2 yS → aw gG D z A X 4 31 [some (.ref o), none, some (.int yx2), none] [] [(0, ly_M, (o, ad, yS.1, yS.2.1, yS.2.2))] 0 0) (hp : b_readMark_31 x2 S R31 K) : aw gG D z A X 4 31 [some (.ref o), none, some (.int x2), none] [] [(0, ly_M, (o, ad, S.1, S.2.1, S.2.2))] 0 0 := by
  unfold b_readMark_31 at hp
  refine a_aload_n C d_readMark_31 rfl rfl ?_
  refine a_getI C 0 35 d_readMark_32 rfl rfl rfl (Nat.le_of_ble_eq_true rfl) f_M_265 (Nat.le_of_ble_eq_true rfl) ?_
  refine a_if_ne (tgt := 53) C d_readMark_35 (by decide) ⟨fun hc => ?_, fun hc => ?_⟩
  · have hp := hp.1 hc
    refine aw_lo (lo' := [some (.ref o), none, some (.int x2), none]) ⟨.inr rfl, .inr rfl, .inr rfl, .inr rfl, trivial⟩ ?_
    exact s_readMark_53 C hQ hA hR x2 S  hp
  · have hp := hp.2 hc
    refine a_iload_n C d_readMark_38 rfl rfl ?_
    refine a_sipush (v := 255) C d_readMark_39 (by decide) ?_
    refine a_icmp_ne (tgt := 53) C d_readMark_42 (by decide) ⟨fun hc => ?_, fun hc => ?_⟩
    · have hp := hp.1 hc
      refine aw_lo (lo' := [some (.ref o), none, some (.int x2), none]) ⟨.inr rfl, .inr rfl, .inr rfl, .inr rfl, trivial⟩ ?_
      exact s_readMark_53 C hQ hA hR x2 S  hp
    · have hp := hp.2 hc
      refine a_aload_n C d_readMark_45 rfl rfl ?_
      refine a_call (Lr := []) (rest := []) (av := .ref o :: []) C [0] [] d_readMark_46 (ct_next S hp) cd_M_next i_M (Nat.le_of_ble_eq_true rfl) (by rw [hR]; exact Nat.le_of_ble_eq_true rfl) (by rw [hR]; exact Nat.le_of_ble_eq_true rfl) (by rw [hR]; exact Nat.le_of_ble_eq_true rfl) (by rw [hR]; exact Nat.le_of_ble_eq_true rfl) rfl rfl (by decide) (by decide) (by decide) (inv_V C 0 d_readMark_46 l_M_281 im_M_next se_M_next cd_M_next ⟨by decide, by decide⟩ ln_M_next rfl rfl rfl rfl rfl) (fun oc L1 hL => ?_)
      obtain ⟨v46, S46, hp, rfl, rfl⟩ := hL
      refine ⟨_, rfl, ?_⟩
      refine aw_eq (lo' := _) (st' := [.int v46]) (L' := [(0, ly_M, (o, ad, S46.1, S46.2.1, S46.2.2))]) rfl rfl rfl ?_
      refine a_istore_n (lo' := [some (.ref o), none, some (.int v46), none]) C d_readMark_49 rfl (by decide) rfl ?_
      refine a_goto (tgt := 31) C d_readMark_50 (by decide) ?_
      refine aw_lo (lo' := [some (.ref o), none, some (.int v46), none]) ⟨.inr rfl, .inr rfl, .inr rfl, .inr rfl, trivial⟩ ?_
      exact hR31 v46 (S46.1, S46.2.1, S46.2.2) hp
set_option maxRecDepth 100000 in
set_option maxHeartbeats 1000000 in
theorem se_readMark_31 (C : fcx gG D z A X R_M c_M_readMark 4 (some .int)) (hQ : X.2.2.2.2.2.2.2.2.2.2 = eQ gG D z X.2.2.2.2.2.2.2.1 X.2.2.2.2.1 L0 0 0 (pM_i K o ad)) (hA : A = owA gG L0 X.2.2.2.2.1.heap.size) (hR : X.2.2.2.1 = { frames := 3, cells := 1, slots := 6, locals := 300 }) (x2 : Int32) (S : ms) (hp : e_readMark_31 x2 S K) : aw gG D z A X 4 31 [some (.ref o), none, some (.int x2), none] [] [(0, ly_M, (o, ad, S.1, S.2.1, S.2.2))] 0 0 := by
  obtain ⟨I, μ, h0, hs⟩ := hp
  have key : ∀ (n : Nat) (yx2 : Int32) (yS : ms), μ yx2 yS < n → I yx2 yS → aw gG D z A X 4 31 [some (.ref o), none, some (.int yx2), none] [] [(0, ly_M, (o, ad, yS.1, yS.2.1, yS.2.2))] 0 0 := by
    intro n
    induction n with
    | zero => intro yx2 yS h; omega
    | succ n ih =>
      intro yx2 yS hn hI
      exact s_readMark_31 C hQ hA hR yx2 yS _ (fun zx2 zS hw => ih zx2 zS (by omega) hw.1) (hs yx2 yS hI)
  exact key (μ x2 S + 1) x2 S (Nat.lt_succ_self _) h0
set_option maxRecDepth 100000 in
set_option maxHeartbeats 1000000 in
theorem s_readMark_0 (C : fcx gG D z A X R_M c_M_readMark 4 (some .int)) (hQ : X.2.2.2.2.2.2.2.2.2.2 = eQ gG D z X.2.2.2.2.2.2.2.1 X.2.2.2.2.1 L0 0 0 (pM_i K o ad)) (hA : A = owA gG L0 X.2.2.2.2.1.heap.size) (hR : X.2.2.2.1 = { frames := 3, cells := 1, slots := 6, locals := 300 })  (S : ms) (hp : p_readMark  S K) : aw gG D z A X 4 0 [some (.ref o), none, none, none] [] [(0, ly_M, (o, ad, S.1, S.2.1, S.2.2))] 0 0 := by
  unfold p_readMark at hp
  refine a_aload_n C d_readMark_0 rfl rfl ?_
  refine a_getI C 0 34 d_readMark_1 rfl rfl rfl (Nat.le_of_ble_eq_true rfl) f_M_268 (Nat.le_of_ble_eq_true rfl) ?_
  refine a_istore_n (lo' := [some (.ref o), some (.int (S.1 34)), none, none]) C d_readMark_4 rfl (by decide) rfl ?_
  refine a_aload_n C d_readMark_5 rfl rfl ?_
  refine a_call (Lr := []) (rest := []) (av := .ref o :: []) C [0] [] d_readMark_6 (ct_next S hp) cd_M_next i_M (Nat.le_of_ble_eq_true rfl) (by rw [hR]; exact Nat.le_of_ble_eq_true rfl) (by rw [hR]; exact Nat.le_of_ble_eq_true rfl) (by rw [hR]; exact Nat.le_of_ble_eq_true rfl) (by rw [hR]; exact Nat.le_of_ble_eq_true rfl) rfl rfl (by decide) (by decide) (by decide) (inv_V C 0 d_readMark_6 l_M_281 im_M_next se_M_next cd_M_next ⟨by decide, by decide⟩ ln_M_next rfl rfl rfl rfl rfl) (fun oc L1 hL => ?_)
  obtain ⟨v6, S6, hp, rfl, rfl⟩ := hL
  refine ⟨_, rfl, ?_⟩
  refine aw_eq (lo' := _) (st' := [.int v6]) (L' := [(0, ly_M, (o, ad, S6.1, S6.2.1, S6.2.2))]) rfl rfl rfl ?_
  refine a_istore_n (lo' := [some (.ref o), some (.int (S.1 34)), some (.int v6), none]) C d_readMark_9 rfl (by decide) rfl ?_
  refine a_aload_n C d_readMark_10 rfl rfl ?_
  refine a_getI C 0 35 d_readMark_11 rfl rfl rfl (Nat.le_of_ble_eq_true rfl) f_M_265 (Nat.le_of_ble_eq_true rfl) ?_
  refine a_if_ne (tgt := 31) C d_readMark_14 (by decide) ⟨fun hc => ?_, fun hc => ?_⟩
  · have hp := hp.1 hc
    refine aw_lo (lo' := [some (.ref o), none, some (.int v6), none]) ⟨.inr rfl, .inl rfl, .inr rfl, .inr rfl, trivial⟩ ?_
    exact se_readMark_31 C hQ hA hR v6 (S6.1, S6.2.1, S6.2.2)  hp
  · have hp := hp.2 hc
    refine a_iload_n C d_readMark_17 rfl rfl ?_
    refine a_sipush (v := 255) C d_readMark_18 (by decide) ?_
    refine a_icmp_eq (tgt := 31) C d_readMark_21 (by decide) ⟨fun hc => ?_, fun hc => ?_⟩
    · have hp := hp.1 hc
      refine aw_lo (lo' := [some (.ref o), none, some (.int v6), none]) ⟨.inr rfl, .inl rfl, .inr rfl, .inr rfl, trivial⟩ ?_
      exact se_readMark_31 C hQ hA hR v6 (S6.1, S6.2.1, S6.2.2)  hp
    · have hp := hp.2 hc
      refine a_aload_n C d_readMark_24 rfl rfl ?_
      refine a_iconst (v := 2) C d_readMark_25 (by decide) ?_
      refine a_iload_n C d_readMark_26 rfl rfl ?_
      refine a_call (Lr := []) (rest := []) (av := .ref o :: [.int 2, .int (S.1 34)]) C [0] [] d_readMark_27 (ct_fail 2 (S.1 34) (S6.1, S6.2.1, S6.2.2) hp) cd_M_fail i_M (Nat.le_of_ble_eq_true rfl) (by rw [hR]; exact Nat.le_of_ble_eq_true rfl) (by rw [hR]; exact Nat.le_of_ble_eq_true rfl) (by rw [hR]; exact Nat.le_of_ble_eq_true rfl) (by rw [hR]; exact Nat.le_of_ble_eq_true rfl) rfl rfl (by decide) (by decide) (by decide) (inv_V C 0 d_readMark_27 l_M_271 im_M_fail se_M_fail cd_M_fail ⟨by decide, by decide⟩ ln_M_fail rfl rfl rfl rfl rfl) (fun oc L1 hL => ?_)
      obtain ⟨v27, S27, hp, rfl, rfl⟩ := hL
      refine ⟨_, rfl, ?_⟩
      refine aw_eq (lo' := _) (st' := [.int v27]) (L' := [(0, ly_M, (o, ad, S27.1, S27.2.1, S27.2.2))]) rfl rfl rfl ?_
      refine a_istore_n (lo' := [some (.ref o), some (.int (S.1 34)), some (.int v6), some (.int v27)]) C d_readMark_30 rfl (by decide) rfl ?_
      refine aw_lo (lo' := [some (.ref o), none, some (.int v6), none]) ⟨.inr rfl, .inl rfl, .inr rfl, .inl rfl, trivial⟩ ?_
      exact se_readMark_31 C hQ hA hR v6 (S27.1, S27.2.1, S27.2.2)  hp
end M_readMark
section M_readMarkc
variable {D : va_G} {z : Nat → ClassId} {o : Nat} {ad : Nat → Nat}
set_option maxRecDepth 100000 in
theorem ct_readMark {l : Launch}  (S : ms) {K : Int32 → ms → Prop} (hp : p_readMark  S K) : ct gG D z l n_M_readMark c_M_readMark 4 (some .int) 3 300 [.ref o] [(0, ly_M, (o, ad, S.1, S.2.1, S.2.2))] 0 0 (pM_i K o ad) := by
  refine ct_of (lo := [some (.ref o), none, none, none]) (by decide) g_ok (Nat.le_of_ble_eq_true rfl) rfl ?_
  intro X A _ C hR hQ hA _
  exact s_readMark_0 C hQ hA hR  S hp
end M_readMarkc
def p_nextTwo  (S : ms) (K : Int32 → ms → Prop) : Prop :=
  p_next S (fun v1 S1 => p_next (S1.1, S1.2.1, S1.2.2) (fun v6 S6 => K ((256 * v1) + v6) (S6.1, S6.2.1, S6.2.2)))
section M_nextTwo
variable {D : va_G} {z : Nat → ClassId} {A : Nat → Prop} {X : cx} {L0 : fw} {K : Int32 → ms → Prop} {o : Nat} {ad : Nat → Nat}
set_option maxRecDepth 100000 in
set_option maxHeartbeats 1000000 in
theorem s_nextTwo_0 (C : fcx gG D z A X R_M c_M_nextTwo 3 (some .int)) (hQ : X.2.2.2.2.2.2.2.2.2.2 = eQ gG D z X.2.2.2.2.2.2.2.1 X.2.2.2.2.1 L0 0 0 (pM_i K o ad)) (hA : A = owA gG L0 X.2.2.2.2.1.heap.size) (hR : X.2.2.2.1 = { frames := 3, cells := 1, slots := 6, locals := 300 })  (S : ms) (hp : p_nextTwo  S K) : aw gG D z A X 3 0 [some (.ref o), none, none] [] [(0, ly_M, (o, ad, S.1, S.2.1, S.2.2))] 0 0 := by
  unfold p_nextTwo at hp
  refine a_aload_n C d_nextTwo_0 rfl rfl ?_
  refine a_call (Lr := []) (rest := []) (av := .ref o :: []) C [0] [] d_nextTwo_1 (ct_next S hp) cd_M_next i_M (Nat.le_of_ble_eq_true rfl) (by rw [hR]; exact Nat.le_of_ble_eq_true rfl) (by rw [hR]; exact Nat.le_of_ble_eq_true rfl) (by rw [hR]; exact Nat.le_of_ble_eq_true rfl) (by rw [hR]; exact Nat.le_of_ble_eq_true rfl) rfl rfl (by decide) (by decide) (by decide) (inv_V C 0 d_nextTwo_1 l_M_281 im_M_next se_M_next cd_M_next ⟨by decide, by decide⟩ ln_M_next rfl rfl rfl rfl rfl) (fun oc L1 hL => ?_)
  obtain ⟨v1, S1, hp, rfl, rfl⟩ := hL
  refine ⟨_, rfl, ?_⟩
  refine aw_eq (lo' := _) (st' := [.int v1]) (L' := [(0, ly_M, (o, ad, S1.1, S1.2.1, S1.2.2))]) rfl rfl rfl ?_
  refine a_istore_n (lo' := [some (.ref o), some (.int v1), none]) C d_nextTwo_4 rfl (by decide) rfl ?_
  refine a_aload_n C d_nextTwo_5 rfl rfl ?_
  refine a_call (Lr := []) (rest := []) (av := .ref o :: []) C [0] [] d_nextTwo_6 (ct_next (S1.1, S1.2.1, S1.2.2) hp) cd_M_next i_M (Nat.le_of_ble_eq_true rfl) (by rw [hR]; exact Nat.le_of_ble_eq_true rfl) (by rw [hR]; exact Nat.le_of_ble_eq_true rfl) (by rw [hR]; exact Nat.le_of_ble_eq_true rfl) (by rw [hR]; exact Nat.le_of_ble_eq_true rfl) rfl rfl (by decide) (by decide) (by decide) (inv_V C 0 d_nextTwo_6 l_M_281 im_M_next se_M_next cd_M_next ⟨by decide, by decide⟩ ln_M_next rfl rfl rfl rfl rfl) (fun oc L1 hL => ?_)
  obtain ⟨v6, S6, hp, rfl, rfl⟩ := hL
  refine ⟨_, rfl, ?_⟩
  refine aw_eq (lo' := _) (st' := [.int v6]) (L' := [(0, ly_M, (o, ad, S6.1, S6.2.1, S6.2.2))]) rfl rfl rfl ?_
  refine a_istore_n (lo' := [some (.ref o), some (.int v1), some (.int v6)]) C d_nextTwo_9 rfl (by decide) rfl ?_
  refine a_sipush (v := 256) C d_nextTwo_10 (by decide) ?_
  refine a_iload_n C d_nextTwo_13 rfl rfl ?_
  refine a_imul C d_nextTwo_14 ?_
  refine a_iload_n C d_nextTwo_15 rfl rfl ?_
  refine a_iadd C d_nextTwo_16 ?_
  exact a_iret (ty := .int) C hQ hA d_nextTwo_17 rfl rfl ⟨_, (S6.1, S6.2.1, S6.2.2), hp, rfl, rfl⟩
end M_nextTwo
section M_nextTwoc
variable {D : va_G} {z : Nat → ClassId} {o : Nat} {ad : Nat → Nat}
set_option maxRecDepth 100000 in
theorem ct_nextTwo {l : Launch}  (S : ms) {K : Int32 → ms → Prop} (hp : p_nextTwo  S K) : ct gG D z l n_M_nextTwo c_M_nextTwo 3 (some .int) 3 300 [.ref o] [(0, ly_M, (o, ad, S.1, S.2.1, S.2.2))] 0 0 (pM_i K o ad) := by
  refine ct_of (lo := [some (.ref o), none, none]) (by decide) g_ok (Nat.le_of_ble_eq_true rfl) rfl ?_
  intro X A _ C hR hQ hA _
  exact s_nextTwo_0 C hQ hA hR  S hp
end M_nextTwoc
def b_readLength_45  (S : ms) (K : ms → Prop) : Prop :=
  K S
def p_readLength  (S : ms) (K : ms → Prop) : Prop :=
  p_nextTwo (upd S.1 37 (S.1 34), S.2.1, S.2.2) (fun v9 S9 => (¬ ((upd S9.1 36 ((S9.1 37) + v9)) 35) = 0 → (b_readLength_45 (upd S9.1 36 ((S9.1 37) + v9), S9.2.1, S9.2.2) K)) ∧ (((upd S9.1 36 ((S9.1 37) + v9)) 35) = 0 → ((2 ≤ v9 → (b_readLength_45 (upd S9.1 36 ((S9.1 37) + v9), S9.2.1, S9.2.2) K)) ∧ (¬ (2 ≤ v9) → (p_fail 4 ((upd S9.1 36 ((S9.1 37) + v9)) 37) (upd S9.1 36 ((S9.1 37) + v9), S9.2.1, S9.2.2) (fun v41 S41 => b_readLength_45 (S41.1, S41.2.1, S41.2.2) K))))))
section M_readLength
variable {D : va_G} {z : Nat → ClassId} {A : Nat → Prop} {X : cx} {L0 : fw} {K : ms → Prop} {o : Nat} {ad : Nat → Nat}
set_option maxRecDepth 100000 in
set_option maxHeartbeats 1000000 in
theorem s_readLength_45 (C : fcx gG D z A X R_M c_M_readLength 3 (none)) (hQ : X.2.2.2.2.2.2.2.2.2.2 = eQ gG D z X.2.2.2.2.2.2.2.1 X.2.2.2.2.1 L0 0 0 (pM_v K o ad)) (hA : A = owA gG L0 X.2.2.2.2.1.heap.size) (hR : X.2.2.2.1 = { frames := 4, cells := 1, slots := 6, locals := 400 })  (S : ms) (hp : b_readLength_45  S K) : aw gG D z A X 3 45 [some (.ref o), none, none] [] [(0, ly_M, (o, ad, S.1, S.2.1, S.2.2))] 0 0 := by
  unfold b_readLength_45 at hp
  exact a_vret C hQ hA d_readLength_45 rfl ⟨S, hp, rfl, rfl⟩
set_option maxRecDepth 100000 in
set_option maxHeartbeats 1000000 in
theorem s_readLength_0 (C : fcx gG D z A X R_M c_M_readLength 3 (none)) (hQ : X.2.2.2.2.2.2.2.2.2.2 = eQ gG D z X.2.2.2.2.2.2.2.1 X.2.2.2.2.1 L0 0 0 (pM_v K o ad)) (hA : A = owA gG L0 X.2.2.2.2.1.heap.size) (hR : X.2.2.2.1 = { frames := 4, cells := 1, slots := 6, locals := 400 })  (S : ms) (hp : p_readLength  S K) : aw gG D z A X 3 0 [some (.ref o), none, none] [] [(0, ly_M, (o, ad, S.1, S.2.1, S.2.2))] 0 0 := by
  unfold p_readLength at hp
  refine a_aload_n C d_readLength_0 rfl rfl ?_
  refine a_aload_n C d_readLength_1 rfl rfl ?_
  refine a_getI C 0 34 d_readLength_2 rfl rfl rfl (Nat.le_of_ble_eq_true rfl) f_M_268 (Nat.le_of_ble_eq_true rfl) ?_
  refine a_putI (ty := .int) C 0 37 d_readLength_5 rfl rfl rfl (Nat.le_of_ble_eq_true rfl) f_M_278 (Nat.le_of_ble_eq_true rfl) rfl rfl rfl rfl ?_
  refine aw_eq (lo' := _) (st' := _) (L' := [(0, ly_M, (o, ad, upd S.1 37 (S.1 34), S.2.1, S.2.2))]) rfl rfl rfl ?_
  refine a_aload_n C d_readLength_8 rfl rfl ?_
  refine a_call (Lr := []) (rest := []) (av := .ref o :: []) C [0] [] d_readLength_9 (ct_nextTwo (upd S.1 37 (S.1 34), S.2.1, S.2.2) hp) cd_M_nextTwo i_M (Nat.le_of_ble_eq_true rfl) (by rw [hR]; exact Nat.le_of_ble_eq_true rfl) (by rw [hR]; exact Nat.le_of_ble_eq_true rfl) (by rw [hR]; exact Nat.le_of_ble_eq_true rfl) (by rw [hR]; exact Nat.le_of_ble_eq_true rfl) rfl rfl (by decide) (by decide) (by decide) (inv_V C 0 d_readLength_9 l_M_285 im_M_nextTwo se_M_nextTwo cd_M_nextTwo ⟨by decide, by decide⟩ ln_M_nextTwo rfl rfl rfl rfl rfl) (fun oc L1 hL => ?_)
  obtain ⟨v9, S9, hp, rfl, rfl⟩ := hL
  refine ⟨_, rfl, ?_⟩
  refine aw_eq (lo' := _) (st' := [.int v9]) (L' := [(0, ly_M, (o, ad, S9.1, S9.2.1, S9.2.2))]) rfl rfl rfl ?_
  refine a_istore_n (lo' := [some (.ref o), some (.int v9), none]) C d_readLength_12 rfl (by decide) rfl ?_
  refine a_aload_n C d_readLength_13 rfl rfl ?_
  refine a_aload_n C d_readLength_14 rfl rfl ?_
  refine a_getI C 0 37 d_readLength_15 rfl rfl rfl (Nat.le_of_ble_eq_true rfl) f_M_278 (Nat.le_of_ble_eq_true rfl) ?_
  refine a_iload_n C d_readLength_18 rfl rfl ?_
  refine a_iadd C d_readLength_19 ?_
  refine a_putI (ty := .int) C 0 36 d_readLength_20 rfl rfl rfl (Nat.le_of_ble_eq_true rfl) f_M_275 (Nat.le_of_ble_eq_true rfl) rfl rfl rfl rfl ?_
  refine aw_eq (lo' := _) (st' := _) (L' := [(0, ly_M, (o, ad, upd S9.1 36 ((S9.1 37) + v9), S9.2.1, S9.2.2))]) rfl rfl rfl ?_
  refine a_aload_n C d_readLength_23 rfl rfl ?_
  refine a_getI C 0 35 d_readLength_24 rfl rfl rfl (Nat.le_of_ble_eq_true rfl) f_M_265 (Nat.le_of_ble_eq_true rfl) ?_
  refine a_if_ne (tgt := 45) C d_readLength_27 (by decide) ⟨fun hc => ?_, fun hc => ?_⟩
  · have hp := hp.1 hc
    refine aw_lo (lo' := [some (.ref o), none, none]) ⟨.inr rfl, .inl rfl, .inr rfl, trivial⟩ ?_
    exact s_readLength_45 C hQ hA hR (upd S9.1 36 ((S9.1 37) + v9), S9.2.1, S9.2.2)  hp
  · have hp := hp.2 hc
    refine a_iload_n C d_readLength_30 rfl rfl ?_
    refine a_iconst (v := 2) C d_readLength_31 (by decide) ?_
    refine a_icmp_ge (tgt := 45) C d_readLength_32 (by decide) ⟨fun hc => ?_, fun hc => ?_⟩
    · have hp := hp.1 hc
      refine aw_lo (lo' := [some (.ref o), none, none]) ⟨.inr rfl, .inl rfl, .inr rfl, trivial⟩ ?_
      exact s_readLength_45 C hQ hA hR (upd S9.1 36 ((S9.1 37) + v9), S9.2.1, S9.2.2)  hp
    · have hp := hp.2 hc
      refine a_aload_n C d_readLength_35 rfl rfl ?_
      refine a_iconst (v := 4) C d_readLength_36 (by decide) ?_
      refine a_aload_n C d_readLength_37 rfl rfl ?_
      refine a_getI C 0 37 d_readLength_38 rfl rfl rfl (Nat.le_of_ble_eq_true rfl) f_M_278 (Nat.le_of_ble_eq_true rfl) ?_
      refine a_call (Lr := []) (rest := []) (av := .ref o :: [.int 4, .int ((upd S9.1 36 ((S9.1 37) + v9)) 37)]) C [0] [] d_readLength_41 (ct_fail 4 ((upd S9.1 36 ((S9.1 37) + v9)) 37) (upd S9.1 36 ((S9.1 37) + v9), S9.2.1, S9.2.2) hp) cd_M_fail i_M (Nat.le_of_ble_eq_true rfl) (by rw [hR]; exact Nat.le_of_ble_eq_true rfl) (by rw [hR]; exact Nat.le_of_ble_eq_true rfl) (by rw [hR]; exact Nat.le_of_ble_eq_true rfl) (by rw [hR]; exact Nat.le_of_ble_eq_true rfl) rfl rfl (by decide) (by decide) (by decide) (inv_V C 0 d_readLength_41 l_M_271 im_M_fail se_M_fail cd_M_fail ⟨by decide, by decide⟩ ln_M_fail rfl rfl rfl rfl rfl) (fun oc L1 hL => ?_)
      obtain ⟨v41, S41, hp, rfl, rfl⟩ := hL
      refine ⟨_, rfl, ?_⟩
      refine aw_eq (lo' := _) (st' := [.int v41]) (L' := [(0, ly_M, (o, ad, S41.1, S41.2.1, S41.2.2))]) rfl rfl rfl ?_
      refine a_istore_n (lo' := [some (.ref o), some (.int v9), some (.int v41)]) C d_readLength_44 rfl (by decide) rfl ?_
      refine aw_lo (lo' := [some (.ref o), none, none]) ⟨.inr rfl, .inl rfl, .inl rfl, trivial⟩ ?_
      exact s_readLength_45 C hQ hA hR (S41.1, S41.2.1, S41.2.2)  hp
end M_readLength
section M_readLengthc
variable {D : va_G} {z : Nat → ClassId} {o : Nat} {ad : Nat → Nat}
set_option maxRecDepth 100000 in
theorem ct_readLength {l : Launch}  (S : ms) {K : ms → Prop} (hp : p_readLength  S K) : ct gG D z l n_M_readLength c_M_readLength 3 (none) 4 400 [.ref o] [(0, ly_M, (o, ad, S.1, S.2.1, S.2.2))] 0 0 (pM_v K o ad) := by
  refine ct_of (lo := [some (.ref o), none, none]) (by decide) g_ok (Nat.le_of_ble_eq_true rfl) rfl ?_
  intro X A _ C hR hQ hA _
  exact s_readLength_0 C hQ hA hR  S hp
end M_readLengthc
def b_must_18  (S : ms) (K : ms → Prop) : Prop :=
  K S
def p_must (x1 : Int32) (x2 : Int32) (S : ms) (K : ms → Prop) : Prop :=
  (¬ (S.1 35) = 0 → (b_must_18 S K)) ∧ ((S.1 35) = 0 → ((¬ x1 = 0 → (b_must_18 S K)) ∧ (x1 = 0 → (p_fail 5 x2 S (fun v14 S14 => b_must_18 (S14.1, S14.2.1, S14.2.2) K)))))
section M_must
variable {D : va_G} {z : Nat → ClassId} {A : Nat → Prop} {X : cx} {L0 : fw} {K : ms → Prop} {o : Nat} {ad : Nat → Nat}
set_option maxRecDepth 100000 in
set_option maxHeartbeats 1000000 in
theorem s_must_18 (C : fcx gG D z A X R_M c_M_must 4 (none)) (hQ : X.2.2.2.2.2.2.2.2.2.2 = eQ gG D z X.2.2.2.2.2.2.2.1 X.2.2.2.2.1 L0 0 0 (pM_v K o ad)) (hA : A = owA gG L0 X.2.2.2.2.1.heap.size) (hR : X.2.2.2.1 = { frames := 2, cells := 1, slots := 6, locals := 200 })  (S : ms) (hp : b_must_18  S K) : aw gG D z A X 4 18 [some (.ref o), none, none, none] [] [(0, ly_M, (o, ad, S.1, S.2.1, S.2.2))] 0 0 := by
  unfold b_must_18 at hp
  exact a_vret C hQ hA d_must_18 rfl ⟨S, hp, rfl, rfl⟩
set_option maxRecDepth 100000 in
set_option maxHeartbeats 1000000 in
theorem s_must_0 (C : fcx gG D z A X R_M c_M_must 4 (none)) (hQ : X.2.2.2.2.2.2.2.2.2.2 = eQ gG D z X.2.2.2.2.2.2.2.1 X.2.2.2.2.1 L0 0 0 (pM_v K o ad)) (hA : A = owA gG L0 X.2.2.2.2.1.heap.size) (hR : X.2.2.2.1 = { frames := 2, cells := 1, slots := 6, locals := 200 }) (x1 : Int32) (x2 : Int32) (S : ms) (hp : p_must x1 x2 S K) : aw gG D z A X 4 0 [some (.ref o), some (.int x1), some (.int x2), none] [] [(0, ly_M, (o, ad, S.1, S.2.1, S.2.2))] 0 0 := by
  unfold p_must at hp
  refine a_aload_n C d_must_0 rfl rfl ?_
  refine a_getI C 0 35 d_must_1 rfl rfl rfl (Nat.le_of_ble_eq_true rfl) f_M_265 (Nat.le_of_ble_eq_true rfl) ?_
  refine a_if_ne (tgt := 18) C d_must_4 (by decide) ⟨fun hc => ?_, fun hc => ?_⟩
  · have hp := hp.1 hc
    refine aw_lo (lo' := [some (.ref o), none, none, none]) ⟨.inr rfl, .inl rfl, .inl rfl, .inr rfl, trivial⟩ ?_
    exact s_must_18 C hQ hA hR S  hp
  · have hp := hp.2 hc
    refine a_iload_n C d_must_7 rfl rfl ?_
    refine a_if_ne (tgt := 18) C d_must_8 (by decide) ⟨fun hc => ?_, fun hc => ?_⟩
    · have hp := hp.1 hc
      refine aw_lo (lo' := [some (.ref o), none, none, none]) ⟨.inr rfl, .inl rfl, .inl rfl, .inr rfl, trivial⟩ ?_
      exact s_must_18 C hQ hA hR S  hp
    · have hp := hp.2 hc
      refine a_aload_n C d_must_11 rfl rfl ?_
      refine a_iconst (v := 5) C d_must_12 (by decide) ?_
      refine a_iload_n C d_must_13 rfl rfl ?_
      refine a_call (Lr := []) (rest := []) (av := .ref o :: [.int 5, .int x2]) C [0] [] d_must_14 (ct_fail 5 x2 S hp) cd_M_fail i_M (Nat.le_of_ble_eq_true rfl) (by rw [hR]; exact Nat.le_of_ble_eq_true rfl) (by rw [hR]; exact Nat.le_of_ble_eq_true rfl) (by rw [hR]; exact Nat.le_of_ble_eq_true rfl) (by rw [hR]; exact Nat.le_of_ble_eq_true rfl) rfl rfl (by decide) (by decide) (by decide) (inv_V C 0 d_must_14 l_M_271 im_M_fail se_M_fail cd_M_fail ⟨by decide, by decide⟩ ln_M_fail rfl rfl rfl rfl rfl) (fun oc L1 hL => ?_)
      obtain ⟨v14, S14, hp, rfl, rfl⟩ := hL
      refine ⟨_, rfl, ?_⟩
      refine aw_eq (lo' := _) (st' := [.int v14]) (L' := [(0, ly_M, (o, ad, S14.1, S14.2.1, S14.2.2))]) rfl rfl rfl ?_
      refine a_istore_n (lo' := [some (.ref o), some (.int x1), some (.int x2), some (.int v14)]) C d_must_17 rfl (by decide) rfl ?_
      refine aw_lo (lo' := [some (.ref o), none, none, none]) ⟨.inr rfl, .inl rfl, .inl rfl, .inl rfl, trivial⟩ ?_
      exact s_must_18 C hQ hA hR (S14.1, S14.2.1, S14.2.2)  hp
end M_must
section M_mustc
variable {D : va_G} {z : Nat → ClassId} {o : Nat} {ad : Nat → Nat}
set_option maxRecDepth 100000 in
theorem ct_must {l : Launch} (x1 : Int32) (x2 : Int32) (S : ms) {K : ms → Prop} (hp : p_must x1 x2 S K) : ct gG D z l n_M_must c_M_must 4 (none) 2 200 [.ref o, .int x1, .int x2] [(0, ly_M, (o, ad, S.1, S.2.1, S.2.2))] 0 0 (pM_v K o ad) := by
  refine ct_of (lo := [some (.ref o), some (.int x1), some (.int x2), none]) (by decide) g_ok (Nat.le_of_ble_eq_true rfl) rfl ?_
  intro X A _ C hR hQ hA _
  exact s_must_0 C hQ hA hR x1 x2 S hp
end M_mustc
def b_readTables_144  (S : ms) (K : ms → Prop) : Prop :=
  K S
def b_readTables_140 (s0 : Int32) (S : ms) (R2 : Int32 → ms → Prop) (K : ms → Prop) : Prop :=
  R2 s0 S
def b_readTables_124  (S : ms) (R2 : Int32 → ms → Prop) (K : ms → Prop) : Prop :=
  ((S.1 36) ≤ (S.1 34) → (b_readTables_140 0 S R2 K)) ∧ (¬ ((S.1 36) ≤ (S.1 34)) → (b_readTables_140 1 S R2 K))
def b_readTables_110 (x2 : Int32) (S : ms) (R2 : Int32 → ms → Prop) (K : ms → Prop) : Prop :=
  (¬ (S.1 35) = 0 → (b_readTables_124 S R2 K)) ∧ ((S.1 35) = 0 → (vp_in x2 4 ∧ (b_readTables_124 (S.1, va_up S.2.1 39 (upd (S.2.1 39) x2.toNatClampNeg (vp_nar .boolean 1)), S.2.2) R2 K)))
def b_readTables_104 (x2 : Int32) (x3 : Int32) (S : ms) (R2 : Int32 → ms → Prop) (R40 : Int32 → Int32 → ms → Prop) (K : ms → Prop) : Prop :=
  R40 x2 (x3 + 1) S
def b_readTables_70 (x2 : Int32) (x3 : Int32) (x4 : Int32) (s1 : Int32) (S : ms) (R2 : Int32 → ms → Prop) (R40 : Int32 → Int32 → ms → Prop) (K : ms → Prop) : Prop :=
  p_must s1 ((S.1 34) - 1) S (fun S76 => (¬ (S76.1 35) = 0 → (b_readTables_104 x2 x3 (S76.1, S76.2.1, S76.2.2) R2 R40 K)) ∧ ((S76.1 35) = 0 → (vp_in x3 64 ∧ (vp_in ((64 * x2) + (S76.2.1 22 x3.toNatClampNeg)) 256 ∧ (b_readTables_104 x2 x3 (S76.1, va_up S76.2.1 38 (upd (S76.2.1 38) ((64 * x2) + (S76.2.1 22 x3.toNatClampNeg)).toNatClampNeg x4), S76.2.2) R2 R40 K)))))
def b_readTables_40 (x2 : Int32) (x3 : Int32) (S : ms) (R2 : Int32 → ms → Prop) (R40 : Int32 → Int32 → ms → Prop) (K : ms → Prop) : Prop :=
  (64 ≤ x3 → (b_readTables_110 x2 S R2 K)) ∧ (¬ (64 ≤ x3) → ((¬ (S.1 35) = 0 → (b_readTables_110 x2 S R2 K)) ∧ ((S.1 35) = 0 → (p_nextWithin S (fun v54 S54 => (v54 ≤ 0 → (b_readTables_70 x2 x3 v54 0 (S54.1, S54.2.1, S54.2.2) R2 R40 K)) ∧ (¬ (v54 ≤ 0) → (b_readTables_70 x2 x3 v54 1 (S54.1, S54.2.1, S54.2.2) R2 R40 K)))))))
def e_readTables_40 (x2 : Int32) (x3 : Int32) (S : ms) (R2 : Int32 → ms → Prop) (K : ms → Prop) : Prop :=
  ∃ (I : Int32 → Int32 → ms → Prop) (μ : Int32 → Int32 → ms → Nat), I x2 x3 S ∧ ∀ yx2 yx3 yS, I yx2 yx3 yS → b_readTables_40 yx2 yx3 yS R2 (fun zx2 zx3 zS => I zx2 zx3 zS ∧ μ zx2 zx3 zS < μ yx2 yx3 yS) K
def b_readTables_29 (x2 : Int32) (s1 : Int32) (S : ms) (R2 : Int32 → ms → Prop) (K : ms → Prop) : Prop :=
  p_must s1 ((S.1 34) - 1) S (fun S35 => e_readTables_40 x2 0 (S35.1, S35.2.1, S35.2.2) R2 K)
def b_readTables_2 (x1 : Int32) (S : ms) (R2 : Int32 → ms → Prop) (K : ms → Prop) : Prop :=
  (x1 = 0 → (b_readTables_144 S K)) ∧ (¬ (x1 = 0) → ((¬ (S.1 35) = 0 → (b_readTables_144 S K)) ∧ ((S.1 35) = 0 → (p_nextWithin S (fun v14 S14 => (4 ≤ v14 → (b_readTables_29 v14 0 (S14.1, S14.2.1, S14.2.2) R2 K)) ∧ (¬ (4 ≤ v14) → (b_readTables_29 v14 1 (S14.1, S14.2.1, S14.2.2) R2 K)))))))
def e_readTables_2 (x1 : Int32) (S : ms) (K : ms → Prop) : Prop :=
  ∃ (I : Int32 → ms → Prop) (μ : Int32 → ms → Nat), I x1 S ∧ ∀ yx1 yS, I yx1 yS → b_readTables_2 yx1 yS (fun zx1 zS => I zx1 zS ∧ μ zx1 zS < μ yx1 yS) K
def p_readTables  (S : ms) (K : ms → Prop) : Prop :=
  e_readTables_2 1 S K
section M_readTables
variable {D : va_G} {z : Nat → ClassId} {A : Nat → Prop} {X : cx} {L0 : fw} {K : ms → Prop} {o : Nat} {ad : Nat → Nat}
set_option maxRecDepth 100000 in
set_option maxHeartbeats 1000000 in
theorem s_readTables_144 (C : fcx gG D z A X R_M c_M_readTables 5 (none)) (hQ : X.2.2.2.2.2.2.2.2.2.2 = eQ gG D z X.2.2.2.2.2.2.2.1 X.2.2.2.2.1 L0 0 0 (pM_v K o ad)) (hA : A = owA gG L0 X.2.2.2.2.1.heap.size) (hR : X.2.2.2.1 = { frames := 4, cells := 1, slots := 6, locals := 400 })  (S : ms) (hp : b_readTables_144  S K) : aw gG D z A X 5 144 [some (.ref o), none, none, none, none] [] [(0, ly_M, (o, ad, S.1, S.2.1, S.2.2))] 0 0 := by
  unfold b_readTables_144 at hp
  exact a_vret C hQ hA d_readTables_144 rfl ⟨S, hp, rfl, rfl⟩
set_option maxRecDepth 100000 in
set_option maxHeartbeats 1000000 in
theorem s_readTables_140 (C : fcx gG D z A X R_M c_M_readTables 5 (none)) (hQ : X.2.2.2.2.2.2.2.2.2.2 = eQ gG D z X.2.2.2.2.2.2.2.1 X.2.2.2.2.1 L0 0 0 (pM_v K o ad)) (hA : A = owA gG L0 X.2.2.2.2.1.heap.size) (hR : X.2.2.2.1 = { frames := 4, cells := 1, slots := 6, locals := 400 }) (s0 : Int32) (S : ms) (R2 : Int32 → ms → Prop) (hR2 : ∀ yx1 yS, R2 yx1 yS → aw gG D z A X 5 2 [some (.ref o), some (.int yx1), none, none, none] [] [(0, ly_M, (o, ad, yS.1, yS.2.1, yS.2.2))] 0 0) (hp : b_readTables_140 s0 S R2 K) : aw gG D z A X 5 140 [some (.ref o), none, none, none, none] [.int s0] [(0, ly_M, (o, ad, S.1, S.2.1, S.2.2))] 0 0 := by
  unfold b_readTables_140 at hp
  refine a_istore_n (lo' := [some (.ref o), some (.int s0), none, none, none]) C d_readTables_140 rfl (by decide) rfl ?_
  refine a_goto (tgt := 2) C d_readTables_141 (by decide) ?_
  refine aw_lo (lo' := [some (.ref o), some (.int s0), none, none, none]) ⟨.inr rfl, .inr rfl, .inr rfl, .inr rfl, .inr rfl, trivial⟩ ?_
  exact hR2 s0 S hp
set_option maxRecDepth 100000 in
set_option maxHeartbeats 1000000 in
theorem s_readTables_124 (C : fcx gG D z A X R_M c_M_readTables 5 (none)) (hQ : X.2.2.2.2.2.2.2.2.2.2 = eQ gG D z X.2.2.2.2.2.2.2.1 X.2.2.2.2.1 L0 0 0 (pM_v K o ad)) (hA : A = owA gG L0 X.2.2.2.2.1.heap.size) (hR : X.2.2.2.1 = { frames := 4, cells := 1, slots := 6, locals := 400 })  (S : ms) (R2 : Int32 → ms → Prop) (hR2 : ∀ yx1 yS, R2 yx1 yS → aw gG D z A X 5 2 [some (.ref o), some (.int yx1), none, none, none] [] [(0, ly_M, (o, ad, yS.1, yS.2.1, yS.2.2))] 0 0) (hp : b_readTables_124  S R2 K) : aw gG D z A X 5 124 [some (.ref o), none, none, none, none] [] [(0, ly_M, (o, ad, S.1, S.2.1, S.2.2))] 0 0 := by
  unfold b_readTables_124 at hp
  refine a_aload_n C d_readTables_124 rfl rfl ?_
  refine a_getI C 0 34 d_readTables_125 rfl rfl rfl (Nat.le_of_ble_eq_true rfl) f_M_268 (Nat.le_of_ble_eq_true rfl) ?_
  refine a_aload_n C d_readTables_128 rfl rfl ?_
  refine a_getI C 0 36 d_readTables_129 rfl rfl rfl (Nat.le_of_ble_eq_true rfl) f_M_275 (Nat.le_of_ble_eq_true rfl) ?_
  refine a_icmp_ge (tgt := 139) C d_readTables_132 (by decide) ⟨fun hc => ?_, fun hc => ?_⟩
  · have hp := hp.1 hc
    refine a_iconst (v := 0) C d_readTables_139 (by decide) ?_
    refine aw_lo (lo' := [some (.ref o), none, none, none, none]) ⟨.inr rfl, .inr rfl, .inr rfl, .inr rfl, .inr rfl, trivial⟩ ?_
    exact s_readTables_140 C hQ hA hR 0 S R2 hR2 hp
  · have hp := hp.2 hc
    refine a_iconst (v := 1) C d_readTables_135 (by decide) ?_
    refine a_goto (tgt := 140) C d_readTables_136 (by decide) ?_
    refine aw_lo (lo' := [some (.ref o), none, none, none, none]) ⟨.inr rfl, .inr rfl, .inr rfl, .inr rfl, .inr rfl, trivial⟩ ?_
    exact s_readTables_140 C hQ hA hR 1 S R2 hR2 hp
set_option maxRecDepth 100000 in
set_option maxHeartbeats 1000000 in
theorem s_readTables_110 (C : fcx gG D z A X R_M c_M_readTables 5 (none)) (hQ : X.2.2.2.2.2.2.2.2.2.2 = eQ gG D z X.2.2.2.2.2.2.2.1 X.2.2.2.2.1 L0 0 0 (pM_v K o ad)) (hA : A = owA gG L0 X.2.2.2.2.1.heap.size) (hR : X.2.2.2.1 = { frames := 4, cells := 1, slots := 6, locals := 400 }) (x2 : Int32) (S : ms) (R2 : Int32 → ms → Prop) (hR2 : ∀ yx1 yS, R2 yx1 yS → aw gG D z A X 5 2 [some (.ref o), some (.int yx1), none, none, none] [] [(0, ly_M, (o, ad, yS.1, yS.2.1, yS.2.2))] 0 0) (hp : b_readTables_110 x2 S R2 K) : aw gG D z A X 5 110 [some (.ref o), none, some (.int x2), none, none] [] [(0, ly_M, (o, ad, S.1, S.2.1, S.2.2))] 0 0 := by
  unfold b_readTables_110 at hp
  refine a_aload_n C d_readTables_110 rfl rfl ?_
  refine a_getI C 0 35 d_readTables_111 rfl rfl rfl (Nat.le_of_ble_eq_true rfl) f_M_265 (Nat.le_of_ble_eq_true rfl) ?_
  refine a_if_ne (tgt := 124) C d_readTables_114 (by decide) ⟨fun hc => ?_, fun hc => ?_⟩
  · have hp := hp.1 hc
    refine aw_lo (lo' := [some (.ref o), none, none, none, none]) ⟨.inr rfl, .inr rfl, .inl rfl, .inr rfl, .inr rfl, trivial⟩ ?_
    exact s_readTables_124 C hQ hA hR S R2 hR2 hp
  · have hp := hp.2 hc
    refine a_aload_n C d_readTables_117 rfl rfl ?_
    refine a_getR C 0 39 d_readTables_118 rfl rfl rfl (Nat.le_of_ble_eq_true rfl) f_M_106 ⟨Nat.le_of_ble_eq_true rfl, Nat.le_of_ble_eq_true rfl⟩ ?_
    refine a_iload_n C d_readTables_121 rfl rfl ?_
    refine a_iconst (v := 1) C d_readTables_122 (by decide) ?_
    refine a_zast C 0 39 d_readTables_123 rfl rfl rfl hp.1 ?_
    have hp := hp.2
    refine aw_eq (lo' := _) (st' := _) (L' := [(0, ly_M, (o, ad, S.1, va_up S.2.1 39 (upd (S.2.1 39) x2.toNatClampNeg (vp_nar .boolean 1)), S.2.2))]) rfl rfl rfl ?_
    refine aw_lo (lo' := [some (.ref o), none, none, none, none]) ⟨.inr rfl, .inr rfl, .inl rfl, .inr rfl, .inr rfl, trivial⟩ ?_
    exact s_readTables_124 C hQ hA hR (S.1, va_up S.2.1 39 (upd (S.2.1 39) x2.toNatClampNeg (vp_nar .boolean 1)), S.2.2) R2 hR2 hp
set_option maxRecDepth 100000 in
set_option maxHeartbeats 1000000 in
theorem s_readTables_104 (C : fcx gG D z A X R_M c_M_readTables 5 (none)) (hQ : X.2.2.2.2.2.2.2.2.2.2 = eQ gG D z X.2.2.2.2.2.2.2.1 X.2.2.2.2.1 L0 0 0 (pM_v K o ad)) (hA : A = owA gG L0 X.2.2.2.2.1.heap.size) (hR : X.2.2.2.1 = { frames := 4, cells := 1, slots := 6, locals := 400 }) (x2 : Int32) (x3 : Int32) (S : ms) (R2 : Int32 → ms → Prop) (hR2 : ∀ yx1 yS, R2 yx1 yS → aw gG D z A X 5 2 [some (.ref o), some (.int yx1), none, none, none] [] [(0, ly_M, (o, ad, yS.1, yS.2.1, yS.2.2))] 0 0) (R40 : Int32 → Int32 → ms → Prop) (hR40 : ∀ yx2 yx3 yS, R40 yx2 yx3 yS → aw gG D z A X 5 40 [some (.ref o), none, some (.int yx2), some (.int yx3), none] [] [(0, ly_M, (o, ad, yS.1, yS.2.1, yS.2.2))] 0 0) (hp : b_readTables_104 x2 x3 S R2 R40 K) : aw gG D z A X 5 104 [some (.ref o), none, some (.int x2), some (.int x3), none] [] [(0, ly_M, (o, ad, S.1, S.2.1, S.2.2))] 0 0 := by
  unfold b_readTables_104 at hp
  refine a_iinc (v := x3 + 1) (lo' := [some (.ref o), none, some (.int x2), some (.int (x3 + 1)), none]) C d_readTables_104 rfl rfl (by decide) rfl ?_
  refine a_goto (tgt := 40) C d_readTables_107 (by decide) ?_
  refine aw_lo (lo' := [some (.ref o), none, some (.int x2), some (.int (x3 + 1)), none]) ⟨.inr rfl, .inr rfl, .inr rfl, .inr rfl, .inr rfl, trivial⟩ ?_
  exact hR40 x2 (x3 + 1) S hp
set_option maxRecDepth 100000 in
set_option maxHeartbeats 1000000 in
theorem s_readTables_70 (C : fcx gG D z A X R_M c_M_readTables 5 (none)) (hQ : X.2.2.2.2.2.2.2.2.2.2 = eQ gG D z X.2.2.2.2.2.2.2.1 X.2.2.2.2.1 L0 0 0 (pM_v K o ad)) (hA : A = owA gG L0 X.2.2.2.2.1.heap.size) (hR : X.2.2.2.1 = { frames := 4, cells := 1, slots := 6, locals := 400 }) (x2 : Int32) (x3 : Int32) (x4 : Int32) (s1 : Int32) (S : ms) (R2 : Int32 → ms → Prop) (hR2 : ∀ yx1 yS, R2 yx1 yS → aw gG D z A X 5 2 [some (.ref o), some (.int yx1), none, none, none] [] [(0, ly_M, (o, ad, yS.1, yS.2.1, yS.2.2))] 0 0) (R40 : Int32 → Int32 → ms → Prop) (hR40 : ∀ yx2 yx3 yS, R40 yx2 yx3 yS → aw gG D z A X 5 40 [some (.ref o), none, some (.int yx2), some (.int yx3), none] [] [(0, ly_M, (o, ad, yS.1, yS.2.1, yS.2.2))] 0 0) (hp : b_readTables_70 x2 x3 x4 s1 S R2 R40 K) : aw gG D z A X 5 70 [some (.ref o), none, some (.int x2), some (.int x3), some (.int x4)] [.int s1, .ref o] [(0, ly_M, (o, ad, S.1, S.2.1, S.2.2))] 0 0 := by
  unfold b_readTables_70 at hp
  refine a_aload_n C d_readTables_70 rfl rfl ?_
  refine a_getI C 0 34 d_readTables_71 rfl rfl rfl (Nat.le_of_ble_eq_true rfl) f_M_268 (Nat.le_of_ble_eq_true rfl) ?_
  refine a_iconst (v := 1) C d_readTables_74 (by decide) ?_
  refine a_isub C d_readTables_75 ?_
  refine a_call (Lr := []) (rest := []) (av := .ref o :: [.int s1, .int ((S.1 34) - 1)]) C [0] [] d_readTables_76 (ct_must s1 ((S.1 34) - 1) S hp) cd_M_must i_M (Nat.le_of_ble_eq_true rfl) (by rw [hR]; exact Nat.le_of_ble_eq_true rfl) (by rw [hR]; exact Nat.le_of_ble_eq_true rfl) (by rw [hR]; exact Nat.le_of_ble_eq_true rfl) (by rw [hR]; exact Nat.le_of_ble_eq_true rfl) rfl rfl (by decide) (by decide) (by decide) (inv_V C 0 d_readTables_76 l_M_291 im_M_must se_M_must cd_M_must ⟨by decide, by decide⟩ ln_M_must rfl rfl rfl rfl rfl) (fun oc L1 hL => ?_)
  obtain ⟨S76, hp, rfl, rfl⟩ := hL
  refine ⟨_, rfl, ?_⟩
  refine aw_eq (lo' := _) (st' := []) (L' := [(0, ly_M, (o, ad, S76.1, S76.2.1, S76.2.2))]) rfl rfl rfl ?_
  refine a_aload_n C d_readTables_79 rfl rfl ?_
  refine a_getI C 0 35 d_readTables_80 rfl rfl rfl (Nat.le_of_ble_eq_true rfl) f_M_265 (Nat.le_of_ble_eq_true rfl) ?_
  refine a_if_ne (tgt := 104) C d_readTables_83 (by decide) ⟨fun hc => ?_, fun hc => ?_⟩
  · have hp := hp.1 hc
    refine aw_lo (lo' := [some (.ref o), none, some (.int x2), some (.int x3), none]) ⟨.inr rfl, .inr rfl, .inr rfl, .inr rfl, .inl rfl, trivial⟩ ?_
    exact s_readTables_104 C hQ hA hR x2 x3 (S76.1, S76.2.1, S76.2.2) R2 hR2 R40 hR40 hp
  · have hp := hp.2 hc
    refine a_aload_n C d_readTables_86 rfl rfl ?_
    refine a_getR C 0 38 d_readTables_87 rfl rfl rfl (Nat.le_of_ble_eq_true rfl) f_M_103 ⟨Nat.le_of_ble_eq_true rfl, Nat.le_of_ble_eq_true rfl⟩ ?_
    refine a_bipush (v := 64) C d_readTables_90 (by decide) ?_
    refine a_iload_n C d_readTables_92 rfl rfl ?_
    refine a_imul C d_readTables_93 ?_
    refine a_aload_n C d_readTables_94 rfl rfl ?_
    refine a_getR C 0 22 d_readTables_95 rfl rfl rfl (Nat.le_of_ble_eq_true rfl) f_M_72 ⟨Nat.le_of_ble_eq_true rfl, Nat.le_of_ble_eq_true rfl⟩ ?_
    refine a_iload_n C d_readTables_98 rfl rfl ?_
    refine a_iald C 0 22 d_readTables_99 rfl rfl rfl hp.1 ?_
    have hp := hp.2
    refine a_iadd C d_readTables_100 ?_
    refine a_iload C d_readTables_101 rfl ?_
    refine a_iast C 0 38 d_readTables_103 rfl rfl rfl hp.1 ?_
    have hp := hp.2
    refine aw_eq (lo' := _) (st' := _) (L' := [(0, ly_M, (o, ad, S76.1, va_up S76.2.1 38 (upd (S76.2.1 38) ((64 * x2) + (S76.2.1 22 x3.toNatClampNeg)).toNatClampNeg x4), S76.2.2))]) rfl rfl rfl ?_
    refine aw_lo (lo' := [some (.ref o), none, some (.int x2), some (.int x3), none]) ⟨.inr rfl, .inr rfl, .inr rfl, .inr rfl, .inl rfl, trivial⟩ ?_
    exact s_readTables_104 C hQ hA hR x2 x3 (S76.1, va_up S76.2.1 38 (upd (S76.2.1 38) ((64 * x2) + (S76.2.1 22 x3.toNatClampNeg)).toNatClampNeg x4), S76.2.2) R2 hR2 R40 hR40 hp
set_option maxRecDepth 100000 in
set_option maxHeartbeats 1000000 in
theorem s_readTables_40 (C : fcx gG D z A X R_M c_M_readTables 5 (none)) (hQ : X.2.2.2.2.2.2.2.2.2.2 = eQ gG D z X.2.2.2.2.2.2.2.1 X.2.2.2.2.1 L0 0 0 (pM_v K o ad)) (hA : A = owA gG L0 X.2.2.2.2.1.heap.size) (hR : X.2.2.2.1 = { frames := 4, cells := 1, slots := 6, locals := 400 }) (x2 : Int32) (x3 : Int32) (S : ms) (R2 : Int32 → ms → Prop) (hR2 : ∀ yx1 yS, R2 yx1 yS → aw gG D z A X 5 2 [some (.ref o), some (.int yx1), none, none, none] [] [(0, ly_M, (o, ad, yS.1, yS.2.1, yS.2.2))] 0 0) (R40 : Int32 → Int32 → ms → Prop) (hR40 : ∀ yx2 yx3 yS, R40 yx2 yx3 yS → aw gG D z A X 5 40 [some (.ref o), none, some (.int yx2), some (.int yx3), none] [] [(0, ly_M, (o, ad, yS.1, yS.2.1, yS.2.2))] 0 0) (hp : b_readTables_40 x2 x3 S R2 R40 K) : aw gG D z A X 5 40 [some (.ref o), none, some (.int x2), some (.int x3), none] [] [(0, ly_M, (o, ad, S.1, S.2.1, S.2.2))] 0 0 := by
  unfold b_readTables_40 at hp
  refine a_iload_n C d_readTables_40 rfl rfl ?_
  refine a_bipush (v := 64) C d_readTables_41 (by decide) ?_
  refine a_icmp_ge (tgt := 110) C d_readTables_43 (by decide) ⟨fun hc => ?_, fun hc => ?_⟩
  · have hp := hp.1 hc
    refine aw_lo (lo' := [some (.ref o), none, some (.int x2), none, none]) ⟨.inr rfl, .inr rfl, .inr rfl, .inl rfl, .inr rfl, trivial⟩ ?_
    exact s_readTables_110 C hQ hA hR x2 S R2 hR2 hp
  · have hp := hp.2 hc
    refine a_aload_n C d_readTables_46 rfl rfl ?_
    refine a_getI C 0 35 d_readTables_47 rfl rfl rfl (Nat.le_of_ble_eq_true rfl) f_M_265 (Nat.le_of_ble_eq_true rfl) ?_
    refine a_if_ne (tgt := 110) C d_readTables_50 (by decide) ⟨fun hc => ?_, fun hc => ?_⟩
    · have hp := hp.1 hc
      refine aw_lo (lo' := [some (.ref o), none, some (.int x2), none, none]) ⟨.inr rfl, .inr rfl, .inr rfl, .inl rfl, .inr rfl, trivial⟩ ?_
      exact s_readTables_110 C hQ hA hR x2 S R2 hR2 hp
    · have hp := hp.2 hc
      refine a_aload_n C d_readTables_53 rfl rfl ?_
      refine a_call (Lr := []) (rest := []) (av := .ref o :: []) C [0] [] d_readTables_54 (ct_nextWithin S hp) cd_M_nextWithin i_M (Nat.le_of_ble_eq_true rfl) (by rw [hR]; exact Nat.le_of_ble_eq_true rfl) (by rw [hR]; exact Nat.le_of_ble_eq_true rfl) (by rw [hR]; exact Nat.le_of_ble_eq_true rfl) (by rw [hR]; exact Nat.le_of_ble_eq_true rfl) rfl rfl (by decide) (by decide) (by decide) (inv_V C 0 d_readTables_54 l_M_288 im_M_nextWithin se_M_nextWithin cd_M_nextWithin ⟨by decide, by decide⟩ ln_M_nextWithin rfl rfl rfl rfl rfl) (fun oc L1 hL => ?_)
      obtain ⟨v54, S54, hp, rfl, rfl⟩ := hL
      refine ⟨_, rfl, ?_⟩
      refine aw_eq (lo' := _) (st' := [.int v54]) (L' := [(0, ly_M, (o, ad, S54.1, S54.2.1, S54.2.2))]) rfl rfl rfl ?_
      refine a_istore (lo' := [some (.ref o), none, some (.int x2), some (.int x3), some (.int v54)]) C d_readTables_57 (by decide) rfl ?_
      refine a_aload_n C d_readTables_59 rfl rfl ?_
      refine a_iload C d_readTables_60 rfl ?_
      refine a_if_le (tgt := 69) C d_readTables_62 (by decide) ⟨fun hc => ?_, fun hc => ?_⟩
      · have hp := hp.1 hc
        refine a_iconst (v := 0) C d_readTables_69 (by decide) ?_
        refine aw_lo (lo' := [some (.ref o), none, some (.int x2), some (.int x3), some (.int v54)]) ⟨.inr rfl, .inr rfl, .inr rfl, .inr rfl, .inr rfl, trivial⟩ ?_
        exact s_readTables_70 C hQ hA hR x2 x3 v54 0 (S54.1, S54.2.1, S54.2.2) R2 hR2 R40 hR40 hp
      · have hp := hp.2 hc
        refine a_iconst (v := 1) C d_readTables_65 (by decide) ?_
        refine a_goto (tgt := 70) C d_readTables_66 (by decide) ?_
        refine aw_lo (lo' := [some (.ref o), none, some (.int x2), some (.int x3), some (.int v54)]) ⟨.inr rfl, .inr rfl, .inr rfl, .inr rfl, .inr rfl, trivial⟩ ?_
        exact s_readTables_70 C hQ hA hR x2 x3 v54 1 (S54.1, S54.2.1, S54.2.2) R2 hR2 R40 hR40 hp
set_option maxRecDepth 100000 in
set_option maxHeartbeats 1000000 in
theorem se_readTables_40 (C : fcx gG D z A X R_M c_M_readTables 5 (none)) (hQ : X.2.2.2.2.2.2.2.2.2.2 = eQ gG D z X.2.2.2.2.2.2.2.1 X.2.2.2.2.1 L0 0 0 (pM_v K o ad)) (hA : A = owA gG L0 X.2.2.2.2.1.heap.size) (hR : X.2.2.2.1 = { frames := 4, cells := 1, slots := 6, locals := 400 }) (x2 : Int32) (x3 : Int32) (S : ms) (R2 : Int32 → ms → Prop) (hR2 : ∀ yx1 yS, R2 yx1 yS → aw gG D z A X 5 2 [some (.ref o), some (.int yx1), none, none, none] [] [(0, ly_M, (o, ad, yS.1, yS.2.1, yS.2.2))] 0 0) (hp : e_readTables_40 x2 x3 S R2 K) : aw gG D z A X 5 40 [some (.ref o), none, some (.int x2), some (.int x3), none] [] [(0, ly_M, (o, ad, S.1, S.2.1, S.2.2))] 0 0 := by
  obtain ⟨I, μ, h0, hs⟩ := hp
  have key : ∀ (n : Nat) (yx2 : Int32) (yx3 : Int32) (yS : ms), μ yx2 yx3 yS < n → I yx2 yx3 yS → aw gG D z A X 5 40 [some (.ref o), none, some (.int yx2), some (.int yx3), none] [] [(0, ly_M, (o, ad, yS.1, yS.2.1, yS.2.2))] 0 0 := by
    intro n
    induction n with
    | zero => intro yx2 yx3 yS h; omega
    | succ n ih =>
      intro yx2 yx3 yS hn hI
      exact s_readTables_40 C hQ hA hR yx2 yx3 yS R2 hR2 _ (fun zx2 zx3 zS hw => ih zx2 zx3 zS (by omega) hw.1) (hs yx2 yx3 yS hI)
  exact key (μ x2 x3 S + 1) x2 x3 S (Nat.lt_succ_self _) h0
set_option maxRecDepth 100000 in
set_option maxHeartbeats 1000000 in
theorem s_readTables_29 (C : fcx gG D z A X R_M c_M_readTables 5 (none)) (hQ : X.2.2.2.2.2.2.2.2.2.2 = eQ gG D z X.2.2.2.2.2.2.2.1 X.2.2.2.2.1 L0 0 0 (pM_v K o ad)) (hA : A = owA gG L0 X.2.2.2.2.1.heap.size) (hR : X.2.2.2.1 = { frames := 4, cells := 1, slots := 6, locals := 400 }) (x2 : Int32) (s1 : Int32) (S : ms) (R2 : Int32 → ms → Prop) (hR2 : ∀ yx1 yS, R2 yx1 yS → aw gG D z A X 5 2 [some (.ref o), some (.int yx1), none, none, none] [] [(0, ly_M, (o, ad, yS.1, yS.2.1, yS.2.2))] 0 0) (hp : b_readTables_29 x2 s1 S R2 K) : aw gG D z A X 5 29 [some (.ref o), none, some (.int x2), none, none] [.int s1, .ref o] [(0, ly_M, (o, ad, S.1, S.2.1, S.2.2))] 0 0 := by
  unfold b_readTables_29 at hp
  refine a_aload_n C d_readTables_29 rfl rfl ?_
  refine a_getI C 0 34 d_readTables_30 rfl rfl rfl (Nat.le_of_ble_eq_true rfl) f_M_268 (Nat.le_of_ble_eq_true rfl) ?_
  refine a_iconst (v := 1) C d_readTables_33 (by decide) ?_
  refine a_isub C d_readTables_34 ?_
  refine a_call (Lr := []) (rest := []) (av := .ref o :: [.int s1, .int ((S.1 34) - 1)]) C [0] [] d_readTables_35 (ct_must s1 ((S.1 34) - 1) S hp) cd_M_must i_M (Nat.le_of_ble_eq_true rfl) (by rw [hR]; exact Nat.le_of_ble_eq_true rfl) (by rw [hR]; exact Nat.le_of_ble_eq_true rfl) (by rw [hR]; exact Nat.le_of_ble_eq_true rfl) (by rw [hR]; exact Nat.le_of_ble_eq_true rfl) rfl rfl (by decide) (by decide) (by decide) (inv_V C 0 d_readTables_35 l_M_291 im_M_must se_M_must cd_M_must ⟨by decide, by decide⟩ ln_M_must rfl rfl rfl rfl rfl) (fun oc L1 hL => ?_)
  obtain ⟨S35, hp, rfl, rfl⟩ := hL
  refine ⟨_, rfl, ?_⟩
  refine aw_eq (lo' := _) (st' := []) (L' := [(0, ly_M, (o, ad, S35.1, S35.2.1, S35.2.2))]) rfl rfl rfl ?_
  refine a_iconst (v := 0) C d_readTables_38 (by decide) ?_
  refine a_istore_n (lo' := [some (.ref o), none, some (.int x2), some (.int 0), none]) C d_readTables_39 rfl (by decide) rfl ?_
  refine aw_lo (lo' := [some (.ref o), none, some (.int x2), some (.int 0), none]) ⟨.inr rfl, .inr rfl, .inr rfl, .inr rfl, .inr rfl, trivial⟩ ?_
  exact se_readTables_40 C hQ hA hR x2 0 (S35.1, S35.2.1, S35.2.2) R2 hR2 hp
set_option maxRecDepth 100000 in
set_option maxHeartbeats 1000000 in
theorem s_readTables_2 (C : fcx gG D z A X R_M c_M_readTables 5 (none)) (hQ : X.2.2.2.2.2.2.2.2.2.2 = eQ gG D z X.2.2.2.2.2.2.2.1 X.2.2.2.2.1 L0 0 0 (pM_v K o ad)) (hA : A = owA gG L0 X.2.2.2.2.1.heap.size) (hR : X.2.2.2.1 = { frames := 4, cells := 1, slots := 6, locals := 400 }) (x1 : Int32) (S : ms) (R2 : Int32 → ms → Prop) (hR2 : ∀ yx1 yS, R2 yx1 yS → aw gG D z A X 5 2 [some (.ref o), some (.int yx1), none, none, none] [] [(0, ly_M, (o, ad, yS.1, yS.2.1, yS.2.2))] 0 0) (hp : b_readTables_2 x1 S R2 K) : aw gG D z A X 5 2 [some (.ref o), some (.int x1), none, none, none] [] [(0, ly_M, (o, ad, S.1, S.2.1, S.2.2))] 0 0 := by
  unfold b_readTables_2 at hp
  refine a_iload_n C d_readTables_2 rfl rfl ?_
  refine a_if_eq (tgt := 144) C d_readTables_3 (by decide) ⟨fun hc => ?_, fun hc => ?_⟩
  · have hp := hp.1 hc
    refine aw_lo (lo' := [some (.ref o), none, none, none, none]) ⟨.inr rfl, .inl rfl, .inr rfl, .inr rfl, .inr rfl, trivial⟩ ?_
    exact s_readTables_144 C hQ hA hR S  hp
  · have hp := hp.2 hc
    refine a_aload_n C d_readTables_6 rfl rfl ?_
    refine a_getI C 0 35 d_readTables_7 rfl rfl rfl (Nat.le_of_ble_eq_true rfl) f_M_265 (Nat.le_of_ble_eq_true rfl) ?_
    refine a_if_ne (tgt := 144) C d_readTables_10 (by decide) ⟨fun hc => ?_, fun hc => ?_⟩
    · have hp := hp.1 hc
      refine aw_lo (lo' := [some (.ref o), none, none, none, none]) ⟨.inr rfl, .inl rfl, .inr rfl, .inr rfl, .inr rfl, trivial⟩ ?_
      exact s_readTables_144 C hQ hA hR S  hp
    · have hp := hp.2 hc
      refine a_aload_n C d_readTables_13 rfl rfl ?_
      refine a_call (Lr := []) (rest := []) (av := .ref o :: []) C [0] [] d_readTables_14 (ct_nextWithin S hp) cd_M_nextWithin i_M (Nat.le_of_ble_eq_true rfl) (by rw [hR]; exact Nat.le_of_ble_eq_true rfl) (by rw [hR]; exact Nat.le_of_ble_eq_true rfl) (by rw [hR]; exact Nat.le_of_ble_eq_true rfl) (by rw [hR]; exact Nat.le_of_ble_eq_true rfl) rfl rfl (by decide) (by decide) (by decide) (inv_V C 0 d_readTables_14 l_M_288 im_M_nextWithin se_M_nextWithin cd_M_nextWithin ⟨by decide, by decide⟩ ln_M_nextWithin rfl rfl rfl rfl rfl) (fun oc L1 hL => ?_)
      obtain ⟨v14, S14, hp, rfl, rfl⟩ := hL
      refine ⟨_, rfl, ?_⟩
      refine aw_eq (lo' := _) (st' := [.int v14]) (L' := [(0, ly_M, (o, ad, S14.1, S14.2.1, S14.2.2))]) rfl rfl rfl ?_
      refine a_istore_n (lo' := [some (.ref o), some (.int x1), some (.int v14), none, none]) C d_readTables_17 rfl (by decide) rfl ?_
      refine a_aload_n C d_readTables_18 rfl rfl ?_
      refine a_iload_n C d_readTables_19 rfl rfl ?_
      refine a_iconst (v := 4) C d_readTables_20 (by decide) ?_
      refine a_icmp_ge (tgt := 28) C d_readTables_21 (by decide) ⟨fun hc => ?_, fun hc => ?_⟩
      · have hp := hp.1 hc
        refine a_iconst (v := 0) C d_readTables_28 (by decide) ?_
        refine aw_lo (lo' := [some (.ref o), none, some (.int v14), none, none]) ⟨.inr rfl, .inl rfl, .inr rfl, .inr rfl, .inr rfl, trivial⟩ ?_
        exact s_readTables_29 C hQ hA hR v14 0 (S14.1, S14.2.1, S14.2.2) R2 hR2 hp
      · have hp := hp.2 hc
        refine a_iconst (v := 1) C d_readTables_24 (by decide) ?_
        refine a_goto (tgt := 29) C d_readTables_25 (by decide) ?_
        refine aw_lo (lo' := [some (.ref o), none, some (.int v14), none, none]) ⟨.inr rfl, .inl rfl, .inr rfl, .inr rfl, .inr rfl, trivial⟩ ?_
        exact s_readTables_29 C hQ hA hR v14 1 (S14.1, S14.2.1, S14.2.2) R2 hR2 hp
set_option maxRecDepth 100000 in
set_option maxHeartbeats 1000000 in
theorem se_readTables_2 (C : fcx gG D z A X R_M c_M_readTables 5 (none)) (hQ : X.2.2.2.2.2.2.2.2.2.2 = eQ gG D z X.2.2.2.2.2.2.2.1 X.2.2.2.2.1 L0 0 0 (pM_v K o ad)) (hA : A = owA gG L0 X.2.2.2.2.1.heap.size) (hR : X.2.2.2.1 = { frames := 4, cells := 1, slots := 6, locals := 400 }) (x1 : Int32) (S : ms) (hp : e_readTables_2 x1 S K) : aw gG D z A X 5 2 [some (.ref o), some (.int x1), none, none, none] [] [(0, ly_M, (o, ad, S.1, S.2.1, S.2.2))] 0 0 := by
  obtain ⟨I, μ, h0, hs⟩ := hp
  have key : ∀ (n : Nat) (yx1 : Int32) (yS : ms), μ yx1 yS < n → I yx1 yS → aw gG D z A X 5 2 [some (.ref o), some (.int yx1), none, none, none] [] [(0, ly_M, (o, ad, yS.1, yS.2.1, yS.2.2))] 0 0 := by
    intro n
    induction n with
    | zero => intro yx1 yS h; omega
    | succ n ih =>
      intro yx1 yS hn hI
      exact s_readTables_2 C hQ hA hR yx1 yS _ (fun zx1 zS hw => ih zx1 zS (by omega) hw.1) (hs yx1 yS hI)
  exact key (μ x1 S + 1) x1 S (Nat.lt_succ_self _) h0
set_option maxRecDepth 100000 in
set_option maxHeartbeats 1000000 in
theorem s_readTables_0 (C : fcx gG D z A X R_M c_M_readTables 5 (none)) (hQ : X.2.2.2.2.2.2.2.2.2.2 = eQ gG D z X.2.2.2.2.2.2.2.1 X.2.2.2.2.1 L0 0 0 (pM_v K o ad)) (hA : A = owA gG L0 X.2.2.2.2.1.heap.size) (hR : X.2.2.2.1 = { frames := 4, cells := 1, slots := 6, locals := 400 })  (S : ms) (hp : p_readTables  S K) : aw gG D z A X 5 0 [some (.ref o), none, none, none, none] [] [(0, ly_M, (o, ad, S.1, S.2.1, S.2.2))] 0 0 := by
  unfold p_readTables at hp
  refine a_iconst (v := 1) C d_readTables_0 (by decide) ?_
  refine a_istore_n (lo' := [some (.ref o), some (.int 1), none, none, none]) C d_readTables_1 rfl (by decide) rfl ?_
  refine aw_lo (lo' := [some (.ref o), some (.int 1), none, none, none]) ⟨.inr rfl, .inr rfl, .inr rfl, .inr rfl, .inr rfl, trivial⟩ ?_
  exact se_readTables_2 C hQ hA hR 1 S  hp
end M_readTables
section M_readTablesc
variable {D : va_G} {z : Nat → ClassId} {o : Nat} {ad : Nat → Nat}
set_option maxRecDepth 100000 in
theorem ct_readTables {l : Launch}  (S : ms) {K : ms → Prop} (hp : p_readTables  S K) : ct gG D z l n_M_readTables c_M_readTables 5 (none) 4 400 [.ref o] [(0, ly_M, (o, ad, S.1, S.2.1, S.2.2))] 0 0 (pM_v K o ad) := by
  refine ct_of (lo := [some (.ref o), none, none, none, none]) (by decide) g_ok (Nat.le_of_ble_eq_true rfl) rfl ?_
  intro X A _ C hR hQ hA _
  exact s_readTables_0 C hQ hA hR  S hp
end M_readTablesc
def b_readCodes_362  (S : ms) (K : ms → Prop) : Prop :=
  K S
def b_readCodes_358 (s0 : Int32) (S : ms) (R2 : Int32 → ms → Prop) (K : ms → Prop) : Prop :=
  R2 s0 S
def b_readCodes_342  (S : ms) (R2 : Int32 → ms → Prop) (K : ms → Prop) : Prop :=
  ((S.1 36) ≤ (S.1 34) → (b_readCodes_358 0 S R2 K)) ∧ (¬ ((S.1 36) ≤ (S.1 34)) → (b_readCodes_358 1 S R2 K))
def b_readCodes_328 (x3 : Int32) (S : ms) (R2 : Int32 → ms → Prop) (K : ms → Prop) : Prop :=
  (¬ (S.1 35) = 0 → (b_readCodes_342 S R2 K)) ∧ ((S.1 35) = 0 → (vp_in x3 4 ∧ (b_readCodes_342 (S.1, va_up S.2.1 42 (upd (S.2.1 42) x3.toNatClampNeg (vp_nar .boolean 1)), S.2.2) R2 K)))
def b_readCodes_322 (x3 : Int32) (x5 : Int32) (x8 : Int32) (S : ms) (R2 : Int32 → ms → Prop) (R213 : Int32 → Int32 → Int32 → ms → Prop) (K : ms → Prop) : Prop :=
  R213 x3 x5 (x8 + 1) S
def b_readCodes_291 (x3 : Int32) (x5 : Int32) (x8 : Int32) (x9 : Int32) (s1 : Int32) (S : ms) (R2 : Int32 → ms → Prop) (R213 : Int32 → Int32 → Int32 → ms → Prop) (K : ms → Prop) : Prop :=
  p_must s1 ((S.1 34) - 1) S (fun S297 => (¬ (S297.1 35) = 0 → (b_readCodes_322 x3 x5 x8 (S297.1, S297.2.1, S297.2.2) R2 R213 K)) ∧ ((S297.1 35) = 0 → (vp_in ((256 * x3) + x8) 1024 ∧ (b_readCodes_322 x3 x5 x8 (S297.1, va_up S297.2.1 41 (upd (S297.2.1 41) ((256 * x3) + x8).toNatClampNeg x9), S297.2.2) R2 R213 K))))
def b_readCodes_290 (x3 : Int32) (x5 : Int32) (x8 : Int32) (x9 : Int32) (S : ms) (R2 : Int32 → ms → Prop) (R213 : Int32 → Int32 → Int32 → ms → Prop) (K : ms → Prop) : Prop :=
  b_readCodes_291 x3 x5 x8 x9 0 S R2 R213 K
def b_readCodes_286 (x3 : Int32) (x5 : Int32) (x8 : Int32) (x9 : Int32) (S : ms) (R2 : Int32 → ms → Prop) (R213 : Int32 → Int32 → Int32 → ms → Prop) (K : ms → Prop) : Prop :=
  b_readCodes_291 x3 x5 x8 x9 1 S R2 R213 K
def b_readCodes_213 (x3 : Int32) (x5 : Int32) (x8 : Int32) (S : ms) (R2 : Int32 → ms → Prop) (R213 : Int32 → Int32 → Int32 → ms → Prop) (K : ms → Prop) : Prop :=
  (x5 ≤ x8 → (b_readCodes_328 x3 S R2 K)) ∧ (¬ (x5 ≤ x8) → ((¬ (S.1 35) = 0 → (b_readCodes_328 x3 S R2 K)) ∧ ((S.1 35) = 0 → (p_nextWithin S (fun v228 S228 => (2 ≤ x3 → ((v228 = 0 → (b_readCodes_286 x3 x5 x8 v228 (S228.1, S228.2.1, S228.2.2) R2 R213 K)) ∧ (¬ (v228 = 0) → ((v228 = 240 → (b_readCodes_286 x3 x5 x8 v228 (S228.1, S228.2.1, S228.2.2) R2 R213 K)) ∧ (¬ (v228 = 240) → (((v228 &&& 15) ≤ 0 → (b_readCodes_290 x3 x5 x8 v228 (S228.1, S228.2.1, S228.2.2) R2 R213 K)) ∧ (¬ ((v228 &&& 15) ≤ 0) → ((11 ≤ (v228 &&& 15) → (b_readCodes_290 x3 x5 x8 v228 (S228.1, S228.2.1, S228.2.2) R2 R213 K)) ∧ (¬ (11 ≤ (v228 &&& 15)) → (b_readCodes_286 x3 x5 x8 v228 (S228.1, S228.2.1, S228.2.2) R2 R213 K)))))))))) ∧ (¬ (2 ≤ x3) → ((12 ≤ v228 → (b_readCodes_291 x3 x5 x8 v228 0 (S228.1, S228.2.1, S228.2.2) R2 R213 K)) ∧ (¬ (12 ≤ v228) → (b_readCodes_291 x3 x5 x8 v228 1 (S228.1, S228.2.1, S228.2.2) R2 R213 K)))))))))
def e_readCodes_213 (x3 : Int32) (x5 : Int32) (x8 : Int32) (S : ms) (R2 : Int32 → ms → Prop) (K : ms → Prop) : Prop :=
  ∃ (I : Int32 → Int32 → Int32 → ms → Prop) (μ : Int32 → Int32 → Int32 → ms → Nat), I x3 x5 x8 S ∧ ∀ yx3 yx5 yx8 yS, I yx3 yx5 yx8 yS → b_readCodes_213 yx3 yx5 yx8 yS R2 (fun zx3 zx5 zx8 zS => I zx3 zx5 zx8 zS ∧ μ zx3 zx5 zx8 zS < μ yx3 yx5 yx8 yS) K
def b_readCodes_205 (x3 : Int32) (x4 : Int32) (x5 : Int32) (s1 : Int32) (S : ms) (R2 : Int32 → ms → Prop) (K : ms → Prop) : Prop :=
  p_must s1 x4 S (fun S207 => e_readCodes_213 x3 x5 0 (S207.1, S207.2.1, S207.2.2) R2 K)
def b_readCodes_204 (x3 : Int32) (x4 : Int32) (x5 : Int32) (S : ms) (R2 : Int32 → ms → Prop) (K : ms → Prop) : Prop :=
  b_readCodes_205 x3 x4 x5 0 S R2 K
def b_readCodes_186 (x3 : Int32) (x4 : Int32) (x5 : Int32) (x7 : Int32) (S : ms) (R2 : Int32 → ms → Prop) (K : ms → Prop) : Prop :=
  (x7 = 0 → (b_readCodes_204 x3 x4 x5 S R2 K)) ∧ (¬ (x7 = 0) → ((256 < x5 → (b_readCodes_204 x3 x4 x5 S R2 K)) ∧ (¬ (256 < x5) → (b_readCodes_205 x3 x4 x5 1 S R2 K))))
def b_readCodes_180 (x3 : Int32) (x4 : Int32) (x5 : Int32) (x6 : Int32) (x7 : Int32) (x8 : Int32) (S : ms) (R2 : Int32 → ms → Prop) (R82 : Int32 → Int32 → Int32 → Int32 → Int32 → Int32 → ms → Prop) (K : ms → Prop) : Prop :=
  R82 x3 x4 x5 x6 x7 (x8 + 1) S
def b_readCodes_178 (x3 : Int32) (x4 : Int32) (x5 : Int32) (x7 : Int32) (x8 : Int32) (s0 : Int32) (S : ms) (R2 : Int32 → ms → Prop) (R82 : Int32 → Int32 → Int32 → Int32 → Int32 → Int32 → ms → Prop) (K : ms → Prop) : Prop :=
  b_readCodes_180 x3 x4 x5 s0 x7 x8 S R2 R82 K
def b_readCodes_160 (x3 : Int32) (x4 : Int32) (x5 : Int32) (x6 : Int32) (x8 : Int32) (s0 : Int32) (S : ms) (R2 : Int32 → ms → Prop) (R82 : Int32 → Int32 → Int32 → Int32 → Int32 → Int32 → ms → Prop) (K : ms → Prop) : Prop :=
  (x6 ≤ 100000 → (b_readCodes_178 x3 x4 x5 s0 x8 x6 S R2 R82 K)) ∧ (¬ (x6 ≤ 100000) → (b_readCodes_178 x3 x4 x5 s0 x8 100000 S R2 R82 K))
def b_readCodes_159 (x3 : Int32) (x4 : Int32) (x5 : Int32) (x6 : Int32) (x8 : Int32) (S : ms) (R2 : Int32 → ms → Prop) (R82 : Int32 → Int32 → Int32 → Int32 → Int32 → Int32 → ms → Prop) (K : ms → Prop) : Prop :=
  b_readCodes_160 x3 x4 x5 x6 x8 0 S R2 R82 K
def b_readCodes_82 (x3 : Int32) (x4 : Int32) (x5 : Int32) (x6 : Int32) (x7 : Int32) (x8 : Int32) (S : ms) (R2 : Int32 → ms → Prop) (R82 : Int32 → Int32 → Int32 → Int32 → Int32 → Int32 → ms → Prop) (K : ms → Prop) : Prop :=
  (16 ≤ x8 → (b_readCodes_186 x3 x4 x5 x7 S R2 K)) ∧ (¬ (16 ≤ x8) → ((¬ (S.1 35) = 0 → (b_readCodes_186 x3 x4 x5 x7 S R2 K)) ∧ ((S.1 35) = 0 → (p_nextWithin S (fun v97 S97 => (¬ (S97.1 35) = 0 → (b_readCodes_180 x3 x4 x5 x6 x7 x8 (S97.1, S97.2.1, S97.2.2) R2 R82 K)) ∧ ((S97.1 35) = 0 → (vp_in ((16 * x3) + x8) 64 ∧ ((x7 = 0 → (b_readCodes_159 x3 x4 (x5 + v97) ((2 * x6) + v97) x8 (S97.1, va_up S97.2.1 40 (upd (S97.2.1 40) ((16 * x3) + x8).toNatClampNeg v97), S97.2.2) R2 R82 K)) ∧ (¬ (x7 = 0) → ((((1 : Int32) <<< ((x8 + 1) &&& 31 : Int32) : Int32) ≤ ((2 * x6) + v97) → (b_readCodes_159 x3 x4 (x5 + v97) ((2 * x6) + v97) x8 (S97.1, va_up S97.2.1 40 (upd (S97.2.1 40) ((16 * x3) + x8).toNatClampNeg v97), S97.2.2) R2 R82 K)) ∧ (¬ (((1 : Int32) <<< ((x8 + 1) &&& 31 : Int32) : Int32) ≤ ((2 * x6) + v97)) → (b_readCodes_160 x3 x4 (x5 + v97) ((2 * x6) + v97) x8 1 (S97.1, va_up S97.2.1 40 (upd (S97.2.1 40) ((16 * x3) + x8).toNatClampNeg v97), S97.2.2) R2 R82 K))))))))))))
def e_readCodes_82 (x3 : Int32) (x4 : Int32) (x5 : Int32) (x6 : Int32) (x7 : Int32) (x8 : Int32) (S : ms) (R2 : Int32 → ms → Prop) (K : ms → Prop) : Prop :=
  ∃ (I : Int32 → Int32 → Int32 → Int32 → Int32 → Int32 → ms → Prop) (μ : Int32 → Int32 → Int32 → Int32 → Int32 → Int32 → ms → Nat), I x3 x4 x5 x6 x7 x8 S ∧ ∀ yx3 yx4 yx5 yx6 yx7 yx8 yS, I yx3 yx4 yx5 yx6 yx7 yx8 yS → b_readCodes_82 yx3 yx4 yx5 yx6 yx7 yx8 yS R2 (fun zx3 zx4 zx5 zx6 zx7 zx8 zS => I zx3 zx4 zx5 zx6 zx7 zx8 zS ∧ μ zx3 zx4 zx5 zx6 zx7 zx8 zS < μ yx3 yx4 yx5 yx6 yx7 yx8 yS) K
def b_readCodes_63 (s0 : Int32) (S : ms) (R2 : Int32 → ms → Prop) (K : ms → Prop) : Prop :=
  e_readCodes_82 s0 (S.1 34) 0 0 1 0 S R2 K
def b_readCodes_41 (x2 : Int32) (s1 : Int32) (S : ms) (R2 : Int32 → ms → Prop) (K : ms → Prop) : Prop :=
  p_must s1 ((S.1 34) - 1) S (fun S47 => (2 ≤ x2 → (b_readCodes_63 (x2 - 14) (S47.1, S47.2.1, S47.2.2) R2 K)) ∧ (¬ (2 ≤ x2) → (b_readCodes_63 x2 (S47.1, S47.2.1, S47.2.2) R2 K)))
def b_readCodes_36 (x2 : Int32) (S : ms) (R2 : Int32 → ms → Prop) (K : ms → Prop) : Prop :=
  b_readCodes_41 x2 1 S R2 K
def b_readCodes_2 (x1 : Int32) (S : ms) (R2 : Int32 → ms → Prop) (K : ms → Prop) : Prop :=
  (x1 = 0 → (b_readCodes_362 S K)) ∧ (¬ (x1 = 0) → ((¬ (S.1 35) = 0 → (b_readCodes_362 S K)) ∧ ((S.1 35) = 0 → (p_nextWithin S (fun v14 S14 => (v14 < 2 → (b_readCodes_36 v14 (S14.1, S14.2.1, S14.2.2) R2 K)) ∧ (¬ (v14 < 2) → ((v14 = 16 → (b_readCodes_36 v14 (S14.1, S14.2.1, S14.2.2) R2 K)) ∧ (¬ (v14 = 16) → ((¬ v14 = 17 → (b_readCodes_41 v14 0 (S14.1, S14.2.1, S14.2.2) R2 K)) ∧ (v14 = 17 → (b_readCodes_36 v14 (S14.1, S14.2.1, S14.2.2) R2 K)))))))))))
def e_readCodes_2 (x1 : Int32) (S : ms) (K : ms → Prop) : Prop :=
  ∃ (I : Int32 → ms → Prop) (μ : Int32 → ms → Nat), I x1 S ∧ ∀ yx1 yS, I yx1 yS → b_readCodes_2 yx1 yS (fun zx1 zS => I zx1 zS ∧ μ zx1 zS < μ yx1 yS) K
def p_readCodes  (S : ms) (K : ms → Prop) : Prop :=
  e_readCodes_2 1 S K
section M_readCodes
variable {D : va_G} {z : Nat → ClassId} {A : Nat → Prop} {X : cx} {L0 : fw} {K : ms → Prop} {o : Nat} {ad : Nat → Nat}
set_option maxRecDepth 100000 in
set_option maxHeartbeats 1000000 in
theorem s_readCodes_362 (C : fcx gG D z A X R_M c_M_readCodes 11 (none)) (hQ : X.2.2.2.2.2.2.2.2.2.2 = eQ gG D z X.2.2.2.2.2.2.2.1 X.2.2.2.2.1 L0 0 0 (pM_v K o ad)) (hA : A = owA gG L0 X.2.2.2.2.1.heap.size) (hR : X.2.2.2.1 = { frames := 4, cells := 1, slots := 6, locals := 400 })  (S : ms) (hp : b_readCodes_362  S K) : aw gG D z A X 11 362 [some (.ref o), none, none, none, none, none, none, none, none, none, none] [] [(0, ly_M, (o, ad, S.1, S.2.1, S.2.2))] 0 0 := by
  unfold b_readCodes_362 at hp
  exact a_vret C hQ hA d_readCodes_362 rfl ⟨S, hp, rfl, rfl⟩
set_option maxRecDepth 100000 in
set_option maxHeartbeats 1000000 in
theorem s_readCodes_358 (C : fcx gG D z A X R_M c_M_readCodes 11 (none)) (hQ : X.2.2.2.2.2.2.2.2.2.2 = eQ gG D z X.2.2.2.2.2.2.2.1 X.2.2.2.2.1 L0 0 0 (pM_v K o ad)) (hA : A = owA gG L0 X.2.2.2.2.1.heap.size) (hR : X.2.2.2.1 = { frames := 4, cells := 1, slots := 6, locals := 400 }) (s0 : Int32) (S : ms) (R2 : Int32 → ms → Prop) (hR2 : ∀ yx1 yS, R2 yx1 yS → aw gG D z A X 11 2 [some (.ref o), some (.int yx1), none, none, none, none, none, none, none, none, none] [] [(0, ly_M, (o, ad, yS.1, yS.2.1, yS.2.2))] 0 0) (hp : b_readCodes_358 s0 S R2 K) : aw gG D z A X 11 358 [some (.ref o), none, none, none, none, none, none, none, none, none, none] [.int s0] [(0, ly_M, (o, ad, S.1, S.2.1, S.2.2))] 0 0 := by
  unfold b_readCodes_358 at hp
  refine a_istore_n (lo' := [some (.ref o), some (.int s0), none, none, none, none, none, none, none, none, none]) C d_readCodes_358 rfl (by decide) rfl ?_
  refine a_goto (tgt := 2) C d_readCodes_359 (by decide) ?_
  refine aw_lo (lo' := [some (.ref o), some (.int s0), none, none, none, none, none, none, none, none, none]) ⟨.inr rfl, .inr rfl, .inr rfl, .inr rfl, .inr rfl, .inr rfl, .inr rfl, .inr rfl, .inr rfl, .inr rfl, .inr rfl, trivial⟩ ?_
  exact hR2 s0 S hp
set_option maxRecDepth 100000 in
set_option maxHeartbeats 1000000 in
theorem s_readCodes_342 (C : fcx gG D z A X R_M c_M_readCodes 11 (none)) (hQ : X.2.2.2.2.2.2.2.2.2.2 = eQ gG D z X.2.2.2.2.2.2.2.1 X.2.2.2.2.1 L0 0 0 (pM_v K o ad)) (hA : A = owA gG L0 X.2.2.2.2.1.heap.size) (hR : X.2.2.2.1 = { frames := 4, cells := 1, slots := 6, locals := 400 })  (S : ms) (R2 : Int32 → ms → Prop) (hR2 : ∀ yx1 yS, R2 yx1 yS → aw gG D z A X 11 2 [some (.ref o), some (.int yx1), none, none, none, none, none, none, none, none, none] [] [(0, ly_M, (o, ad, yS.1, yS.2.1, yS.2.2))] 0 0) (hp : b_readCodes_342  S R2 K) : aw gG D z A X 11 342 [some (.ref o), none, none, none, none, none, none, none, none, none, none] [] [(0, ly_M, (o, ad, S.1, S.2.1, S.2.2))] 0 0 := by
  unfold b_readCodes_342 at hp
  refine a_aload_n C d_readCodes_342 rfl rfl ?_
  refine a_getI C 0 34 d_readCodes_343 rfl rfl rfl (Nat.le_of_ble_eq_true rfl) f_M_268 (Nat.le_of_ble_eq_true rfl) ?_
  refine a_aload_n C d_readCodes_346 rfl rfl ?_
  refine a_getI C 0 36 d_readCodes_347 rfl rfl rfl (Nat.le_of_ble_eq_true rfl) f_M_275 (Nat.le_of_ble_eq_true rfl) ?_
  refine a_icmp_ge (tgt := 357) C d_readCodes_350 (by decide) ⟨fun hc => ?_, fun hc => ?_⟩
  · have hp := hp.1 hc
    refine a_iconst (v := 0) C d_readCodes_357 (by decide) ?_
    refine aw_lo (lo' := [some (.ref o), none, none, none, none, none, none, none, none, none, none]) ⟨.inr rfl, .inr rfl, .inr rfl, .inr rfl, .inr rfl, .inr rfl, .inr rfl, .inr rfl, .inr rfl, .inr rfl, .inr rfl, trivial⟩ ?_
    exact s_readCodes_358 C hQ hA hR 0 S R2 hR2 hp
  · have hp := hp.2 hc
    refine a_iconst (v := 1) C d_readCodes_353 (by decide) ?_
    refine a_goto (tgt := 358) C d_readCodes_354 (by decide) ?_
    refine aw_lo (lo' := [some (.ref o), none, none, none, none, none, none, none, none, none, none]) ⟨.inr rfl, .inr rfl, .inr rfl, .inr rfl, .inr rfl, .inr rfl, .inr rfl, .inr rfl, .inr rfl, .inr rfl, .inr rfl, trivial⟩ ?_
    exact s_readCodes_358 C hQ hA hR 1 S R2 hR2 hp
set_option maxRecDepth 100000 in
set_option maxHeartbeats 1000000 in
theorem s_readCodes_328 (C : fcx gG D z A X R_M c_M_readCodes 11 (none)) (hQ : X.2.2.2.2.2.2.2.2.2.2 = eQ gG D z X.2.2.2.2.2.2.2.1 X.2.2.2.2.1 L0 0 0 (pM_v K o ad)) (hA : A = owA gG L0 X.2.2.2.2.1.heap.size) (hR : X.2.2.2.1 = { frames := 4, cells := 1, slots := 6, locals := 400 }) (x3 : Int32) (S : ms) (R2 : Int32 → ms → Prop) (hR2 : ∀ yx1 yS, R2 yx1 yS → aw gG D z A X 11 2 [some (.ref o), some (.int yx1), none, none, none, none, none, none, none, none, none] [] [(0, ly_M, (o, ad, yS.1, yS.2.1, yS.2.2))] 0 0) (hp : b_readCodes_328 x3 S R2 K) : aw gG D z A X 11 328 [some (.ref o), none, none, some (.int x3), none, none, none, none, none, none, none] [] [(0, ly_M, (o, ad, S.1, S.2.1, S.2.2))] 0 0 := by
  unfold b_readCodes_328 at hp
  refine a_aload_n C d_readCodes_328 rfl rfl ?_
  refine a_getI C 0 35 d_readCodes_329 rfl rfl rfl (Nat.le_of_ble_eq_true rfl) f_M_265 (Nat.le_of_ble_eq_true rfl) ?_
  refine a_if_ne (tgt := 342) C d_readCodes_332 (by decide) ⟨fun hc => ?_, fun hc => ?_⟩
  · have hp := hp.1 hc
    refine aw_lo (lo' := [some (.ref o), none, none, none, none, none, none, none, none, none, none]) ⟨.inr rfl, .inr rfl, .inr rfl, .inl rfl, .inr rfl, .inr rfl, .inr rfl, .inr rfl, .inr rfl, .inr rfl, .inr rfl, trivial⟩ ?_
    exact s_readCodes_342 C hQ hA hR S R2 hR2 hp
  · have hp := hp.2 hc
    refine a_aload_n C d_readCodes_335 rfl rfl ?_
    refine a_getR C 0 42 d_readCodes_336 rfl rfl rfl (Nat.le_of_ble_eq_true rfl) f_M_115 ⟨Nat.le_of_ble_eq_true rfl, Nat.le_of_ble_eq_true rfl⟩ ?_
    refine a_iload_n C d_readCodes_339 rfl rfl ?_
    refine a_iconst (v := 1) C d_readCodes_340 (by decide) ?_
    refine a_zast C 0 42 d_readCodes_341 rfl rfl rfl hp.1 ?_
    have hp := hp.2
    refine aw_eq (lo' := _) (st' := _) (L' := [(0, ly_M, (o, ad, S.1, va_up S.2.1 42 (upd (S.2.1 42) x3.toNatClampNeg (vp_nar .boolean 1)), S.2.2))]) rfl rfl rfl ?_
    refine aw_lo (lo' := [some (.ref o), none, none, none, none, none, none, none, none, none, none]) ⟨.inr rfl, .inr rfl, .inr rfl, .inl rfl, .inr rfl, .inr rfl, .inr rfl, .inr rfl, .inr rfl, .inr rfl, .inr rfl, trivial⟩ ?_
    exact s_readCodes_342 C hQ hA hR (S.1, va_up S.2.1 42 (upd (S.2.1 42) x3.toNatClampNeg (vp_nar .boolean 1)), S.2.2) R2 hR2 hp
set_option maxRecDepth 100000 in
set_option maxHeartbeats 1000000 in
theorem s_readCodes_322 (C : fcx gG D z A X R_M c_M_readCodes 11 (none)) (hQ : X.2.2.2.2.2.2.2.2.2.2 = eQ gG D z X.2.2.2.2.2.2.2.1 X.2.2.2.2.1 L0 0 0 (pM_v K o ad)) (hA : A = owA gG L0 X.2.2.2.2.1.heap.size) (hR : X.2.2.2.1 = { frames := 4, cells := 1, slots := 6, locals := 400 }) (x3 : Int32) (x5 : Int32) (x8 : Int32) (S : ms) (R2 : Int32 → ms → Prop) (hR2 : ∀ yx1 yS, R2 yx1 yS → aw gG D z A X 11 2 [some (.ref o), some (.int yx1), none, none, none, none, none, none, none, none, none] [] [(0, ly_M, (o, ad, yS.1, yS.2.1, yS.2.2))] 0 0) (R213 : Int32 → Int32 → Int32 → ms → Prop) (hR213 : ∀ yx3 yx5 yx8 yS, R213 yx3 yx5 yx8 yS → aw gG D z A X 11 213 [some (.ref o), none, none, some (.int yx3), none, some (.int yx5), none, none, some (.int yx8), none, none] [] [(0, ly_M, (o, ad, yS.1, yS.2.1, yS.2.2))] 0 0) (hp : b_readCodes_322 x3 x5 x8 S R2 R213 K) : aw gG D z A X 11 322 [some (.ref o), none, none, some (.int x3), none, some (.int x5), none, none, some (.int x8), none, none] [] [(0, ly_M, (o, ad, S.1, S.2.1, S.2.2))] 0 0 := by
  unfold b_readCodes_322 at hp
  refine a_iinc (v := x8 + 1) (lo' := [some (.ref o), none, none, some (.int x3), none, some (.int x5), none, none, some (.int (x8 + 1)), none, none]) C d_readCodes_322 rfl rfl (by decide) rfl ?_
  refine a_goto (tgt := 213) C d_readCodes_325 (by decide) ?_
  refine aw_lo (lo' := [some (.ref o), none, none, some (.int x3), none, some (.int x5), none, none, some (.int (x8 + 1)), none, none]) ⟨.inr rfl, .inr rfl, .inr rfl, .inr rfl, .inr rfl, .inr rfl, .inr rfl, .inr rfl, .inr rfl, .inr rfl, .inr rfl, trivial⟩ ?_
  exact hR213 x3 x5 (x8 + 1) S hp
set_option maxRecDepth 100000 in
set_option maxHeartbeats 1000000 in
theorem s_readCodes_291 (C : fcx gG D z A X R_M c_M_readCodes 11 (none)) (hQ : X.2.2.2.2.2.2.2.2.2.2 = eQ gG D z X.2.2.2.2.2.2.2.1 X.2.2.2.2.1 L0 0 0 (pM_v K o ad)) (hA : A = owA gG L0 X.2.2.2.2.1.heap.size) (hR : X.2.2.2.1 = { frames := 4, cells := 1, slots := 6, locals := 400 }) (x3 : Int32) (x5 : Int32) (x8 : Int32) (x9 : Int32) (s1 : Int32) (S : ms) (R2 : Int32 → ms → Prop) (hR2 : ∀ yx1 yS, R2 yx1 yS → aw gG D z A X 11 2 [some (.ref o), some (.int yx1), none, none, none, none, none, none, none, none, none] [] [(0, ly_M, (o, ad, yS.1, yS.2.1, yS.2.2))] 0 0) (R213 : Int32 → Int32 → Int32 → ms → Prop) (hR213 : ∀ yx3 yx5 yx8 yS, R213 yx3 yx5 yx8 yS → aw gG D z A X 11 213 [some (.ref o), none, none, some (.int yx3), none, some (.int yx5), none, none, some (.int yx8), none, none] [] [(0, ly_M, (o, ad, yS.1, yS.2.1, yS.2.2))] 0 0) (hp : b_readCodes_291 x3 x5 x8 x9 s1 S R2 R213 K) : aw gG D z A X 11 291 [some (.ref o), none, none, some (.int x3), none, some (.int x5), none, none, some (.int x8), some (.int x9), none] [.int s1, .ref o] [(0, ly_M, (o, ad, S.1, S.2.1, S.2.2))] 0 0 := by
  unfold b_readCodes_291 at hp
  refine a_aload_n C d_readCodes_291 rfl rfl ?_
  refine a_getI C 0 34 d_readCodes_292 rfl rfl rfl (Nat.le_of_ble_eq_true rfl) f_M_268 (Nat.le_of_ble_eq_true rfl) ?_
  refine a_iconst (v := 1) C d_readCodes_295 (by decide) ?_
  refine a_isub C d_readCodes_296 ?_
  refine a_call (Lr := []) (rest := []) (av := .ref o :: [.int s1, .int ((S.1 34) - 1)]) C [0] [] d_readCodes_297 (ct_must s1 ((S.1 34) - 1) S hp) cd_M_must i_M (Nat.le_of_ble_eq_true rfl) (by rw [hR]; exact Nat.le_of_ble_eq_true rfl) (by rw [hR]; exact Nat.le_of_ble_eq_true rfl) (by rw [hR]; exact Nat.le_of_ble_eq_true rfl) (by rw [hR]; exact Nat.le_of_ble_eq_true rfl) rfl rfl (by decide) (by decide) (by decide) (inv_V C 0 d_readCodes_297 l_M_291 im_M_must se_M_must cd_M_must ⟨by decide, by decide⟩ ln_M_must rfl rfl rfl rfl rfl) (fun oc L1 hL => ?_)
  obtain ⟨S297, hp, rfl, rfl⟩ := hL
  refine ⟨_, rfl, ?_⟩
  refine aw_eq (lo' := _) (st' := []) (L' := [(0, ly_M, (o, ad, S297.1, S297.2.1, S297.2.2))]) rfl rfl rfl ?_
  refine a_aload_n C d_readCodes_300 rfl rfl ?_
  refine a_getI C 0 35 d_readCodes_301 rfl rfl rfl (Nat.le_of_ble_eq_true rfl) f_M_265 (Nat.le_of_ble_eq_true rfl) ?_
  refine a_if_ne (tgt := 322) C d_readCodes_304 (by decide) ⟨fun hc => ?_, fun hc => ?_⟩
  · have hp := hp.1 hc
    refine aw_lo (lo' := [some (.ref o), none, none, some (.int x3), none, some (.int x5), none, none, some (.int x8), none, none]) ⟨.inr rfl, .inr rfl, .inr rfl, .inr rfl, .inr rfl, .inr rfl, .inr rfl, .inr rfl, .inr rfl, .inl rfl, .inr rfl, trivial⟩ ?_
    exact s_readCodes_322 C hQ hA hR x3 x5 x8 (S297.1, S297.2.1, S297.2.2) R2 hR2 R213 hR213 hp
  · have hp := hp.2 hc
    refine a_aload_n C d_readCodes_307 rfl rfl ?_
    refine a_getR C 0 41 d_readCodes_308 rfl rfl rfl (Nat.le_of_ble_eq_true rfl) f_M_112 ⟨Nat.le_of_ble_eq_true rfl, Nat.le_of_ble_eq_true rfl⟩ ?_
    refine a_sipush (v := 256) C d_readCodes_311 (by decide) ?_
    refine a_iload_n C d_readCodes_314 rfl rfl ?_
    refine a_imul C d_readCodes_315 ?_
    refine a_iload C d_readCodes_316 rfl ?_
    refine a_iadd C d_readCodes_318 ?_
    refine a_iload C d_readCodes_319 rfl ?_
    refine a_iast C 0 41 d_readCodes_321 rfl rfl rfl hp.1 ?_
    have hp := hp.2
    refine aw_eq (lo' := _) (st' := _) (L' := [(0, ly_M, (o, ad, S297.1, va_up S297.2.1 41 (upd (S297.2.1 41) ((256 * x3) + x8).toNatClampNeg x9), S297.2.2))]) rfl rfl rfl ?_
    refine aw_lo (lo' := [some (.ref o), none, none, some (.int x3), none, some (.int x5), none, none, some (.int x8), none, none]) ⟨.inr rfl, .inr rfl, .inr rfl, .inr rfl, .inr rfl, .inr rfl, .inr rfl, .inr rfl, .inr rfl, .inl rfl, .inr rfl, trivial⟩ ?_
    exact s_readCodes_322 C hQ hA hR x3 x5 x8 (S297.1, va_up S297.2.1 41 (upd (S297.2.1 41) ((256 * x3) + x8).toNatClampNeg x9), S297.2.2) R2 hR2 R213 hR213 hp
set_option maxRecDepth 100000 in
set_option maxHeartbeats 1000000 in
theorem s_readCodes_290 (C : fcx gG D z A X R_M c_M_readCodes 11 (none)) (hQ : X.2.2.2.2.2.2.2.2.2.2 = eQ gG D z X.2.2.2.2.2.2.2.1 X.2.2.2.2.1 L0 0 0 (pM_v K o ad)) (hA : A = owA gG L0 X.2.2.2.2.1.heap.size) (hR : X.2.2.2.1 = { frames := 4, cells := 1, slots := 6, locals := 400 }) (x3 : Int32) (x5 : Int32) (x8 : Int32) (x9 : Int32) (S : ms) (R2 : Int32 → ms → Prop) (hR2 : ∀ yx1 yS, R2 yx1 yS → aw gG D z A X 11 2 [some (.ref o), some (.int yx1), none, none, none, none, none, none, none, none, none] [] [(0, ly_M, (o, ad, yS.1, yS.2.1, yS.2.2))] 0 0) (R213 : Int32 → Int32 → Int32 → ms → Prop) (hR213 : ∀ yx3 yx5 yx8 yS, R213 yx3 yx5 yx8 yS → aw gG D z A X 11 213 [some (.ref o), none, none, some (.int yx3), none, some (.int yx5), none, none, some (.int yx8), none, none] [] [(0, ly_M, (o, ad, yS.1, yS.2.1, yS.2.2))] 0 0) (hp : b_readCodes_290 x3 x5 x8 x9 S R2 R213 K) : aw gG D z A X 11 290 [some (.ref o), none, none, some (.int x3), none, some (.int x5), none, none, some (.int x8), some (.int x9), none] [.ref o] [(0, ly_M, (o, ad, S.1, S.2.1, S.2.2))] 0 0 := by
  unfold b_readCodes_290 at hp
  refine a_iconst (v := 0) C d_readCodes_290 (by decide) ?_
  refine aw_lo (lo' := [some (.ref o), none, none, some (.int x3), none, some (.int x5), none, none, some (.int x8), some (.int x9), none]) ⟨.inr rfl, .inr rfl, .inr rfl, .inr rfl, .inr rfl, .inr rfl, .inr rfl, .inr rfl, .inr rfl, .inr rfl, .inr rfl, trivial⟩ ?_
  exact s_readCodes_291 C hQ hA hR x3 x5 x8 x9 0 S R2 hR2 R213 hR213 hp
set_option maxRecDepth 100000 in
set_option maxHeartbeats 1000000 in
theorem s_readCodes_286 (C : fcx gG D z A X R_M c_M_readCodes 11 (none)) (hQ : X.2.2.2.2.2.2.2.2.2.2 = eQ gG D z X.2.2.2.2.2.2.2.1 X.2.2.2.2.1 L0 0 0 (pM_v K o ad)) (hA : A = owA gG L0 X.2.2.2.2.1.heap.size) (hR : X.2.2.2.1 = { frames := 4, cells := 1, slots := 6, locals := 400 }) (x3 : Int32) (x5 : Int32) (x8 : Int32) (x9 : Int32) (S : ms) (R2 : Int32 → ms → Prop) (hR2 : ∀ yx1 yS, R2 yx1 yS → aw gG D z A X 11 2 [some (.ref o), some (.int yx1), none, none, none, none, none, none, none, none, none] [] [(0, ly_M, (o, ad, yS.1, yS.2.1, yS.2.2))] 0 0) (R213 : Int32 → Int32 → Int32 → ms → Prop) (hR213 : ∀ yx3 yx5 yx8 yS, R213 yx3 yx5 yx8 yS → aw gG D z A X 11 213 [some (.ref o), none, none, some (.int yx3), none, some (.int yx5), none, none, some (.int yx8), none, none] [] [(0, ly_M, (o, ad, yS.1, yS.2.1, yS.2.2))] 0 0) (hp : b_readCodes_286 x3 x5 x8 x9 S R2 R213 K) : aw gG D z A X 11 286 [some (.ref o), none, none, some (.int x3), none, some (.int x5), none, none, some (.int x8), some (.int x9), none] [.ref o] [(0, ly_M, (o, ad, S.1, S.2.1, S.2.2))] 0 0 := by
  unfold b_readCodes_286 at hp
  refine a_iconst (v := 1) C d_readCodes_286 (by decide) ?_
  refine a_goto (tgt := 291) C d_readCodes_287 (by decide) ?_
  refine aw_lo (lo' := [some (.ref o), none, none, some (.int x3), none, some (.int x5), none, none, some (.int x8), some (.int x9), none]) ⟨.inr rfl, .inr rfl, .inr rfl, .inr rfl, .inr rfl, .inr rfl, .inr rfl, .inr rfl, .inr rfl, .inr rfl, .inr rfl, trivial⟩ ?_
  exact s_readCodes_291 C hQ hA hR x3 x5 x8 x9 1 S R2 hR2 R213 hR213 hp
set_option maxRecDepth 100000 in
set_option maxHeartbeats 1000000 in
theorem s_readCodes_213 (C : fcx gG D z A X R_M c_M_readCodes 11 (none)) (hQ : X.2.2.2.2.2.2.2.2.2.2 = eQ gG D z X.2.2.2.2.2.2.2.1 X.2.2.2.2.1 L0 0 0 (pM_v K o ad)) (hA : A = owA gG L0 X.2.2.2.2.1.heap.size) (hR : X.2.2.2.1 = { frames := 4, cells := 1, slots := 6, locals := 400 }) (x3 : Int32) (x5 : Int32) (x8 : Int32) (S : ms) (R2 : Int32 → ms → Prop) (hR2 : ∀ yx1 yS, R2 yx1 yS → aw gG D z A X 11 2 [some (.ref o), some (.int yx1), none, none, none, none, none, none, none, none, none] [] [(0, ly_M, (o, ad, yS.1, yS.2.1, yS.2.2))] 0 0) (R213 : Int32 → Int32 → Int32 → ms → Prop) (hR213 : ∀ yx3 yx5 yx8 yS, R213 yx3 yx5 yx8 yS → aw gG D z A X 11 213 [some (.ref o), none, none, some (.int yx3), none, some (.int yx5), none, none, some (.int yx8), none, none] [] [(0, ly_M, (o, ad, yS.1, yS.2.1, yS.2.2))] 0 0) (hp : b_readCodes_213 x3 x5 x8 S R2 R213 K) : aw gG D z A X 11 213 [some (.ref o), none, none, some (.int x3), none, some (.int x5), none, none, some (.int x8), none, none] [] [(0, ly_M, (o, ad, S.1, S.2.1, S.2.2))] 0 0 := by
  unfold b_readCodes_213 at hp
  refine a_iload C d_readCodes_213 rfl ?_
  refine a_iload C d_readCodes_215 rfl ?_
  refine a_icmp_ge (tgt := 328) C d_readCodes_217 (by decide) ⟨fun hc => ?_, fun hc => ?_⟩
  · have hp := hp.1 hc
    refine aw_lo (lo' := [some (.ref o), none, none, some (.int x3), none, none, none, none, none, none, none]) ⟨.inr rfl, .inr rfl, .inr rfl, .inr rfl, .inr rfl, .inl rfl, .inr rfl, .inr rfl, .inl rfl, .inr rfl, .inr rfl, trivial⟩ ?_
    exact s_readCodes_328 C hQ hA hR x3 S R2 hR2 hp
  · have hp := hp.2 hc
    refine a_aload_n C d_readCodes_220 rfl rfl ?_
    refine a_getI C 0 35 d_readCodes_221 rfl rfl rfl (Nat.le_of_ble_eq_true rfl) f_M_265 (Nat.le_of_ble_eq_true rfl) ?_
    refine a_if_ne (tgt := 328) C d_readCodes_224 (by decide) ⟨fun hc => ?_, fun hc => ?_⟩
    · have hp := hp.1 hc
      refine aw_lo (lo' := [some (.ref o), none, none, some (.int x3), none, none, none, none, none, none, none]) ⟨.inr rfl, .inr rfl, .inr rfl, .inr rfl, .inr rfl, .inl rfl, .inr rfl, .inr rfl, .inl rfl, .inr rfl, .inr rfl, trivial⟩ ?_
      exact s_readCodes_328 C hQ hA hR x3 S R2 hR2 hp
    · have hp := hp.2 hc
      refine a_aload_n C d_readCodes_227 rfl rfl ?_
      refine a_call (Lr := []) (rest := []) (av := .ref o :: []) C [0] [] d_readCodes_228 (ct_nextWithin S hp) cd_M_nextWithin i_M (Nat.le_of_ble_eq_true rfl) (by rw [hR]; exact Nat.le_of_ble_eq_true rfl) (by rw [hR]; exact Nat.le_of_ble_eq_true rfl) (by rw [hR]; exact Nat.le_of_ble_eq_true rfl) (by rw [hR]; exact Nat.le_of_ble_eq_true rfl) rfl rfl (by decide) (by decide) (by decide) (inv_V C 0 d_readCodes_228 l_M_288 im_M_nextWithin se_M_nextWithin cd_M_nextWithin ⟨by decide, by decide⟩ ln_M_nextWithin rfl rfl rfl rfl rfl) (fun oc L1 hL => ?_)
      obtain ⟨v228, S228, hp, rfl, rfl⟩ := hL
      refine ⟨_, rfl, ?_⟩
      refine aw_eq (lo' := _) (st' := [.int v228]) (L' := [(0, ly_M, (o, ad, S228.1, S228.2.1, S228.2.2))]) rfl rfl rfl ?_
      refine a_istore (lo' := [some (.ref o), none, none, some (.int x3), none, some (.int x5), none, none, some (.int x8), some (.int v228), none]) C d_readCodes_231 (by decide) rfl ?_
      refine a_iload C d_readCodes_233 rfl ?_
      refine a_bipush (v := 15) C d_readCodes_235 (by decide) ?_
      refine a_iand C d_readCodes_237 ?_
      refine a_istore (lo' := [some (.ref o), none, none, some (.int x3), none, some (.int x5), none, none, some (.int x8), some (.int v228), some (.int (v228 &&& 15))]) C d_readCodes_238 (by decide) rfl ?_
      refine a_aload_n C d_readCodes_240 rfl rfl ?_
      refine a_iload_n C d_readCodes_241 rfl rfl ?_
      refine a_iconst (v := 2) C d_readCodes_242 (by decide) ?_
      refine a_icmp_ge (tgt := 261) C d_readCodes_243 (by decide) ⟨fun hc => ?_, fun hc => ?_⟩
      · have hp := hp.1 hc
        refine a_iload C d_readCodes_261 rfl ?_
        refine a_if_eq (tgt := 286) C d_readCodes_263 (by decide) ⟨fun hc => ?_, fun hc => ?_⟩
        · have hp := hp.1 hc
          refine aw_lo (lo' := [some (.ref o), none, none, some (.int x3), none, some (.int x5), none, none, some (.int x8), some (.int v228), none]) ⟨.inr rfl, .inr rfl, .inr rfl, .inr rfl, .inr rfl, .inr rfl, .inr rfl, .inr rfl, .inr rfl, .inr rfl, .inl rfl, trivial⟩ ?_
          exact s_readCodes_286 C hQ hA hR x3 x5 x8 v228 (S228.1, S228.2.1, S228.2.2) R2 hR2 R213 hR213 hp
        · have hp := hp.2 hc
          refine a_iload C d_readCodes_266 rfl ?_
          refine a_sipush (v := 240) C d_readCodes_268 (by decide) ?_
          refine a_icmp_eq (tgt := 286) C d_readCodes_271 (by decide) ⟨fun hc => ?_, fun hc => ?_⟩
          · have hp := hp.1 hc
            refine aw_lo (lo' := [some (.ref o), none, none, some (.int x3), none, some (.int x5), none, none, some (.int x8), some (.int v228), none]) ⟨.inr rfl, .inr rfl, .inr rfl, .inr rfl, .inr rfl, .inr rfl, .inr rfl, .inr rfl, .inr rfl, .inr rfl, .inl rfl, trivial⟩ ?_
            exact s_readCodes_286 C hQ hA hR x3 x5 x8 v228 (S228.1, S228.2.1, S228.2.2) R2 hR2 R213 hR213 hp
          · have hp := hp.2 hc
            refine a_iload C d_readCodes_274 rfl ?_
            refine a_if_le (tgt := 290) C d_readCodes_276 (by decide) ⟨fun hc => ?_, fun hc => ?_⟩
            · have hp := hp.1 hc
              refine aw_lo (lo' := [some (.ref o), none, none, some (.int x3), none, some (.int x5), none, none, some (.int x8), some (.int v228), none]) ⟨.inr rfl, .inr rfl, .inr rfl, .inr rfl, .inr rfl, .inr rfl, .inr rfl, .inr rfl, .inr rfl, .inr rfl, .inl rfl, trivial⟩ ?_
              exact s_readCodes_290 C hQ hA hR x3 x5 x8 v228 (S228.1, S228.2.1, S228.2.2) R2 hR2 R213 hR213 hp
            · have hp := hp.2 hc
              refine a_iload C d_readCodes_279 rfl ?_
              refine a_bipush (v := 11) C d_readCodes_281 (by decide) ?_
              refine a_icmp_ge (tgt := 290) C d_readCodes_283 (by decide) ⟨fun hc => ?_, fun hc => ?_⟩
              · have hp := hp.1 hc
                refine aw_lo (lo' := [some (.ref o), none, none, some (.int x3), none, some (.int x5), none, none, some (.int x8), some (.int v228), none]) ⟨.inr rfl, .inr rfl, .inr rfl, .inr rfl, .inr rfl, .inr rfl, .inr rfl, .inr rfl, .inr rfl, .inr rfl, .inl rfl, trivial⟩ ?_
                exact s_readCodes_290 C hQ hA hR x3 x5 x8 v228 (S228.1, S228.2.1, S228.2.2) R2 hR2 R213 hR213 hp
              · have hp := hp.2 hc
                refine aw_lo (lo' := [some (.ref o), none, none, some (.int x3), none, some (.int x5), none, none, some (.int x8), some (.int v228), none]) ⟨.inr rfl, .inr rfl, .inr rfl, .inr rfl, .inr rfl, .inr rfl, .inr rfl, .inr rfl, .inr rfl, .inr rfl, .inl rfl, trivial⟩ ?_
                exact s_readCodes_286 C hQ hA hR x3 x5 x8 v228 (S228.1, S228.2.1, S228.2.2) R2 hR2 R213 hR213 hp
      · have hp := hp.2 hc
        refine a_iload C d_readCodes_246 rfl ?_
        refine a_bipush (v := 12) C d_readCodes_248 (by decide) ?_
        refine a_icmp_ge (tgt := 257) C d_readCodes_250 (by decide) ⟨fun hc => ?_, fun hc => ?_⟩
        · have hp := hp.1 hc
          refine a_iconst (v := 0) C d_readCodes_257 (by decide) ?_
          refine a_goto (tgt := 291) C d_readCodes_258 (by decide) ?_
          refine aw_lo (lo' := [some (.ref o), none, none, some (.int x3), none, some (.int x5), none, none, some (.int x8), some (.int v228), none]) ⟨.inr rfl, .inr rfl, .inr rfl, .inr rfl, .inr rfl, .inr rfl, .inr rfl, .inr rfl, .inr rfl, .inr rfl, .inl rfl, trivial⟩ ?_
          exact s_readCodes_291 C hQ hA hR x3 x5 x8 v228 0 (S228.1, S228.2.1, S228.2.2) R2 hR2 R213 hR213 hp
        · have hp := hp.2 hc
          refine a_iconst (v := 1) C d_readCodes_253 (by decide) ?_
          refine a_goto (tgt := 291) C d_readCodes_254 (by decide) ?_
          refine aw_lo (lo' := [some (.ref o), none, none, some (.int x3), none, some (.int x5), none, none, some (.int x8), some (.int v228), none]) ⟨.inr rfl, .inr rfl, .inr rfl, .inr rfl, .inr rfl, .inr rfl, .inr rfl, .inr rfl, .inr rfl, .inr rfl, .inl rfl, trivial⟩ ?_
          exact s_readCodes_291 C hQ hA hR x3 x5 x8 v228 1 (S228.1, S228.2.1, S228.2.2) R2 hR2 R213 hR213 hp
set_option maxRecDepth 100000 in
set_option maxHeartbeats 1000000 in
theorem se_readCodes_213 (C : fcx gG D z A X R_M c_M_readCodes 11 (none)) (hQ : X.2.2.2.2.2.2.2.2.2.2 = eQ gG D z X.2.2.2.2.2.2.2.1 X.2.2.2.2.1 L0 0 0 (pM_v K o ad)) (hA : A = owA gG L0 X.2.2.2.2.1.heap.size) (hR : X.2.2.2.1 = { frames := 4, cells := 1, slots := 6, locals := 400 }) (x3 : Int32) (x5 : Int32) (x8 : Int32) (S : ms) (R2 : Int32 → ms → Prop) (hR2 : ∀ yx1 yS, R2 yx1 yS → aw gG D z A X 11 2 [some (.ref o), some (.int yx1), none, none, none, none, none, none, none, none, none] [] [(0, ly_M, (o, ad, yS.1, yS.2.1, yS.2.2))] 0 0) (hp : e_readCodes_213 x3 x5 x8 S R2 K) : aw gG D z A X 11 213 [some (.ref o), none, none, some (.int x3), none, some (.int x5), none, none, some (.int x8), none, none] [] [(0, ly_M, (o, ad, S.1, S.2.1, S.2.2))] 0 0 := by
  obtain ⟨I, μ, h0, hs⟩ := hp
  have key : ∀ (n : Nat) (yx3 : Int32) (yx5 : Int32) (yx8 : Int32) (yS : ms), μ yx3 yx5 yx8 yS < n → I yx3 yx5 yx8 yS → aw gG D z A X 11 213 [some (.ref o), none, none, some (.int yx3), none, some (.int yx5), none, none, some (.int yx8), none, none] [] [(0, ly_M, (o, ad, yS.1, yS.2.1, yS.2.2))] 0 0 := by
    intro n
    induction n with
    | zero => intro yx3 yx5 yx8 yS h; omega
    | succ n ih =>
      intro yx3 yx5 yx8 yS hn hI
      exact s_readCodes_213 C hQ hA hR yx3 yx5 yx8 yS R2 hR2 _ (fun zx3 zx5 zx8 zS hw => ih zx3 zx5 zx8 zS (by omega) hw.1) (hs yx3 yx5 yx8 yS hI)
  exact key (μ x3 x5 x8 S + 1) x3 x5 x8 S (Nat.lt_succ_self _) h0
set_option maxRecDepth 100000 in
set_option maxHeartbeats 1000000 in
theorem s_readCodes_205 (C : fcx gG D z A X R_M c_M_readCodes 11 (none)) (hQ : X.2.2.2.2.2.2.2.2.2.2 = eQ gG D z X.2.2.2.2.2.2.2.1 X.2.2.2.2.1 L0 0 0 (pM_v K o ad)) (hA : A = owA gG L0 X.2.2.2.2.1.heap.size) (hR : X.2.2.2.1 = { frames := 4, cells := 1, slots := 6, locals := 400 }) (x3 : Int32) (x4 : Int32) (x5 : Int32) (s1 : Int32) (S : ms) (R2 : Int32 → ms → Prop) (hR2 : ∀ yx1 yS, R2 yx1 yS → aw gG D z A X 11 2 [some (.ref o), some (.int yx1), none, none, none, none, none, none, none, none, none] [] [(0, ly_M, (o, ad, yS.1, yS.2.1, yS.2.2))] 0 0) (hp : b_readCodes_205 x3 x4 x5 s1 S R2 K) : aw gG D z A X 11 205 [some (.ref o), none, none, some (.int x3), some (.int x4), some (.int x5), none, none, none, none, none] [.int s1, .ref o] [(0, ly_M, (o, ad, S.1, S.2.1, S.2.2))] 0 0 := by
  unfold b_readCodes_205 at hp
  refine a_iload C d_readCodes_205 rfl ?_
  refine a_call (Lr := []) (rest := []) (av := .ref o :: [.int s1, .int x4]) C [0] [] d_readCodes_207 (ct_must s1 x4 S hp) cd_M_must i_M (Nat.le_of_ble_eq_true rfl) (by rw [hR]; exact Nat.le_of_ble_eq_true rfl) (by rw [hR]; exact Nat.le_of_ble_eq_true rfl) (by rw [hR]; exact Nat.le_of_ble_eq_true rfl) (by rw [hR]; exact Nat.le_of_ble_eq_true rfl) rfl rfl (by decide) (by decide) (by decide) (inv_V C 0 d_readCodes_207 l_M_291 im_M_must se_M_must cd_M_must ⟨by decide, by decide⟩ ln_M_must rfl rfl rfl rfl rfl) (fun oc L1 hL => ?_)
  obtain ⟨S207, hp, rfl, rfl⟩ := hL
  refine ⟨_, rfl, ?_⟩
  refine aw_eq (lo' := _) (st' := []) (L' := [(0, ly_M, (o, ad, S207.1, S207.2.1, S207.2.2))]) rfl rfl rfl ?_
  refine a_iconst (v := 0) C d_readCodes_210 (by decide) ?_
  refine a_istore (lo' := [some (.ref o), none, none, some (.int x3), some (.int x4), some (.int x5), none, none, some (.int 0), none, none]) C d_readCodes_211 (by decide) rfl ?_
  refine aw_lo (lo' := [some (.ref o), none, none, some (.int x3), none, some (.int x5), none, none, some (.int 0), none, none]) ⟨.inr rfl, .inr rfl, .inr rfl, .inr rfl, .inl rfl, .inr rfl, .inr rfl, .inr rfl, .inr rfl, .inr rfl, .inr rfl, trivial⟩ ?_
  exact se_readCodes_213 C hQ hA hR x3 x5 0 (S207.1, S207.2.1, S207.2.2) R2 hR2 hp
set_option maxRecDepth 100000 in
set_option maxHeartbeats 1000000 in
theorem s_readCodes_204 (C : fcx gG D z A X R_M c_M_readCodes 11 (none)) (hQ : X.2.2.2.2.2.2.2.2.2.2 = eQ gG D z X.2.2.2.2.2.2.2.1 X.2.2.2.2.1 L0 0 0 (pM_v K o ad)) (hA : A = owA gG L0 X.2.2.2.2.1.heap.size) (hR : X.2.2.2.1 = { frames := 4, cells := 1, slots := 6, locals := 400 }) (x3 : Int32) (x4 : Int32) (x5 : Int32) (S : ms) (R2 : Int32 → ms → Prop) (hR2 : ∀ yx1 yS, R2 yx1 yS → aw gG D z A X 11 2 [some (.ref o), some (.int yx1), none, none, none, none, none, none, none, none, none] [] [(0, ly_M, (o, ad, yS.1, yS.2.1, yS.2.2))] 0 0) (hp : b_readCodes_204 x3 x4 x5 S R2 K) : aw gG D z A X 11 204 [some (.ref o), none, none, some (.int x3), some (.int x4), some (.int x5), none, none, none, none, none] [.ref o] [(0, ly_M, (o, ad, S.1, S.2.1, S.2.2))] 0 0 := by
  unfold b_readCodes_204 at hp
  refine a_iconst (v := 0) C d_readCodes_204 (by decide) ?_
  refine aw_lo (lo' := [some (.ref o), none, none, some (.int x3), some (.int x4), some (.int x5), none, none, none, none, none]) ⟨.inr rfl, .inr rfl, .inr rfl, .inr rfl, .inr rfl, .inr rfl, .inr rfl, .inr rfl, .inr rfl, .inr rfl, .inr rfl, trivial⟩ ?_
  exact s_readCodes_205 C hQ hA hR x3 x4 x5 0 S R2 hR2 hp
set_option maxRecDepth 100000 in
set_option maxHeartbeats 1000000 in
theorem s_readCodes_186 (C : fcx gG D z A X R_M c_M_readCodes 11 (none)) (hQ : X.2.2.2.2.2.2.2.2.2.2 = eQ gG D z X.2.2.2.2.2.2.2.1 X.2.2.2.2.1 L0 0 0 (pM_v K o ad)) (hA : A = owA gG L0 X.2.2.2.2.1.heap.size) (hR : X.2.2.2.1 = { frames := 4, cells := 1, slots := 6, locals := 400 }) (x3 : Int32) (x4 : Int32) (x5 : Int32) (x7 : Int32) (S : ms) (R2 : Int32 → ms → Prop) (hR2 : ∀ yx1 yS, R2 yx1 yS → aw gG D z A X 11 2 [some (.ref o), some (.int yx1), none, none, none, none, none, none, none, none, none] [] [(0, ly_M, (o, ad, yS.1, yS.2.1, yS.2.2))] 0 0) (hp : b_readCodes_186 x3 x4 x5 x7 S R2 K) : aw gG D z A X 11 186 [some (.ref o), none, none, some (.int x3), some (.int x4), some (.int x5), none, some (.int x7), none, none, none] [] [(0, ly_M, (o, ad, S.1, S.2.1, S.2.2))] 0 0 := by
  unfold b_readCodes_186 at hp
  refine a_aload_n C d_readCodes_186 rfl rfl ?_
  refine a_iload C d_readCodes_187 rfl ?_
  refine a_if_eq (tgt := 204) C d_readCodes_189 (by decide) ⟨fun hc => ?_, fun hc => ?_⟩
  · have hp := hp.1 hc
    refine aw_lo (lo' := [some (.ref o), none, none, some (.int x3), some (.int x4), some (.int x5), none, none, none, none, none]) ⟨.inr rfl, .inr rfl, .inr rfl, .inr rfl, .inr rfl, .inr rfl, .inr rfl, .inl rfl, .inr rfl, .inr rfl, .inr rfl, trivial⟩ ?_
    exact s_readCodes_204 C hQ hA hR x3 x4 x5 S R2 hR2 hp
  · have hp := hp.2 hc
    refine a_iload C d_readCodes_192 rfl ?_
    refine a_sipush (v := 256) C d_readCodes_194 (by decide) ?_
    refine a_icmp_gt (tgt := 204) C d_readCodes_197 (by decide) ⟨fun hc => ?_, fun hc => ?_⟩
    · have hp := hp.1 hc
      refine aw_lo (lo' := [some (.ref o), none, none, some (.int x3), some (.int x4), some (.int x5), none, none, none, none, none]) ⟨.inr rfl, .inr rfl, .inr rfl, .inr rfl, .inr rfl, .inr rfl, .inr rfl, .inl rfl, .inr rfl, .inr rfl, .inr rfl, trivial⟩ ?_
      exact s_readCodes_204 C hQ hA hR x3 x4 x5 S R2 hR2 hp
    · have hp := hp.2 hc
      refine a_iconst (v := 1) C d_readCodes_200 (by decide) ?_
      refine a_goto (tgt := 205) C d_readCodes_201 (by decide) ?_
      refine aw_lo (lo' := [some (.ref o), none, none, some (.int x3), some (.int x4), some (.int x5), none, none, none, none, none]) ⟨.inr rfl, .inr rfl, .inr rfl, .inr rfl, .inr rfl, .inr rfl, .inr rfl, .inl rfl, .inr rfl, .inr rfl, .inr rfl, trivial⟩ ?_
      exact s_readCodes_205 C hQ hA hR x3 x4 x5 1 S R2 hR2 hp
set_option maxRecDepth 100000 in
set_option maxHeartbeats 1000000 in
theorem s_readCodes_180 (C : fcx gG D z A X R_M c_M_readCodes 11 (none)) (hQ : X.2.2.2.2.2.2.2.2.2.2 = eQ gG D z X.2.2.2.2.2.2.2.1 X.2.2.2.2.1 L0 0 0 (pM_v K o ad)) (hA : A = owA gG L0 X.2.2.2.2.1.heap.size) (hR : X.2.2.2.1 = { frames := 4, cells := 1, slots := 6, locals := 400 }) (x3 : Int32) (x4 : Int32) (x5 : Int32) (x6 : Int32) (x7 : Int32) (x8 : Int32) (S : ms) (R2 : Int32 → ms → Prop) (hR2 : ∀ yx1 yS, R2 yx1 yS → aw gG D z A X 11 2 [some (.ref o), some (.int yx1), none, none, none, none, none, none, none, none, none] [] [(0, ly_M, (o, ad, yS.1, yS.2.1, yS.2.2))] 0 0) (R82 : Int32 → Int32 → Int32 → Int32 → Int32 → Int32 → ms → Prop) (hR82 : ∀ yx3 yx4 yx5 yx6 yx7 yx8 yS, R82 yx3 yx4 yx5 yx6 yx7 yx8 yS → aw gG D z A X 11 82 [some (.ref o), none, none, some (.int yx3), some (.int yx4), some (.int yx5), some (.int yx6), some (.int yx7), some (.int yx8), none, none] [] [(0, ly_M, (o, ad, yS.1, yS.2.1, yS.2.2))] 0 0) (hp : b_readCodes_180 x3 x4 x5 x6 x7 x8 S R2 R82 K) : aw gG D z A X 11 180 [some (.ref o), none, none, some (.int x3), some (.int x4), some (.int x5), some (.int x6), some (.int x7), some (.int x8), none, none] [] [(0, ly_M, (o, ad, S.1, S.2.1, S.2.2))] 0 0 := by
  unfold b_readCodes_180 at hp
  refine a_iinc (v := x8 + 1) (lo' := [some (.ref o), none, none, some (.int x3), some (.int x4), some (.int x5), some (.int x6), some (.int x7), some (.int (x8 + 1)), none, none]) C d_readCodes_180 rfl rfl (by decide) rfl ?_
  refine a_goto (tgt := 82) C d_readCodes_183 (by decide) ?_
  refine aw_lo (lo' := [some (.ref o), none, none, some (.int x3), some (.int x4), some (.int x5), some (.int x6), some (.int x7), some (.int (x8 + 1)), none, none]) ⟨.inr rfl, .inr rfl, .inr rfl, .inr rfl, .inr rfl, .inr rfl, .inr rfl, .inr rfl, .inr rfl, .inr rfl, .inr rfl, trivial⟩ ?_
  exact hR82 x3 x4 x5 x6 x7 (x8 + 1) S hp
set_option maxRecDepth 100000 in
set_option maxHeartbeats 1000000 in
theorem s_readCodes_178 (C : fcx gG D z A X R_M c_M_readCodes 11 (none)) (hQ : X.2.2.2.2.2.2.2.2.2.2 = eQ gG D z X.2.2.2.2.2.2.2.1 X.2.2.2.2.1 L0 0 0 (pM_v K o ad)) (hA : A = owA gG L0 X.2.2.2.2.1.heap.size) (hR : X.2.2.2.1 = { frames := 4, cells := 1, slots := 6, locals := 400 }) (x3 : Int32) (x4 : Int32) (x5 : Int32) (x7 : Int32) (x8 : Int32) (s0 : Int32) (S : ms) (R2 : Int32 → ms → Prop) (hR2 : ∀ yx1 yS, R2 yx1 yS → aw gG D z A X 11 2 [some (.ref o), some (.int yx1), none, none, none, none, none, none, none, none, none] [] [(0, ly_M, (o, ad, yS.1, yS.2.1, yS.2.2))] 0 0) (R82 : Int32 → Int32 → Int32 → Int32 → Int32 → Int32 → ms → Prop) (hR82 : ∀ yx3 yx4 yx5 yx6 yx7 yx8 yS, R82 yx3 yx4 yx5 yx6 yx7 yx8 yS → aw gG D z A X 11 82 [some (.ref o), none, none, some (.int yx3), some (.int yx4), some (.int yx5), some (.int yx6), some (.int yx7), some (.int yx8), none, none] [] [(0, ly_M, (o, ad, yS.1, yS.2.1, yS.2.2))] 0 0) (hp : b_readCodes_178 x3 x4 x5 x7 x8 s0 S R2 R82 K) : aw gG D z A X 11 178 [some (.ref o), none, none, some (.int x3), some (.int x4), some (.int x5), none, some (.int x7), some (.int x8), none, none] [.int s0] [(0, ly_M, (o, ad, S.1, S.2.1, S.2.2))] 0 0 := by
  unfold b_readCodes_178 at hp
  refine a_istore (lo' := [some (.ref o), none, none, some (.int x3), some (.int x4), some (.int x5), some (.int s0), some (.int x7), some (.int x8), none, none]) C d_readCodes_178 (by decide) rfl ?_
  refine aw_lo (lo' := [some (.ref o), none, none, some (.int x3), some (.int x4), some (.int x5), some (.int s0), some (.int x7), some (.int x8), none, none]) ⟨.inr rfl, .inr rfl, .inr rfl, .inr rfl, .inr rfl, .inr rfl, .inr rfl, .inr rfl, .inr rfl, .inr rfl, .inr rfl, trivial⟩ ?_
  exact s_readCodes_180 C hQ hA hR x3 x4 x5 s0 x7 x8 S R2 hR2 R82 hR82 hp
set_option maxRecDepth 100000 in
set_option maxHeartbeats 1000000 in
theorem s_readCodes_160 (C : fcx gG D z A X R_M c_M_readCodes 11 (none)) (hQ : X.2.2.2.2.2.2.2.2.2.2 = eQ gG D z X.2.2.2.2.2.2.2.1 X.2.2.2.2.1 L0 0 0 (pM_v K o ad)) (hA : A = owA gG L0 X.2.2.2.2.1.heap.size) (hR : X.2.2.2.1 = { frames := 4, cells := 1, slots := 6, locals := 400 }) (x3 : Int32) (x4 : Int32) (x5 : Int32) (x6 : Int32) (x8 : Int32) (s0 : Int32) (S : ms) (R2 : Int32 → ms → Prop) (hR2 : ∀ yx1 yS, R2 yx1 yS → aw gG D z A X 11 2 [some (.ref o), some (.int yx1), none, none, none, none, none, none, none, none, none] [] [(0, ly_M, (o, ad, yS.1, yS.2.1, yS.2.2))] 0 0) (R82 : Int32 → Int32 → Int32 → Int32 → Int32 → Int32 → ms → Prop) (hR82 : ∀ yx3 yx4 yx5 yx6 yx7 yx8 yS, R82 yx3 yx4 yx5 yx6 yx7 yx8 yS → aw gG D z A X 11 82 [some (.ref o), none, none, some (.int yx3), some (.int yx4), some (.int yx5), some (.int yx6), some (.int yx7), some (.int yx8), none, none] [] [(0, ly_M, (o, ad, yS.1, yS.2.1, yS.2.2))] 0 0) (hp : b_readCodes_160 x3 x4 x5 x6 x8 s0 S R2 R82 K) : aw gG D z A X 11 160 [some (.ref o), none, none, some (.int x3), some (.int x4), some (.int x5), some (.int x6), none, some (.int x8), none, none] [.int s0] [(0, ly_M, (o, ad, S.1, S.2.1, S.2.2))] 0 0 := by
  unfold b_readCodes_160 at hp
  refine a_istore (lo' := [some (.ref o), none, none, some (.int x3), some (.int x4), some (.int x5), some (.int x6), some (.int s0), some (.int x8), none, none]) C d_readCodes_160 (by decide) rfl ?_
  refine a_iload C d_readCodes_162 rfl ?_
  refine a_ldcw (v := 100000) C d_readCodes_164 k_M_294 ?_
  refine a_icmp_le (tgt := 176) C d_readCodes_167 (by decide) ⟨fun hc => ?_, fun hc => ?_⟩
  · have hp := hp.1 hc
    refine a_iload C d_readCodes_176 rfl ?_
    refine aw_lo (lo' := [some (.ref o), none, none, some (.int x3), some (.int x4), some (.int x5), none, some (.int s0), some (.int x8), none, none]) ⟨.inr rfl, .inr rfl, .inr rfl, .inr rfl, .inr rfl, .inr rfl, .inl rfl, .inr rfl, .inr rfl, .inr rfl, .inr rfl, trivial⟩ ?_
    exact s_readCodes_178 C hQ hA hR x3 x4 x5 s0 x8 x6 S R2 hR2 R82 hR82 hp
  · have hp := hp.2 hc
    refine a_ldcw (v := 100000) C d_readCodes_170 k_M_294 ?_
    refine a_goto (tgt := 178) C d_readCodes_173 (by decide) ?_
    refine aw_lo (lo' := [some (.ref o), none, none, some (.int x3), some (.int x4), some (.int x5), none, some (.int s0), some (.int x8), none, none]) ⟨.inr rfl, .inr rfl, .inr rfl, .inr rfl, .inr rfl, .inr rfl, .inl rfl, .inr rfl, .inr rfl, .inr rfl, .inr rfl, trivial⟩ ?_
    exact s_readCodes_178 C hQ hA hR x3 x4 x5 s0 x8 100000 S R2 hR2 R82 hR82 hp
set_option maxRecDepth 100000 in
set_option maxHeartbeats 1000000 in
theorem s_readCodes_159 (C : fcx gG D z A X R_M c_M_readCodes 11 (none)) (hQ : X.2.2.2.2.2.2.2.2.2.2 = eQ gG D z X.2.2.2.2.2.2.2.1 X.2.2.2.2.1 L0 0 0 (pM_v K o ad)) (hA : A = owA gG L0 X.2.2.2.2.1.heap.size) (hR : X.2.2.2.1 = { frames := 4, cells := 1, slots := 6, locals := 400 }) (x3 : Int32) (x4 : Int32) (x5 : Int32) (x6 : Int32) (x8 : Int32) (S : ms) (R2 : Int32 → ms → Prop) (hR2 : ∀ yx1 yS, R2 yx1 yS → aw gG D z A X 11 2 [some (.ref o), some (.int yx1), none, none, none, none, none, none, none, none, none] [] [(0, ly_M, (o, ad, yS.1, yS.2.1, yS.2.2))] 0 0) (R82 : Int32 → Int32 → Int32 → Int32 → Int32 → Int32 → ms → Prop) (hR82 : ∀ yx3 yx4 yx5 yx6 yx7 yx8 yS, R82 yx3 yx4 yx5 yx6 yx7 yx8 yS → aw gG D z A X 11 82 [some (.ref o), none, none, some (.int yx3), some (.int yx4), some (.int yx5), some (.int yx6), some (.int yx7), some (.int yx8), none, none] [] [(0, ly_M, (o, ad, yS.1, yS.2.1, yS.2.2))] 0 0) (hp : b_readCodes_159 x3 x4 x5 x6 x8 S R2 R82 K) : aw gG D z A X 11 159 [some (.ref o), none, none, some (.int x3), some (.int x4), some (.int x5), some (.int x6), none, some (.int x8), none, none] [] [(0, ly_M, (o, ad, S.1, S.2.1, S.2.2))] 0 0 := by
  unfold b_readCodes_159 at hp
  refine a_iconst (v := 0) C d_readCodes_159 (by decide) ?_
  refine aw_lo (lo' := [some (.ref o), none, none, some (.int x3), some (.int x4), some (.int x5), some (.int x6), none, some (.int x8), none, none]) ⟨.inr rfl, .inr rfl, .inr rfl, .inr rfl, .inr rfl, .inr rfl, .inr rfl, .inr rfl, .inr rfl, .inr rfl, .inr rfl, trivial⟩ ?_
  exact s_readCodes_160 C hQ hA hR x3 x4 x5 x6 x8 0 S R2 hR2 R82 hR82 hp
set_option maxRecDepth 100000 in
set_option maxHeartbeats 1000000 in
theorem s_readCodes_82 (C : fcx gG D z A X R_M c_M_readCodes 11 (none)) (hQ : X.2.2.2.2.2.2.2.2.2.2 = eQ gG D z X.2.2.2.2.2.2.2.1 X.2.2.2.2.1 L0 0 0 (pM_v K o ad)) (hA : A = owA gG L0 X.2.2.2.2.1.heap.size) (hR : X.2.2.2.1 = { frames := 4, cells := 1, slots := 6, locals := 400 }) (x3 : Int32) (x4 : Int32) (x5 : Int32) (x6 : Int32) (x7 : Int32) (x8 : Int32) (S : ms) (R2 : Int32 → ms → Prop) (hR2 : ∀ yx1 yS, R2 yx1 yS → aw gG D z A X 11 2 [some (.ref o), some (.int yx1), none, none, none, none, none, none, none, none, none] [] [(0, ly_M, (o, ad, yS.1, yS.2.1, yS.2.2))] 0 0) (R82 : Int32 → Int32 → Int32 → Int32 → Int32 → Int32 → ms → Prop) (hR82 : ∀ yx3 yx4 yx5 yx6 yx7 yx8 yS, R82 yx3 yx4 yx5 yx6 yx7 yx8 yS → aw gG D z A X 11 82 [some (.ref o), none, none, some (.int yx3), some (.int yx4), some (.int yx5), some (.int yx6), some (.int yx7), some (.int yx8), none, none] [] [(0, ly_M, (o, ad, yS.1, yS.2.1, yS.2.2))] 0 0) (hp : b_readCodes_82 x3 x4 x5 x6 x7 x8 S R2 R82 K) : aw gG D z A X 11 82 [some (.ref o), none, none, some (.int x3), some (.int x4), some (.int x5), some (.int x6), some (.int x7), some (.int x8), none, none] [] [(0, ly_M, (o, ad, S.1, S.2.1, S.2.2))] 0 0 := by
  unfold b_readCodes_82 at hp
  refine a_iload C d_readCodes_82 rfl ?_
  refine a_bipush (v := 16) C d_readCodes_84 (by decide) ?_
  refine a_icmp_ge (tgt := 186) C d_readCodes_86 (by decide) ⟨fun hc => ?_, fun hc => ?_⟩
  · have hp := hp.1 hc
    refine aw_lo (lo' := [some (.ref o), none, none, some (.int x3), some (.int x4), some (.int x5), none, some (.int x7), none, none, none]) ⟨.inr rfl, .inr rfl, .inr rfl, .inr rfl, .inr rfl, .inr rfl, .inl rfl, .inr rfl, .inl rfl, .inr rfl, .inr rfl, trivial⟩ ?_
    exact s_readCodes_186 C hQ hA hR x3 x4 x5 x7 S R2 hR2 hp
  · have hp := hp.2 hc
    refine a_aload_n C d_readCodes_89 rfl rfl ?_
    refine a_getI C 0 35 d_readCodes_90 rfl rfl rfl (Nat.le_of_ble_eq_true rfl) f_M_265 (Nat.le_of_ble_eq_true rfl) ?_
    refine a_if_ne (tgt := 186) C d_readCodes_93 (by decide) ⟨fun hc => ?_, fun hc => ?_⟩
    · have hp := hp.1 hc
      refine aw_lo (lo' := [some (.ref o), none, none, some (.int x3), some (.int x4), some (.int x5), none, some (.int x7), none, none, none]) ⟨.inr rfl, .inr rfl, .inr rfl, .inr rfl, .inr rfl, .inr rfl, .inl rfl, .inr rfl, .inl rfl, .inr rfl, .inr rfl, trivial⟩ ?_
      exact s_readCodes_186 C hQ hA hR x3 x4 x5 x7 S R2 hR2 hp
    · have hp := hp.2 hc
      refine a_aload_n C d_readCodes_96 rfl rfl ?_
      refine a_call (Lr := []) (rest := []) (av := .ref o :: []) C [0] [] d_readCodes_97 (ct_nextWithin S hp) cd_M_nextWithin i_M (Nat.le_of_ble_eq_true rfl) (by rw [hR]; exact Nat.le_of_ble_eq_true rfl) (by rw [hR]; exact Nat.le_of_ble_eq_true rfl) (by rw [hR]; exact Nat.le_of_ble_eq_true rfl) (by rw [hR]; exact Nat.le_of_ble_eq_true rfl) rfl rfl (by decide) (by decide) (by decide) (inv_V C 0 d_readCodes_97 l_M_288 im_M_nextWithin se_M_nextWithin cd_M_nextWithin ⟨by decide, by decide⟩ ln_M_nextWithin rfl rfl rfl rfl rfl) (fun oc L1 hL => ?_)
      obtain ⟨v97, S97, hp, rfl, rfl⟩ := hL
      refine ⟨_, rfl, ?_⟩
      refine aw_eq (lo' := _) (st' := [.int v97]) (L' := [(0, ly_M, (o, ad, S97.1, S97.2.1, S97.2.2))]) rfl rfl rfl ?_
      refine a_istore (lo' := [some (.ref o), none, none, some (.int x3), some (.int x4), some (.int x5), some (.int x6), some (.int x7), some (.int x8), some (.int v97), none]) C d_readCodes_100 (by decide) rfl ?_
      refine a_aload_n C d_readCodes_102 rfl rfl ?_
      refine a_getI C 0 35 d_readCodes_103 rfl rfl rfl (Nat.le_of_ble_eq_true rfl) f_M_265 (Nat.le_of_ble_eq_true rfl) ?_
      refine a_if_ne (tgt := 180) C d_readCodes_106 (by decide) ⟨fun hc => ?_, fun hc => ?_⟩
      · have hp := hp.1 hc
        refine aw_lo (lo' := [some (.ref o), none, none, some (.int x3), some (.int x4), some (.int x5), some (.int x6), some (.int x7), some (.int x8), none, none]) ⟨.inr rfl, .inr rfl, .inr rfl, .inr rfl, .inr rfl, .inr rfl, .inr rfl, .inr rfl, .inr rfl, .inl rfl, .inr rfl, trivial⟩ ?_
        exact s_readCodes_180 C hQ hA hR x3 x4 x5 x6 x7 x8 (S97.1, S97.2.1, S97.2.2) R2 hR2 R82 hR82 hp
      · have hp := hp.2 hc
        refine a_aload_n C d_readCodes_109 rfl rfl ?_
        refine a_getR C 0 40 d_readCodes_110 rfl rfl rfl (Nat.le_of_ble_eq_true rfl) f_M_109 ⟨Nat.le_of_ble_eq_true rfl, Nat.le_of_ble_eq_true rfl⟩ ?_
        refine a_bipush (v := 16) C d_readCodes_113 (by decide) ?_
        refine a_iload_n C d_readCodes_115 rfl rfl ?_
        refine a_imul C d_readCodes_116 ?_
        refine a_iload C d_readCodes_117 rfl ?_
        refine a_iadd C d_readCodes_119 ?_
        refine a_iload C d_readCodes_120 rfl ?_
        refine a_iast C 0 40 d_readCodes_122 rfl rfl rfl hp.1 ?_
        have hp := hp.2
        refine aw_eq (lo' := _) (st' := _) (L' := [(0, ly_M, (o, ad, S97.1, va_up S97.2.1 40 (upd (S97.2.1 40) ((16 * x3) + x8).toNatClampNeg v97), S97.2.2))]) rfl rfl rfl ?_
        refine a_iload C d_readCodes_123 rfl ?_
        refine a_iload C d_readCodes_125 rfl ?_
        refine a_iadd C d_readCodes_127 ?_
        refine a_istore (lo' := [some (.ref o), none, none, some (.int x3), some (.int x4), some (.int (x5 + v97)), some (.int x6), some (.int x7), some (.int x8), some (.int v97), none]) C d_readCodes_128 (by decide) rfl ?_
        refine a_iconst (v := 2) C d_readCodes_130 (by decide) ?_
        refine a_iload C d_readCodes_131 rfl ?_
        refine a_imul C d_readCodes_133 ?_
        refine a_iload C d_readCodes_134 rfl ?_
        refine a_iadd C d_readCodes_136 ?_
        refine a_istore (lo' := [some (.ref o), none, none, some (.int x3), some (.int x4), some (.int (x5 + v97)), some (.int ((2 * x6) + v97)), some (.int x7), some (.int x8), some (.int v97), none]) C d_readCodes_137 (by decide) rfl ?_
        refine a_iload C d_readCodes_139 rfl ?_
        refine a_if_eq (tgt := 159) C d_readCodes_141 (by decide) ⟨fun hc => ?_, fun hc => ?_⟩
        · have hp := hp.1 hc
          refine aw_lo (lo' := [some (.ref o), none, none, some (.int x3), some (.int x4), some (.int (x5 + v97)), some (.int ((2 * x6) + v97)), none, some (.int x8), none, none]) ⟨.inr rfl, .inr rfl, .inr rfl, .inr rfl, .inr rfl, .inr rfl, .inr rfl, .inl rfl, .inr rfl, .inl rfl, .inr rfl, trivial⟩ ?_
          exact s_readCodes_159 C hQ hA hR x3 x4 (x5 + v97) ((2 * x6) + v97) x8 (S97.1, va_up S97.2.1 40 (upd (S97.2.1 40) ((16 * x3) + x8).toNatClampNeg v97), S97.2.2) R2 hR2 R82 hR82 hp
        · have hp := hp.2 hc
          refine a_iload C d_readCodes_144 rfl ?_
          refine a_iconst (v := 1) C d_readCodes_146 (by decide) ?_
          refine a_iload C d_readCodes_147 rfl ?_
          refine a_iconst (v := 1) C d_readCodes_149 (by decide) ?_
          refine a_iadd C d_readCodes_150 ?_
          refine a_ishl C d_readCodes_151 ?_
          refine a_icmp_ge (tgt := 159) C d_readCodes_152 (by decide) ⟨fun hc => ?_, fun hc => ?_⟩
          · have hp := hp.1 hc
            refine aw_lo (lo' := [some (.ref o), none, none, some (.int x3), some (.int x4), some (.int (x5 + v97)), some (.int ((2 * x6) + v97)), none, some (.int x8), none, none]) ⟨.inr rfl, .inr rfl, .inr rfl, .inr rfl, .inr rfl, .inr rfl, .inr rfl, .inl rfl, .inr rfl, .inl rfl, .inr rfl, trivial⟩ ?_
            exact s_readCodes_159 C hQ hA hR x3 x4 (x5 + v97) ((2 * x6) + v97) x8 (S97.1, va_up S97.2.1 40 (upd (S97.2.1 40) ((16 * x3) + x8).toNatClampNeg v97), S97.2.2) R2 hR2 R82 hR82 hp
          · have hp := hp.2 hc
            refine a_iconst (v := 1) C d_readCodes_155 (by decide) ?_
            refine a_goto (tgt := 160) C d_readCodes_156 (by decide) ?_
            refine aw_lo (lo' := [some (.ref o), none, none, some (.int x3), some (.int x4), some (.int (x5 + v97)), some (.int ((2 * x6) + v97)), none, some (.int x8), none, none]) ⟨.inr rfl, .inr rfl, .inr rfl, .inr rfl, .inr rfl, .inr rfl, .inr rfl, .inl rfl, .inr rfl, .inl rfl, .inr rfl, trivial⟩ ?_
            exact s_readCodes_160 C hQ hA hR x3 x4 (x5 + v97) ((2 * x6) + v97) x8 1 (S97.1, va_up S97.2.1 40 (upd (S97.2.1 40) ((16 * x3) + x8).toNatClampNeg v97), S97.2.2) R2 hR2 R82 hR82 hp
set_option maxRecDepth 100000 in
set_option maxHeartbeats 1000000 in
theorem se_readCodes_82 (C : fcx gG D z A X R_M c_M_readCodes 11 (none)) (hQ : X.2.2.2.2.2.2.2.2.2.2 = eQ gG D z X.2.2.2.2.2.2.2.1 X.2.2.2.2.1 L0 0 0 (pM_v K o ad)) (hA : A = owA gG L0 X.2.2.2.2.1.heap.size) (hR : X.2.2.2.1 = { frames := 4, cells := 1, slots := 6, locals := 400 }) (x3 : Int32) (x4 : Int32) (x5 : Int32) (x6 : Int32) (x7 : Int32) (x8 : Int32) (S : ms) (R2 : Int32 → ms → Prop) (hR2 : ∀ yx1 yS, R2 yx1 yS → aw gG D z A X 11 2 [some (.ref o), some (.int yx1), none, none, none, none, none, none, none, none, none] [] [(0, ly_M, (o, ad, yS.1, yS.2.1, yS.2.2))] 0 0) (hp : e_readCodes_82 x3 x4 x5 x6 x7 x8 S R2 K) : aw gG D z A X 11 82 [some (.ref o), none, none, some (.int x3), some (.int x4), some (.int x5), some (.int x6), some (.int x7), some (.int x8), none, none] [] [(0, ly_M, (o, ad, S.1, S.2.1, S.2.2))] 0 0 := by
  obtain ⟨I, μ, h0, hs⟩ := hp
  have key : ∀ (n : Nat) (yx3 : Int32) (yx4 : Int32) (yx5 : Int32) (yx6 : Int32) (yx7 : Int32) (yx8 : Int32) (yS : ms), μ yx3 yx4 yx5 yx6 yx7 yx8 yS < n → I yx3 yx4 yx5 yx6 yx7 yx8 yS → aw gG D z A X 11 82 [some (.ref o), none, none, some (.int yx3), some (.int yx4), some (.int yx5), some (.int yx6), some (.int yx7), some (.int yx8), none, none] [] [(0, ly_M, (o, ad, yS.1, yS.2.1, yS.2.2))] 0 0 := by
    intro n
    induction n with
    | zero => intro yx3 yx4 yx5 yx6 yx7 yx8 yS h; omega
    | succ n ih =>
      intro yx3 yx4 yx5 yx6 yx7 yx8 yS hn hI
      exact s_readCodes_82 C hQ hA hR yx3 yx4 yx5 yx6 yx7 yx8 yS R2 hR2 _ (fun zx3 zx4 zx5 zx6 zx7 zx8 zS hw => ih zx3 zx4 zx5 zx6 zx7 zx8 zS (by omega) hw.1) (hs yx3 yx4 yx5 yx6 yx7 yx8 yS hI)
  exact key (μ x3 x4 x5 x6 x7 x8 S + 1) x3 x4 x5 x6 x7 x8 S (Nat.lt_succ_self _) h0
set_option maxRecDepth 100000 in
set_option maxHeartbeats 1000000 in
theorem s_readCodes_63 (C : fcx gG D z A X R_M c_M_readCodes 11 (none)) (hQ : X.2.2.2.2.2.2.2.2.2.2 = eQ gG D z X.2.2.2.2.2.2.2.1 X.2.2.2.2.1 L0 0 0 (pM_v K o ad)) (hA : A = owA gG L0 X.2.2.2.2.1.heap.size) (hR : X.2.2.2.1 = { frames := 4, cells := 1, slots := 6, locals := 400 }) (s0 : Int32) (S : ms) (R2 : Int32 → ms → Prop) (hR2 : ∀ yx1 yS, R2 yx1 yS → aw gG D z A X 11 2 [some (.ref o), some (.int yx1), none, none, none, none, none, none, none, none, none] [] [(0, ly_M, (o, ad, yS.1, yS.2.1, yS.2.2))] 0 0) (hp : b_readCodes_63 s0 S R2 K) : aw gG D z A X 11 63 [some (.ref o), none, none, none, none, none, none, none, none, none, none] [.int s0] [(0, ly_M, (o, ad, S.1, S.2.1, S.2.2))] 0 0 := by
  unfold b_readCodes_63 at hp
  refine a_istore_n (lo' := [some (.ref o), none, none, some (.int s0), none, none, none, none, none, none, none]) C d_readCodes_63 rfl (by decide) rfl ?_
  refine a_aload_n C d_readCodes_64 rfl rfl ?_
  refine a_getI C 0 34 d_readCodes_65 rfl rfl rfl (Nat.le_of_ble_eq_true rfl) f_M_268 (Nat.le_of_ble_eq_true rfl) ?_
  refine a_istore (lo' := [some (.ref o), none, none, some (.int s0), some (.int (S.1 34)), none, none, none, none, none, none]) C d_readCodes_68 (by decide) rfl ?_
  refine a_iconst (v := 0) C d_readCodes_70 (by decide) ?_
  refine a_istore (lo' := [some (.ref o), none, none, some (.int s0), some (.int (S.1 34)), some (.int 0), none, none, none, none, none]) C d_readCodes_71 (by decide) rfl ?_
  refine a_iconst (v := 0) C d_readCodes_73 (by decide) ?_
  refine a_istore (lo' := [some (.ref o), none, none, some (.int s0), some (.int (S.1 34)), some (.int 0), some (.int 0), none, none, none, none]) C d_readCodes_74 (by decide) rfl ?_
  refine a_iconst (v := 1) C d_readCodes_76 (by decide) ?_
  refine a_istore (lo' := [some (.ref o), none, none, some (.int s0), some (.int (S.1 34)), some (.int 0), some (.int 0), some (.int 1), none, none, none]) C d_readCodes_77 (by decide) rfl ?_
  refine a_iconst (v := 0) C d_readCodes_79 (by decide) ?_
  refine a_istore (lo' := [some (.ref o), none, none, some (.int s0), some (.int (S.1 34)), some (.int 0), some (.int 0), some (.int 1), some (.int 0), none, none]) C d_readCodes_80 (by decide) rfl ?_
  refine aw_lo (lo' := [some (.ref o), none, none, some (.int s0), some (.int (S.1 34)), some (.int 0), some (.int 0), some (.int 1), some (.int 0), none, none]) ⟨.inr rfl, .inr rfl, .inr rfl, .inr rfl, .inr rfl, .inr rfl, .inr rfl, .inr rfl, .inr rfl, .inr rfl, .inr rfl, trivial⟩ ?_
  exact se_readCodes_82 C hQ hA hR s0 (S.1 34) 0 0 1 0 S R2 hR2 hp
set_option maxRecDepth 100000 in
set_option maxHeartbeats 1000000 in
theorem s_readCodes_41 (C : fcx gG D z A X R_M c_M_readCodes 11 (none)) (hQ : X.2.2.2.2.2.2.2.2.2.2 = eQ gG D z X.2.2.2.2.2.2.2.1 X.2.2.2.2.1 L0 0 0 (pM_v K o ad)) (hA : A = owA gG L0 X.2.2.2.2.1.heap.size) (hR : X.2.2.2.1 = { frames := 4, cells := 1, slots := 6, locals := 400 }) (x2 : Int32) (s1 : Int32) (S : ms) (R2 : Int32 → ms → Prop) (hR2 : ∀ yx1 yS, R2 yx1 yS → aw gG D z A X 11 2 [some (.ref o), some (.int yx1), none, none, none, none, none, none, none, none, none] [] [(0, ly_M, (o, ad, yS.1, yS.2.1, yS.2.2))] 0 0) (hp : b_readCodes_41 x2 s1 S R2 K) : aw gG D z A X 11 41 [some (.ref o), none, some (.int x2), none, none, none, none, none, none, none, none] [.int s1, .ref o] [(0, ly_M, (o, ad, S.1, S.2.1, S.2.2))] 0 0 := by
  unfold b_readCodes_41 at hp
  refine a_aload_n C d_readCodes_41 rfl rfl ?_
  refine a_getI C 0 34 d_readCodes_42 rfl rfl rfl (Nat.le_of_ble_eq_true rfl) f_M_268 (Nat.le_of_ble_eq_true rfl) ?_
  refine a_iconst (v := 1) C d_readCodes_45 (by decide) ?_
  refine a_isub C d_readCodes_46 ?_
  refine a_call (Lr := []) (rest := []) (av := .ref o :: [.int s1, .int ((S.1 34) - 1)]) C [0] [] d_readCodes_47 (ct_must s1 ((S.1 34) - 1) S hp) cd_M_must i_M (Nat.le_of_ble_eq_true rfl) (by rw [hR]; exact Nat.le_of_ble_eq_true rfl) (by rw [hR]; exact Nat.le_of_ble_eq_true rfl) (by rw [hR]; exact Nat.le_of_ble_eq_true rfl) (by rw [hR]; exact Nat.le_of_ble_eq_true rfl) rfl rfl (by decide) (by decide) (by decide) (inv_V C 0 d_readCodes_47 l_M_291 im_M_must se_M_must cd_M_must ⟨by decide, by decide⟩ ln_M_must rfl rfl rfl rfl rfl) (fun oc L1 hL => ?_)
  obtain ⟨S47, hp, rfl, rfl⟩ := hL
  refine ⟨_, rfl, ?_⟩
  refine aw_eq (lo' := _) (st' := []) (L' := [(0, ly_M, (o, ad, S47.1, S47.2.1, S47.2.2))]) rfl rfl rfl ?_
  refine a_iload_n C d_readCodes_50 rfl rfl ?_
  refine a_iconst (v := 2) C d_readCodes_51 (by decide) ?_
  refine a_icmp_ge (tgt := 59) C d_readCodes_52 (by decide) ⟨fun hc => ?_, fun hc => ?_⟩
  · have hp := hp.1 hc
    refine a_iload_n C d_readCodes_59 rfl rfl ?_
    refine a_bipush (v := 14) C d_readCodes_60 (by decide) ?_
    refine a_isub C d_readCodes_62 ?_
    refine aw_lo (lo' := [some (.ref o), none, none, none, none, none, none, none, none, none, none]) ⟨.inr rfl, .inr rfl, .inl rfl, .inr rfl, .inr rfl, .inr rfl, .inr rfl, .inr rfl, .inr rfl, .inr rfl, .inr rfl, trivial⟩ ?_
    exact s_readCodes_63 C hQ hA hR (x2 - 14) (S47.1, S47.2.1, S47.2.2) R2 hR2 hp
  · have hp := hp.2 hc
    refine a_iload_n C d_readCodes_55 rfl rfl ?_
    refine a_goto (tgt := 63) C d_readCodes_56 (by decide) ?_
    refine aw_lo (lo' := [some (.ref o), none, none, none, none, none, none, none, none, none, none]) ⟨.inr rfl, .inr rfl, .inl rfl, .inr rfl, .inr rfl, .inr rfl, .inr rfl, .inr rfl, .inr rfl, .inr rfl, .inr rfl, trivial⟩ ?_
    exact s_readCodes_63 C hQ hA hR x2 (S47.1, S47.2.1, S47.2.2) R2 hR2 hp
set_option maxRecDepth 100000 in
set_option maxHeartbeats 1000000 in
theorem s_readCodes_36 (C : fcx gG D z A X R_M c_M_readCodes 11 (none)) (hQ : X.2.2.2.2.2.2.2.2.2.2 = eQ gG D z X.2.2.2.2.2.2.2.1 X.2.2.2.2.1 L0 0 0 (pM_v K o ad)) (hA : A = owA gG L0 X.2.2.2.2.1.heap.size) (hR : X.2.2.2.1 = { frames := 4, cells := 1, slots := 6, locals := 400 }) (x2 : Int32) (S : ms) (R2 : Int32 → ms → Prop) (hR2 : ∀ yx1 yS, R2 yx1 yS → aw gG D z A X 11 2 [some (.ref o), some (.int yx1), none, none, none, none, none, none, none, none, none] [] [(0, ly_M, (o, ad, yS.1, yS.2.1, yS.2.2))] 0 0) (hp : b_readCodes_36 x2 S R2 K) : aw gG D z A X 11 36 [some (.ref o), none, some (.int x2), none, none, none, none, none, none, none, none] [.ref o] [(0, ly_M, (o, ad, S.1, S.2.1, S.2.2))] 0 0 := by
  unfold b_readCodes_36 at hp
  refine a_iconst (v := 1) C d_readCodes_36 (by decide) ?_
  refine a_goto (tgt := 41) C d_readCodes_37 (by decide) ?_
  refine aw_lo (lo' := [some (.ref o), none, some (.int x2), none, none, none, none, none, none, none, none]) ⟨.inr rfl, .inr rfl, .inr rfl, .inr rfl, .inr rfl, .inr rfl, .inr rfl, .inr rfl, .inr rfl, .inr rfl, .inr rfl, trivial⟩ ?_
  exact s_readCodes_41 C hQ hA hR x2 1 S R2 hR2 hp
set_option maxRecDepth 100000 in
set_option maxHeartbeats 1000000 in
theorem s_readCodes_2 (C : fcx gG D z A X R_M c_M_readCodes 11 (none)) (hQ : X.2.2.2.2.2.2.2.2.2.2 = eQ gG D z X.2.2.2.2.2.2.2.1 X.2.2.2.2.1 L0 0 0 (pM_v K o ad)) (hA : A = owA gG L0 X.2.2.2.2.1.heap.size) (hR : X.2.2.2.1 = { frames := 4, cells := 1, slots := 6, locals := 400 }) (x1 : Int32) (S : ms) (R2 : Int32 → ms → Prop) (hR2 : ∀ yx1 yS, R2 yx1 yS → aw gG D z A X 11 2 [some (.ref o), some (.int yx1), none, none, none, none, none, none, none, none, none] [] [(0, ly_M, (o, ad, yS.1, yS.2.1, yS.2.2))] 0 0) (hp : b_readCodes_2 x1 S R2 K) : aw gG D z A X 11 2 [some (.ref o), some (.int x1), none, none, none, none, none, none, none, none, none] [] [(0, ly_M, (o, ad, S.1, S.2.1, S.2.2))] 0 0 := by
  unfold b_readCodes_2 at hp
  refine a_iload_n C d_readCodes_2 rfl rfl ?_
  refine a_if_eq (tgt := 362) C d_readCodes_3 (by decide) ⟨fun hc => ?_, fun hc => ?_⟩
  · have hp := hp.1 hc
    refine aw_lo (lo' := [some (.ref o), none, none, none, none, none, none, none, none, none, none]) ⟨.inr rfl, .inl rfl, .inr rfl, .inr rfl, .inr rfl, .inr rfl, .inr rfl, .inr rfl, .inr rfl, .inr rfl, .inr rfl, trivial⟩ ?_
    exact s_readCodes_362 C hQ hA hR S  hp
  · have hp := hp.2 hc
    refine a_aload_n C d_readCodes_6 rfl rfl ?_
    refine a_getI C 0 35 d_readCodes_7 rfl rfl rfl (Nat.le_of_ble_eq_true rfl) f_M_265 (Nat.le_of_ble_eq_true rfl) ?_
    refine a_if_ne (tgt := 362) C d_readCodes_10 (by decide) ⟨fun hc => ?_, fun hc => ?_⟩
    · have hp := hp.1 hc
      refine aw_lo (lo' := [some (.ref o), none, none, none, none, none, none, none, none, none, none]) ⟨.inr rfl, .inl rfl, .inr rfl, .inr rfl, .inr rfl, .inr rfl, .inr rfl, .inr rfl, .inr rfl, .inr rfl, .inr rfl, trivial⟩ ?_
      exact s_readCodes_362 C hQ hA hR S  hp
    · have hp := hp.2 hc
      refine a_aload_n C d_readCodes_13 rfl rfl ?_
      refine a_call (Lr := []) (rest := []) (av := .ref o :: []) C [0] [] d_readCodes_14 (ct_nextWithin S hp) cd_M_nextWithin i_M (Nat.le_of_ble_eq_true rfl) (by rw [hR]; exact Nat.le_of_ble_eq_true rfl) (by rw [hR]; exact Nat.le_of_ble_eq_true rfl) (by rw [hR]; exact Nat.le_of_ble_eq_true rfl) (by rw [hR]; exact Nat.le_of_ble_eq_true rfl) rfl rfl (by decide) (by decide) (by decide) (inv_V C 0 d_readCodes_14 l_M_288 im_M_nextWithin se_M_nextWithin cd_M_nextWithin ⟨by decide, by decide⟩ ln_M_nextWithin rfl rfl rfl rfl rfl) (fun oc L1 hL => ?_)
      obtain ⟨v14, S14, hp, rfl, rfl⟩ := hL
      refine ⟨_, rfl, ?_⟩
      refine aw_eq (lo' := _) (st' := [.int v14]) (L' := [(0, ly_M, (o, ad, S14.1, S14.2.1, S14.2.2))]) rfl rfl rfl ?_
      refine a_istore_n (lo' := [some (.ref o), some (.int x1), some (.int v14), none, none, none, none, none, none, none, none]) C d_readCodes_17 rfl (by decide) rfl ?_
      refine a_aload_n C d_readCodes_18 rfl rfl ?_
      refine a_iload_n C d_readCodes_19 rfl rfl ?_
      refine a_iconst (v := 2) C d_readCodes_20 (by decide) ?_
      refine a_icmp_lt (tgt := 36) C d_readCodes_21 (by decide) ⟨fun hc => ?_, fun hc => ?_⟩
      · have hp := hp.1 hc
        refine aw_lo (lo' := [some (.ref o), none, some (.int v14), none, none, none, none, none, none, none, none]) ⟨.inr rfl, .inl rfl, .inr rfl, .inr rfl, .inr rfl, .inr rfl, .inr rfl, .inr rfl, .inr rfl, .inr rfl, .inr rfl, trivial⟩ ?_
        exact s_readCodes_36 C hQ hA hR v14 (S14.1, S14.2.1, S14.2.2) R2 hR2 hp
      · have hp := hp.2 hc
        refine a_iload_n C d_readCodes_24 rfl rfl ?_
        refine a_bipush (v := 16) C d_readCodes_25 (by decide) ?_
        refine a_icmp_eq (tgt := 36) C d_readCodes_27 (by decide) ⟨fun hc => ?_, fun hc => ?_⟩
        · have hp := hp.1 hc
          refine aw_lo (lo' := [some (.ref o), none, some (.int v14), none, none, none, none, none, none, none, none]) ⟨.inr rfl, .inl rfl, .inr rfl, .inr rfl, .inr rfl, .inr rfl, .inr rfl, .inr rfl, .inr rfl, .inr rfl, .inr rfl, trivial⟩ ?_
          exact s_readCodes_36 C hQ hA hR v14 (S14.1, S14.2.1, S14.2.2) R2 hR2 hp
        · have hp := hp.2 hc
          refine a_iload_n C d_readCodes_30 rfl rfl ?_
          refine a_bipush (v := 17) C d_readCodes_31 (by decide) ?_
          refine a_icmp_ne (tgt := 40) C d_readCodes_33 (by decide) ⟨fun hc => ?_, fun hc => ?_⟩
          · have hp := hp.1 hc
            refine a_iconst (v := 0) C d_readCodes_40 (by decide) ?_
            refine aw_lo (lo' := [some (.ref o), none, some (.int v14), none, none, none, none, none, none, none, none]) ⟨.inr rfl, .inl rfl, .inr rfl, .inr rfl, .inr rfl, .inr rfl, .inr rfl, .inr rfl, .inr rfl, .inr rfl, .inr rfl, trivial⟩ ?_
            exact s_readCodes_41 C hQ hA hR v14 0 (S14.1, S14.2.1, S14.2.2) R2 hR2 hp
          · have hp := hp.2 hc
            refine aw_lo (lo' := [some (.ref o), none, some (.int v14), none, none, none, none, none, none, none, none]) ⟨.inr rfl, .inl rfl, .inr rfl, .inr rfl, .inr rfl, .inr rfl, .inr rfl, .inr rfl, .inr rfl, .inr rfl, .inr rfl, trivial⟩ ?_
            exact s_readCodes_36 C hQ hA hR v14 (S14.1, S14.2.1, S14.2.2) R2 hR2 hp
set_option maxRecDepth 100000 in
set_option maxHeartbeats 1000000 in
theorem se_readCodes_2 (C : fcx gG D z A X R_M c_M_readCodes 11 (none)) (hQ : X.2.2.2.2.2.2.2.2.2.2 = eQ gG D z X.2.2.2.2.2.2.2.1 X.2.2.2.2.1 L0 0 0 (pM_v K o ad)) (hA : A = owA gG L0 X.2.2.2.2.1.heap.size) (hR : X.2.2.2.1 = { frames := 4, cells := 1, slots := 6, locals := 400 }) (x1 : Int32) (S : ms) (hp : e_readCodes_2 x1 S K) : aw gG D z A X 11 2 [some (.ref o), some (.int x1), none, none, none, none, none, none, none, none, none] [] [(0, ly_M, (o, ad, S.1, S.2.1, S.2.2))] 0 0 := by
  obtain ⟨I, μ, h0, hs⟩ := hp
  have key : ∀ (n : Nat) (yx1 : Int32) (yS : ms), μ yx1 yS < n → I yx1 yS → aw gG D z A X 11 2 [some (.ref o), some (.int yx1), none, none, none, none, none, none, none, none, none] [] [(0, ly_M, (o, ad, yS.1, yS.2.1, yS.2.2))] 0 0 := by
    intro n
    induction n with
    | zero => intro yx1 yS h; omega
    | succ n ih =>
      intro yx1 yS hn hI
      exact s_readCodes_2 C hQ hA hR yx1 yS _ (fun zx1 zS hw => ih zx1 zS (by omega) hw.1) (hs yx1 yS hI)
  exact key (μ x1 S + 1) x1 S (Nat.lt_succ_self _) h0
set_option maxRecDepth 100000 in
set_option maxHeartbeats 1000000 in
theorem s_readCodes_0 (C : fcx gG D z A X R_M c_M_readCodes 11 (none)) (hQ : X.2.2.2.2.2.2.2.2.2.2 = eQ gG D z X.2.2.2.2.2.2.2.1 X.2.2.2.2.1 L0 0 0 (pM_v K o ad)) (hA : A = owA gG L0 X.2.2.2.2.1.heap.size) (hR : X.2.2.2.1 = { frames := 4, cells := 1, slots := 6, locals := 400 })  (S : ms) (hp : p_readCodes  S K) : aw gG D z A X 11 0 [some (.ref o), none, none, none, none, none, none, none, none, none, none] [] [(0, ly_M, (o, ad, S.1, S.2.1, S.2.2))] 0 0 := by
  unfold p_readCodes at hp
  refine a_iconst (v := 1) C d_readCodes_0 (by decide) ?_
  refine a_istore_n (lo' := [some (.ref o), some (.int 1), none, none, none, none, none, none, none, none, none]) C d_readCodes_1 rfl (by decide) rfl ?_
  refine aw_lo (lo' := [some (.ref o), some (.int 1), none, none, none, none, none, none, none, none, none]) ⟨.inr rfl, .inr rfl, .inr rfl, .inr rfl, .inr rfl, .inr rfl, .inr rfl, .inr rfl, .inr rfl, .inr rfl, .inr rfl, trivial⟩ ?_
  exact se_readCodes_2 C hQ hA hR 1 S  hp
end M_readCodes
section M_readCodesc
variable {D : va_G} {z : Nat → ClassId} {o : Nat} {ad : Nat → Nat}
set_option maxRecDepth 100000 in
theorem ct_readCodes {l : Launch}  (S : ms) {K : ms → Prop} (hp : p_readCodes  S K) : ct gG D z l n_M_readCodes c_M_readCodes 11 (none) 4 400 [.ref o] [(0, ly_M, (o, ad, S.1, S.2.1, S.2.2))] 0 0 (pM_v K o ad) := by
  refine ct_of (lo := [some (.ref o), none, none, none, none, none, none, none, none, none, none]) (by decide) g_ok (Nat.le_of_ble_eq_true rfl) rfl ?_
  intro X A _ C hR hQ hA _
  exact s_readCodes_0 C hQ hA hR  S hp
end M_readCodesc
