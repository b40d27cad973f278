def b_Li_takeThings_76 (U : ut) (u : Nat) (x4 : Int32) (S : cs) (K : Int32 → cs → Prop) : Prop :=
  K x4 S
def b_Li_takeThings_70 (U : ut) (u : Nat) (x1 : Int32) (x2 : Int32) (x3 : Nat) (x4 : Int32) (x5 : Int32) (S : cs) (R6 : Int32 → Int32 → Nat → Int32 → Int32 → cs → Prop) (K : Int32 → cs → Prop) : Prop :=
  R6 x1 x2 x3 x4 (x5 + 1) S
def b_Li_takeThings_6 (U : ut) (u : Nat) (x1 : Int32) (x2 : Int32) (x3 : Nat) (x4 : Int32) (x5 : Int32) (S : cs) (R6 : Int32 → Int32 → Nat → Int32 → Int32 → cs → Prop) (K : Int32 → cs → Prop) : Prop :=
  (x2 ≤ x5 → (b_Li_takeThings_76 U u x4 S K)) ∧ (¬ (x2 ≤ x5) → ((514 ≤ x5 → (b_Li_takeThings_76 U u x4 S K)) ∧ (¬ (514 ≤ x5) → (¬ S.2.2 u 2 = NU ∧ (c_cl U (S.2.2 u 2) = 903 ∧ (vp_in ((514 * x1) + x5) (c_ln U (S.2.2 u 2)) ∧ (((S.1 (S.2.2 u 2) ((514 * x1) + x5).toNatClampNeg) = 0 → (((S.1 u 1) ≤ (x5 - x4) → (b_Li_takeThings_70 U u x1 x2 x3 x4 x5 S R6 K)) ∧ (¬ ((S.1 u 1) ≤ (x5 - x4)) → (¬ S.2.2 u 0 = NU ∧ (c_cl U (S.2.2 u 0) = 902 ∧ (vp_in (x5 - x4) (c_ln U (S.2.2 u 0)) ∧ (c_cl U x3 = 902 ∧ (vp_in (S.1 (S.2.2 u 0) (x5 - x4).toNatClampNeg) (c_ln U x3) ∧ (vp_in (S.1 (S.2.2 u 0) (x5 - x4).toNatClampNeg) (c_ln U x3) ∧ (b_Li_takeThings_70 U u x1 x2 x3 x4 x5 (va_up S.1 x3 (upd (S.1 x3) (S.1 (S.2.2 u 0) (x5 - x4).toNatClampNeg).toNatClampNeg ((S.1 x3 (S.1 (S.2.2 u 0) (x5 - x4).toNatClampNeg).toNatClampNeg) + 1)), S.2.1, S.2.2) R6 K)))))))))) ∧ (¬ ((S.1 (S.2.2 u 2) ((514 * x1) + x5).toNatClampNeg) = 0) → (b_Li_takeThings_70 U u x1 x2 x3 (x4 + 1) x5 S R6 K)))))))))
def e_Li_takeThings_6 (U : ut) (u : Nat) (x1 : Int32) (x2 : Int32) (x3 : Nat) (x4 : Int32) (x5 : Int32) (S : cs) (K : Int32 → cs → Prop) : Prop :=
  ∃ (I : Int32 → Int32 → Nat → Int32 → Int32 → cs → Prop) (μ : Int32 → Int32 → Nat → Int32 → Int32 → cs → Nat), I x1 x2 x3 x4 x5 S ∧ ∀ yx1 yx2 yx3 yx4 yx5 yS, I yx1 yx2 yx3 yx4 yx5 yS → b_Li_takeThings_6 U u yx1 yx2 yx3 yx4 yx5 yS (fun zx1 zx2 zx3 zx4 zx5 zS => I zx1 zx2 zx3 zx4 zx5 zS ∧ μ zx1 zx2 zx3 zx4 zx5 zS < μ yx1 yx2 yx3 yx4 yx5 yS) K
def p_Li_takeThings (U : ut) (u : Nat) (x1 : Int32) (x2 : Int32) (x3 : Nat) (S : cs) (K : Int32 → cs → Prop) : Prop :=
  e_Li_takeThings_6 U u x1 x2 x3 0 0 S K
section C_Li_takeThings
variable {D : va_G} {z : Nat → ClassId} {A : Nat → Prop} {X : cx} {L0 : fw} {U : ut} {oa : Nat → Nat} {u : Nat} {K : Int32 → cs → Prop}
set_option maxRecDepth 100000 in
set_option maxHeartbeats 1000000 in
theorem s_Li_takeThings_76 (C : fcx gG D z A X R_Li c_C_Li_takeThings 6 (some .int)) (hQ : X.2.2.2.2.2.2.2.2.2.2 = eQ gG D z X.2.2.2.2.2.2.2.1 X.2.2.2.2.1 L0 0 0 (pC_i lt_C U oa K (fun _ _ => False))) (hA : A = owA gG L0 X.2.2.2.2.1.heap.size) (hR : X.2.2.2.1 = { frames := 1, cells := 1, slots := 6, locals := 100 }) (hu : c_cl U u = 4) (x4 : Int32) (S : cs) (hp : b_Li_takeThings_76 U u x4 S K) : aw gG D z A X 6 76 [some (.ref (oa u)), none, none, none, some (.int x4), none] [] (cw lt_C U oa S) 0 0 := by
  unfold b_Li_takeThings_76 at hp
  refine a_iload C dc_Li_takeThings_76 rfl ?_
  exact a_iret (ty := .int) C hQ hA dc_Li_takeThings_78 rfl rfl (Or.inl ⟨_, S, hp, rfl, rfl⟩)
set_option maxRecDepth 100000 in
set_option maxHeartbeats 1000000 in
theorem s_Li_takeThings_70 (C : fcx gG D z A X R_Li c_C_Li_takeThings 6 (some .int)) (hQ : X.2.2.2.2.2.2.2.2.2.2 = eQ gG D z X.2.2.2.2.2.2.2.1 X.2.2.2.2.1 L0 0 0 (pC_i lt_C U oa K (fun _ _ => False))) (hA : A = owA gG L0 X.2.2.2.2.1.heap.size) (hR : X.2.2.2.1 = { frames := 1, cells := 1, slots := 6, locals := 100 }) (hu : c_cl U u = 4) (x1 : Int32) (x2 : Int32) (x3 : Nat) (x4 : Int32) (x5 : Int32) (S : cs) (R6 : Int32 → Int32 → Nat → Int32 → Int32 → cs → Prop) (hR6 : ∀ yx1 yx2 yx3 yx4 yx5 yS, R6 yx1 yx2 yx3 yx4 yx5 yS → aw gG D z A X 6 6 [some (.ref (oa u)), some (.int yx1), some (.int yx2), some (.ref (oa yx3)), some (.int yx4), some (.int yx5)] [] (cw lt_C U oa yS) 0 0) (hp : b_Li_takeThings_70 U u x1 x2 x3 x4 x5 S R6 K) : aw gG D z A X 6 70 [some (.ref (oa u)), some (.int x1), some (.int x2), some (.ref (oa x3)), some (.int x4), some (.int x5)] [] (cw lt_C U oa S) 0 0 := by
  unfold b_Li_takeThings_70 at hp
  refine a_iinc (v := x5 + 1) (lo' := [some (.ref (oa u)), some (.int x1), some (.int x2), some (.ref (oa x3)), some (.int x4), some (.int (x5 + 1))]) C dc_Li_takeThings_70 rfl rfl (by decide) rfl ?_
  refine a_goto (tgt := 6) C dc_Li_takeThings_73 (by decide) ?_
  refine aw_lo (lo' := [some (.ref (oa u)), some (.int x1), some (.int x2), some (.ref (oa x3)), some (.int x4), some (.int (x5 + 1))]) ⟨.inr rfl, .inr rfl, .inr rfl, .inr rfl, .inr rfl, .inr rfl, trivial⟩ ?_
  exact hR6 x1 x2 x3 x4 (x5 + 1) S hp
set_option maxRecDepth 100000 in
set_option maxHeartbeats 1000000 in
theorem s_Li_takeThings_6 (C : fcx gG D z A X R_Li c_C_Li_takeThings 6 (some .int)) (hQ : X.2.2.2.2.2.2.2.2.2.2 = eQ gG D z X.2.2.2.2.2.2.2.1 X.2.2.2.2.1 L0 0 0 (pC_i lt_C U oa K (fun _ _ => False))) (hA : A = owA gG L0 X.2.2.2.2.1.heap.size) (hR : X.2.2.2.1 = { frames := 1, cells := 1, slots := 6, locals := 100 }) (hu : c_cl U u = 4) (x1 : Int32) (x2 : Int32) (x3 : Nat) (x4 : Int32) (x5 : Int32) (S : cs) (R6 : Int32 → Int32 → Nat → Int32 → Int32 → cs → Prop) (hR6 : ∀ yx1 yx2 yx3 yx4 yx5 yS, R6 yx1 yx2 yx3 yx4 yx5 yS → aw gG D z A X 6 6 [some (.ref (oa u)), some (.int yx1), some (.int yx2), some (.ref (oa yx3)), some (.int yx4), some (.int yx5)] [] (cw lt_C U oa yS) 0 0) (hp : b_Li_takeThings_6 U u x1 x2 x3 x4 x5 S R6 K) : aw gG D z A X 6 6 [some (.ref (oa u)), some (.int x1), some (.int x2), some (.ref (oa x3)), some (.int x4), some (.int x5)] [] (cw lt_C U oa S) 0 0 := by
  unfold b_Li_takeThings_6 at hp
  refine a_iload C dc_Li_takeThings_6 rfl ?_
  refine a_iload_n C dc_Li_takeThings_8 rfl rfl ?_
  refine a_icmp_ge (tgt := 76) C dc_Li_takeThings_9 (by decide) ⟨fun hc => ?_, fun hc => ?_⟩
  · have hp := hp.1 hc
    refine aw_lo (lo' := [some (.ref (oa u)), none, none, none, some (.int x4), none]) ⟨.inr rfl, .inl rfl, .inl rfl, .inl rfl, .inr rfl, .inl rfl, trivial⟩ ?_
    exact s_Li_takeThings_76 C hQ hA hR hu x4 S  hp
  · have hp := hp.2 hc
    refine a_iload C dc_Li_takeThings_12 rfl ?_
    refine a_sipush (v := 514) C dc_Li_takeThings_14 (by decide) ?_
    refine a_icmp_ge (tgt := 76) C dc_Li_takeThings_17 (by decide) ⟨fun hc => ?_, fun hc => ?_⟩
    · have hp := hp.1 hc
      refine aw_lo (lo' := [some (.ref (oa u)), none, none, none, some (.int x4), none]) ⟨.inr rfl, .inl rfl, .inl rfl, .inl rfl, .inr rfl, .inl rfl, trivial⟩ ?_
      exact s_Li_takeThings_76 C hQ hA hR hu x4 S  hp
    · have hp := hp.2 hc
      refine a_aload_n C dc_Li_takeThings_20 rfl rfl ?_
      refine c_getR C u 2 dc_Li_takeThings_21 hu rfl rfl (Nat.le_of_ble_eq_true rfl) f_Li_17 rfl hp.1 ?_
      have hp := hp.2
      refine a_sipush (v := 514) C dc_Li_takeThings_24 (by decide) ?_
      refine a_iload_n C dc_Li_takeThings_27 rfl rfl ?_
      refine a_imul C dc_Li_takeThings_28 ?_
      refine a_iload C dc_Li_takeThings_29 rfl ?_
      refine a_iadd C dc_Li_takeThings_31 ?_
      have hc1 := hp.1
      have hp := hp.2
      refine c_zald C (S.2.2 u 2) dc_Li_takeThings_32 hc1 hp.1 ?_
      have hp := hp.2
      refine a_if_eq (tgt := 42) C dc_Li_takeThings_33 (by decide) ⟨fun hc => ?_, fun hc => ?_⟩
      · have hp := hp.1 hc
        refine a_iload C dc_Li_takeThings_42 rfl ?_
        refine a_iload C dc_Li_takeThings_44 rfl ?_
        refine a_isub C dc_Li_takeThings_46 ?_
        refine a_aload_n C dc_Li_takeThings_47 rfl rfl ?_
        refine c_getI C u 1 dc_Li_takeThings_48 hu rfl rfl (Nat.le_of_ble_eq_true rfl) f_Li_34 (Nat.le_of_ble_eq_true rfl) ?_
        refine a_icmp_ge (tgt := 70) C dc_Li_takeThings_51 (by decide) ⟨fun hc => ?_, fun hc => ?_⟩
        · have hp := hp.1 hc
          refine aw_lo (lo' := [some (.ref (oa u)), some (.int x1), some (.int x2), some (.ref (oa x3)), some (.int x4), some (.int x5)]) ⟨.inr rfl, .inr rfl, .inr rfl, .inr rfl, .inr rfl, .inr rfl, trivial⟩ ?_
          exact s_Li_takeThings_70 C hQ hA hR hu x1 x2 x3 x4 x5 S R6 hR6 hp
        · have hp := hp.2 hc
          refine a_aload_n C dc_Li_takeThings_54 rfl rfl ?_
          refine a_aload_n C dc_Li_takeThings_55 rfl rfl ?_
          refine c_getR C u 0 dc_Li_takeThings_56 hu rfl rfl (Nat.le_of_ble_eq_true rfl) f_Li_13 rfl hp.1 ?_
          have hp := hp.2
          refine a_iload C dc_Li_takeThings_59 rfl ?_
          refine a_iload C dc_Li_takeThings_61 rfl ?_
          refine a_isub C dc_Li_takeThings_63 ?_
          have hc2 := hp.1
          have hp := hp.2
          refine c_iald C (S.2.2 u 0) dc_Li_takeThings_64 hc2 hp.1 ?_
          have hp := hp.2
          refine a_dup2 C dc_Li_takeThings_65 rfl rfl ?_
          have hc3 := hp.1
          have hp := hp.2
          refine c_iald C x3 dc_Li_takeThings_66 hc3 hp.1 ?_
          have hp := hp.2
          refine a_iconst (v := 1) C dc_Li_takeThings_67 (by decide) ?_
          refine a_iadd C dc_Li_takeThings_68 ?_
          refine c_iast C x3 dc_Li_takeThings_69 hc3 hp.1 ?_
          have hp := hp.2
          refine aw_eq (lo' := _) (st' := _) (L' := (cw lt_C U oa (va_up S.1 x3 (upd (S.1 x3) (S.1 (S.2.2 u 0) (x5 - x4).toNatClampNeg).toNatClampNeg ((S.1 x3 (S.1 (S.2.2 u 0) (x5 - x4).toNatClampNeg).toNatClampNeg) + 1)), S.2.1, S.2.2))) rfl rfl rfl ?_
          refine aw_lo (lo' := [some (.ref (oa u)), some (.int x1), some (.int x2), some (.ref (oa x3)), some (.int x4), some (.int x5)]) ⟨.inr rfl, .inr rfl, .inr rfl, .inr rfl, .inr rfl, .inr rfl, trivial⟩ ?_
          exact s_Li_takeThings_70 C hQ hA hR hu x1 x2 x3 x4 x5 (va_up S.1 x3 (upd (S.1 x3) (S.1 (S.2.2 u 0) (x5 - x4).toNatClampNeg).toNatClampNeg ((S.1 x3 (S.1 (S.2.2 u 0) (x5 - x4).toNatClampNeg).toNatClampNeg) + 1)), S.2.1, S.2.2) R6 hR6 hp
      · have hp := hp.2 hc
        refine a_iinc (v := x4 + 1) (lo' := [some (.ref (oa u)), some (.int x1), some (.int x2), some (.ref (oa x3)), some (.int (x4 + 1)), some (.int x5)]) C dc_Li_takeThings_36 rfl rfl (by decide) rfl ?_
        refine a_goto (tgt := 70) C dc_Li_takeThings_39 (by decide) ?_
        refine aw_lo (lo' := [some (.ref (oa u)), some (.int x1), some (.int x2), some (.ref (oa x3)), some (.int (x4 + 1)), some (.int x5)]) ⟨.inr rfl, .inr rfl, .inr rfl, .inr rfl, .inr rfl, .inr rfl, trivial⟩ ?_
        exact s_Li_takeThings_70 C hQ hA hR hu x1 x2 x3 (x4 + 1) x5 S R6 hR6 hp
set_option maxRecDepth 100000 in
set_option maxHeartbeats 1000000 in
theorem se_Li_takeThings_6 (C : fcx gG D z A X R_Li c_C_Li_takeThings 6 (some .int)) (hQ : X.2.2.2.2.2.2.2.2.2.2 = eQ gG D z X.2.2.2.2.2.2.2.1 X.2.2.2.2.1 L0 0 0 (pC_i lt_C U oa K (fun _ _ => False))) (hA : A = owA gG L0 X.2.2.2.2.1.heap.size) (hR : X.2.2.2.1 = { frames := 1, cells := 1, slots := 6, locals := 100 }) (hu : c_cl U u = 4) (x1 : Int32) (x2 : Int32) (x3 : Nat) (x4 : Int32) (x5 : Int32) (S : cs) (hp : e_Li_takeThings_6 U u x1 x2 x3 x4 x5 S K) : aw gG D z A X 6 6 [some (.ref (oa u)), some (.int x1), some (.int x2), some (.ref (oa x3)), some (.int x4), some (.int x5)] [] (cw lt_C U oa S) 0 0 := by
  obtain ⟨I, μ, h0, hs⟩ := hp
  have key : ∀ (n : Nat) (yx1 : Int32) (yx2 : Int32) (yx3 : Nat) (yx4 : Int32) (yx5 : Int32) (yS : cs), μ yx1 yx2 yx3 yx4 yx5 yS < n → I yx1 yx2 yx3 yx4 yx5 yS → aw gG D z A X 6 6 [some (.ref (oa u)), some (.int yx1), some (.int yx2), some (.ref (oa yx3)), some (.int yx4), some (.int yx5)] [] (cw lt_C U oa yS) 0 0 := by
    intro n
    induction n with
    | zero => intro yx1 yx2 yx3 yx4 yx5 yS h; omega
    | succ n ih =>
      intro yx1 yx2 yx3 yx4 yx5 yS hn hI
      exact s_Li_takeThings_6 C hQ hA hR hu yx1 yx2 yx3 yx4 yx5 yS _ (fun zx1 zx2 zx3 zx4 zx5 zS hw => ih zx1 zx2 zx3 zx4 zx5 zS (by omega) hw.1) (hs yx1 yx2 yx3 yx4 yx5 yS hI)
  exact key (μ x1 x2 x3 x4 x5 S + 1) x1 x2 x3 x4 x5 S (Nat.lt_succ_self _) h0
set_option maxRecDepth 100000 in
set_option maxHeartbeats 1000000 in
theorem s_Li_takeThings_0 (C : fcx gG D z A X R_Li c_C_Li_takeThings 6 (some .int)) (hQ : X.2.2.2.2.2.2.2.2.2.2 = eQ gG D z X.2.2.2.2.2.2.2.1 X.2.2.2.2.1 L0 0 0 (pC_i lt_C U oa K (fun _ _ => False))) (hA : A = owA gG L0 X.2.2.2.2.1.heap.size) (hR : X.2.2.2.1 = { frames := 1, cells := 1, slots := 6, locals := 100 }) (hu : c_cl U u = 4) (x1 : Int32) (x2 : Int32) (x3 : Nat) (S : cs) (hp : p_Li_takeThings U u x1 x2 x3 S K) : aw gG D z A X 6 0 [some (.ref (oa u)), some (.int x1), some (.int x2), some (.ref (oa x3)), none, none] [] (cw lt_C U oa S) 0 0 := by
  unfold p_Li_takeThings at hp
  refine a_iconst (v := 0) C dc_Li_takeThings_0 (by decide) ?_
  refine a_istore (lo' := [some (.ref (oa u)), some (.int x1), some (.int x2), some (.ref (oa x3)), some (.int 0), none]) C dc_Li_takeThings_1 (by decide) rfl ?_
  refine a_iconst (v := 0) C dc_Li_takeThings_3 (by decide) ?_
  refine a_istore (lo' := [some (.ref (oa u)), some (.int x1), some (.int x2), some (.ref (oa x3)), some (.int 0), some (.int 0)]) C dc_Li_takeThings_4 (by decide) rfl ?_
  refine aw_lo (lo' := [some (.ref (oa u)), some (.int x1), some (.int x2), some (.ref (oa x3)), some (.int 0), some (.int 0)]) ⟨.inr rfl, .inr rfl, .inr rfl, .inr rfl, .inr rfl, .inr rfl, trivial⟩ ?_
  exact se_Li_takeThings_6 C hQ hA hR hu x1 x2 x3 0 0 S  hp
end C_Li_takeThings
section C_Li_takeThingsc
variable {D : va_G} {z : Nat → ClassId} {U : ut} {oa : Nat → Nat}
set_option maxRecDepth 100000 in
theorem ct_Li_takeThings {l : Launch} (u : Nat) (x1 : Int32) (x2 : Int32) (x3 : Nat) (S : cs) {K : Int32 → cs → Prop} (hu : c_cl U u = 4) (hp : p_Li_takeThings U u x1 x2 x3 S K) : ct gG D z l n_C_Li_takeThings c_C_Li_takeThings 6 (some .int) 1 100 [.ref (oa u), .int x1, .int x2, .ref (oa x3)] (cw lt_C U oa S) 0 0 (pC_i lt_C U oa K (fun _ _ => False)) := by
  refine ct_of (lo := [some (.ref (oa u)), some (.int x1), some (.int x2), some (.ref (oa x3)), none, none]) (by decide) g_ok (Nat.le_of_ble_eq_true rfl) rfl ?_
  intro X A _ C hR hQ hA _
  exact s_Li_takeThings_0 C hQ hA hR hu x1 x2 x3 S hp
end C_Li_takeThingsc
def b_Li_setLengths_86 (U : ut) (u : Nat) (x1 : Nat) (x3 : Int32) (x4 : Int32) (S : cs) (R86 : Nat → Int32 → Int32 → cs → Prop) (K : cs → Prop) : Prop :=
  (x4 < 0 → (K S)) ∧ (¬ (x4 < 0) → (c_cl U x1 = 5 ∧ (¬ S.2.2 x1 1 = NU ∧ (p_Li_takeThings U u x4 x3 (S.2.2 x1 1) S (fun v100 S100 => R86 x1 (2 * v100) (x4 + (-1)) S100)))))
def e_Li_setLengths_86 (U : ut) (u : Nat) (x1 : Nat) (x3 : Int32) (x4 : Int32) (S : cs) (K : cs → Prop) : Prop :=
  ∃ (I : Nat → Int32 → Int32 → cs → Prop) (μ : Nat → Int32 → Int32 → cs → Nat), I x1 x3 x4 S ∧ ∀ yx1 yx3 yx4 yS, I yx1 yx3 yx4 yS → b_Li_setLengths_86 U u yx1 yx3 yx4 yS (fun zx1 zx3 zx4 zS => I zx1 zx3 zx4 zS ∧ μ zx1 zx3 zx4 zS < μ yx1 yx3 yx4 yS) K
def b_Li_setLengths_48 (U : ut) (u : Nat) (x1 : Nat) (x2 : Int32) (x3 : Int32) (S : cs) (R48 : Nat → Int32 → Int32 → cs → Prop) (K : cs → Prop) : Prop :=
  (16 ≤ x3 → (e_Li_setLengths_86 U u x1 ((2 * (S.1 u 1)) - 2) 15 S K)) ∧ (¬ (16 ≤ x3) → (c_cl U x1 = 5 ∧ (¬ S.2.2 x1 0 = NU ∧ (p_Li_makeLine U u x3 (x2 / 2) (S.2.2 x1 0) S (fun v63 S63 => R48 x1 v63 (x3 + 1) S63)))))
def e_Li_setLengths_48 (U : ut) (u : Nat) (x1 : Nat) (x2 : Int32) (x3 : Int32) (S : cs) (K : cs → Prop) : Prop :=
  ∃ (I : Nat → Int32 → Int32 → cs → Prop) (μ : Nat → Int32 → Int32 → cs → Nat), I x1 x2 x3 S ∧ ∀ yx1 yx2 yx3 yS, I yx1 yx2 yx3 yS → b_Li_setLengths_48 U u yx1 yx2 yx3 yS (fun zx1 zx2 zx3 zS => I zx1 zx2 zx3 zS ∧ μ zx1 zx2 zx3 zS < μ yx1 yx2 yx3 yS) K
def b_Li_setLengths_15 (U : ut) (u : Nat) (x1 : Nat) (x2 : Int32) (x3 : Int32) (S : cs) (R15 : Nat → Int32 → Int32 → cs → Prop) (K : cs → Prop) : Prop :=
  ((S.1 u 1) ≤ x3 → (e_Li_setLengths_48 U u x1 x2 1 S K)) ∧ (¬ ((S.1 u 1) ≤ x3) → (¬ S.2.2 u 3 = NU ∧ (c_cl U x1 = 5 ∧ (¬ S.2.2 x1 0 = NU ∧ (¬ S.2.2 u 0 = NU ∧ (c_cl U (S.2.2 u 0) = 902 ∧ (vp_in x3 (c_ln U (S.2.2 u 0)) ∧ (c_cl U (S.2.2 x1 0) = 902 ∧ (vp_in (S.1 (S.2.2 u 0) x3.toNatClampNeg) (c_ln U (S.2.2 x1 0)) ∧ (c_cl U (S.2.2 u 3) = 902 ∧ (vp_in x3 (c_ln U (S.2.2 u 3)) ∧ (R15 x1 x2 (x3 + 1) (va_up S.1 (S.2.2 u 3) (upd (S.1 (S.2.2 u 3)) x3.toNatClampNeg (S.1 (S.2.2 x1 0) (S.1 (S.2.2 u 0) x3.toNatClampNeg).toNatClampNeg)), S.2.1, S.2.2)))))))))))))
def e_Li_setLengths_15 (U : ut) (u : Nat) (x1 : Nat) (x2 : Int32) (x3 : Int32) (S : cs) (K : cs → Prop) : Prop :=
  ∃ (I : Nat → Int32 → Int32 → cs → Prop) (μ : Nat → Int32 → Int32 → cs → Nat), I x1 x2 x3 S ∧ ∀ yx1 yx2 yx3 yS, I yx1 yx2 yx3 yS → b_Li_setLengths_15 U u yx1 yx2 yx3 yS (fun zx1 zx2 zx3 zS => I zx1 zx2 zx3 zS ∧ μ zx1 zx2 zx3 zS < μ yx1 yx2 yx3 yS) K
def p_Li_setLengths (U : ut) (u : Nat) (x1 : Nat) (S : cs) (K : cs → Prop) : Prop :=
  c_cl U x1 = 5 ∧ (¬ S.2.2 x1 0 = NU ∧ (p_Li_sortSymbols U u (S.2.2 x1 0) S (fun S5 => e_Li_setLengths_15 U u x1 (S5.1 u 1) 0 S5 K)))
section C_Li_setLengths
variable {D : va_G} {z : Nat → ClassId} {A : Nat → Prop} {X : cx} {L0 : fw} {U : ut} {oa : Nat → Nat} {u : Nat} {K : cs → Prop}
set_option maxRecDepth 100000 in
set_option maxHeartbeats 1000000 in
theorem s_Li_setLengths_86 (C : fcx gG D z A X R_Li c_C_Li_setLengths 5 (none)) (hQ : X.2.2.2.2.2.2.2.2.2.2 = eQ gG D z X.2.2.2.2.2.2.2.1 X.2.2.2.2.1 L0 0 0 (pC_v lt_C U oa K (fun _ _ => False))) (hA : A = owA gG L0 X.2.2.2.2.1.heap.size) (hR : X.2.2.2.1 = { frames := 2, cells := 1, slots := 6, locals := 200 }) (hu : c_cl U u = 4) (x1 : Nat) (x3 : Int32) (x4 : Int32) (S : cs) (R86 : Nat → Int32 → Int32 → cs → Prop) (hR86 : ∀ yx1 yx3 yx4 yS, R86 yx1 yx3 yx4 yS → aw gG D z A X 5 86 [some (.ref (oa u)), some (.ref (oa yx1)), none, some (.int yx3), some (.int yx4)] [] (cw lt_C U oa yS) 0 0) (hp : b_Li_setLengths_86 U u x1 x3 x4 S R86 K) : aw gG D z A X 5 86 [some (.ref (oa u)), some (.ref (oa x1)), none, some (.int x3), some (.int x4)] [] (cw lt_C U oa S) 0 0 := by
  unfold b_Li_setLengths_86 at hp
  refine a_iload C dc_Li_setLengths_86 rfl ?_
  refine a_if_lt (tgt := 111) C dc_Li_setLengths_88 (by decide) ⟨fun hc => ?_, fun hc => ?_⟩
  · have hp := hp.1 hc
    exact a_vret C hQ hA dc_Li_setLengths_111 rfl (Or.inl ⟨S, hp, rfl, rfl⟩)
  · have hp := hp.2 hc
    refine a_iconst (v := 2) C dc_Li_setLengths_91 (by decide) ?_
    refine a_aload_n C dc_Li_setLengths_92 rfl rfl ?_
    refine a_iload C dc_Li_setLengths_93 rfl ?_
    refine a_iload_n C dc_Li_setLengths_95 rfl rfl ?_
    refine a_aload_n C dc_Li_setLengths_96 rfl rfl ?_
    have hc1 := hp.1
    have hp := hp.2
    refine c_getRN C x1 1 dc_Li_setLengths_97 hc1 rfl rfl (Nat.le_of_ble_eq_true rfl) f_Li_42 rfl hp.1 ?_
    have hp := hp.2
    refine c_call (rest := [.int 2]) (av := .ref (oa u) :: [.int x4, .int x3, .ref (oa (S.2.2 x1 1))]) C dc_Li_setLengths_100 (ct_Li_takeThings u x4 x3 (S.2.2 x1 1) S hu hp) cd_C_Li_takeThings i_Li (Nat.le_of_ble_eq_true rfl) (by rw [hR]; exact Nat.le_of_ble_eq_true rfl) (by rw [hR]; exact Nat.le_of_ble_eq_true rfl) (by rw [hR]; exact Nat.le_of_ble_eq_true rfl) (by rw [hR]; exact Nat.le_of_ble_eq_true rfl) (inv_V C u dc_Li_setLengths_100 l_Li_45 im_C_Li_takeThings se_C_Li_takeThings cd_C_Li_takeThings ⟨by decide, by decide⟩ ln_C_Li_takeThings rfl rfl (cw_obj hu rfl) rfl rfl) (fun oc L1 hL => ?_)
    obtain ⟨v100, S100, hp, rfl, rfl⟩ := hL.resolve_right pC_no
    refine ⟨_, rfl, ?_⟩
    refine aw_eq (lo' := _) (st' := [.int v100, .int 2]) (L' := (cw lt_C U oa S100)) rfl rfl rfl ?_
    refine a_imul C dc_Li_setLengths_103 ?_
    refine a_istore_n (lo' := [some (.ref (oa u)), some (.ref (oa x1)), none, some (.int (2 * v100)), some (.int x4)]) C dc_Li_setLengths_104 rfl (by decide) rfl ?_
    refine a_iinc (v := x4 + (-1)) (lo' := [some (.ref (oa u)), some (.ref (oa x1)), none, some (.int (2 * v100)), some (.int (x4 + (-1)))]) C dc_Li_setLengths_105 rfl rfl (by decide) rfl ?_
    refine a_goto (tgt := 86) C dc_Li_setLengths_108 (by decide) ?_
    refine aw_lo (lo' := [some (.ref (oa u)), some (.ref (oa x1)), none, some (.int (2 * v100)), some (.int (x4 + (-1)))]) ⟨.inr rfl, .inr rfl, .inr rfl, .inr rfl, .inr rfl, trivial⟩ ?_
    exact hR86 x1 (2 * v100) (x4 + (-1)) S100 hp
set_option maxRecDepth 100000 in
set_option maxHeartbeats 1000000 in
theorem se_Li_setLengths_86 (C : fcx gG D z A X R_Li c_C_Li_setLengths 5 (none)) (hQ : X.2.2.2.2.2.2.2.2.2.2 = eQ gG D z X.2.2.2.2.2.2.2.1 X.2.2.2.2.1 L0 0 0 (pC_v lt_C U oa K (fun _ _ => False))) (hA : A = owA gG L0 X.2.2.2.2.1.heap.size) (hR : X.2.2.2.1 = { frames := 2, cells := 1, slots := 6, locals := 200 }) (hu : c_cl U u = 4) (x1 : Nat) (x3 : Int32) (x4 : Int32) (S : cs) (hp : e_Li_setLengths_86 U u x1 x3 x4 S K) : aw gG D z A X 5 86 [some (.ref (oa u)), some (.ref (oa x1)), none, some (.int x3), some (.int x4)] [] (cw lt_C U oa S) 0 0 := by
  obtain ⟨I, μ, h0, hs⟩ := hp
  have key : ∀ (n : Nat) (yx1 : Nat) (yx3 : Int32) (yx4 : Int32) (yS : cs), μ yx1 yx3 yx4 yS < n → I yx1 yx3 yx4 yS → aw gG D z A X 5 86 [some (.ref (oa u)), some (.ref (oa yx1)), none, some (.int yx3), some (.int yx4)] [] (cw lt_C U oa yS) 0 0 := by
    intro n
    induction n with
    | zero => intro yx1 yx3 yx4 yS h; omega
    | succ n ih =>
      intro yx1 yx3 yx4 yS hn hI
      exact s_Li_setLengths_86 C hQ hA hR hu yx1 yx3 yx4 yS _ (fun zx1 zx3 zx4 zS hw => ih zx1 zx3 zx4 zS (by omega) hw.1) (hs yx1 yx3 yx4 yS hI)
  exact key (μ x1 x3 x4 S + 1) x1 x3 x4 S (Nat.lt_succ_self _) h0
set_option maxRecDepth 100000 in
set_option maxHeartbeats 1000000 in
theorem s_Li_setLengths_48 (C : fcx gG D z A X R_Li c_C_Li_setLengths 5 (none)) (hQ : X.2.2.2.2.2.2.2.2.2.2 = eQ gG D z X.2.2.2.2.2.2.2.1 X.2.2.2.2.1 L0 0 0 (pC_v lt_C U oa K (fun _ _ => False))) (hA : A = owA gG L0 X.2.2.2.2.1.heap.size) (hR : X.2.2.2.1 = { frames := 2, cells := 1, slots := 6, locals := 200 }) (hu : c_cl U u = 4) (x1 : Nat) (x2 : Int32) (x3 : Int32) (S : cs) (R48 : Nat → Int32 → Int32 → cs → Prop) (hR48 : ∀ yx1 yx2 yx3 yS, R48 yx1 yx2 yx3 yS → aw gG D z A X 5 48 [some (.ref (oa u)), some (.ref (oa yx1)), some (.int yx2), some (.int yx3), none] [] (cw lt_C U oa yS) 0 0) (hp : b_Li_setLengths_48 U u x1 x2 x3 S R48 K) : aw gG D z A X 5 48 [some (.ref (oa u)), some (.ref (oa x1)), some (.int x2), some (.int x3), none] [] (cw lt_C U oa S) 0 0 := by
  unfold b_Li_setLengths_48 at hp
  refine a_iload_n C dc_Li_setLengths_48 rfl rfl ?_
  refine a_bipush (v := 16) C dc_Li_setLengths_49 (by decide) ?_
  refine a_icmp_ge (tgt := 73) C dc_Li_setLengths_51 (by decide) ⟨fun hc => ?_, fun hc => ?_⟩
  · have hp := hp.1 hc
    refine a_iconst (v := 2) C dc_Li_setLengths_73 (by decide) ?_
    refine a_aload_n C dc_Li_setLengths_74 rfl rfl ?_
    refine c_getI C u 1 dc_Li_setLengths_75 hu rfl rfl (Nat.le_of_ble_eq_true rfl) f_Li_34 (Nat.le_of_ble_eq_true rfl) ?_
    refine a_imul C dc_Li_setLengths_78 ?_
    refine a_iconst (v := 2) C dc_Li_setLengths_79 (by decide) ?_
    refine a_isub C dc_Li_setLengths_80 ?_
    refine a_istore_n (lo' := [some (.ref (oa u)), some (.ref (oa x1)), some (.int x2), some (.int ((2 * (S.1 u 1)) - 2)), none]) C dc_Li_setLengths_81 rfl (by decide) rfl ?_
    refine a_bipush (v := 15) C dc_Li_setLengths_82 (by decide) ?_
    refine a_istore (lo' := [some (.ref (oa u)), some (.ref (oa x1)), some (.int x2), some (.int ((2 * (S.1 u 1)) - 2)), some (.int 15)]) C dc_Li_setLengths_84 (by decide) rfl ?_
    refine aw_lo (lo' := [some (.ref (oa u)), some (.ref (oa x1)), none, some (.int ((2 * (S.1 u 1)) - 2)), some (.int 15)]) ⟨.inr rfl, .inr rfl, .inl rfl, .inr rfl, .inr rfl, trivial⟩ ?_
    exact se_Li_setLengths_86 C hQ hA hR hu x1 ((2 * (S.1 u 1)) - 2) 15 S  hp
  · have hp := hp.2 hc
    refine a_aload_n C dc_Li_setLengths_54 rfl rfl ?_
    refine a_iload_n C dc_Li_setLengths_55 rfl rfl ?_
    refine a_iload_n C dc_Li_setLengths_56 rfl rfl ?_
    refine a_iconst (v := 2) C dc_Li_setLengths_57 (by decide) ?_
    refine a_idiv C dc_Li_setLengths_58 (by decide) ?_
    refine a_aload_n C dc_Li_setLengths_59 rfl rfl ?_
    have hc2 := hp.1
    have hp := hp.2
    refine c_getRN C x1 0 dc_Li_setLengths_60 hc2 rfl rfl (Nat.le_of_ble_eq_true rfl) f_Li_27 rfl hp.1 ?_
    have hp := hp.2
    refine c_call (rest := []) (av := .ref (oa u) :: [.int x3, .int (x2 / 2), .ref (oa (S.2.2 x1 0))]) C dc_Li_setLengths_63 (ct_Li_makeLine u x3 (x2 / 2) (S.2.2 x1 0) S hu hp) cd_C_Li_makeLine i_Li (Nat.le_of_ble_eq_true rfl) (by rw [hR]; exact Nat.le_of_ble_eq_true rfl) (by rw [hR]; exact Nat.le_of_ble_eq_true rfl) (by rw [hR]; exact Nat.le_of_ble_eq_true rfl) (by rw [hR]; exact Nat.le_of_ble_eq_true rfl) (inv_V C u dc_Li_setLengths_63 l_Li_38 im_C_Li_makeLine se_C_Li_makeLine cd_C_Li_makeLine ⟨by decide, by decide⟩ ln_C_Li_makeLine rfl rfl (cw_obj hu rfl) rfl rfl) (fun oc L1 hL => ?_)
    obtain ⟨v63, S63, hp, rfl, rfl⟩ := hL.resolve_right pC_no
    refine ⟨_, rfl, ?_⟩
    refine aw_eq (lo' := _) (st' := [.int v63]) (L' := (cw lt_C U oa S63)) rfl rfl rfl ?_
    refine a_istore_n (lo' := [some (.ref (oa u)), some (.ref (oa x1)), some (.int v63), some (.int x3), none]) C dc_Li_setLengths_66 rfl (by decide) rfl ?_
    refine a_iinc (v := x3 + 1) (lo' := [some (.ref (oa u)), some (.ref (oa x1)), some (.int v63), some (.int (x3 + 1)), none]) C dc_Li_setLengths_67 rfl rfl (by decide) rfl ?_
    refine a_goto (tgt := 48) C dc_Li_setLengths_70 (by decide) ?_
    refine aw_lo (lo' := [some (.ref (oa u)), some (.ref (oa x1)), some (.int v63), some (.int (x3 + 1)), none]) ⟨.inr rfl, .inr rfl, .inr rfl, .inr rfl, .inr rfl, trivial⟩ ?_
    exact hR48 x1 v63 (x3 + 1) S63 hp
set_option maxRecDepth 100000 in
set_option maxHeartbeats 1000000 in
theorem se_Li_setLengths_48 (C : fcx gG D z A X R_Li c_C_Li_setLengths 5 (none)) (hQ : X.2.2.2.2.2.2.2.2.2.2 = eQ gG D z X.2.2.2.2.2.2.2.1 X.2.2.2.2.1 L0 0 0 (pC_v lt_C U oa K (fun _ _ => False))) (hA : A = owA gG L0 X.2.2.2.2.1.heap.size) (hR : X.2.2.2.1 = { frames := 2, cells := 1, slots := 6, locals := 200 }) (hu : c_cl U u = 4) (x1 : Nat) (x2 : Int32) (x3 : Int32) (S : cs) (hp : e_Li_setLengths_48 U u x1 x2 x3 S K) : aw gG D z A X 5 48 [some (.ref (oa u)), some (.ref (oa x1)), some (.int x2), some (.int x3), none] [] (cw lt_C U oa S) 0 0 := by
  obtain ⟨I, μ, h0, hs⟩ := hp
  have key : ∀ (n : Nat) (yx1 : Nat) (yx2 : Int32) (yx3 : Int32) (yS : cs), μ yx1 yx2 yx3 yS < n → I yx1 yx2 yx3 yS → aw gG D z A X 5 48 [some (.ref (oa u)), some (.ref (oa yx1)), some (.int yx2), some (.int yx3), none] [] (cw lt_C U oa yS) 0 0 := by
    intro n
    induction n with
    | zero => intro yx1 yx2 yx3 yS h; omega
    | succ n ih =>
      intro yx1 yx2 yx3 yS hn hI
      exact s_Li_setLengths_48 C hQ hA hR hu yx1 yx2 yx3 yS _ (fun zx1 zx2 zx3 zS hw => ih zx1 zx2 zx3 zS (by omega) hw.1) (hs yx1 yx2 yx3 yS hI)
  exact key (μ x1 x2 x3 S + 1) x1 x2 x3 S (Nat.lt_succ_self _) h0
set_option maxRecDepth 100000 in
set_option maxHeartbeats 1000000 in
theorem s_Li_setLengths_15 (C : fcx gG D z A X R_Li c_C_Li_setLengths 5 (none)) (hQ : X.2.2.2.2.2.2.2.2.2.2 = eQ gG D z X.2.2.2.2.2.2.2.1 X.2.2.2.2.1 L0 0 0 (pC_v lt_C U oa K (fun _ _ => False))) (hA : A = owA gG L0 X.2.2.2.2.1.heap.size) (hR : X.2.2.2.1 = { frames := 2, cells := 1, slots := 6, locals := 200 }) (hu : c_cl U u = 4) (x1 : Nat) (x2 : Int32) (x3 : Int32) (S : cs) (R15 : Nat → Int32 → Int32 → cs → Prop) (hR15 : ∀ yx1 yx2 yx3 yS, R15 yx1 yx2 yx3 yS → aw gG D z A X 5 15 [some (.ref (oa u)), some (.ref (oa yx1)), some (.int yx2), some (.int yx3), none] [] (cw lt_C U oa yS) 0 0) (hp : b_Li_setLengths_15 U u x1 x2 x3 S R15 K) : aw gG D z A X 5 15 [some (.ref (oa u)), some (.ref (oa x1)), some (.int x2), some (.int x3), none] [] (cw lt_C U oa S) 0 0 := by
  unfold b_Li_setLengths_15 at hp
  refine a_iload_n C dc_Li_setLengths_15 rfl rfl ?_
  refine a_aload_n C dc_Li_setLengths_16 rfl rfl ?_
  refine c_getI C u 1 dc_Li_setLengths_17 hu rfl rfl (Nat.le_of_ble_eq_true rfl) f_Li_34 (Nat.le_of_ble_eq_true rfl) ?_
  refine a_icmp_ge (tgt := 46) C dc_Li_setLengths_20 (by decide) ⟨fun hc => ?_, fun hc => ?_⟩
  · have hp := hp.1 hc
    refine a_iconst (v := 1) C dc_Li_setLengths_46 (by decide) ?_
    refine a_istore_n (lo' := [some (.ref (oa u)), some (.ref (oa x1)), some (.int x2), some (.int 1), none]) C dc_Li_setLengths_47 rfl (by decide) rfl ?_
    refine aw_lo (lo' := [some (.ref (oa u)), some (.ref (oa x1)), some (.int x2), some (.int 1), none]) ⟨.inr rfl, .inr rfl, .inr rfl, .inr rfl, .inr rfl, trivial⟩ ?_
    exact se_Li_setLengths_48 C hQ hA hR hu x1 x2 1 S  hp
  · have hp := hp.2 hc
    refine a_aload_n C dc_Li_setLengths_23 rfl rfl ?_
    refine c_getR C u 3 dc_Li_setLengths_24 hu rfl rfl (Nat.le_of_ble_eq_true rfl) f_Li_21 rfl hp.1 ?_
    have hp := hp.2
    refine a_iload_n C dc_Li_setLengths_27 rfl rfl ?_
    refine a_aload_n C dc_Li_setLengths_28 rfl rfl ?_
    have hc3 := hp.1
    have hp := hp.2
    refine c_getRN C x1 0 dc_Li_setLengths_29 hc3 rfl rfl (Nat.le_of_ble_eq_true rfl) f_Li_27 rfl hp.1 ?_
    have hp := hp.2
    refine a_aload_n C dc_Li_setLengths_32 rfl rfl ?_
    refine c_getR C u 0 dc_Li_setLengths_33 hu rfl rfl (Nat.le_of_ble_eq_true rfl) f_Li_13 rfl hp.1 ?_
    have hp := hp.2
    refine a_iload_n C dc_Li_setLengths_36 rfl rfl ?_
    have hc4 := hp.1
    have hp := hp.2
    refine c_iald C (S.2.2 u 0) dc_Li_setLengths_37 hc4 hp.1 ?_
    have hp := hp.2
    have hc5 := hp.1
    have hp := hp.2
    refine c_iald C (S.2.2 x1 0) dc_Li_setLengths_38 hc5 hp.1 ?_
    have hp := hp.2
    have hc6 := hp.1
    have hp := hp.2
    refine c_iast C (S.2.2 u 3) dc_Li_setLengths_39 hc6 hp.1 ?_
    have hp := hp.2
    refine aw_eq (lo' := _) (st' := _) (L' := (cw lt_C U oa (va_up S.1 (S.2.2 u 3) (upd (S.1 (S.2.2 u 3)) x3.toNatClampNeg (S.1 (S.2.2 x1 0) (S.1 (S.2.2 u 0) x3.toNatClampNeg).toNatClampNeg)), S.2.1, S.2.2))) rfl rfl rfl ?_
    refine a_iinc (v := x3 + 1) (lo' := [some (.ref (oa u)), some (.ref (oa x1)), some (.int x2), some (.int (x3 + 1)), none]) C dc_Li_setLengths_40 rfl rfl (by decide) rfl ?_
    refine a_goto (tgt := 15) C dc_Li_setLengths_43 (by decide) ?_
    refine aw_lo (lo' := [some (.ref (oa u)), some (.ref (oa x1)), some (.int x2), some (.int (x3 + 1)), none]) ⟨.inr rfl, .inr rfl, .inr rfl, .inr rfl, .inr rfl, trivial⟩ ?_
    exact hR15 x1 x2 (x3 + 1) (va_up S.1 (S.2.2 u 3) (upd (S.1 (S.2.2 u 3)) x3.toNatClampNeg (S.1 (S.2.2 x1 0) (S.1 (S.2.2 u 0) x3.toNatClampNeg).toNatClampNeg)), S.2.1, S.2.2) hp
set_option maxRecDepth 100000 in
set_option maxHeartbeats 1000000 in
theorem se_Li_setLengths_15 (C : fcx gG D z A X R_Li c_C_Li_setLengths 5 (none)) (hQ : X.2.2.2.2.2.2.2.2.2.2 = eQ gG D z X.2.2.2.2.2.2.2.1 X.2.2.2.2.1 L0 0 0 (pC_v lt_C U oa K (fun _ _ => False))) (hA : A = owA gG L0 X.2.2.2.2.1.heap.size) (hR : X.2.2.2.1 = { frames := 2, cells := 1, slots := 6, locals := 200 }) (hu : c_cl U u = 4) (x1 : Nat) (x2 : Int32) (x3 : Int32) (S : cs) (hp : e_Li_setLengths_15 U u x1 x2 x3 S K) : aw gG D z A X 5 15 [some (.ref (oa u)), some (.ref (oa x1)), some (.int x2), some (.int x3), none] [] (cw lt_C U oa S) 0 0 := by
  obtain ⟨I, μ, h0, hs⟩ := hp
  have key : ∀ (n : Nat) (yx1 : Nat) (yx2 : Int32) (yx3 : Int32) (yS : cs), μ yx1 yx2 yx3 yS < n → I yx1 yx2 yx3 yS → aw gG D z A X 5 15 [some (.ref (oa u)), some (.ref (oa yx1)), some (.int yx2), some (.int yx3), none] [] (cw lt_C U oa yS) 0 0 := by
    intro n
    induction n with
    | zero => intro yx1 yx2 yx3 yS h; omega
    | succ n ih =>
      intro yx1 yx2 yx3 yS hn hI
      exact s_Li_setLengths_15 C hQ hA hR hu yx1 yx2 yx3 yS _ (fun zx1 zx2 zx3 zS hw => ih zx1 zx2 zx3 zS (by omega) hw.1) (hs yx1 yx2 yx3 yS hI)
  exact key (μ x1 x2 x3 S + 1) x1 x2 x3 S (Nat.lt_succ_self _) h0
set_option maxRecDepth 100000 in
set_option maxHeartbeats 1000000 in
theorem s_Li_setLengths_0 (C : fcx gG D z A X R_Li c_C_Li_setLengths 5 (none)) (hQ : X.2.2.2.2.2.2.2.2.2.2 = eQ gG D z X.2.2.2.2.2.2.2.1 X.2.2.2.2.1 L0 0 0 (pC_v lt_C U oa K (fun _ _ => False))) (hA : A = owA gG L0 X.2.2.2.2.1.heap.size) (hR : X.2.2.2.1 = { frames := 2, cells := 1, slots := 6, locals := 200 }) (hu : c_cl U u = 4) (x1 : Nat) (S : cs) (hp : p_Li_setLengths U u x1 S K) : aw gG D z A X 5 0 [some (.ref (oa u)), some (.ref (oa x1)), none, none, none] [] (cw lt_C U oa S) 0 0 := by
  unfold p_Li_setLengths at hp
  refine a_aload_n C dc_Li_setLengths_0 rfl rfl ?_
  refine a_aload_n C dc_Li_setLengths_1 rfl rfl ?_
  have hc7 := hp.1
  have hp := hp.2
  refine c_getRN C x1 0 dc_Li_setLengths_2 hc7 rfl rfl (Nat.le_of_ble_eq_true rfl) f_Li_27 rfl hp.1 ?_
  have hp := hp.2
  refine c_call (rest := []) (av := .ref (oa u) :: [.ref (oa (S.2.2 x1 0))]) C dc_Li_setLengths_5 (ct_Li_sortSymbols u (S.2.2 x1 0) S hu hp) cd_C_Li_sortSymbols i_Li (Nat.le_of_ble_eq_true rfl) (by rw [hR]; exact Nat.le_of_ble_eq_true rfl) (by rw [hR]; exact Nat.le_of_ble_eq_true rfl) (by rw [hR]; exact Nat.le_of_ble_eq_true rfl) (by rw [hR]; exact Nat.le_of_ble_eq_true rfl) (inv_V C u dc_Li_setLengths_5 l_Li_30 im_C_Li_sortSymbols se_C_Li_sortSymbols cd_C_Li_sortSymbols ⟨by decide, by decide⟩ ln_C_Li_sortSymbols rfl rfl (cw_obj hu rfl) rfl rfl) (fun oc L1 hL => ?_)
  obtain ⟨S5, hp, rfl, rfl⟩ := hL.resolve_right pC_no
  refine ⟨_, rfl, ?_⟩
  refine aw_eq (lo' := _) (st' := []) (L' := (cw lt_C U oa S5)) rfl rfl rfl ?_
  refine a_aload_n C dc_Li_setLengths_8 rfl rfl ?_
  refine c_getI C u 1 dc_Li_setLengths_9 hu rfl rfl (Nat.le_of_ble_eq_true rfl) f_Li_34 (Nat.le_of_ble_eq_true rfl) ?_
  refine a_istore_n (lo' := [some (.ref (oa u)), some (.ref (oa x1)), some (.int (S5.1 u 1)), none, none]) C dc_Li_setLengths_12 rfl (by decide) rfl ?_
  refine a_iconst (v := 0) C dc_Li_setLengths_13 (by decide) ?_
  refine a_istore_n (lo' := [some (.ref (oa u)), some (.ref (oa x1)), some (.int (S5.1 u 1)), some (.int 0), none]) C dc_Li_setLengths_14 rfl (by decide) rfl ?_
  refine aw_lo (lo' := [some (.ref (oa u)), some (.ref (oa x1)), some (.int (S5.1 u 1)), some (.int 0), none]) ⟨.inr rfl, .inr rfl, .inr rfl, .inr rfl, .inr rfl, trivial⟩ ?_
  exact se_Li_setLengths_15 C hQ hA hR hu x1 (S5.1 u 1) 0 S5  hp
end C_Li_setLengths
section C_Li_setLengthsc
variable {D : va_G} {z : Nat → ClassId} {U : ut} {oa : Nat → Nat}
set_option maxRecDepth 100000 in
theorem ct_Li_setLengths {l : Launch} (u : Nat) (x1 : Nat) (S : cs) {K : cs → Prop} (hu : c_cl U u = 4) (hp : p_Li_setLengths U u x1 S K) : ct gG D z l n_C_Li_setLengths c_C_Li_setLengths 5 (none) 2 200 [.ref (oa u), .ref (oa x1)] (cw lt_C U oa S) 0 0 (pC_v lt_C U oa K (fun _ _ => False)) := by
  refine ct_of (lo := [some (.ref (oa u)), some (.ref (oa x1)), none, none, none]) (by decide) g_ok (Nat.le_of_ble_eq_true rfl) rfl ?_
  intro X A _ C hR hQ hA _
  exact s_Li_setLengths_0 C hQ hA hR hu x1 S hp
end C_Li_setLengthsc
def b_Oc_giveOut_74 (U : ut) (u : Nat) (x1 : Int32) (x2 : Int32) (x3 : Int32) (x4 : Int32) (S : cs) (R9 : Int32 → Int32 → cs → Prop) (R23 : Int32 → Int32 → Int32 → Int32 → cs → Prop) (K : cs → Prop) : Prop :=
  R23 x1 x2 x3 (x4 + 1) S
def b_Oc_giveOut_23 (U : ut) (u : Nat) (x1 : Int32) (x2 : Int32) (x3 : Int32) (x4 : Int32) (S : cs) (R9 : Int32 → Int32 → cs → Prop) (R23 : Int32 → Int32 → Int32 → Int32 → cs → Prop) (K : cs → Prop) : Prop :=
  (256 ≤ x4 → (¬ S.2.2 u 5 = NU ∧ (c_cl U (S.2.2 u 5) = 902 ∧ (vp_in x2 (c_ln U (S.2.2 u 5)) ∧ (R9 (x1 * 2) (x2 + 1) (va_up S.1 (S.2.2 u 5) (upd (S.1 (S.2.2 u 5)) x2.toNatClampNeg ((S.1 u 4) - x3)), S.2.1, S.2.2)))))) ∧ (¬ (256 ≤ x4) → (¬ S.2.2 u 1 = NU ∧ (c_cl U (S.2.2 u 1) = 902 ∧ (vp_in x4 (c_ln U (S.2.2 u 1)) ∧ ((¬ (S.1 (S.2.2 u 1) x4.toNatClampNeg) = x2 → (b_Oc_giveOut_74 U u x1 x2 x3 x4 S R9 R23 K)) ∧ ((S.1 (S.2.2 u 1) x4.toNatClampNeg) = x2 → (¬ S.2.2 u 2 = NU ∧ (c_cl U (S.2.2 u 2) = 902 ∧ (vp_in x4 (c_ln U (S.2.2 u 2)) ∧ (¬ S.2.2 u 3 = NU ∧ (c_cl U (S.2.2 u 3) = 902 ∧ (vp_in ((va_up S.1 (S.2.2 u 2) (upd (S.1 (S.2.2 u 2)) x4.toNatClampNeg x1)) u 4) (c_ln U (S.2.2 u 3)) ∧ (b_Oc_giveOut_74 U u (x1 + 1) x2 x3 x4 (va_up (va_up (va_up S.1 (S.2.2 u 2) (upd (S.1 (S.2.2 u 2)) x4.toNatClampNeg x1)) (S.2.2 u 3) (upd ((va_up S.1 (S.2.2 u 2) (upd (S.1 (S.2.2 u 2)) x4.toNatClampNeg x1)) (S.2.2 u 3)) ((va_up S.1 (S.2.2 u 2) (upd (S.1 (S.2.2 u 2)) x4.toNatClampNeg x1)) u 4).toNatClampNeg x4)) u (upd ((va_up (va_up S.1 (S.2.2 u 2) (upd (S.1 (S.2.2 u 2)) x4.toNatClampNeg x1)) (S.2.2 u 3) (upd ((va_up S.1 (S.2.2 u 2) (upd (S.1 (S.2.2 u 2)) x4.toNatClampNeg x1)) (S.2.2 u 3)) ((va_up S.1 (S.2.2 u 2) (upd (S.1 (S.2.2 u 2)) x4.toNatClampNeg x1)) u 4).toNatClampNeg x4)) u) 4 (((va_up (va_up S.1 (S.2.2 u 2) (upd (S.1 (S.2.2 u 2)) x4.toNatClampNeg x1)) (S.2.2 u 3) (upd ((va_up S.1 (S.2.2 u 2) (upd (S.1 (S.2.2 u 2)) x4.toNatClampNeg x1)) (S.2.2 u 3)) ((va_up S.1 (S.2.2 u 2) (upd (S.1 (S.2.2 u 2)) x4.toNatClampNeg x1)) u 4).toNatClampNeg x4)) u 4) + 1)), S.2.1, S.2.2) R9 R23 K)))))))))))))
def e_Oc_giveOut_23 (U : ut) (u : Nat) (x1 : Int32) (x2 : Int32) (x3 : Int32) (x4 : Int32) (S : cs) (R9 : Int32 → Int32 → cs → Prop) (K : cs → Prop) : Prop :=
  ∃ (I : Int32 → Int32 → Int32 → Int32 → cs → Prop) (μ : Int32 → Int32 → Int32 → Int32 → cs → Nat), I x1 x2 x3 x4 S ∧ ∀ yx1 yx2 yx3 yx4 yS, I yx1 yx2 yx3 yx4 yS → b_Oc_giveOut_23 U u yx1 yx2 yx3 yx4 yS R9 (fun zx1 zx2 zx3 zx4 zS => I zx1 zx2 zx3 zx4 zS ∧ μ zx1 zx2 zx3 zx4 zS < μ yx1 yx2 yx3 yx4 yS) K
def b_Oc_giveOut_9 (U : ut) (u : Nat) (x1 : Int32) (x2 : Int32) (S : cs) (R9 : Int32 → Int32 → cs → Prop) (K : cs → Prop) : Prop :=
  (16 < x2 → (K S)) ∧ (¬ (16 < x2) → (e_Oc_giveOut_23 U u x1 x2 (S.1 u 4) 0 S R9 K))
def e_Oc_giveOut_9 (U : ut) (u : Nat) (x1 : Int32) (x2 : Int32) (S : cs) (K : cs → Prop) : Prop :=
  ∃ (I : Int32 → Int32 → cs → Prop) (μ : Int32 → Int32 → cs → Nat), I x1 x2 S ∧ ∀ yx1 yx2 yS, I yx1 yx2 yS → b_Oc_giveOut_9 U u yx1 yx2 yS (fun zx1 zx2 zS => I zx1 zx2 zS ∧ μ zx1 zx2 zS < μ yx1 yx2 yS) K
def p_Oc_giveOut (U : ut) (u : Nat)  (S : cs) (K : cs → Prop) : Prop :=
  e_Oc_giveOut_9 U u 0 1 (va_up S.1 u (upd (S.1 u) 4 0), S.2.1, S.2.2) K
section C_Oc_giveOut
variable {D : va_G} {z : Nat → ClassId} {A : Nat → Prop} {X : cx} {L0 : fw} {U : ut} {oa : Nat → Nat} {u : Nat} {K : cs → Prop}
set_option maxRecDepth 100000 in
set_option maxHeartbeats 1000000 in
theorem s_Oc_giveOut_74 (C : fcx gG D z A X R_Oc c_C_Oc_giveOut 5 (none)) (hQ : X.2.2.2.2.2.2.2.2.2.2 = eQ gG D z X.2.2.2.2.2.2.2.1 X.2.2.2.2.1 L0 0 0 (pC_v lt_C U oa K (fun _ _ => False))) (hA : A = owA gG L0 X.2.2.2.2.1.heap.size) (hR : X.2.2.2.1 = { frames := 1, cells := 1, slots := 6, locals := 100 }) (hu : c_cl U u = 5) (x1 : Int32) (x2 : Int32) (x3 : Int32) (x4 : Int32) (S : cs) (R9 : Int32 → Int32 → cs → Prop) (hR9 : ∀ yx1 yx2 yS, R9 yx1 yx2 yS → aw gG D z A X 5 9 [some (.ref (oa u)), some (.int yx1), some (.int yx2), none, none] [] (cw lt_C U oa yS) 0 0) (R23 : Int32 → Int32 → Int32 → Int32 → cs → Prop) (hR23 : ∀ yx1 yx2 yx3 yx4 yS, R23 yx1 yx2 yx3 yx4 yS → aw gG D z A X 5 23 [some (.ref (oa u)), some (.int yx1), some (.int yx2), some (.int yx3), some (.int yx4)] [] (cw lt_C U oa yS) 0 0) (hp : b_Oc_giveOut_74 U u x1 x2 x3 x4 S R9 R23 K) : aw gG D z A X 5 74 [some (.ref (oa u)), some (.int x1), some (.int x2), some (.int x3), some (.int x4)] [] (cw lt_C U oa S) 0 0 := by
  unfold b_Oc_giveOut_74 at hp
  refine a_iinc (v := x4 + 1) (lo' := [some (.ref (oa u)), some (.int x1), some (.int x2), some (.int x3), some (.int (x4 + 1))]) C dc_Oc_giveOut_74 rfl rfl (by decide) rfl ?_
  refine a_goto (tgt := 23) C dc_Oc_giveOut_77 (by decide) ?_
  refine aw_lo (lo' := [some (.ref (oa u)), some (.int x1), some (.int x2), some (.int x3), some (.int (x4 + 1))]) ⟨.inr rfl, .inr rfl, .inr rfl, .inr rfl, .inr rfl, trivial⟩ ?_
  exact hR23 x1 x2 x3 (x4 + 1) S hp
set_option maxRecDepth 100000 in
set_option maxHeartbeats 1000000 in
theorem s_Oc_giveOut_23 (C : fcx gG D z A X R_Oc c_C_Oc_giveOut 5 (none)) (hQ : X.2.2.2.2.2.2.2.2.2.2 = eQ gG D z X.2.2.2.2.2.2.2.1 X.2.2.2.2.1 L0 0 0 (pC_v lt_C U oa K (fun _ _ => False))) (hA : A = owA gG L0 X.2.2.2.2.1.heap.size) (hR : X.2.2.2.1 = { frames := 1, cells := 1, slots := 6, locals := 100 }) (hu : c_cl U u = 5) (x1 : Int32) (x2 : Int32) (x3 : Int32) (x4 : Int32) (S : cs) (R9 : Int32 → Int32 → cs → Prop) (hR9 : ∀ yx1 yx2 yS, R9 yx1 yx2 yS → aw gG D z A X 5 9 [some (.ref (oa u)), some (.int yx1), some (.int yx2), none, none] [] (cw lt_C U oa yS) 0 0) (R23 : Int32 → Int32 → Int32 → Int32 → cs → Prop) (hR23 : ∀ yx1 yx2 yx3 yx4 yS, R23 yx1 yx2 yx3 yx4 yS → aw gG D z A X 5 23 [some (.ref (oa u)), some (.int yx1), some (.int yx2), some (.int yx3), some (.int yx4)] [] (cw lt_C U oa yS) 0 0) (hp : b_Oc_giveOut_23 U u x1 x2 x3 x4 S R9 R23 K) : aw gG D z A X 5 23 [some (.ref (oa u)), some (.int x1), some (.int x2), some (.int x3), some (.int x4)] [] (cw lt_C U oa S) 0 0 := by
  unfold b_Oc_giveOut_23 at hp
  refine a_iload C dc_Oc_giveOut_23 rfl ?_
  refine a_sipush (v := 256) C dc_Oc_giveOut_25 (by decide) ?_
  refine a_icmp_ge (tgt := 80) C dc_Oc_giveOut_28 (by decide) ⟨fun hc => ?_, fun hc => ?_⟩
  · have hp := hp.1 hc
    refine a_aload_n C dc_Oc_giveOut_80 rfl rfl ?_
    refine c_getR C u 5 dc_Oc_giveOut_81 hu rfl rfl (Nat.le_of_ble_eq_true rfl) f_Oc_24 rfl hp.1 ?_
    have hp := hp.2
    refine a_iload_n C dc_Oc_giveOut_84 rfl rfl ?_
    refine a_aload_n C dc_Oc_giveOut_85 rfl rfl ?_
    refine c_getI C u 4 dc_Oc_giveOut_86 hu rfl rfl (Nat.le_of_ble_eq_true rfl) f_Oc_33 (Nat.le_of_ble_eq_true rfl) ?_
    refine a_iload_n C dc_Oc_giveOut_89 rfl rfl ?_
    refine a_isub C dc_Oc_giveOut_90 ?_
    have hc1 := hp.1
    have hp := hp.2
    refine c_iast C (S.2.2 u 5) dc_Oc_giveOut_91 hc1 hp.1 ?_
    have hp := hp.2
    refine aw_eq (lo' := _) (st' := _) (L' := (cw lt_C U oa (va_up S.1 (S.2.2 u 5) (upd (S.1 (S.2.2 u 5)) x2.toNatClampNeg ((S.1 u 4) - x3)), S.2.1, S.2.2))) rfl rfl rfl ?_
    refine a_iload_n C dc_Oc_giveOut_92 rfl rfl ?_
    refine a_iconst (v := 2) C dc_Oc_giveOut_93 (by decide) ?_
    refine a_imul C dc_Oc_giveOut_94 ?_
    refine a_istore_n (lo' := [some (.ref (oa u)), some (.int (x1 * 2)), some (.int x2), some (.int x3), some (.int x4)]) C dc_Oc_giveOut_95 rfl (by decide) rfl ?_
    refine a_iinc (v := x2 + 1) (lo' := [some (.ref (oa u)), some (.int (x1 * 2)), some (.int (x2 + 1)), some (.int x3), some (.int x4)]) C dc_Oc_giveOut_96 rfl rfl (by decide) rfl ?_
    refine a_goto (tgt := 9) C dc_Oc_giveOut_99 (by decide) ?_
    refine aw_lo (lo' := [some (.ref (oa u)), some (.int (x1 * 2)), some (.int (x2 + 1)), none, none]) ⟨.inr rfl, .inr rfl, .inr rfl, .inl rfl, .inl rfl, trivial⟩ ?_
    exact hR9 (x1 * 2) (x2 + 1) (va_up S.1 (S.2.2 u 5) (upd (S.1 (S.2.2 u 5)) x2.toNatClampNeg ((S.1 u 4) - x3)), S.2.1, S.2.2) hp
  · have hp := hp.2 hc
    refine a_aload_n C dc_Oc_giveOut_31 rfl rfl ?_
    refine c_getR C u 1 dc_Oc_giveOut_32 hu rfl rfl (Nat.le_of_ble_eq_true rfl) f_Oc_15 rfl hp.1 ?_
    have hp := hp.2
    refine a_iload C dc_Oc_giveOut_35 rfl ?_
    have hc2 := hp.1
    have hp := hp.2
    refine c_iald C (S.2.2 u 1) dc_Oc_giveOut_37 hc2 hp.1 ?_
    have hp := hp.2
    refine a_iload_n C dc_Oc_giveOut_38 rfl rfl ?_
    refine a_icmp_ne (tgt := 74) C dc_Oc_giveOut_39 (by decide) ⟨fun hc => ?_, fun hc => ?_⟩
    · have hp := hp.1 hc
      refine aw_lo (lo' := [some (.ref (oa u)), some (.int x1), some (.int x2), some (.int x3), some (.int x4)]) ⟨.inr rfl, .inr rfl, .inr rfl, .inr rfl, .inr rfl, trivial⟩ ?_
      exact s_Oc_giveOut_74 C hQ hA hR hu x1 x2 x3 x4 S R9 hR9 R23 hR23 hp
    · have hp := hp.2 hc
      refine a_aload_n C dc_Oc_giveOut_42 rfl rfl ?_
      refine c_getR C u 2 dc_Oc_giveOut_43 hu rfl rfl (Nat.le_of_ble_eq_true rfl) f_Oc_18 rfl hp.1 ?_
      have hp := hp.2
      refine a_iload C dc_Oc_giveOut_46 rfl ?_
      refine a_iload_n C dc_Oc_giveOut_48 rfl rfl ?_
      have hc3 := hp.1
      have hp := hp.2
      refine c_iast C (S.2.2 u 2) dc_Oc_giveOut_49 hc3 hp.1 ?_
      have hp := hp.2
      refine aw_eq (lo' := _) (st' := _) (L' := (cw lt_C U oa (va_up S.1 (S.2.2 u 2) (upd (S.1 (S.2.2 u 2)) x4.toNatClampNeg x1), S.2.1, S.2.2))) rfl rfl rfl ?_
      refine a_aload_n C dc_Oc_giveOut_50 rfl rfl ?_
      refine c_getR C u 3 dc_Oc_giveOut_51 hu rfl rfl (Nat.le_of_ble_eq_true rfl) f_Oc_21 rfl hp.1 ?_
      have hp := hp.2
      refine a_aload_n C dc_Oc_giveOut_54 rfl rfl ?_
      refine c_getI C u 4 dc_Oc_giveOut_55 hu rfl rfl (Nat.le_of_ble_eq_true rfl) f_Oc_33 (Nat.le_of_ble_eq_true rfl) ?_
      refine a_iload C dc_Oc_giveOut_58 rfl ?_
      have hc4 := hp.1
      have hp := hp.2
      refine c_iast C (S.2.2 u 3) dc_Oc_giveOut_60 hc4 hp.1 ?_
      have hp := hp.2
      refine aw_eq (lo' := _) (st' := _) (L' := (cw lt_C U oa (va_up (va_up S.1 (S.2.2 u 2) (upd (S.1 (S.2.2 u 2)) x4.toNatClampNeg x1)) (S.2.2 u 3) (upd ((va_up S.1 (S.2.2 u 2) (upd (S.1 (S.2.2 u 2)) x4.toNatClampNeg x1)) (S.2.2 u 3)) ((va_up S.1 (S.2.2 u 2) (upd (S.1 (S.2.2 u 2)) x4.toNatClampNeg x1)) u 4).toNatClampNeg x4), S.2.1, S.2.2))) rfl rfl rfl ?_
      refine a_iinc (v := x1 + 1) (lo' := [some (.ref (oa u)), some (.int (x1 + 1)), some (.int x2), some (.int x3), some (.int x4)]) C dc_Oc_giveOut_61 rfl rfl (by decide) rfl ?_
      refine a_aload_n C dc_Oc_giveOut_64 rfl rfl ?_
      refine a_dup C dc_Oc_giveOut_65 rfl ?_
      refine c_getI C u 4 dc_Oc_giveOut_66 hu rfl rfl (Nat.le_of_ble_eq_true rfl) f_Oc_33 (Nat.le_of_ble_eq_true rfl) ?_
      refine a_iconst (v := 1) C dc_Oc_giveOut_69 (by decide) ?_
      refine a_iadd C dc_Oc_giveOut_70 ?_
      refine c_putI (ty := .int) C u 4 dc_Oc_giveOut_71 hu rfl rfl (Nat.le_of_ble_eq_true rfl) f_Oc_33 (Nat.le_of_ble_eq_true rfl) rfl rfl rfl rfl ?_
      refine aw_eq (lo' := _) (st' := _) (L' := (cw lt_C U oa (va_up (va_up (va_up S.1 (S.2.2 u 2) (upd (S.1 (S.2.2 u 2)) x4.toNatClampNeg x1)) (S.2.2 u 3) (upd ((va_up S.1 (S.2.2 u 2) (upd (S.1 (S.2.2 u 2)) x4.toNatClampNeg x1)) (S.2.2 u 3)) ((va_up S.1 (S.2.2 u 2) (upd (S.1 (S.2.2 u 2)) x4.toNatClampNeg x1)) u 4).toNatClampNeg x4)) u (upd ((va_up (va_up S.1 (S.2.2 u 2) (upd (S.1 (S.2.2 u 2)) x4.toNatClampNeg x1)) (S.2.2 u 3) (upd ((va_up S.1 (S.2.2 u 2) (upd (S.1 (S.2.2 u 2)) x4.toNatClampNeg x1)) (S.2.2 u 3)) ((va_up S.1 (S.2.2 u 2) (upd (S.1 (S.2.2 u 2)) x4.toNatClampNeg x1)) u 4).toNatClampNeg x4)) u) 4 (((va_up (va_up S.1 (S.2.2 u 2) (upd (S.1 (S.2.2 u 2)) x4.toNatClampNeg x1)) (S.2.2 u 3) (upd ((va_up S.1 (S.2.2 u 2) (upd (S.1 (S.2.2 u 2)) x4.toNatClampNeg x1)) (S.2.2 u 3)) ((va_up S.1 (S.2.2 u 2) (upd (S.1 (S.2.2 u 2)) x4.toNatClampNeg x1)) u 4).toNatClampNeg x4)) u 4) + 1)), S.2.1, S.2.2))) rfl rfl rfl ?_
      refine aw_lo (lo' := [some (.ref (oa u)), some (.int (x1 + 1)), some (.int x2), some (.int x3), some (.int x4)]) ⟨.inr rfl, .inr rfl, .inr rfl, .inr rfl, .inr rfl, trivial⟩ ?_
      exact s_Oc_giveOut_74 C hQ hA hR hu (x1 + 1) x2 x3 x4 (va_up (va_up (va_up S.1 (S.2.2 u 2) (upd (S.1 (S.2.2 u 2)) x4.toNatClampNeg x1)) (S.2.2 u 3) (upd ((va_up S.1 (S.2.2 u 2) (upd (S.1 (S.2.2 u 2)) x4.toNatClampNeg x1)) (S.2.2 u 3)) ((va_up S.1 (S.2.2 u 2) (upd (S.1 (S.2.2 u 2)) x4.toNatClampNeg x1)) u 4).toNatClampNeg x4)) u (upd ((va_up (va_up S.1 (S.2.2 u 2) (upd (S.1 (S.2.2 u 2)) x4.toNatClampNeg x1)) (S.2.2 u 3) (upd ((va_up S.1 (S.2.2 u 2) (upd (S.1 (S.2.2 u 2)) x4.toNatClampNeg x1)) (S.2.2 u 3)) ((va_up S.1 (S.2.2 u 2) (upd (S.1 (S.2.2 u 2)) x4.toNatClampNeg x1)) u 4).toNatClampNeg x4)) u) 4 (((va_up (va_up S.1 (S.2.2 u 2) (upd (S.1 (S.2.2 u 2)) x4.toNatClampNeg x1)) (S.2.2 u 3) (upd ((va_up S.1 (S.2.2 u 2) (upd (S.1 (S.2.2 u 2)) x4.toNatClampNeg x1)) (S.2.2 u 3)) ((va_up S.1 (S.2.2 u 2) (upd (S.1 (S.2.2 u 2)) x4.toNatClampNeg x1)) u 4).toNatClampNeg x4)) u 4) + 1)), S.2.1, S.2.2) R9 hR9 R23 hR23 hp
set_option maxRecDepth 100000 in
set_option maxHeartbeats 1000000 in
theorem se_Oc_giveOut_23 (C : fcx gG D z A X R_Oc c_C_Oc_giveOut 5 (none)) (hQ : X.2.2.2.2.2.2.2.2.2.2 = eQ gG D z X.2.2.2.2.2.2.2.1 X.2.2.2.2.1 L0 0 0 (pC_v lt_C U oa K (fun _ _ => False))) (hA : A = owA gG L0 X.2.2.2.2.1.heap.size) (hR : X.2.2.2.1 = { frames := 1, cells := 1, slots := 6, locals := 100 }) (hu : c_cl U u = 5) (x1 : Int32) (x2 : Int32) (x3 : Int32) (x4 : Int32) (S : cs) (R9 : Int32 → Int32 → cs → Prop) (hR9 : ∀ yx1 yx2 yS, R9 yx1 yx2 yS → aw gG D z A X 5 9 [some (.ref (oa u)), some (.int yx1), some (.int yx2), none, none] [] (cw lt_C U oa yS) 0 0) (hp : e_Oc_giveOut_23 U u x1 x2 x3 x4 S R9 K) : aw gG D z A X 5 23 [some (.ref (oa u)), some (.int x1), some (.int x2), some (.int x3), some (.int x4)] [] (cw lt_C U oa S) 0 0 := by
  obtain ⟨I, μ, h0, hs⟩ := hp
  have key : ∀ (n : Nat) (yx1 : Int32) (yx2 : Int32) (yx3 : Int32) (yx4 : Int32) (yS : cs), μ yx1 yx2 yx3 yx4 yS < n → I yx1 yx2 yx3 yx4 yS → aw gG D z A X 5 23 [some (.ref (oa u)), some (.int yx1), some (.int yx2), some (.int yx3), some (.int yx4)] [] (cw lt_C U oa yS) 0 0 := by
    intro n
    induction n with
    | zero => intro yx1 yx2 yx3 yx4 yS h; omega
    | succ n ih =>
      intro yx1 yx2 yx3 yx4 yS hn hI
      exact s_Oc_giveOut_23 C hQ hA hR hu yx1 yx2 yx3 yx4 yS R9 hR9 _ (fun zx1 zx2 zx3 zx4 zS hw => ih zx1 zx2 zx3 zx4 zS (by omega) hw.1) (hs yx1 yx2 yx3 yx4 yS hI)
  exact key (μ x1 x2 x3 x4 S + 1) x1 x2 x3 x4 S (Nat.lt_succ_self _) h0
set_option maxRecDepth 100000 in
set_option maxHeartbeats 1000000 in
theorem s_Oc_giveOut_9 (C : fcx gG D z A X R_Oc c_C_Oc_giveOut 5 (none)) (hQ : X.2.2.2.2.2.2.2.2.2.2 = eQ gG D z X.2.2.2.2.2.2.2.1 X.2.2.2.2.1 L0 0 0 (pC_v lt_C U oa K (fun _ _ => False))) (hA : A = owA gG L0 X.2.2.2.2.1.heap.size) (hR : X.2.2.2.1 = { frames := 1, cells := 1, slots := 6, locals := 100 }) (hu : c_cl U u = 5) (x1 : Int32) (x2 : Int32) (S : cs) (R9 : Int32 → Int32 → cs → Prop) (hR9 : ∀ yx1 yx2 yS, R9 yx1 yx2 yS → aw gG D z A X 5 9 [some (.ref (oa u)), some (.int yx1), some (.int yx2), none, none] [] (cw lt_C U oa yS) 0 0) (hp : b_Oc_giveOut_9 U u x1 x2 S R9 K) : aw gG D z A X 5 9 [some (.ref (oa u)), some (.int x1), some (.int x2), none, none] [] (cw lt_C U oa S) 0 0 := by
  unfold b_Oc_giveOut_9 at hp
  refine a_iload_n C dc_Oc_giveOut_9 rfl rfl ?_
  refine a_bipush (v := 16) C dc_Oc_giveOut_10 (by decide) ?_
  refine a_icmp_gt (tgt := 102) C dc_Oc_giveOut_12 (by decide) ⟨fun hc => ?_, fun hc => ?_⟩
  · have hp := hp.1 hc
    exact a_vret C hQ hA dc_Oc_giveOut_102 rfl (Or.inl ⟨S, hp, rfl, rfl⟩)
  · have hp := hp.2 hc
    refine a_aload_n C dc_Oc_giveOut_15 rfl rfl ?_
    refine c_getI C u 4 dc_Oc_giveOut_16 hu rfl rfl (Nat.le_of_ble_eq_true rfl) f_Oc_33 (Nat.le_of_ble_eq_true rfl) ?_
    refine a_istore_n (lo' := [some (.ref (oa u)), some (.int x1), some (.int x2), some (.int (S.1 u 4)), none]) C dc_Oc_giveOut_19 rfl (by decide) rfl ?_
    refine a_iconst (v := 0) C dc_Oc_giveOut_20 (by decide) ?_
    refine a_istore (lo' := [some (.ref (oa u)), some (.int x1), some (.int x2), some (.int (S.1 u 4)), some (.int 0)]) C dc_Oc_giveOut_21 (by decide) rfl ?_
    refine aw_lo (lo' := [some (.ref (oa u)), some (.int x1), some (.int x2), some (.int (S.1 u 4)), some (.int 0)]) ⟨.inr rfl, .inr rfl, .inr rfl, .inr rfl, .inr rfl, trivial⟩ ?_
    exact se_Oc_giveOut_23 C hQ hA hR hu x1 x2 (S.1 u 4) 0 S R9 hR9 hp
set_option maxRecDepth 100000 in
set_option maxHeartbeats 1000000 in
theorem se_Oc_giveOut_9 (C : fcx gG D z A X R_Oc c_C_Oc_giveOut 5 (none)) (hQ : X.2.2.2.2.2.2.2.2.2.2 = eQ gG D z X.2.2.2.2.2.2.2.1 X.2.2.2.2.1 L0 0 0 (pC_v lt_C U oa K (fun _ _ => False))) (hA : A = owA gG L0 X.2.2.2.2.1.heap.size) (hR : X.2.2.2.1 = { frames := 1, cells := 1, slots := 6, locals := 100 }) (hu : c_cl U u = 5) (x1 : Int32) (x2 : Int32) (S : cs) (hp : e_Oc_giveOut_9 U u x1 x2 S K) : aw gG D z A X 5 9 [some (.ref (oa u)), some (.int x1), some (.int x2), none, none] [] (cw lt_C U oa S) 0 0 := by
  obtain ⟨I, μ, h0, hs⟩ := hp
  have key : ∀ (n : Nat) (yx1 : Int32) (yx2 : Int32) (yS : cs), μ yx1 yx2 yS < n → I yx1 yx2 yS → aw gG D z A X 5 9 [some (.ref (oa u)), some (.int yx1), some (.int yx2), none, none] [] (cw lt_C U oa yS) 0 0 := by
    intro n
    induction n with
    | zero => intro yx1 yx2 yS h; omega
    | succ n ih =>
      intro yx1 yx2 yS hn hI
      exact s_Oc_giveOut_9 C hQ hA hR hu yx1 yx2 yS _ (fun zx1 zx2 zS hw => ih zx1 zx2 zS (by omega) hw.1) (hs yx1 yx2 yS hI)
  exact key (μ x1 x2 S + 1) x1 x2 S (Nat.lt_succ_self _) h0
set_option maxRecDepth 100000 in
set_option maxHeartbeats 1000000 in
theorem s_Oc_giveOut_0 (C : fcx gG D z A X R_Oc c_C_Oc_giveOut 5 (none)) (hQ : X.2.2.2.2.2.2.2.2.2.2 = eQ gG D z X.2.2.2.2.2.2.2.1 X.2.2.2.2.1 L0 0 0 (pC_v lt_C U oa K (fun _ _ => False))) (hA : A = owA gG L0 X.2.2.2.2.1.heap.size) (hR : X.2.2.2.1 = { frames := 1, cells := 1, slots := 6, locals := 100 }) (hu : c_cl U u = 5)  (S : cs) (hp : p_Oc_giveOut U u S K) : aw gG D z A X 5 0 [some (.ref (oa u)), none, none, none, none] [] (cw lt_C U oa S) 0 0 := by
  unfold p_Oc_giveOut at hp
  refine a_iconst (v := 0) C dc_Oc_giveOut_0 (by decide) ?_
  refine a_istore_n (lo' := [some (.ref (oa u)), some (.int 0), none, none, none]) C dc_Oc_giveOut_1 rfl (by decide) rfl ?_
  refine a_aload_n C dc_Oc_giveOut_2 rfl rfl ?_
  refine a_iconst (v := 0) C dc_Oc_giveOut_3 (by decide) ?_
  refine c_putI (ty := .int) C u 4 dc_Oc_giveOut_4 hu rfl rfl (Nat.le_of_ble_eq_true rfl) f_Oc_33 (Nat.le_of_ble_eq_true rfl) rfl rfl rfl rfl ?_
  refine aw_eq (lo' := _) (st' := _) (L' := (cw lt_C U oa (va_up S.1 u (upd (S.1 u) 4 0), S.2.1, S.2.2))) rfl rfl rfl ?_
  refine a_iconst (v := 1) C dc_Oc_giveOut_7 (by decide) ?_
  refine a_istore_n (lo' := [some (.ref (oa u)), some (.int 0), some (.int 1), none, none]) C dc_Oc_giveOut_8 rfl (by decide) rfl ?_
  refine aw_lo (lo' := [some (.ref (oa u)), some (.int 0), some (.int 1), none, none]) ⟨.inr rfl, .inr rfl, .inr rfl, .inr rfl, .inr rfl, trivial⟩ ?_
  exact se_Oc_giveOut_9 C hQ hA hR hu 0 1 (va_up S.1 u (upd (S.1 u) 4 0), S.2.1, S.2.2)  hp
end C_Oc_giveOut
section C_Oc_giveOutc
variable {D : va_G} {z : Nat → ClassId} {U : ut} {oa : Nat → Nat}
set_option maxRecDepth 100000 in
theorem ct_Oc_giveOut {l : Launch} (u : Nat)  (S : cs) {K : cs → Prop} (hu : c_cl U u = 5) (hp : p_Oc_giveOut U u S K) : ct gG D z l n_C_Oc_giveOut c_C_Oc_giveOut 5 (none) 1 100 [.ref (oa u)] (cw lt_C U oa S) 0 0 (pC_v lt_C U oa K (fun _ _ => False)) := by
  refine ct_of (lo := [some (.ref (oa u)), none, none, none, none]) (by decide) g_ok (Nat.le_of_ble_eq_true rfl) rfl ?_
  intro X A _ C hR hQ hA _
  exact s_Oc_giveOut_0 C hQ hA hR hu S hp
end C_Oc_giveOutc
def b_Pa_makeCodes_51 (U : ut) (u : Nat) (x2 : Int32) (S : cs) (R51 : Int32 → cs → Prop) (K : cs → Prop) : Prop :=
  ((S.1 u 8) ≤ x2 → (K S)) ∧ (¬ ((S.1 u 8) ≤ x2) → (¬ S.2.2 u 4 = NU ∧ (¬ S.2.2 u 5 = NU ∧ (c_cl U (S.2.2 u 5) = 950 ∧ (vp_in x2 (c_ln U (S.2.2 u 5)) ∧ ¬ S.2.2 (S.2.2 u 5) x2.toNatClampNeg = NU ∧ (c_cl U (S.2.2 u 4) = 4 ∧ (p_Li_setLengths U (S.2.2 u 4) (S.2.2 (S.2.2 u 5) x2.toNatClampNeg) S (fun S69 => ¬ S69.2.2 u 5 = NU ∧ (c_cl U (S69.2.2 u 5) = 950 ∧ (vp_in x2 (c_ln U (S69.2.2 u 5)) ∧ ¬ S69.2.2 (S69.2.2 u 5) x2.toNatClampNeg = NU ∧ (c_cl U (S69.2.2 (S69.2.2 u 5) x2.toNatClampNeg) = 5 ∧ (p_Oc_giveOut U (S69.2.2 (S69.2.2 u 5) x2.toNatClampNeg) S69 (fun S78 => ¬ S78.2.2 u 4 = NU ∧ (¬ S78.2.2 u 6 = NU ∧ (c_cl U (S78.2.2 u 6) = 950 ∧ (vp_in x2 (c_ln U (S78.2.2 u 6)) ∧ ¬ S78.2.2 (S78.2.2 u 6) x2.toNatClampNeg = NU ∧ (c_cl U (S78.2.2 u 4) = 4 ∧ (p_Li_setLengths U (S78.2.2 u 4) (S78.2.2 (S78.2.2 u 6) x2.toNatClampNeg) S78 (fun S91 => ¬ S91.2.2 u 6 = NU ∧ (c_cl U (S91.2.2 u 6) = 950 ∧ (vp_in x2 (c_ln U (S91.2.2 u 6)) ∧ ¬ S91.2.2 (S91.2.2 u 6) x2.toNatClampNeg = NU ∧ (c_cl U (S91.2.2 (S91.2.2 u 6) x2.toNatClampNeg) = 5 ∧ (p_Oc_giveOut U (S91.2.2 (S91.2.2 u 6) x2.toNatClampNeg) S91 (fun S100 => R51 (x2 + 1) S100))))))))))))))))))))))))
def e_Pa_makeCodes_51 (U : ut) (u : Nat) (x2 : Int32) (S : cs) (K : cs → Prop) : Prop :=
  ∃ (I : Int32 → cs → Prop) (μ : Int32 → cs → Nat), I x2 S ∧ ∀ yx2 yS, I yx2 yS → b_Pa_makeCodes_51 U u yx2 yS (fun zx2 zS => I zx2 zS ∧ μ zx2 zS < μ yx2 yS) K
def b_Pa_makeCodes_2 (U : ut) (u : Nat) (x1 : Int32) (x2 : Int32) (S : cs) (R2 : Int32 → Int32 → cs → Prop) (K : cs → Prop) : Prop :=
  ((S.1 u 8) ≤ x2 → (p_Pa_writeData U u x1 (va_up S.1 u (upd (S.1 u) 9 1), S.2.1, S.2.2) (fun S41 => e_Pa_makeCodes_51 U u 0 (va_up S41.1 u (upd (S41.1 u) 9 0), S41.2.1, S41.2.2) K))) ∧ (¬ ((S.1 u 8) ≤ x2) → (¬ S.2.2 u 5 = NU ∧ (c_cl U (S.2.2 u 5) = 950 ∧ (vp_in x2 (c_ln U (S.2.2 u 5)) ∧ ¬ S.2.2 (S.2.2 u 5) x2.toNatClampNeg = NU ∧ (c_cl U (S.2.2 (S.2.2 u 5) x2.toNatClampNeg) = 5 ∧ (p_Oc_begin U (S.2.2 (S.2.2 u 5) x2.toNatClampNeg) S (fun S16 => ¬ S16.2.2 u 6 = NU ∧ (c_cl U (S16.2.2 u 6) = 950 ∧ (vp_in x2 (c_ln U (S16.2.2 u 6)) ∧ ¬ S16.2.2 (S16.2.2 u 6) x2.toNatClampNeg = NU ∧ (c_cl U (S16.2.2 (S16.2.2 u 6) x2.toNatClampNeg) = 5 ∧ (p_Oc_begin U (S16.2.2 (S16.2.2 u 6) x2.toNatClampNeg) S16 (fun S25 => R2 x1 (x2 + 1) S25))))))))))))
def e_Pa_makeCodes_2 (U : ut) (u : Nat) (x1 : Int32) (x2 : Int32) (S : cs) (K : cs → Prop) : Prop :=
  ∃ (I : Int32 → Int32 → cs → Prop) (μ : Int32 → Int32 → cs → Nat), I x1 x2 S ∧ ∀ yx1 yx2 yS, I yx1 yx2 yS → b_Pa_makeCodes_2 U u yx1 yx2 yS (fun zx1 zx2 zS => I zx1 zx2 zS ∧ μ zx1 zx2 zS < μ yx1 yx2 yS) K
def p_Pa_makeCodes (U : ut) (u : Nat) (x1 : Int32) (S : cs) (K : cs → Prop) : Prop :=
  e_Pa_makeCodes_2 U u x1 0 S K
section C_Pa_makeCodes
variable {D : va_G} {z : Nat → ClassId} {A : Nat → Prop} {X : cx} {L0 : fw} {U : ut} {oa : Nat → Nat} {u : Nat} {K : cs → Prop}
set_option maxRecDepth 100000 in
set_option maxHeartbeats 1000000 in
theorem s_Pa_makeCodes_51 (C : fcx gG D z A X R_Pa c_C_Pa_makeCodes 3 (none)) (hQ : X.2.2.2.2.2.2.2.2.2.2 = eQ gG D z X.2.2.2.2.2.2.2.1 X.2.2.2.2.1 L0 0 0 (pC_v lt_C U oa K (fun _ _ => False))) (hA : A = owA gG L0 X.2.2.2.2.1.heap.size) (hR : X.2.2.2.1 = { frames := 6, cells := 1, slots := 6, locals := 600 }) (hu : c_cl U u = 6) (x2 : Int32) (S : cs) (R51 : Int32 → cs → Prop) (hR51 : ∀ yx2 yS, R51 yx2 yS → aw gG D z A X 3 51 [some (.ref (oa u)), none, some (.int yx2)] [] (cw lt_C U oa yS) 0 0) (hp : b_Pa_makeCodes_51 U u x2 S R51 K) : aw gG D z A X 3 51 [some (.ref (oa u)), none, some (.int x2)] [] (cw lt_C U oa S) 0 0 := by
  unfold b_Pa_makeCodes_51 at hp
  refine a_iload_n C dc_Pa_makeCodes_51 rfl rfl ?_
  refine a_aload_n C dc_Pa_makeCodes_52 rfl rfl ?_
  refine c_getI C u 8 dc_Pa_makeCodes_53 hu rfl rfl (Nat.le_of_ble_eq_true rfl) f_Pa_69 (Nat.le_of_ble_eq_true rfl) ?_
  refine a_icmp_ge (tgt := 109) C dc_Pa_makeCodes_56 (by decide) ⟨fun hc => ?_, fun hc => ?_⟩
  · have hp := hp.1 hc
    exact a_vret C hQ hA dc_Pa_makeCodes_109 rfl (Or.inl ⟨S, hp, rfl, rfl⟩)
  · have hp := hp.2 hc
    refine a_aload_n C dc_Pa_makeCodes_59 rfl rfl ?_
    refine c_getR C u 4 dc_Pa_makeCodes_60 hu rfl rfl (Nat.le_of_ble_eq_true rfl) f_Pa_45 rfl hp.1 ?_
    have hp := hp.2
    refine a_aload_n C dc_Pa_makeCodes_63 rfl rfl ?_
    refine c_getR C u 5 dc_Pa_makeCodes_64 hu rfl rfl (Nat.le_of_ble_eq_true rfl) f_Pa_52 rfl hp.1 ?_
    have hp := hp.2
    refine a_iload_n C dc_Pa_makeCodes_67 rfl rfl ?_
    have hc1 := hp.1
    have hp := hp.2
    refine c_aald C (S.2.2 u 5) 0 dc_Pa_makeCodes_68 hc1 rfl (by decide) rfl hp.1 hp.2.1 ?_
    have hp := hp.2.2
    have hc2 := hp.1
    have hp := hp.2
    refine c_call (rest := []) (av := .ref (oa (S.2.2 u 4)) :: [.ref (oa (S.2.2 (S.2.2 u 5) x2.toNatClampNeg))]) C dc_Pa_makeCodes_69 (ct_Li_setLengths (S.2.2 u 4) (S.2.2 (S.2.2 u 5) x2.toNatClampNeg) S hc2 hp) cd_C_Li_setLengths i_Li (Nat.le_of_ble_eq_true rfl) (by rw [hR]; exact Nat.le_of_ble_eq_true rfl) (by rw [hR]; exact Nat.le_of_ble_eq_true rfl) (by rw [hR]; exact Nat.le_of_ble_eq_true rfl) (by rw [hR]; exact Nat.le_of_ble_eq_true rfl) (inv_V C (S.2.2 u 4) dc_Pa_makeCodes_69 l_Pa_185 im_C_Li_setLengths se_C_Li_setLengths cd_C_Li_setLengths ⟨by decide, by decide⟩ ln_C_Li_setLengths rfl rfl (cw_obj hc2 rfl) rfl rfl) (fun oc L1 hL => ?_)
    obtain ⟨S69, hp, rfl, rfl⟩ := hL.resolve_right pC_no
    refine ⟨_, rfl, ?_⟩
    refine aw_eq (lo' := _) (st' := []) (L' := (cw lt_C U oa S69)) rfl rfl rfl ?_
    refine a_aload_n C dc_Pa_makeCodes_72 rfl rfl ?_
    refine c_getR C u 5 dc_Pa_makeCodes_73 hu rfl rfl (Nat.le_of_ble_eq_true rfl) f_Pa_52 rfl hp.1 ?_
    have hp := hp.2
    refine a_iload_n C dc_Pa_makeCodes_76 rfl rfl ?_
    have hc3 := hp.1
    have hp := hp.2
    refine c_aald C (S69.2.2 u 5) 0 dc_Pa_makeCodes_77 hc3 rfl (by decide) rfl hp.1 hp.2.1 ?_
    have hp := hp.2.2
    have hc4 := hp.1
    have hp := hp.2
    refine c_call (rest := []) (av := .ref (oa (S69.2.2 (S69.2.2 u 5) x2.toNatClampNeg)) :: []) C dc_Pa_makeCodes_78 (ct_Oc_giveOut (S69.2.2 (S69.2.2 u 5) x2.toNatClampNeg) S69 hc4 hp) cd_C_Oc_giveOut i_Oc (Nat.le_of_ble_eq_true rfl) (by rw [hR]; exact Nat.le_of_ble_eq_true rfl) (by rw [hR]; exact Nat.le_of_ble_eq_true rfl) (by rw [hR]; exact Nat.le_of_ble_eq_true rfl) (by rw [hR]; exact Nat.le_of_ble_eq_true rfl) (inv_V C (S69.2.2 (S69.2.2 u 5) x2.toNatClampNeg) dc_Pa_makeCodes_78 l_Pa_189 im_C_Oc_giveOut se_C_Oc_giveOut cd_C_Oc_giveOut ⟨by decide, by decide⟩ ln_C_Oc_giveOut rfl rfl (cw_obj hc4 rfl) rfl rfl) (fun oc L1 hL => ?_)
    obtain ⟨S78, hp, rfl, rfl⟩ := hL.resolve_right pC_no
    refine ⟨_, rfl, ?_⟩
    refine aw_eq (lo' := _) (st' := []) (L' := (cw lt_C U oa S78)) rfl rfl rfl ?_
    refine a_aload_n C dc_Pa_makeCodes_81 rfl rfl ?_
    refine c_getR C u 4 dc_Pa_makeCodes_82 hu rfl rfl (Nat.le_of_ble_eq_true rfl) f_Pa_45 rfl hp.1 ?_
    have hp := hp.2
    refine a_aload_n C dc_Pa_makeCodes_85 rfl rfl ?_
    refine c_getR C u 6 dc_Pa_makeCodes_86 hu rfl rfl (Nat.le_of_ble_eq_true rfl) f_Pa_56 rfl hp.1 ?_
    have hp := hp.2
    refine a_iload_n C dc_Pa_makeCodes_89 rfl rfl ?_
    have hc5 := hp.1
    have hp := hp.2
    refine c_aald C (S78.2.2 u 6) 0 dc_Pa_makeCodes_90 hc5 rfl (by decide) rfl hp.1 hp.2.1 ?_
    have hp := hp.2.2
    have hc6 := hp.1
    have hp := hp.2
    refine c_call (rest := []) (av := .ref (oa (S78.2.2 u 4)) :: [.ref (oa (S78.2.2 (S78.2.2 u 6) x2.toNatClampNeg))]) C dc_Pa_makeCodes_91 (ct_Li_setLengths (S78.2.2 u 4) (S78.2.2 (S78.2.2 u 6) x2.toNatClampNeg) S78 hc6 hp) cd_C_Li_setLengths i_Li (Nat.le_of_ble_eq_true rfl) (by rw [hR]; exact Nat.le_of_ble_eq_true rfl) (by rw [hR]; exact Nat.le_of_ble_eq_true rfl) (by rw [hR]; exact Nat.le_of_ble_eq_true rfl) (by rw [hR]; exact Nat.le_of_ble_eq_true rfl) (inv_V C (S78.2.2 u 4) dc_Pa_makeCodes_91 l_Pa_185 im_C_Li_setLengths se_C_Li_setLengths cd_C_Li_setLengths ⟨by decide, by decide⟩ ln_C_Li_setLengths rfl rfl (cw_obj hc6 rfl) rfl rfl) (fun oc L1 hL => ?_)
    obtain ⟨S91, hp, rfl, rfl⟩ := hL.resolve_right pC_no
    refine ⟨_, rfl, ?_⟩
    refine aw_eq (lo' := _) (st' := []) (L' := (cw lt_C U oa S91)) rfl rfl rfl ?_
    refine a_aload_n C dc_Pa_makeCodes_94 rfl rfl ?_
    refine c_getR C u 6 dc_Pa_makeCodes_95 hu rfl rfl (Nat.le_of_ble_eq_true rfl) f_Pa_56 rfl hp.1 ?_
    have hp := hp.2
    refine a_iload_n C dc_Pa_makeCodes_98 rfl rfl ?_
    have hc7 := hp.1
    have hp := hp.2
    refine c_aald C (S91.2.2 u 6) 0 dc_Pa_makeCodes_99 hc7 rfl (by decide) rfl hp.1 hp.2.1 ?_
    have hp := hp.2.2
    have hc8 := hp.1
    have hp := hp.2
    refine c_call (rest := []) (av := .ref (oa (S91.2.2 (S91.2.2 u 6) x2.toNatClampNeg)) :: []) C dc_Pa_makeCodes_100 (ct_Oc_giveOut (S91.2.2 (S91.2.2 u 6) x2.toNatClampNeg) S91 hc8 hp) cd_C_Oc_giveOut i_Oc (Nat.le_of_ble_eq_true rfl) (by rw [hR]; exact Nat.le_of_ble_eq_true rfl) (by rw [hR]; exact Nat.le_of_ble_eq_true rfl) (by rw [hR]; exact Nat.le_of_ble_eq_true rfl) (by rw [hR]; exact Nat.le_of_ble_eq_true rfl) (inv_V C (S91.2.2 (S91.2.2 u 6) x2.toNatClampNeg) dc_Pa_makeCodes_100 l_Pa_189 im_C_Oc_giveOut se_C_Oc_giveOut cd_C_Oc_giveOut ⟨by decide, by decide⟩ ln_C_Oc_giveOut rfl rfl (cw_obj hc8 rfl) rfl rfl) (fun oc L1 hL => ?_)
    obtain ⟨S100, hp, rfl, rfl⟩ := hL.resolve_right pC_no
    refine ⟨_, rfl, ?_⟩
    refine aw_eq (lo' := _) (st' := []) (L' := (cw lt_C U oa S100)) rfl rfl rfl ?_
    refine a_iinc (v := x2 + 1) (lo' := [some (.ref (oa u)), none, some (.int (x2 + 1))]) C dc_Pa_makeCodes_103 rfl rfl (by decide) rfl ?_
    refine a_goto (tgt := 51) C dc_Pa_makeCodes_106 (by decide) ?_
    refine aw_lo (lo' := [some (.ref (oa u)), none, some (.int (x2 + 1))]) ⟨.inr rfl, .inr rfl, .inr rfl, trivial⟩ ?_
    exact hR51 (x2 + 1) S100 hp
set_option maxRecDepth 100000 in
set_option maxHeartbeats 1000000 in
theorem se_Pa_makeCodes_51 (C : fcx gG D z A X R_Pa c_C_Pa_makeCodes 3 (none)) (hQ : X.2.2.2.2.2.2.2.2.2.2 = eQ gG D z X.2.2.2.2.2.2.2.1 X.2.2.2.2.1 L0 0 0 (pC_v lt_C U oa K (fun _ _ => False))) (hA : A = owA gG L0 X.2.2.2.2.1.heap.size) (hR : X.2.2.2.1 = { frames := 6, cells := 1, slots := 6, locals := 600 }) (hu : c_cl U u = 6) (x2 : Int32) (S : cs) (hp : e_Pa_makeCodes_51 U u x2 S K) : aw gG D z A X 3 51 [some (.ref (oa u)), none, some (.int x2)] [] (cw lt_C U oa S) 0 0 := by
  obtain ⟨I, μ, h0, hs⟩ := hp
  have key : ∀ (n : Nat) (yx2 : Int32) (yS : cs), μ yx2 yS < n → I yx2 yS → aw gG D z A X 3 51 [some (.ref (oa u)), none, some (.int yx2)] [] (cw lt_C U oa yS) 0 0 := by
    intro n
    induction n with
    | zero => intro yx2 yS h; omega
    | succ n ih =>
      intro yx2 yS hn hI
      exact s_Pa_makeCodes_51 C hQ hA hR hu yx2 yS _ (fun zx2 zS hw => ih zx2 zS (by omega) hw.1) (hs yx2 yS hI)
  exact key (μ x2 S + 1) x2 S (Nat.lt_succ_self _) h0
set_option maxRecDepth 100000 in
set_option maxHeartbeats 1000000 in
theorem s_Pa_makeCodes_2 (C : fcx gG D z A X R_Pa c_C_Pa_makeCodes 3 (none)) (hQ : X.2.2.2.2.2.2.2.2.2.2 = eQ gG D z X.2.2.2.2.2.2.2.1 X.2.2.2.2.1 L0 0 0 (pC_v lt_C U oa K (fun _ _ => False))) (hA : A = owA gG L0 X.2.2.2.2.1.heap.size) (hR : X.2.2.2.1 = { frames := 6, cells := 1, slots := 6, locals := 600 }) (hu : c_cl U u = 6) (x1 : Int32) (x2 : Int32) (S : cs) (R2 : Int32 → Int32 → cs → Prop) (hR2 : ∀ yx1 yx2 yS, R2 yx1 yx2 yS → aw gG D z A X 3 2 [some (.ref (oa u)), some (.int yx1), some (.int yx2)] [] (cw lt_C U oa yS) 0 0) (hp : b_Pa_makeCodes_2 U u x1 x2 S R2 K) : aw gG D z A X 3 2 [some (.ref (oa u)), some (.int x1), some (.int x2)] [] (cw lt_C U oa S) 0 0 := by
  unfold b_Pa_makeCodes_2 at hp
  refine a_iload_n C dc_Pa_makeCodes_2 rfl rfl ?_
  refine a_aload_n C dc_Pa_makeCodes_3 rfl rfl ?_
  refine c_getI C u 8 dc_Pa_makeCodes_4 hu rfl rfl (Nat.le_of_ble_eq_true rfl) f_Pa_69 (Nat.le_of_ble_eq_true rfl) ?_
  refine a_icmp_ge (tgt := 34) C dc_Pa_makeCodes_7 (by decide) ⟨fun hc => ?_, fun hc => ?_⟩
  · have hp := hp.1 hc
    refine a_aload_n C dc_Pa_makeCodes_34 rfl rfl ?_
    refine a_iconst (v := 1) C dc_Pa_makeCodes_35 (by decide) ?_
    refine c_putI (ty := .boolean) C u 9 dc_Pa_makeCodes_36 hu rfl rfl (Nat.le_of_ble_eq_true rfl) f_Pa_179 (Nat.le_of_ble_eq_true rfl) rfl rfl rfl rfl ?_
    refine aw_eq (lo' := _) (st' := _) (L' := (cw lt_C U oa (va_up S.1 u (upd (S.1 u) 9 1), S.2.1, S.2.2))) rfl rfl rfl ?_
    refine a_aload_n C dc_Pa_makeCodes_39 rfl rfl ?_
    refine a_iload_n C dc_Pa_makeCodes_40 rfl rfl ?_
    refine c_call (rest := []) (av := .ref (oa u) :: [.int x1]) C dc_Pa_makeCodes_41 (ct_Pa_writeData u x1 (va_up S.1 u (upd (S.1 u) 9 1), S.2.1, S.2.2) hu hp) cd_C_Pa_writeData i_Pa (Nat.le_of_ble_eq_true rfl) (by rw [hR]; exact Nat.le_of_ble_eq_true rfl) (by rw [hR]; exact Nat.le_of_ble_eq_true rfl) (by rw [hR]; exact Nat.le_of_ble_eq_true rfl) (by rw [hR]; exact Nat.le_of_ble_eq_true rfl) (inv_V C u dc_Pa_makeCodes_41 l_Pa_182 im_C_Pa_writeData se_C_Pa_writeData cd_C_Pa_writeData ⟨by decide, by decide⟩ ln_C_Pa_writeData rfl rfl (cw_obj hu rfl) rfl rfl) (fun oc L1 hL => ?_)
    obtain ⟨S41, hp, rfl, rfl⟩ := hL.resolve_right pC_no
    refine ⟨_, rfl, ?_⟩
    refine aw_eq (lo' := _) (st' := []) (L' := (cw lt_C U oa S41)) rfl rfl rfl ?_
    refine a_aload_n C dc_Pa_makeCodes_44 rfl rfl ?_
    refine a_iconst (v := 0) C dc_Pa_makeCodes_45 (by decide) ?_
    refine c_putI (ty := .boolean) C u 9 dc_Pa_makeCodes_46 hu rfl rfl (Nat.le_of_ble_eq_true rfl) f_Pa_179 (Nat.le_of_ble_eq_true rfl) rfl rfl rfl rfl ?_
    refine aw_eq (lo' := _) (st' := _) (L' := (cw lt_C U oa (va_up S41.1 u (upd (S41.1 u) 9 0), S41.2.1, S41.2.2))) rfl rfl rfl ?_
    refine a_iconst (v := 0) C dc_Pa_makeCodes_49 (by decide) ?_
    refine a_istore_n (lo' := [some (.ref (oa u)), some (.int x1), some (.int 0)]) C dc_Pa_makeCodes_50 rfl (by decide) rfl ?_
    refine aw_lo (lo' := [some (.ref (oa u)), none, some (.int 0)]) ⟨.inr rfl, .inl rfl, .inr rfl, trivial⟩ ?_
    exact se_Pa_makeCodes_51 C hQ hA hR hu 0 (va_up S41.1 u (upd (S41.1 u) 9 0), S41.2.1, S41.2.2)  hp
  · have hp := hp.2 hc
    refine a_aload_n C dc_Pa_makeCodes_10 rfl rfl ?_
    refine c_getR C u 5 dc_Pa_makeCodes_11 hu rfl rfl (Nat.le_of_ble_eq_true rfl) f_Pa_52 rfl hp.1 ?_
    have hp := hp.2
    refine a_iload_n C dc_Pa_makeCodes_14 rfl rfl ?_
    have hc9 := hp.1
    have hp := hp.2
    refine c_aald C (S.2.2 u 5) 0 dc_Pa_makeCodes_15 hc9 rfl (by decide) rfl hp.1 hp.2.1 ?_
    have hp := hp.2.2
    have hc10 := hp.1
    have hp := hp.2
    refine c_call (rest := []) (av := .ref (oa (S.2.2 (S.2.2 u 5) x2.toNatClampNeg)) :: []) C dc_Pa_makeCodes_16 (ct_Oc_begin (S.2.2 (S.2.2 u 5) x2.toNatClampNeg) S hc10 hp) cd_C_Oc_begin i_Oc (Nat.le_of_ble_eq_true rfl) (by rw [hR]; exact Nat.le_of_ble_eq_true rfl) (by rw [hR]; exact Nat.le_of_ble_eq_true rfl) (by rw [hR]; exact Nat.le_of_ble_eq_true rfl) (by rw [hR]; exact Nat.le_of_ble_eq_true rfl) (inv_V C (S.2.2 (S.2.2 u 5) x2.toNatClampNeg) dc_Pa_makeCodes_16 l_Pa_177 im_C_Oc_begin se_C_Oc_begin cd_C_Oc_begin ⟨by decide, by decide⟩ ln_C_Oc_begin rfl rfl (cw_obj hc10 rfl) rfl rfl) (fun oc L1 hL => ?_)
    obtain ⟨S16, hp, rfl, rfl⟩ := hL.resolve_right pC_no
    refine ⟨_, rfl, ?_⟩
    refine aw_eq (lo' := _) (st' := []) (L' := (cw lt_C U oa S16)) rfl rfl rfl ?_
    refine a_aload_n C dc_Pa_makeCodes_19 rfl rfl ?_
    refine c_getR C u 6 dc_Pa_makeCodes_20 hu rfl rfl (Nat.le_of_ble_eq_true rfl) f_Pa_56 rfl hp.1 ?_
    have hp := hp.2
    refine a_iload_n C dc_Pa_makeCodes_23 rfl rfl ?_
    have hc11 := hp.1
    have hp := hp.2
    refine c_aald C (S16.2.2 u 6) 0 dc_Pa_makeCodes_24 hc11 rfl (by decide) rfl hp.1 hp.2.1 ?_
    have hp := hp.2.2
    have hc12 := hp.1
    have hp := hp.2
    refine c_call (rest := []) (av := .ref (oa (S16.2.2 (S16.2.2 u 6) x2.toNatClampNeg)) :: []) C dc_Pa_makeCodes_25 (ct_Oc_begin (S16.2.2 (S16.2.2 u 6) x2.toNatClampNeg) S16 hc12 hp) cd_C_Oc_begin i_Oc (Nat.le_of_ble_eq_true rfl) (by rw [hR]; exact Nat.le_of_ble_eq_true rfl) (by rw [hR]; exact Nat.le_of_ble_eq_true rfl) (by rw [hR]; exact Nat.le_of_ble_eq_true rfl) (by rw [hR]; exact Nat.le_of_ble_eq_true rfl) (inv_V C (S16.2.2 (S16.2.2 u 6) x2.toNatClampNeg) dc_Pa_makeCodes_25 l_Pa_177 im_C_Oc_begin se_C_Oc_begin cd_C_Oc_begin ⟨by decide, by decide⟩ ln_C_Oc_begin rfl rfl (cw_obj hc12 rfl) rfl rfl) (fun oc L1 hL => ?_)
    obtain ⟨S25, hp, rfl, rfl⟩ := hL.resolve_right pC_no
    refine ⟨_, rfl, ?_⟩
    refine aw_eq (lo' := _) (st' := []) (L' := (cw lt_C U oa S25)) rfl rfl rfl ?_
    refine a_iinc (v := x2 + 1) (lo' := [some (.ref (oa u)), some (.int x1), some (.int (x2 + 1))]) C dc_Pa_makeCodes_28 rfl rfl (by decide) rfl ?_
    refine a_goto (tgt := 2) C dc_Pa_makeCodes_31 (by decide) ?_
    refine aw_lo (lo' := [some (.ref (oa u)), some (.int x1), some (.int (x2 + 1))]) ⟨.inr rfl, .inr rfl, .inr rfl, trivial⟩ ?_
    exact hR2 x1 (x2 + 1) S25 hp
set_option maxRecDepth 100000 in
set_option maxHeartbeats 1000000 in
theorem se_Pa_makeCodes_2 (C : fcx gG D z A X R_Pa c_C_Pa_makeCodes 3 (none)) (hQ : X.2.2.2.2.2.2.2.2.2.2 = eQ gG D z X.2.2.2.2.2.2.2.1 X.2.2.2.2.1 L0 0 0 (pC_v lt_C U oa K (fun _ _ => False))) (hA : A = owA gG L0 X.2.2.2.2.1.heap.size) (hR : X.2.2.2.1 = { frames := 6, cells := 1, slots := 6, locals := 600 }) (hu : c_cl U u = 6) (x1 : Int32) (x2 : Int32) (S : cs) (hp : e_Pa_makeCodes_2 U u x1 x2 S K) : aw gG D z A X 3 2 [some (.ref (oa u)), some (.int x1), some (.int x2)] [] (cw lt_C U oa S) 0 0 := by
  obtain ⟨I, μ, h0, hs⟩ := hp
  have key : ∀ (n : Nat) (yx1 : Int32) (yx2 : Int32) (yS : cs), μ yx1 yx2 yS < n → I yx1 yx2 yS → aw gG D z A X 3 2 [some (.ref (oa u)), some (.int yx1), some (.int yx2)] [] (cw lt_C U oa yS) 0 0 := by
    intro n
    induction n with
    | zero => intro yx1 yx2 yS h; omega
    | succ n ih =>
      intro yx1 yx2 yS hn hI
      exact s_Pa_makeCodes_2 C hQ hA hR hu yx1 yx2 yS _ (fun zx1 zx2 zS hw => ih zx1 zx2 zS (by omega) hw.1) (hs yx1 yx2 yS hI)
  exact key (μ x1 x2 S + 1) x1 x2 S (Nat.lt_succ_self _) h0
set_option maxRecDepth 100000 in
set_option maxHeartbeats 1000000 in
theorem s_Pa_makeCodes_0 (C : fcx gG D z A X R_Pa c_C_Pa_makeCodes 3 (none)) (hQ : X.2.2.2.2.2.2.2.2.2.2 = eQ gG D z X.2.2.2.2.2.2.2.1 X.2.2.2.2.1 L0 0 0 (pC_v lt_C U oa K (fun _ _ => False))) (hA : A = owA gG L0 X.2.2.2.2.1.heap.size) (hR : X.2.2.2.1 = { frames := 6, cells := 1, slots := 6, locals := 600 }) (hu : c_cl U u = 6) (x1 : Int32) (S : cs) (hp : p_Pa_makeCodes U u x1 S K) : aw gG D z A X 3 0 [some (.ref (oa u)), some (.int x1), none] [] (cw lt_C U oa S) 0 0 := by
  unfold p_Pa_makeCodes at hp
  refine a_iconst (v := 0) C dc_Pa_makeCodes_0 (by decide) ?_
  refine a_istore_n (lo' := [some (.ref (oa u)), some (.int x1), some (.int 0)]) C dc_Pa_makeCodes_1 rfl (by decide) rfl ?_
  refine aw_lo (lo' := [some (.ref (oa u)), some (.int x1), some (.int 0)]) ⟨.inr rfl, .inr rfl, .inr rfl, trivial⟩ ?_
  exact se_Pa_makeCodes_2 C hQ hA hR hu x1 0 S  hp
end C_Pa_makeCodes
section C_Pa_makeCodesc
variable {D : va_G} {z : Nat → ClassId} {U : ut} {oa : Nat → Nat}
set_option maxRecDepth 100000 in
theorem ct_Pa_makeCodes {l : Launch} (u : Nat) (x1 : Int32) (S : cs) {K : cs → Prop} (hu : c_cl U u = 6) (hp : p_Pa_makeCodes U u x1 S K) : ct gG D z l n_C_Pa_makeCodes c_C_Pa_makeCodes 3 (none) 6 600 [.ref (oa u), .int x1] (cw lt_C U oa S) 0 0 (pC_v lt_C U oa K (fun _ _ => False)) := by
  refine ct_of (lo := [some (.ref (oa u)), some (.int x1), none]) (by decide) g_ok (Nat.le_of_ble_eq_true rfl) rfl ?_
  intro X A _ C hR hQ hA _
  exact s_Pa_makeCodes_0 C hQ hA hR hu x1 S hp
end C_Pa_makeCodesc
def p_Ro_addTwo (U : ut) (u : Nat) (x1 : Int32) (S : cs) (K : cs → Prop) : Prop :=
  p_Ro_add U u (x1 >>> (8 &&& 31 : Int32) : Int32) S (fun S5 => p_Ro_add U u x1 S5 (fun S10 => K S10))
section C_Ro_addTwo
variable {D : va_G} {z : Nat → ClassId} {A : Nat → Prop} {X : cx} {L0 : fw} {U : ut} {oa : Nat → Nat} {u : Nat} {K : cs → Prop}
set_option maxRecDepth 100000 in
set_option maxHeartbeats 1000000 in
theorem s_Ro_addTwo_0 (C : fcx gG D z A X R_Ro c_C_Ro_addTwo 2 (none)) (hQ : X.2.2.2.2.2.2.2.2.2.2 = eQ gG D z X.2.2.2.2.2.2.2.1 X.2.2.2.2.1 L0 0 0 (pC_v lt_C U oa K (fun _ _ => False))) (hA : A = owA gG L0 X.2.2.2.2.1.heap.size) (hR : X.2.2.2.1 = { frames := 2, cells := 1, slots := 6, locals := 200 }) (hu : c_cl U u = 9) (x1 : Int32) (S : cs) (hp : p_Ro_addTwo U u x1 S K) : aw gG D z A X 2 0 [some (.ref (oa u)), some (.int x1)] [] (cw lt_C U oa S) 0 0 := by
  unfold p_Ro_addTwo at hp
  refine a_aload_n C dc_Ro_addTwo_0 rfl rfl ?_
  refine a_iload_n C dc_Ro_addTwo_1 rfl rfl ?_
  refine a_bipush (v := 8) C dc_Ro_addTwo_2 (by decide) ?_
  refine a_ishr C dc_Ro_addTwo_4 ?_
  refine c_call (rest := []) (av := .ref (oa u) :: [.int (x1 >>> (8 &&& 31 : Int32) : Int32)]) C dc_Ro_addTwo_5 (ct_Ro_add u (x1 >>> (8 &&& 31 : Int32) : Int32) S hu hp) cd_C_Ro_add i_Ro (Nat.le_of_ble_eq_true rfl) (by rw [hR]; exact Nat.le_of_ble_eq_true rfl) (by rw [hR]; exact Nat.le_of_ble_eq_true rfl) (by rw [hR]; exact Nat.le_of_ble_eq_true rfl) (by rw [hR]; exact Nat.le_of_ble_eq_true rfl) (inv_V C u dc_Ro_addTwo_5 l_Ro_23 im_C_Ro_add se_C_Ro_add cd_C_Ro_add ⟨by decide, by decide⟩ ln_C_Ro_add rfl rfl (cw_obj hu rfl) rfl rfl) (fun oc L1 hL => ?_)
  obtain ⟨S5, hp, rfl, rfl⟩ := hL.resolve_right pC_no
  refine ⟨_, rfl, ?_⟩
  refine aw_eq (lo' := _) (st' := []) (L' := (cw lt_C U oa S5)) rfl rfl rfl ?_
  refine a_aload_n C dc_Ro_addTwo_8 rfl rfl ?_
  refine a_iload_n C dc_Ro_addTwo_9 rfl rfl ?_
  refine c_call (rest := []) (av := .ref (oa u) :: [.int x1]) C dc_Ro_addTwo_10 (ct_Ro_add u x1 S5 hu hp) cd_C_Ro_add i_Ro (Nat.le_of_ble_eq_true rfl) (by rw [hR]; exact Nat.le_of_ble_eq_true rfl) (by rw [hR]; exact Nat.le_of_ble_eq_true rfl) (by rw [hR]; exact Nat.le_of_ble_eq_true rfl) (by rw [hR]; exact Nat.le_of_ble_eq_true rfl) (inv_V C u dc_Ro_addTwo_10 l_Ro_23 im_C_Ro_add se_C_Ro_add cd_C_Ro_add ⟨by decide, by decide⟩ ln_C_Ro_add rfl rfl (cw_obj hu rfl) rfl rfl) (fun oc L1 hL => ?_)
  obtain ⟨S10, hp, rfl, rfl⟩ := hL.resolve_right pC_no
  refine ⟨_, rfl, ?_⟩
  refine aw_eq (lo' := _) (st' := []) (L' := (cw lt_C U oa S10)) rfl rfl rfl ?_
  exact a_vret C hQ hA dc_Ro_addTwo_13 rfl (Or.inl ⟨S10, hp, rfl, rfl⟩)
end C_Ro_addTwo
section C_Ro_addTwoc
variable {D : va_G} {z : Nat → ClassId} {U : ut} {oa : Nat → Nat}
set_option maxRecDepth 100000 in
theorem ct_Ro_addTwo {l : Launch} (u : Nat) (x1 : Int32) (S : cs) {K : cs → Prop} (hu : c_cl U u = 9) (hp : p_Ro_addTwo U u x1 S K) : ct gG D z l n_C_Ro_addTwo c_C_Ro_addTwo 2 (none) 2 200 [.ref (oa u), .int x1] (cw lt_C U oa S) 0 0 (pC_v lt_C U oa K (fun _ _ => False)) := by
  refine ct_of (lo := [some (.ref (oa u)), some (.int x1)]) (by decide) g_ok (Nat.le_of_ble_eq_true rfl) rfl ?_
  intro X A _ C hR hQ hA _
  exact s_Ro_addTwo_0 C hQ hA hR hu x1 S hp
end C_Ro_addTwoc
def b_Pa_writeTables_43 (U : ut) (u : Nat) (x1 : Nat) (x2 : Int32) (x3 : Int32) (S : cs) (R25 : Nat → Int32 → cs → Prop) (R43 : Nat → Int32 → Int32 → cs → Prop) (K : cs → Prop) : Prop :=
  (64 ≤ x3 → (R25 x1 (x2 + 1) S)) ∧ (¬ (64 ≤ x3) → (¬ S.2.2 u 0 = NU ∧ (vp_in x3 64 ∧ (c_cl U x1 = 902 ∧ (vp_in ((64 * x2) + (rw_at row_sl x3.toNatClampNeg)) (c_ln U x1) ∧ (c_cl U (S.2.2 u 0) = 9 ∧ (p_Ro_add U (S.2.2 u 0) (S.1 x1 ((64 * x2) + (rw_at row_sl x3.toNatClampNeg)).toNatClampNeg) S (fun S65 => R43 x1 x2 (x3 + 1) S65))))))))
def e_Pa_writeTables_43 (U : ut) (u : Nat) (x1 : Nat) (x2 : Int32) (x3 : Int32) (S : cs) (R25 : Nat → Int32 → cs → Prop) (K : cs → Prop) : Prop :=
  ∃ (I : Nat → Int32 → Int32 → cs → Prop) (μ : Nat → Int32 → Int32 → cs → Nat), I x1 x2 x3 S ∧ ∀ yx1 yx2 yx3 yS, I yx1 yx2 yx3 yS → b_Pa_writeTables_43 U u yx1 yx2 yx3 yS R25 (fun zx1 zx2 zx3 zS => I zx1 zx2 zx3 zS ∧ μ zx1 zx2 zx3 zS < μ yx1 yx2 yx3 yS) K
def b_Pa_writeTables_25 (U : ut) (u : Nat) (x1 : Nat) (x2 : Int32) (S : cs) (R25 : Nat → Int32 → cs → Prop) (K : cs → Prop) : Prop :=
  ((S.1 u 8) ≤ x2 → (K S)) ∧ (¬ ((S.1 u 8) ≤ x2) → (¬ S.2.2 u 0 = NU ∧ (c_cl U (S.2.2 u 0) = 9 ∧ (p_Ro_add U (S.2.2 u 0) x2 S (fun S38 => e_Pa_writeTables_43 U u x1 x2 0 S38 R25 K)))))
def e_Pa_writeTables_25 (U : ut) (u : Nat) (x1 : Nat) (x2 : Int32) (S : cs) (K : cs → Prop) : Prop :=
  ∃ (I : Nat → Int32 → cs → Prop) (μ : Nat → Int32 → cs → Nat), I x1 x2 S ∧ ∀ yx1 yx2 yS, I yx1 yx2 yS → b_Pa_writeTables_25 U u yx1 yx2 yS (fun zx1 zx2 zS => I zx1 zx2 zS ∧ μ zx1 zx2 zS < μ yx1 yx2 yS) K
def p_Pa_writeTables (U : ut) (u : Nat) (x1 : Nat) (S : cs) (K : cs → Prop) : Prop :=
  p_Pa_addMark U u 219 S (fun S4 => ¬ S4.2.2 u 0 = NU ∧ (c_cl U (S4.2.2 u 0) = 9 ∧ (p_Ro_addTwo U (S4.2.2 u 0) (2 + (65 * (S4.1 u 8))) S4 (fun S20 => e_Pa_writeTables_25 U u x1 0 S20 K))))
section C_Pa_writeTables
variable {D : va_G} {z : Nat → ClassId} {A : Nat → Prop} {X : cx} {L0 : fw} {U : ut} {oa : Nat → Nat} {u : Nat} {K : cs → Prop}
set_option maxRecDepth 100000 in
set_option maxHeartbeats 1000000 in
theorem s_Pa_writeTables_43 (C : fcx gG D z A X R_Pa c_C_Pa_writeTables 4 (none)) (hQ : X.2.2.2.2.2.2.2.2.2.2 = eQ gG D z X.2.2.2.2.2.2.2.1 X.2.2.2.2.1 L0 0 0 (pC_v lt_C U oa K (fun _ _ => False))) (hA : A = owA gG L0 X.2.2.2.2.1.heap.size) (hR : X.2.2.2.1 = { frames := 3, cells := 1, slots := 6, locals := 300 }) (hu : c_cl U u = 6) (x1 : Nat) (x2 : Int32) (x3 : Int32) (S : cs) (R25 : Nat → Int32 → cs → Prop) (hR25 : ∀ yx1 yx2 yS, R25 yx1 yx2 yS → aw gG D z A X 4 25 [some (.ref (oa u)), some (.ref (oa yx1)), some (.int yx2), none] [] (cw lt_C U oa yS) 0 0) (R43 : Nat → Int32 → Int32 → cs → Prop) (hR43 : ∀ yx1 yx2 yx3 yS, R43 yx1 yx2 yx3 yS → aw gG D z A X 4 43 [some (.ref (oa u)), some (.ref (oa yx1)), some (.int yx2), some (.int yx3)] [] (cw lt_C U oa yS) 0 0) (hp : b_Pa_writeTables_43 U u x1 x2 x3 S R25 R43 K) : aw gG D z A X 4 43 [some (.ref (oa u)), some (.ref (oa x1)), some (.int x2), some (.int x3)] [] (cw lt_C U oa S) 0 0 := by
  unfold b_Pa_writeTables_43 at hp
  refine a_iload_n C dc_Pa_writeTables_43 rfl rfl ?_
  refine a_bipush (v := 64) C dc_Pa_writeTables_44 (by decide) ?_
  refine a_icmp_ge (tgt := 74) C dc_Pa_writeTables_46 (by decide) ⟨fun hc => ?_, fun hc => ?_⟩
  · have hp := hp.1 hc
    refine a_iinc (v := x2 + 1) (lo' := [some (.ref (oa u)), some (.ref (oa x1)), some (.int (x2 + 1)), some (.int x3)]) C dc_Pa_writeTables_74 rfl rfl (by decide) rfl ?_
    refine a_goto (tgt := 25) C dc_Pa_writeTables_77 (by decide) ?_
    refine aw_lo (lo' := [some (.ref (oa u)), some (.ref (oa x1)), some (.int (x2 + 1)), none]) ⟨.inr rfl, .inr rfl, .inr rfl, .inl rfl, trivial⟩ ?_
    exact hR25 x1 (x2 + 1) S hp
  · have hp := hp.2 hc
    refine a_aload_n C dc_Pa_writeTables_49 rfl rfl ?_
    refine c_getR C u 0 dc_Pa_writeTables_50 hu rfl rfl (Nat.le_of_ble_eq_true rfl) f_Pa_15 rfl hp.1 ?_
    have hp := hp.2
    refine a_aload_n C dc_Pa_writeTables_53 rfl rfl ?_
    refine a_bipush (v := 64) C dc_Pa_writeTables_54 (by decide) ?_
    refine a_iload_n C dc_Pa_writeTables_56 rfl rfl ?_
    refine a_imul C dc_Pa_writeTables_57 ?_
    obtain ⟨t58, hZ58, hT58⟩ := C.sx.1
    refine a_getsN C dc_Pa_writeTables_58 hZ58 f_Pa_168 ?_
    refine a_iload_n C dc_Pa_writeTables_61 rfl rfl ?_
    refine a_tld C dc_Pa_writeTables_62 hT58 hp.1 ?_
    have hp := hp.2
    refine a_iadd C dc_Pa_writeTables_63 ?_
    have hc1 := hp.1
    have hp := hp.2
    refine c_iald C x1 dc_Pa_writeTables_64 hc1 hp.1 ?_
    have hp := hp.2
    have hc2 := hp.1
    have hp := hp.2
    refine c_call (rest := []) (av := .ref (oa (S.2.2 u 0)) :: [.int (S.1 x1 ((64 * x2) + (rw_at row_sl x3.toNatClampNeg)).toNatClampNeg)]) C dc_Pa_writeTables_65 (ct_Ro_add (S.2.2 u 0) (S.1 x1 ((64 * x2) + (rw_at row_sl x3.toNatClampNeg)).toNatClampNeg) S hc2 hp) cd_C_Ro_add i_Ro (Nat.le_of_ble_eq_true rfl) (by rw [hR]; exact Nat.le_of_ble_eq_true rfl) (by rw [hR]; exact Nat.le_of_ble_eq_true rfl) (by rw [hR]; exact Nat.le_of_ble_eq_true rfl) (by rw [hR]; exact Nat.le_of_ble_eq_true rfl) (inv_V C (S.2.2 u 0) dc_Pa_writeTables_65 l_Pa_214 im_C_Ro_add se_C_Ro_add cd_C_Ro_add ⟨by decide, by decide⟩ ln_C_Ro_add rfl rfl (cw_obj hc2 rfl) rfl rfl) (fun oc L1 hL => ?_)
    obtain ⟨S65, hp, rfl, rfl⟩ := hL.resolve_right pC_no
    refine ⟨_, rfl, ?_⟩
    refine aw_eq (lo' := _) (st' := []) (L' := (cw lt_C U oa S65)) rfl rfl rfl ?_
    refine a_iinc (v := x3 + 1) (lo' := [some (.ref (oa u)), some (.ref (oa x1)), some (.int x2), some (.int (x3 + 1))]) C dc_Pa_writeTables_68 rfl rfl (by decide) rfl ?_
    refine a_goto (tgt := 43) C dc_Pa_writeTables_71 (by decide) ?_
    refine aw_lo (lo' := [some (.ref (oa u)), some (.ref (oa x1)), some (.int x2), some (.int (x3 + 1))]) ⟨.inr rfl, .inr rfl, .inr rfl, .inr rfl, trivial⟩ ?_
    exact hR43 x1 x2 (x3 + 1) S65 hp
set_option maxRecDepth 100000 in
set_option maxHeartbeats 1000000 in
theorem se_Pa_writeTables_43 (C : fcx gG D z A X R_Pa c_C_Pa_writeTables 4 (none)) (hQ : X.2.2.2.2.2.2.2.2.2.2 = eQ gG D z X.2.2.2.2.2.2.2.1 X.2.2.2.2.1 L0 0 0 (pC_v lt_C U oa K (fun _ _ => False))) (hA : A = owA gG L0 X.2.2.2.2.1.heap.size) (hR : X.2.2.2.1 = { frames := 3, cells := 1, slots := 6, locals := 300 }) (hu : c_cl U u = 6) (x1 : Nat) (x2 : Int32) (x3 : Int32) (S : cs) (R25 : Nat → Int32 → cs → Prop) (hR25 : ∀ yx1 yx2 yS, R25 yx1 yx2 yS → aw gG D z A X 4 25 [some (.ref (oa u)), some (.ref (oa yx1)), some (.int yx2), none] [] (cw lt_C U oa yS) 0 0) (hp : e_Pa_writeTables_43 U u x1 x2 x3 S R25 K) : aw gG D z A X 4 43 [some (.ref (oa u)), some (.ref (oa x1)), some (.int x2), some (.int x3)] [] (cw lt_C U oa S) 0 0 := by
  obtain ⟨I, μ, h0, hs⟩ := hp
  have key : ∀ (n : Nat) (yx1 : Nat) (yx2 : Int32) (yx3 : Int32) (yS : cs), μ yx1 yx2 yx3 yS < n → I yx1 yx2 yx3 yS → aw gG D z A X 4 43 [some (.ref (oa u)), some (.ref (oa yx1)), some (.int yx2), some (.int yx3)] [] (cw lt_C U oa yS) 0 0 := by
    intro n
    induction n with
    | zero => intro yx1 yx2 yx3 yS h; omega
    | succ n ih =>
      intro yx1 yx2 yx3 yS hn hI
      exact s_Pa_writeTables_43 C hQ hA hR hu yx1 yx2 yx3 yS R25 hR25 _ (fun zx1 zx2 zx3 zS hw => ih zx1 zx2 zx3 zS (by omega) hw.1) (hs yx1 yx2 yx3 yS hI)
  exact key (μ x1 x2 x3 S + 1) x1 x2 x3 S (Nat.lt_succ_self _) h0
set_option maxRecDepth 100000 in
set_option maxHeartbeats 1000000 in
theorem s_Pa_writeTables_25 (C : fcx gG D z A X R_Pa c_C_Pa_writeTables 4 (none)) (hQ : X.2.2.2.2.2.2.2.2.2.2 = eQ gG D z X.2.2.2.2.2.2.2.1 X.2.2.2.2.1 L0 0 0 (pC_v lt_C U oa K (fun _ _ => False))) (hA : A = owA gG L0 X.2.2.2.2.1.heap.size) (hR : X.2.2.2.1 = { frames := 3, cells := 1, slots := 6, locals := 300 }) (hu : c_cl U u = 6) (x1 : Nat) (x2 : Int32) (S : cs) (R25 : Nat → Int32 → cs → Prop) (hR25 : ∀ yx1 yx2 yS, R25 yx1 yx2 yS → aw gG D z A X 4 25 [some (.ref (oa u)), some (.ref (oa yx1)), some (.int yx2), none] [] (cw lt_C U oa yS) 0 0) (hp : b_Pa_writeTables_25 U u x1 x2 S R25 K) : aw gG D z A X 4 25 [some (.ref (oa u)), some (.ref (oa x1)), some (.int x2), none] [] (cw lt_C U oa S) 0 0 := by
  unfold b_Pa_writeTables_25 at hp
  refine a_iload_n C dc_Pa_writeTables_25 rfl rfl ?_
  refine a_aload_n C dc_Pa_writeTables_26 rfl rfl ?_
  refine c_getI C u 8 dc_Pa_writeTables_27 hu rfl rfl (Nat.le_of_ble_eq_true rfl) f_Pa_69 (Nat.le_of_ble_eq_true rfl) ?_
  refine a_icmp_ge (tgt := 80) C dc_Pa_writeTables_30 (by decide) ⟨fun hc => ?_, fun hc => ?_⟩
  · have hp := hp.1 hc
    exact a_vret C hQ hA dc_Pa_writeTables_80 rfl (Or.inl ⟨S, hp, rfl, rfl⟩)
  · have hp := hp.2 hc
    refine a_aload_n C dc_Pa_writeTables_33 rfl rfl ?_
    refine c_getR C u 0 dc_Pa_writeTables_34 hu rfl rfl (Nat.le_of_ble_eq_true rfl) f_Pa_15 rfl hp.1 ?_
    have hp := hp.2
    refine a_iload_n C dc_Pa_writeTables_37 rfl rfl ?_
    have hc3 := hp.1
    have hp := hp.2
    refine c_call (rest := []) (av := .ref (oa (S.2.2 u 0)) :: [.int x2]) C dc_Pa_writeTables_38 (ct_Ro_add (S.2.2 u 0) x2 S hc3 hp) cd_C_Ro_add i_Ro (Nat.le_of_ble_eq_true rfl) (by rw [hR]; exact Nat.le_of_ble_eq_true rfl) (by rw [hR]; exact Nat.le_of_ble_eq_true rfl) (by rw [hR]; exact Nat.le_of_ble_eq_true rfl) (by rw [hR]; exact Nat.le_of_ble_eq_true rfl) (inv_V C (S.2.2 u 0) dc_Pa_writeTables_38 l_Pa_214 im_C_Ro_add se_C_Ro_add cd_C_Ro_add ⟨by decide, by decide⟩ ln_C_Ro_add rfl rfl (cw_obj hc3 rfl) rfl rfl) (fun oc L1 hL => ?_)
    obtain ⟨S38, hp, rfl, rfl⟩ := hL.resolve_right pC_no
    refine ⟨_, rfl, ?_⟩
    refine aw_eq (lo' := _) (st' := []) (L' := (cw lt_C U oa S38)) rfl rfl rfl ?_
    refine a_iconst (v := 0) C dc_Pa_writeTables_41 (by decide) ?_
    refine a_istore_n (lo' := [some (.ref (oa u)), some (.ref (oa x1)), some (.int x2), some (.int 0)]) C dc_Pa_writeTables_42 rfl (by decide) rfl ?_
    refine aw_lo (lo' := [some (.ref (oa u)), some (.ref (oa x1)), some (.int x2), some (.int 0)]) ⟨.inr rfl, .inr rfl, .inr rfl, .inr rfl, trivial⟩ ?_
    exact se_Pa_writeTables_43 C hQ hA hR hu x1 x2 0 S38 R25 hR25 hp
set_option maxRecDepth 100000 in
set_option maxHeartbeats 1000000 in
theorem se_Pa_writeTables_25 (C : fcx gG D z A X R_Pa c_C_Pa_writeTables 4 (none)) (hQ : X.2.2.2.2.2.2.2.2.2.2 = eQ gG D z X.2.2.2.2.2.2.2.1 X.2.2.2.2.1 L0 0 0 (pC_v lt_C U oa K (fun _ _ => False))) (hA : A = owA gG L0 X.2.2.2.2.1.heap.size) (hR : X.2.2.2.1 = { frames := 3, cells := 1, slots := 6, locals := 300 }) (hu : c_cl U u = 6) (x1 : Nat) (x2 : Int32) (S : cs) (hp : e_Pa_writeTables_25 U u x1 x2 S K) : aw gG D z A X 4 25 [some (.ref (oa u)), some (.ref (oa x1)), some (.int x2), none] [] (cw lt_C U oa S) 0 0 := by
  obtain ⟨I, μ, h0, hs⟩ := hp
  have key : ∀ (n : Nat) (yx1 : Nat) (yx2 : Int32) (yS : cs), μ yx1 yx2 yS < n → I yx1 yx2 yS → aw gG D z A X 4 25 [some (.ref (oa u)), some (.ref (oa yx1)), some (.int yx2), none] [] (cw lt_C U oa yS) 0 0 := by
    intro n
    induction n with
    | zero => intro yx1 yx2 yS h; omega
    | succ n ih =>
      intro yx1 yx2 yS hn hI
      exact s_Pa_writeTables_25 C hQ hA hR hu yx1 yx2 yS _ (fun zx1 zx2 zS hw => ih zx1 zx2 zS (by omega) hw.1) (hs yx1 yx2 yS hI)
  exact key (μ x1 x2 S + 1) x1 x2 S (Nat.lt_succ_self _) h0
set_option maxRecDepth 100000 in
set_option maxHeartbeats 1000000 in
theorem s_Pa_writeTables_0 (C : fcx gG D z A X R_Pa c_C_Pa_writeTables 4 (none)) (hQ : X.2.2.2.2.2.2.2.2.2.2 = eQ gG D z X.2.2.2.2.2.2.2.1 X.2.2.2.2.1 L0 0 0 (pC_v lt_C U oa K (fun _ _ => False))) (hA : A = owA gG L0 X.2.2.2.2.1.heap.size) (hR : X.2.2.2.1 = { frames := 3, cells := 1, slots := 6, locals := 300 }) (hu : c_cl U u = 6) (x1 : Nat) (S : cs) (hp : p_Pa_writeTables U u x1 S K) : aw gG D z A X 4 0 [some (.ref (oa u)), some (.ref (oa x1)), none, none] [] (cw lt_C U oa S) 0 0 := by
  unfold p_Pa_writeTables at hp
  refine a_aload_n C dc_Pa_writeTables_0 rfl rfl ?_
  refine a_sipush (v := 219) C dc_Pa_writeTables_1 (by decide) ?_
  refine c_call (rest := []) (av := .ref (oa u) :: [.int 219]) C dc_Pa_writeTables_4 (ct_Pa_addMark u 219 S hu hp) cd_C_Pa_addMark i_Pa (Nat.le_of_ble_eq_true rfl) (by rw [hR]; exact Nat.le_of_ble_eq_true rfl) (by rw [hR]; exact Nat.le_of_ble_eq_true rfl) (by rw [hR]; exact Nat.le_of_ble_eq_true rfl) (by rw [hR]; exact Nat.le_of_ble_eq_true rfl) (inv_V C u dc_Pa_writeTables_4 l_Pa_195 im_C_Pa_addMark se_C_Pa_addMark cd_C_Pa_addMark ⟨by decide, by decide⟩ ln_C_Pa_addMark rfl rfl (cw_obj hu rfl) rfl rfl) (fun oc L1 hL => ?_)
  obtain ⟨S4, hp, rfl, rfl⟩ := hL.resolve_right pC_no
  refine ⟨_, rfl, ?_⟩
  refine aw_eq (lo' := _) (st' := []) (L' := (cw lt_C U oa S4)) rfl rfl rfl ?_
  refine a_aload_n C dc_Pa_writeTables_7 rfl rfl ?_
  refine c_getR C u 0 dc_Pa_writeTables_8 hu rfl rfl (Nat.le_of_ble_eq_true rfl) f_Pa_15 rfl hp.1 ?_
  have hp := hp.2
  refine a_iconst (v := 2) C dc_Pa_writeTables_11 (by decide) ?_
  refine a_bipush (v := 65) C dc_Pa_writeTables_12 (by decide) ?_
  refine a_aload_n C dc_Pa_writeTables_14 rfl rfl ?_
  refine c_getI C u 8 dc_Pa_writeTables_15 hu rfl rfl (Nat.le_of_ble_eq_true rfl) f_Pa_69 (Nat.le_of_ble_eq_true rfl) ?_
  refine a_imul C dc_Pa_writeTables_18 ?_
  refine a_iadd C dc_Pa_writeTables_19 ?_
  have hc4 := hp.1
  have hp := hp.2
  refine c_call (rest := []) (av := .ref (oa (S4.2.2 u 0)) :: [.int (2 + (65 * (S4.1 u 8)))]) C dc_Pa_writeTables_20 (ct_Ro_addTwo (S4.2.2 u 0) (2 + (65 * (S4.1 u 8))) S4 hc4 hp) cd_C_Ro_addTwo i_Ro (Nat.le_of_ble_eq_true rfl) (by rw [hR]; exact Nat.le_of_ble_eq_true rfl) (by rw [hR]; exact Nat.le_of_ble_eq_true rfl) (by rw [hR]; exact Nat.le_of_ble_eq_true rfl) (by rw [hR]; exact Nat.le_of_ble_eq_true rfl) (inv_V C (S4.2.2 u 0) dc_Pa_writeTables_20 l_Pa_208 im_C_Ro_addTwo se_C_Ro_addTwo cd_C_Ro_addTwo ⟨by decide, by decide⟩ ln_C_Ro_addTwo rfl rfl (cw_obj hc4 rfl) rfl rfl) (fun oc L1 hL => ?_)
  obtain ⟨S20, hp, rfl, rfl⟩ := hL.resolve_right pC_no
  refine ⟨_, rfl, ?_⟩
  refine aw_eq (lo' := _) (st' := []) (L' := (cw lt_C U oa S20)) rfl rfl rfl ?_
  refine a_iconst (v := 0) C dc_Pa_writeTables_23 (by decide) ?_
  refine a_istore_n (lo' := [some (.ref (oa u)), some (.ref (oa x1)), some (.int 0), none]) C dc_Pa_writeTables_24 rfl (by decide) rfl ?_
  refine aw_lo (lo' := [some (.ref (oa u)), some (.ref (oa x1)), some (.int 0), none]) ⟨.inr rfl, .inr rfl, .inr rfl, .inr rfl, trivial⟩ ?_
  exact se_Pa_writeTables_25 C hQ hA hR hu x1 0 S20  hp
end C_Pa_writeTables
section C_Pa_writeTablesc
variable {D : va_G} {z : Nat → ClassId} {U : ut} {oa : Nat → Nat}
set_option maxRecDepth 100000 in
theorem ct_Pa_writeTables {l : Launch} (u : Nat) (x1 : Nat) (S : cs) {K : cs → Prop} (hu : c_cl U u = 6) (hp : p_Pa_writeTables U u x1 S K) : ct gG D z l n_C_Pa_writeTables c_C_Pa_writeTables 4 (none) 3 300 [.ref (oa u), .ref (oa x1)] (cw lt_C U oa S) 0 0 (pC_v lt_C U oa K (fun _ _ => False)) := by
  refine ct_of (lo := [some (.ref (oa u)), some (.ref (oa x1)), none, none]) (by decide) g_ok (Nat.le_of_ble_eq_true rfl) rfl ?_
  intro X A _ C hR hQ hA _
  exact s_Pa_writeTables_0 C hQ hA hR hu x1 S hp
end C_Pa_writeTablesc
def b_Pa_writeFrame_79 (U : ut) (u : Nat) (x1 : Int32) (S : cs) (R79 : Int32 → cs → Prop) (K : cs → Prop) : Prop :=
  ¬ S.2.2 u 2 = NU ∧ (c_cl U (S.2.2 u 2) = 7 ∧ (((S.1 (S.2.2 u 2) 2) ≤ x1 → (K S)) ∧ (¬ ((S.1 (S.2.2 u 2) 2) ≤ x1) → (¬ S.2.2 u 0 = NU ∧ (c_cl U (S.2.2 u 0) = 9 ∧ (p_Ro_add U (S.2.2 u 0) (x1 + 1) S (fun S97 => ¬ S97.2.2 u 0 = NU ∧ (¬ S97.2.2 u 2 = NU ∧ (c_cl U (S97.2.2 u 2) = 7 ∧ (¬ S97.2.2 (S97.2.2 u 2) 3 = NU ∧ (c_cl U (S97.2.2 (S97.2.2 u 2) 3) = 902 ∧ (vp_in x1 (c_ln U (S97.2.2 (S97.2.2 u 2) 3)) ∧ (¬ S97.2.2 u 2 = NU ∧ (¬ S97.2.2 (S97.2.2 u 2) 4 = NU ∧ (c_cl U (S97.2.2 (S97.2.2 u 2) 4) = 902 ∧ (vp_in x1 (c_ln U (S97.2.2 (S97.2.2 u 2) 4)) ∧ (c_cl U (S97.2.2 u 0) = 9 ∧ (p_Ro_add U (S97.2.2 u 0) ((16 * (S97.1 (S97.2.2 (S97.2.2 u 2) 3) x1.toNatClampNeg)) + (S97.1 (S97.2.2 (S97.2.2 u 2) 4) x1.toNatClampNeg)) S97 (fun S126 => ¬ S126.2.2 u 0 = NU ∧ (p_Pa_kindOf x1 (fun v134 => c_cl U (S126.2.2 u 0) = 9 ∧ (p_Ro_add U (S126.2.2 u 0) v134 S126 (fun S137 => R79 (x1 + 1) S137)))))))))))))))))))))))
def e_Pa_writeFrame_79 (U : ut) (u : Nat) (x1 : Int32) (S : cs) (K : cs → Prop) : Prop :=
  ∃ (I : Int32 → cs → Prop) (μ : Int32 → cs → Nat), I x1 S ∧ ∀ yx1 yS, I yx1 yS → b_Pa_writeFrame_79 U u yx1 yS (fun zx1 zS => I zx1 zS ∧ μ zx1 zS < μ yx1 yS) K
def p_Pa_writeFrame (U : ut) (u : Nat)  (S : cs) (K : cs → Prop) : Prop :=
  p_Pa_addMark U u 192 S (fun S4 => ¬ S4.2.2 u 0 = NU ∧ (¬ S4.2.2 u 2 = NU ∧ (c_cl U (S4.2.2 u 2) = 7 ∧ (c_cl U (S4.2.2 u 0) = 9 ∧ (p_Ro_addTwo U (S4.2.2 u 0) (8 + (3 * (S4.1 (S4.2.2 u 2) 2))) S4 (fun S23 => ¬ S23.2.2 u 0 = NU ∧ (c_cl U (S23.2.2 u 0) = 9 ∧ (p_Ro_add U (S23.2.2 u 0) 8 S23 (fun S32 => ¬ S32.2.2 u 0 = NU ∧ (¬ S32.2.2 u 2 = NU ∧ (c_cl U (S32.2.2 u 2) = 7 ∧ (c_cl U (S32.2.2 u 0) = 9 ∧ (p_Ro_addTwo U (S32.2.2 u 0) (S32.1 (S32.2.2 u 2) 1) S32 (fun S46 => ¬ S46.2.2 u 0 = NU ∧ (¬ S46.2.2 u 2 = NU ∧ (c_cl U (S46.2.2 u 2) = 7 ∧ (c_cl U (S46.2.2 u 0) = 9 ∧ (p_Ro_addTwo U (S46.2.2 u 0) (S46.1 (S46.2.2 u 2) 0) S46 (fun S60 => ¬ S60.2.2 u 0 = NU ∧ (¬ S60.2.2 u 2 = NU ∧ (c_cl U (S60.2.2 u 2) = 7 ∧ (c_cl U (S60.2.2 u 0) = 9 ∧ (p_Ro_add U (S60.2.2 u 0) (S60.1 (S60.2.2 u 2) 2) S60 (fun S74 => e_Pa_writeFrame_79 U u 0 S74 K))))))))))))))))))))))))
section C_Pa_writeFrame
variable {D : va_G} {z : Nat → ClassId} {A : Nat → Prop} {X : cx} {L0 : fw} {U : ut} {oa : Nat → Nat} {u : Nat} {K : cs → Prop}
set_option maxRecDepth 100000 in
set_option maxHeartbeats 1000000 in
theorem s_Pa_writeFrame_79 (C : fcx gG D z A X R_Pa c_C_Pa_writeFrame 2 (none)) (hQ : X.2.2.2.2.2.2.2.2.2.2 = eQ gG D z X.2.2.2.2.2.2.2.1 X.2.2.2.2.1 L0 0 0 (pC_v lt_C U oa K (fun _ _ => False))) (hA : A = owA gG L0 X.2.2.2.2.1.heap.size) (hR : X.2.2.2.1 = { frames := 3, cells := 1, slots := 6, locals := 300 }) (hu : c_cl U u = 6) (x1 : Int32) (S : cs) (R79 : Int32 → cs → Prop) (hR79 : ∀ yx1 yS, R79 yx1 yS → aw gG D z A X 2 79 [some (.ref (oa u)), some (.int yx1)] [] (cw lt_C U oa yS) 0 0) (hp : b_Pa_writeFrame_79 U u x1 S R79 K) : aw gG D z A X 2 79 [some (.ref (oa u)), some (.int x1)] [] (cw lt_C U oa S) 0 0 := by
  unfold b_Pa_writeFrame_79 at hp
  refine a_iload_n C dc_Pa_writeFrame_79 rfl rfl ?_
  refine a_aload_n C dc_Pa_writeFrame_80 rfl rfl ?_
  refine c_getR C u 2 dc_Pa_writeFrame_81 hu rfl rfl (Nat.le_of_ble_eq_true rfl) f_Pa_31 rfl hp.1 ?_
  have hp := hp.2
  have hc1 := hp.1
  have hp := hp.2
  refine c_getIN C (S.2.2 u 2) 2 dc_Pa_writeFrame_84 hc1 rfl rfl (Nat.le_of_ble_eq_true rfl) f_Pa_85 (Nat.le_of_ble_eq_true rfl) ?_
  refine a_icmp_ge (tgt := 146) C dc_Pa_writeFrame_87 (by decide) ⟨fun hc => ?_, fun hc => ?_⟩
  · have hp := hp.1 hc
    exact a_vret C hQ hA dc_Pa_writeFrame_146 rfl (Or.inl ⟨S, hp, rfl, rfl⟩)
  · have hp := hp.2 hc
    refine a_aload_n C dc_Pa_writeFrame_90 rfl rfl ?_
    refine c_getR C u 0 dc_Pa_writeFrame_91 hu rfl rfl (Nat.le_of_ble_eq_true rfl) f_Pa_15 rfl hp.1 ?_
    have hp := hp.2
    refine a_iload_n C dc_Pa_writeFrame_94 rfl rfl ?_
    refine a_iconst (v := 1) C dc_Pa_writeFrame_95 (by decide) ?_
    refine a_iadd C dc_Pa_writeFrame_96 ?_
    have hc2 := hp.1
    have hp := hp.2
    refine c_call (rest := []) (av := .ref (oa (S.2.2 u 0)) :: [.int (x1 + 1)]) C dc_Pa_writeFrame_97 (ct_Ro_add (S.2.2 u 0) (x1 + 1) S hc2 hp) cd_C_Ro_add i_Ro (Nat.le_of_ble_eq_true rfl) (by rw [hR]; exact Nat.le_of_ble_eq_true rfl) (by rw [hR]; exact Nat.le_of_ble_eq_true rfl) (by rw [hR]; exact Nat.le_of_ble_eq_true rfl) (by rw [hR]; exact Nat.le_of_ble_eq_true rfl) (inv_V C (S.2.2 u 0) dc_Pa_writeFrame_97 l_Pa_214 im_C_Ro_add se_C_Ro_add cd_C_Ro_add ⟨by decide, by decide⟩ ln_C_Ro_add rfl rfl (cw_obj hc2 rfl) rfl rfl) (fun oc L1 hL => ?_)
    obtain ⟨S97, hp, rfl, rfl⟩ := hL.resolve_right pC_no
    refine ⟨_, rfl, ?_⟩
    refine aw_eq (lo' := _) (st' := []) (L' := (cw lt_C U oa S97)) rfl rfl rfl ?_
    refine a_aload_n C dc_Pa_writeFrame_100 rfl rfl ?_
    refine c_getR C u 0 dc_Pa_writeFrame_101 hu rfl rfl (Nat.le_of_ble_eq_true rfl) f_Pa_15 rfl hp.1 ?_
    have hp := hp.2
    refine a_bipush (v := 16) C dc_Pa_writeFrame_104 (by decide) ?_
    refine a_aload_n C dc_Pa_writeFrame_106 rfl rfl ?_
    refine c_getR C u 2 dc_Pa_writeFrame_107 hu rfl rfl (Nat.le_of_ble_eq_true rfl) f_Pa_31 rfl hp.1 ?_
    have hp := hp.2
    have hc3 := hp.1
    have hp := hp.2
    refine c_getRN C (S97.2.2 u 2) 3 dc_Pa_writeFrame_110 hc3 rfl rfl (Nat.le_of_ble_eq_true rfl) f_Pa_121 rfl hp.1 ?_
    have hp := hp.2
    refine a_iload_n C dc_Pa_writeFrame_113 rfl rfl ?_
    have hc4 := hp.1
    have hp := hp.2
    refine c_iald C (S97.2.2 (S97.2.2 u 2) 3) dc_Pa_writeFrame_114 hc4 hp.1 ?_
    have hp := hp.2
    refine a_imul C dc_Pa_writeFrame_115 ?_
    refine a_aload_n C dc_Pa_writeFrame_116 rfl rfl ?_
    refine c_getR C u 2 dc_Pa_writeFrame_117 hu rfl rfl (Nat.le_of_ble_eq_true rfl) f_Pa_31 rfl hp.1 ?_
    have hp := hp.2
    refine c_getRN C (S97.2.2 u 2) 4 dc_Pa_writeFrame_120 hc3 rfl rfl (Nat.le_of_ble_eq_true rfl) f_Pa_127 rfl hp.1 ?_
    have hp := hp.2
    refine a_iload_n C dc_Pa_writeFrame_123 rfl rfl ?_
    have hc5 := hp.1
    have hp := hp.2
    refine c_iald C (S97.2.2 (S97.2.2 u 2) 4) dc_Pa_writeFrame_124 hc5 hp.1 ?_
    have hp := hp.2
    refine a_iadd C dc_Pa_writeFrame_125 ?_
    have hc6 := hp.1
    have hp := hp.2
    refine c_call (rest := []) (av := .ref (oa (S97.2.2 u 0)) :: [.int ((16 * (S97.1 (S97.2.2 (S97.2.2 u 2) 3) x1.toNatClampNeg)) + (S97.1 (S97.2.2 (S97.2.2 u 2) 4) x1.toNatClampNeg))]) C dc_Pa_writeFrame_126 (ct_Ro_add (S97.2.2 u 0) ((16 * (S97.1 (S97.2.2 (S97.2.2 u 2) 3) x1.toNatClampNeg)) + (S97.1 (S97.2.2 (S97.2.2 u 2) 4) x1.toNatClampNeg)) S97 hc6 hp) cd_C_Ro_add i_Ro (Nat.le_of_ble_eq_true rfl) (by rw [hR]; exact Nat.le_of_ble_eq_true rfl) (by rw [hR]; exact Nat.le_of_ble_eq_true rfl) (by rw [hR]; exact Nat.le_of_ble_eq_true rfl) (by rw [hR]; exact Nat.le_of_ble_eq_true rfl) (inv_V C (S97.2.2 u 0) dc_Pa_writeFrame_126 l_Pa_214 im_C_Ro_add se_C_Ro_add cd_C_Ro_add ⟨by decide, by decide⟩ ln_C_Ro_add rfl rfl (cw_obj hc6 rfl) rfl rfl) (fun oc L1 hL => ?_)
    obtain ⟨S126, hp, rfl, rfl⟩ := hL.resolve_right pC_no
    refine ⟨_, rfl, ?_⟩
    refine aw_eq (lo' := _) (st' := []) (L' := (cw lt_C U oa S126)) rfl rfl rfl ?_
    refine a_aload_n C dc_Pa_writeFrame_129 rfl rfl ?_
    refine c_getR C u 0 dc_Pa_writeFrame_130 hu rfl rfl (Nat.le_of_ble_eq_true rfl) f_Pa_15 rfl hp.1 ?_
    have hp := hp.2
    refine a_iload_n C dc_Pa_writeFrame_133 rfl rfl ?_
    refine a_callP (rest := [.ref (oa (S126.2.2 u 0))]) (av := [.int x1]) C dc_Pa_writeFrame_134 (ct_Pa_kindOf x1 hp) cd_C_Pa_kindOf i_Pa (Nat.le_of_ble_eq_true rfl) (by rw [hR]; exact Nat.le_of_ble_eq_true rfl) (by rw [hR]; exact Nat.le_of_ble_eq_true rfl) (by rw [hR]; exact Nat.le_of_ble_eq_true rfl) (by rw [hR]; exact Nat.le_of_ble_eq_true rfl) (inv_S C dc_Pa_writeFrame_134 l_Pa_89 st_C_Pa_kindOf i_Pa cd_C_Pa_kindOf ⟨by decide, by decide⟩ ln_C_Pa_kindOf rfl) (fun v134 hp => ?_)
    refine aw_eq (lo' := _) (st' := [.int v134, .ref (oa (S126.2.2 u 0))]) (L' := (cw lt_C U oa S126)) rfl rfl rfl ?_
    have hc7 := hp.1
    have hp := hp.2
    refine c_call (rest := []) (av := .ref (oa (S126.2.2 u 0)) :: [.int v134]) C dc_Pa_writeFrame_137 (ct_Ro_add (S126.2.2 u 0) v134 S126 hc7 hp) cd_C_Ro_add i_Ro (Nat.le_of_ble_eq_true rfl) (by rw [hR]; exact Nat.le_of_ble_eq_true rfl) (by rw [hR]; exact Nat.le_of_ble_eq_true rfl) (by rw [hR]; exact Nat.le_of_ble_eq_true rfl) (by rw [hR]; exact Nat.le_of_ble_eq_true rfl) (inv_V C (S126.2.2 u 0) dc_Pa_writeFrame_137 l_Pa_214 im_C_Ro_add se_C_Ro_add cd_C_Ro_add ⟨by decide, by decide⟩ ln_C_Ro_add rfl rfl (cw_obj hc7 rfl) rfl rfl) (fun oc L1 hL => ?_)
    obtain ⟨S137, hp, rfl, rfl⟩ := hL.resolve_right pC_no
    refine ⟨_, rfl, ?_⟩
    refine aw_eq (lo' := _) (st' := []) (L' := (cw lt_C U oa S137)) rfl rfl rfl ?_
    refine a_iinc (v := x1 + 1) (lo' := [some (.ref (oa u)), some (.int (x1 + 1))]) C dc_Pa_writeFrame_140 rfl rfl (by decide) rfl ?_
    refine a_goto (tgt := 79) C dc_Pa_writeFrame_143 (by decide) ?_
    refine aw_lo (lo' := [some (.ref (oa u)), some (.int (x1 + 1))]) ⟨.inr rfl, .inr rfl, trivial⟩ ?_
    exact hR79 (x1 + 1) S137 hp
set_option maxRecDepth 100000 in
set_option maxHeartbeats 1000000 in
theorem se_Pa_writeFrame_79 (C : fcx gG D z A X R_Pa c_C_Pa_writeFrame 2 (none)) (hQ : X.2.2.2.2.2.2.2.2.2.2 = eQ gG D z X.2.2.2.2.2.2.2.1 X.2.2.2.2.1 L0 0 0 (pC_v lt_C U oa K (fun _ _ => False))) (hA : A = owA gG L0 X.2.2.2.2.1.heap.size) (hR : X.2.2.2.1 = { frames := 3, cells := 1, slots := 6, locals := 300 }) (hu : c_cl U u = 6) (x1 : Int32) (S : cs) (hp : e_Pa_writeFrame_79 U u x1 S K) : aw gG D z A X 2 79 [some (.ref (oa u)), some (.int x1)] [] (cw lt_C U oa S) 0 0 := by
  obtain ⟨I, μ, h0, hs⟩ := hp
  have key : ∀ (n : Nat) (yx1 : Int32) (yS : cs), μ yx1 yS < n → I yx1 yS → aw gG D z A X 2 79 [some (.ref (oa u)), some (.int yx1)] [] (cw lt_C U oa yS) 0 0 := by
    intro n
    induction n with
    | zero => intro yx1 yS h; omega
    | succ n ih =>
      intro yx1 yS hn hI
      exact s_Pa_writeFrame_79 C hQ hA hR hu yx1 yS _ (fun zx1 zS hw => ih zx1 zS (by omega) hw.1) (hs yx1 yS hI)
  exact key (μ x1 S + 1) x1 S (Nat.lt_succ_self _) h0
set_option maxRecDepth 100000 in
set_option maxHeartbeats 1000000 in
theorem s_Pa_writeFrame_0 (C : fcx gG D z A X R_Pa c_C_Pa_writeFrame 2 (none)) (hQ : X.2.2.2.2.2.2.2.2.2.2 = eQ gG D z X.2.2.2.2.2.2.2.1 X.2.2.2.2.1 L0 0 0 (pC_v lt_C U oa K (fun _ _ => False))) (hA : A = owA gG L0 X.2.2.2.2.1.heap.size) (hR : X.2.2.2.1 = { frames := 3, cells := 1, slots := 6, locals := 300 }) (hu : c_cl U u = 6)  (S : cs) (hp : p_Pa_writeFrame U u S K) : aw gG D z A X 2 0 [some (.ref (oa u)), none] [] (cw lt_C U oa S) 0 0 := by
  unfold p_Pa_writeFrame at hp
  refine a_aload_n C dc_Pa_writeFrame_0 rfl rfl ?_
  refine a_sipush (v := 192) C dc_Pa_writeFrame_1 (by decide) ?_
  refine c_call (rest := []) (av := .ref (oa u) :: [.int 192]) C dc_Pa_writeFrame_4 (ct_Pa_addMark u 192 S hu hp) cd_C_Pa_addMark i_Pa (Nat.le_of_ble_eq_true rfl) (by rw [hR]; exact Nat.le_of_ble_eq_true rfl) (by rw [hR]; exact Nat.le_of_ble_eq_true rfl) (by rw [hR]; exact Nat.le_of_ble_eq_true rfl) (by rw [hR]; exact Nat.le_of_ble_eq_true rfl) (inv_V C u dc_Pa_writeFrame_4 l_Pa_195 im_C_Pa_addMark se_C_Pa_addMark cd_C_Pa_addMark ⟨by decide, by decide⟩ ln_C_Pa_addMark rfl rfl (cw_obj hu rfl) rfl rfl) (fun oc L1 hL => ?_)
  obtain ⟨S4, hp, rfl, rfl⟩ := hL.resolve_right pC_no
  refine ⟨_, rfl, ?_⟩
  refine aw_eq (lo' := _) (st' := []) (L' := (cw lt_C U oa S4)) rfl rfl rfl ?_
  refine a_aload_n C dc_Pa_writeFrame_7 rfl rfl ?_
  refine c_getR C u 0 dc_Pa_writeFrame_8 hu rfl rfl (Nat.le_of_ble_eq_true rfl) f_Pa_15 rfl hp.1 ?_
  have hp := hp.2
  refine a_bipush (v := 8) C dc_Pa_writeFrame_11 (by decide) ?_
  refine a_iconst (v := 3) C dc_Pa_writeFrame_13 (by decide) ?_
  refine a_aload_n C dc_Pa_writeFrame_14 rfl rfl ?_
  refine c_getR C u 2 dc_Pa_writeFrame_15 hu rfl rfl (Nat.le_of_ble_eq_true rfl) f_Pa_31 rfl hp.1 ?_
  have hp := hp.2
  have hc8 := hp.1
  have hp := hp.2
  refine c_getIN C (S4.2.2 u 2) 2 dc_Pa_writeFrame_18 hc8 rfl rfl (Nat.le_of_ble_eq_true rfl) f_Pa_85 (Nat.le_of_ble_eq_true rfl) ?_
  refine a_imul C dc_Pa_writeFrame_21 ?_
  refine a_iadd C dc_Pa_writeFrame_22 ?_
  have hc9 := hp.1
  have hp := hp.2
  refine c_call (rest := []) (av := .ref (oa (S4.2.2 u 0)) :: [.int (8 + (3 * (S4.1 (S4.2.2 u 2) 2)))]) C dc_Pa_writeFrame_23 (ct_Ro_addTwo (S4.2.2 u 0) (8 + (3 * (S4.1 (S4.2.2 u 2) 2))) S4 hc9 hp) cd_C_Ro_addTwo i_Ro (Nat.le_of_ble_eq_true rfl) (by rw [hR]; exact Nat.le_of_ble_eq_true rfl) (by rw [hR]; exact Nat.le_of_ble_eq_true rfl) (by rw [hR]; exact Nat.le_of_ble_eq_true rfl) (by rw [hR]; exact Nat.le_of_ble_eq_true rfl) (inv_V C (S4.2.2 u 0) dc_Pa_writeFrame_23 l_Pa_208 im_C_Ro_addTwo se_C_Ro_addTwo cd_C_Ro_addTwo ⟨by decide, by decide⟩ ln_C_Ro_addTwo rfl rfl (cw_obj hc9 rfl) rfl rfl) (fun oc L1 hL => ?_)
  obtain ⟨S23, hp, rfl, rfl⟩ := hL.resolve_right pC_no
  refine ⟨_, rfl, ?_⟩
  refine aw_eq (lo' := _) (st' := []) (L' := (cw lt_C U oa S23)) rfl rfl rfl ?_
  refine a_aload_n C dc_Pa_writeFrame_26 rfl rfl ?_
  refine c_getR C u 0 dc_Pa_writeFrame_27 hu rfl rfl (Nat.le_of_ble_eq_true rfl) f_Pa_15 rfl hp.1 ?_
  have hp := hp.2
  refine a_bipush (v := 8) C dc_Pa_writeFrame_30 (by decide) ?_
  have hc10 := hp.1
  have hp := hp.2
  refine c_call (rest := []) (av := .ref (oa (S23.2.2 u 0)) :: [.int 8]) C dc_Pa_writeFrame_32 (ct_Ro_add (S23.2.2 u 0) 8 S23 hc10 hp) cd_C_Ro_add i_Ro (Nat.le_of_ble_eq_true rfl) (by rw [hR]; exact Nat.le_of_ble_eq_true rfl) (by rw [hR]; exact Nat.le_of_ble_eq_true rfl) (by rw [hR]; exact Nat.le_of_ble_eq_true rfl) (by rw [hR]; exact Nat.le_of_ble_eq_true rfl) (inv_V C (S23.2.2 u 0) dc_Pa_writeFrame_32 l_Pa_214 im_C_Ro_add se_C_Ro_add cd_C_Ro_add ⟨by decide, by decide⟩ ln_C_Ro_add rfl rfl (cw_obj hc10 rfl) rfl rfl) (fun oc L1 hL => ?_)
  obtain ⟨S32, hp, rfl, rfl⟩ := hL.resolve_right pC_no
  refine ⟨_, rfl, ?_⟩
  refine aw_eq (lo' := _) (st' := []) (L' := (cw lt_C U oa S32)) rfl rfl rfl ?_
  refine a_aload_n C dc_Pa_writeFrame_35 rfl rfl ?_
  refine c_getR C u 0 dc_Pa_writeFrame_36 hu rfl rfl (Nat.le_of_ble_eq_true rfl) f_Pa_15 rfl hp.1 ?_
  have hp := hp.2
  refine a_aload_n C dc_Pa_writeFrame_39 rfl rfl ?_
  refine c_getR C u 2 dc_Pa_writeFrame_40 hu rfl rfl (Nat.le_of_ble_eq_true rfl) f_Pa_31 rfl hp.1 ?_
  have hp := hp.2
  have hc11 := hp.1
  have hp := hp.2
  refine c_getIN C (S32.2.2 u 2) 1 dc_Pa_writeFrame_43 hc11 rfl rfl (Nat.le_of_ble_eq_true rfl) f_Pa_217 (Nat.le_of_ble_eq_true rfl) ?_
  have hc12 := hp.1
  have hp := hp.2
  refine c_call (rest := []) (av := .ref (oa (S32.2.2 u 0)) :: [.int (S32.1 (S32.2.2 u 2) 1)]) C dc_Pa_writeFrame_46 (ct_Ro_addTwo (S32.2.2 u 0) (S32.1 (S32.2.2 u 2) 1) S32 hc12 hp) cd_C_Ro_addTwo i_Ro (Nat.le_of_ble_eq_true rfl) (by rw [hR]; exact Nat.le_of_ble_eq_true rfl) (by rw [hR]; exact Nat.le_of_ble_eq_true rfl) (by rw [hR]; exact Nat.le_of_ble_eq_true rfl) (by rw [hR]; exact Nat.le_of_ble_eq_true rfl) (inv_V C (S32.2.2 u 0) dc_Pa_writeFrame_46 l_Pa_208 im_C_Ro_addTwo se_C_Ro_addTwo cd_C_Ro_addTwo ⟨by decide, by decide⟩ ln_C_Ro_addTwo rfl rfl (cw_obj hc12 rfl) rfl rfl) (fun oc L1 hL => ?_)
  obtain ⟨S46, hp, rfl, rfl⟩ := hL.resolve_right pC_no
  refine ⟨_, rfl, ?_⟩
  refine aw_eq (lo' := _) (st' := []) (L' := (cw lt_C U oa S46)) rfl rfl rfl ?_
  refine a_aload_n C dc_Pa_writeFrame_49 rfl rfl ?_
  refine c_getR C u 0 dc_Pa_writeFrame_50 hu rfl rfl (Nat.le_of_ble_eq_true rfl) f_Pa_15 rfl hp.1 ?_
  have hp := hp.2
  refine a_aload_n C dc_Pa_writeFrame_53 rfl rfl ?_
  refine c_getR C u 2 dc_Pa_writeFrame_54 hu rfl rfl (Nat.le_of_ble_eq_true rfl) f_Pa_31 rfl hp.1 ?_
  have hp := hp.2
  have hc13 := hp.1
  have hp := hp.2
  refine c_getIN C (S46.2.2 u 2) 0 dc_Pa_writeFrame_57 hc13 rfl rfl (Nat.le_of_ble_eq_true rfl) f_Pa_218 (Nat.le_of_ble_eq_true rfl) ?_
  have hc14 := hp.1
  have hp := hp.2
  refine c_call (rest := []) (av := .ref (oa (S46.2.2 u 0)) :: [.int (S46.1 (S46.2.2 u 2) 0)]) C dc_Pa_writeFrame_60 (ct_Ro_addTwo (S46.2.2 u 0) (S46.1 (S46.2.2 u 2) 0) S46 hc14 hp) cd_C_Ro_addTwo i_Ro (Nat.le_of_ble_eq_true rfl) (by rw [hR]; exact Nat.le_of_ble_eq_true rfl) (by rw [hR]; exact Nat.le_of_ble_eq_true rfl) (by rw [hR]; exact Nat.le_of_ble_eq_true rfl) (by rw [hR]; exact Nat.le_of_ble_eq_true rfl) (inv_V C (S46.2.2 u 0) dc_Pa_writeFrame_60 l_Pa_208 im_C_Ro_addTwo se_C_Ro_addTwo cd_C_Ro_addTwo ⟨by decide, by decide⟩ ln_C_Ro_addTwo rfl rfl (cw_obj hc14 rfl) rfl rfl) (fun oc L1 hL => ?_)
  obtain ⟨S60, hp, rfl, rfl⟩ := hL.resolve_right pC_no
  refine ⟨_, rfl, ?_⟩
  refine aw_eq (lo' := _) (st' := []) (L' := (cw lt_C U oa S60)) rfl rfl rfl ?_
  refine a_aload_n C dc_Pa_writeFrame_63 rfl rfl ?_
  refine c_getR C u 0 dc_Pa_writeFrame_64 hu rfl rfl (Nat.le_of_ble_eq_true rfl) f_Pa_15 rfl hp.1 ?_
  have hp := hp.2
  refine a_aload_n C dc_Pa_writeFrame_67 rfl rfl ?_
  refine c_getR C u 2 dc_Pa_writeFrame_68 hu rfl rfl (Nat.le_of_ble_eq_true rfl) f_Pa_31 rfl hp.1 ?_
  have hp := hp.2
  have hc15 := hp.1
  have hp := hp.2
  refine c_getIN C (S60.2.2 u 2) 2 dc_Pa_writeFrame_71 hc15 rfl rfl (Nat.le_of_ble_eq_true rfl) f_Pa_85 (Nat.le_of_ble_eq_true rfl) ?_
  have hc16 := hp.1
  have hp := hp.2
  refine c_call (rest := []) (av := .ref (oa (S60.2.2 u 0)) :: [.int (S60.1 (S60.2.2 u 2) 2)]) C dc_Pa_writeFrame_74 (ct_Ro_add (S60.2.2 u 0) (S60.1 (S60.2.2 u 2) 2) S60 hc16 hp) cd_C_Ro_add i_Ro (Nat.le_of_ble_eq_true rfl) (by rw [hR]; exact Nat.le_of_ble_eq_true rfl) (by rw [hR]; exact Nat.le_of_ble_eq_true rfl) (by rw [hR]; exact Nat.le_of_ble_eq_true rfl) (by rw [hR]; exact Nat.le_of_ble_eq_true rfl) (inv_V C (S60.2.2 u 0) dc_Pa_writeFrame_74 l_Pa_214 im_C_Ro_add se_C_Ro_add cd_C_Ro_add ⟨by decide, by decide⟩ ln_C_Ro_add rfl rfl (cw_obj hc16 rfl) rfl rfl) (fun oc L1 hL => ?_)
  obtain ⟨S74, hp, rfl, rfl⟩ := hL.resolve_right pC_no
  refine ⟨_, rfl, ?_⟩
  refine aw_eq (lo' := _) (st' := []) (L' := (cw lt_C U oa S74)) rfl rfl rfl ?_
  refine a_iconst (v := 0) C dc_Pa_writeFrame_77 (by decide) ?_
  refine a_istore_n (lo' := [some (.ref (oa u)), some (.int 0)]) C dc_Pa_writeFrame_78 rfl (by decide) rfl ?_
  refine aw_lo (lo' := [some (.ref (oa u)), some (.int 0)]) ⟨.inr rfl, .inr rfl, trivial⟩ ?_
  exact se_Pa_writeFrame_79 C hQ hA hR hu 0 S74  hp
end C_Pa_writeFrame
section C_Pa_writeFramec
variable {D : va_G} {z : Nat → ClassId} {U : ut} {oa : Nat → Nat}
set_option maxRecDepth 100000 in
theorem ct_Pa_writeFrame {l : Launch} (u : Nat)  (S : cs) {K : cs → Prop} (hu : c_cl U u = 6) (hp : p_Pa_writeFrame U u S K) : ct gG D z l n_C_Pa_writeFrame c_C_Pa_writeFrame 2 (none) 3 300 [.ref (oa u)] (cw lt_C U oa S) 0 0 (pC_v lt_C U oa K (fun _ _ => False)) := by
  refine ct_of (lo := [some (.ref (oa u)), none]) (by decide) g_ok (Nat.le_of_ble_eq_true rfl) rfl ?_
  intro X A _ C hR hQ hA _
  exact s_Pa_writeFrame_0 C hQ hA hR hu S hp
end C_Pa_writeFramec
def b_Pa_writeOwnCodes_37 (U : ut) (u : Nat) (x2 : Nat) (x3 : Int32) (S : cs) (R37 : Nat → Int32 → cs → Prop) (K : cs → Prop) : Prop :=
  c_cl U x2 = 5 ∧ (((S.1 x2 4) ≤ x3 → (K S)) ∧ (¬ ((S.1 x2 4) ≤ x3) → (¬ S.2.2 u 0 = NU ∧ (¬ S.2.2 x2 3 = NU ∧ (c_cl U (S.2.2 x2 3) = 902 ∧ (vp_in x3 (c_ln U (S.2.2 x2 3)) ∧ (c_cl U (S.2.2 u 0) = 9 ∧ (p_Ro_add U (S.2.2 u 0) (S.1 (S.2.2 x2 3) x3.toNatClampNeg) S (fun S55 => R37 x2 (x3 + 1) S55)))))))))
def e_Pa_writeOwnCodes_37 (U : ut) (u : Nat) (x2 : Nat) (x3 : Int32) (S : cs) (K : cs → Prop) : Prop :=
  ∃ (I : Nat → Int32 → cs → Prop) (μ : Nat → Int32 → cs → Nat), I x2 x3 S ∧ ∀ yx2 yx3 yS, I yx2 yx3 yS → b_Pa_writeOwnCodes_37 U u yx2 yx3 yS (fun zx2 zx3 zS => I zx2 zx3 zS ∧ μ zx2 zx3 zS < μ yx2 yx3 yS) K
def b_Pa_writeOwnCodes_10 (U : ut) (u : Nat) (x2 : Nat) (x3 : Int32) (S : cs) (R10 : Nat → Int32 → cs → Prop) (K : cs → Prop) : Prop :=
  (16 < x3 → (e_Pa_writeOwnCodes_37 U u x2 0 S K)) ∧ (¬ (16 < x3) → (¬ S.2.2 u 0 = NU ∧ (c_cl U x2 = 5 ∧ (¬ S.2.2 x2 5 = NU ∧ (c_cl U (S.2.2 x2 5) = 902 ∧ (vp_in x3 (c_ln U (S.2.2 x2 5)) ∧ (c_cl U (S.2.2 u 0) = 9 ∧ (p_Ro_add U (S.2.2 u 0) (S.1 (S.2.2 x2 5) x3.toNatClampNeg) S (fun S26 => R10 x2 (x3 + 1) S26)))))))))
def e_Pa_writeOwnCodes_10 (U : ut) (u : Nat) (x2 : Nat) (x3 : Int32) (S : cs) (K : cs → Prop) : Prop :=
  ∃ (I : Nat → Int32 → cs → Prop) (μ : Nat → Int32 → cs → Nat), I x2 x3 S ∧ ∀ yx2 yx3 yS, I yx2 yx3 yS → b_Pa_writeOwnCodes_10 U u yx2 yx3 yS (fun zx2 zx3 zS => I zx2 zx3 zS ∧ μ zx2 zx3 zS < μ yx2 yx3 yS) K
def p_Pa_writeOwnCodes (U : ut) (u : Nat) (x1 : Int32) (x2 : Nat) (S : cs) (K : cs → Prop) : Prop :=
  ¬ S.2.2 u 0 = NU ∧ (c_cl U (S.2.2 u 0) = 9 ∧ (p_Ro_add U (S.2.2 u 0) x1 S (fun S5 => e_Pa_writeOwnCodes_10 U u x2 1 S5 K)))
section C_Pa_writeOwnCodes
variable {D : va_G} {z : Nat → ClassId} {A : Nat → Prop} {X : cx} {L0 : fw} {U : ut} {oa : Nat → Nat} {u : Nat} {K : cs → Prop}
set_option maxRecDepth 100000 in
set_option maxHeartbeats 1000000 in
theorem s_Pa_writeOwnCodes_37 (C : fcx gG D z A X R_Pa c_C_Pa_writeOwnCodes 4 (none)) (hQ : X.2.2.2.2.2.2.2.2.2.2 = eQ gG D z X.2.2.2.2.2.2.2.1 X.2.2.2.2.1 L0 0 0 (pC_v lt_C U oa K (fun _ _ => False))) (hA : A = owA gG L0 X.2.2.2.2.1.heap.size) (hR : X.2.2.2.1 = { frames := 2, cells := 1, slots := 6, locals := 200 }) (hu : c_cl U u = 6) (x2 : Nat) (x3 : Int32) (S : cs) (R37 : Nat → Int32 → cs → Prop) (hR37 : ∀ yx2 yx3 yS, R37 yx2 yx3 yS → aw gG D z A X 4 37 [some (.ref (oa u)), none, some (.ref (oa yx2)), some (.int yx3)] [] (cw lt_C U oa yS) 0 0) (hp : b_Pa_writeOwnCodes_37 U u x2 x3 S R37 K) : aw gG D z A X 4 37 [some (.ref (oa u)), none, some (.ref (oa x2)), some (.int x3)] [] (cw lt_C U oa S) 0 0 := by
  unfold b_Pa_writeOwnCodes_37 at hp
  refine a_iload_n C dc_Pa_writeOwnCodes_37 rfl rfl ?_
  refine a_aload_n C dc_Pa_writeOwnCodes_38 rfl rfl ?_
  have hc1 := hp.1
  have hp := hp.2
  refine c_getIN C x2 4 dc_Pa_writeOwnCodes_39 hc1 rfl rfl (Nat.le_of_ble_eq_true rfl) f_Pa_219 (Nat.le_of_ble_eq_true rfl) ?_
  refine a_icmp_ge (tgt := 64) C dc_Pa_writeOwnCodes_42 (by decide) ⟨fun hc => ?_, fun hc => ?_⟩
  · have hp := hp.1 hc
    exact a_vret C hQ hA dc_Pa_writeOwnCodes_64 rfl (Or.inl ⟨S, hp, rfl, rfl⟩)
  · have hp := hp.2 hc
    refine a_aload_n C dc_Pa_writeOwnCodes_45 rfl rfl ?_
    refine c_getR C u 0 dc_Pa_writeOwnCodes_46 hu rfl rfl (Nat.le_of_ble_eq_true rfl) f_Pa_15 rfl hp.1 ?_
    have hp := hp.2
    refine a_aload_n C dc_Pa_writeOwnCodes_49 rfl rfl ?_
    refine c_getRN C x2 3 dc_Pa_writeOwnCodes_50 hc1 rfl rfl (Nat.le_of_ble_eq_true rfl) f_Pa_227 rfl hp.1 ?_
    have hp := hp.2
    refine a_iload_n C dc_Pa_writeOwnCodes_53 rfl rfl ?_
    have hc2 := hp.1
    have hp := hp.2
    refine c_iald C (S.2.2 x2 3) dc_Pa_writeOwnCodes_54 hc2 hp.1 ?_
    have hp := hp.2
    have hc3 := hp.1
    have hp := hp.2
    refine c_call (rest := []) (av := .ref (oa (S.2.2 u 0)) :: [.int (S.1 (S.2.2 x2 3) x3.toNatClampNeg)]) C dc_Pa_writeOwnCodes_55 (ct_Ro_add (S.2.2 u 0) (S.1 (S.2.2 x2 3) x3.toNatClampNeg) S hc3 hp) cd_C_Ro_add i_Ro (Nat.le_of_ble_eq_true rfl) (by rw [hR]; exact Nat.le_of_ble_eq_true rfl) (by rw [hR]; exact Nat.le_of_ble_eq_true rfl) (by rw [hR]; exact Nat.le_of_ble_eq_true rfl) (by rw [hR]; exact Nat.le_of_ble_eq_true rfl) (inv_V C (S.2.2 u 0) dc_Pa_writeOwnCodes_55 l_Pa_214 im_C_Ro_add se_C_Ro_add cd_C_Ro_add ⟨by decide, by decide⟩ ln_C_Ro_add rfl rfl (cw_obj hc3 rfl) rfl rfl) (fun oc L1 hL => ?_)
    obtain ⟨S55, hp, rfl, rfl⟩ := hL.resolve_right pC_no
    refine ⟨_, rfl, ?_⟩
    refine aw_eq (lo' := _) (st' := []) (L' := (cw lt_C U oa S55)) rfl rfl rfl ?_
    refine a_iinc (v := x3 + 1) (lo' := [some (.ref (oa u)), none, some (.ref (oa x2)), some (.int (x3 + 1))]) C dc_Pa_writeOwnCodes_58 rfl rfl (by decide) rfl ?_
    refine a_goto (tgt := 37) C dc_Pa_writeOwnCodes_61 (by decide) ?_
    refine aw_lo (lo' := [some (.ref (oa u)), none, some (.ref (oa x2)), some (.int (x3 + 1))]) ⟨.inr rfl, .inr rfl, .inr rfl, .inr rfl, trivial⟩ ?_
    exact hR37 x2 (x3 + 1) S55 hp
set_option maxRecDepth 100000 in
set_option maxHeartbeats 1000000 in
theorem se_Pa_writeOwnCodes_37 (C : fcx gG D z A X R_Pa c_C_Pa_writeOwnCodes 4 (none)) (hQ : X.2.2.2.2.2.2.2.2.2.2 = eQ gG D z X.2.2.2.2.2.2.2.1 X.2.2.2.2.1 L0 0 0 (pC_v lt_C U oa K (fun _ _ => False))) (hA : A = owA gG L0 X.2.2.2.2.1.heap.size) (hR : X.2.2.2.1 = { frames := 2, cells := 1, slots := 6, locals := 200 }) (hu : c_cl U u = 6) (x2 : Nat) (x3 : Int32) (S : cs) (hp : e_Pa_writeOwnCodes_37 U u x2 x3 S K) : aw gG D z A X 4 37 [some (.ref (oa u)), none, some (.ref (oa x2)), some (.int x3)] [] (cw lt_C U oa S) 0 0 := by
  obtain ⟨I, μ, h0, hs⟩ := hp
  have key : ∀ (n : Nat) (yx2 : Nat) (yx3 : Int32) (yS : cs), μ yx2 yx3 yS < n → I yx2 yx3 yS → aw gG D z A X 4 37 [some (.ref (oa u)), none, some (.ref (oa yx2)), some (.int yx3)] [] (cw lt_C U oa yS) 0 0 := by
    intro n
    induction n with
    | zero => intro yx2 yx3 yS h; omega
    | succ n ih =>
      intro yx2 yx3 yS hn hI
      exact s_Pa_writeOwnCodes_37 C hQ hA hR hu yx2 yx3 yS _ (fun zx2 zx3 zS hw => ih zx2 zx3 zS (by omega) hw.1) (hs yx2 yx3 yS hI)
  exact key (μ x2 x3 S + 1) x2 x3 S (Nat.lt_succ_self _) h0
set_option maxRecDepth 100000 in
set_option maxHeartbeats 1000000 in
theorem s_Pa_writeOwnCodes_10 (C : fcx gG D z A X R_Pa c_C_Pa_writeOwnCodes 4 (none)) (hQ : X.2.2.2.2.2.2.2.2.2.2 = eQ gG D z X.2.2.2.2.2.2.2.1 X.2.2.2.2.1 L0 0 0 (pC_v lt_C U oa K (fun _ _ => False))) (hA : A = owA gG L0 X.2.2.2.2.1.heap.size) (hR : X.2.2.2.1 = { frames := 2, cells := 1, slots := 6, locals := 200 }) (hu : c_cl U u = 6) (x2 : Nat) (x3 : Int32) (S : cs) (R10 : Nat → Int32 → cs → Prop) (hR10 : ∀ yx2 yx3 yS, R10 yx2 yx3 yS → aw gG D z A X 4 10 [some (.ref (oa u)), none, some (.ref (oa yx2)), some (.int yx3)] [] (cw lt_C U oa yS) 0 0) (hp : b_Pa_writeOwnCodes_10 U u x2 x3 S R10 K) : aw gG D z A X 4 10 [some (.ref (oa u)), none, some (.ref (oa x2)), some (.int x3)] [] (cw lt_C U oa S) 0 0 := by
  unfold b_Pa_writeOwnCodes_10 at hp
  refine a_iload_n C dc_Pa_writeOwnCodes_10 rfl rfl ?_
  refine a_bipush (v := 16) C dc_Pa_writeOwnCodes_11 (by decide) ?_
  refine a_icmp_gt (tgt := 35) C dc_Pa_writeOwnCodes_13 (by decide) ⟨fun hc => ?_, fun hc => ?_⟩
  · have hp := hp.1 hc
    refine a_iconst (v := 0) C dc_Pa_writeOwnCodes_35 (by decide) ?_
    refine a_istore_n (lo' := [some (.ref (oa u)), none, some (.ref (oa x2)), some (.int 0)]) C dc_Pa_writeOwnCodes_36 rfl (by decide) rfl ?_
    refine aw_lo (lo' := [some (.ref (oa u)), none, some (.ref (oa x2)), some (.int 0)]) ⟨.inr rfl, .inr rfl, .inr rfl, .inr rfl, trivial⟩ ?_
    exact se_Pa_writeOwnCodes_37 C hQ hA hR hu x2 0 S  hp
  · have hp := hp.2 hc
    refine a_aload_n C dc_Pa_writeOwnCodes_16 rfl rfl ?_
    refine c_getR C u 0 dc_Pa_writeOwnCodes_17 hu rfl rfl (Nat.le_of_ble_eq_true rfl) f_Pa_15 rfl hp.1 ?_
    have hp := hp.2
    refine a_aload_n C dc_Pa_writeOwnCodes_20 rfl rfl ?_
    have hc4 := hp.1
    have hp := hp.2
    refine c_getRN C x2 5 dc_Pa_writeOwnCodes_21 hc4 rfl rfl (Nat.le_of_ble_eq_true rfl) f_Pa_224 rfl hp.1 ?_
    have hp := hp.2
    refine a_iload_n C dc_Pa_writeOwnCodes_24 rfl rfl ?_
    have hc5 := hp.1
    have hp := hp.2
    refine c_iald C (S.2.2 x2 5) dc_Pa_writeOwnCodes_25 hc5 hp.1 ?_
    have hp := hp.2
    have hc6 := hp.1
    have hp := hp.2
    refine c_call (rest := []) (av := .ref (oa (S.2.2 u 0)) :: [.int (S.1 (S.2.2 x2 5) x3.toNatClampNeg)]) C dc_Pa_writeOwnCodes_26 (ct_Ro_add (S.2.2 u 0) (S.1 (S.2.2 x2 5) x3.toNatClampNeg) S hc6 hp) cd_C_Ro_add i_Ro (Nat.le_of_ble_eq_true rfl) (by rw [hR]; exact Nat.le_of_ble_eq_true rfl) (by rw [hR]; exact Nat.le_of_ble_eq_true rfl) (by rw [hR]; exact Nat.le_of_ble_eq_true rfl) (by rw [hR]; exact Nat.le_of_ble_eq_true rfl) (inv_V C (S.2.2 u 0) dc_Pa_writeOwnCodes_26 l_Pa_214 im_C_Ro_add se_C_Ro_add cd_C_Ro_add ⟨by decide, by decide⟩ ln_C_Ro_add rfl rfl (cw_obj hc6 rfl) rfl rfl) (fun oc L1 hL => ?_)
    obtain ⟨S26, hp, rfl, rfl⟩ := hL.resolve_right pC_no
    refine ⟨_, rfl, ?_⟩
    refine aw_eq (lo' := _) (st' := []) (L' := (cw lt_C U oa S26)) rfl rfl rfl ?_
    refine a_iinc (v := x3 + 1) (lo' := [some (.ref (oa u)), none, some (.ref (oa x2)), some (.int (x3 + 1))]) C dc_Pa_writeOwnCodes_29 rfl rfl (by decide) rfl ?_
    refine a_goto (tgt := 10) C dc_Pa_writeOwnCodes_32 (by decide) ?_
    refine aw_lo (lo' := [some (.ref (oa u)), none, some (.ref (oa x2)), some (.int (x3 + 1))]) ⟨.inr rfl, .inr rfl, .inr rfl, .inr rfl, trivial⟩ ?_
    exact hR10 x2 (x3 + 1) S26 hp
set_option maxRecDepth 100000 in
set_option maxHeartbeats 1000000 in
theorem se_Pa_writeOwnCodes_10 (C : fcx gG D z A X R_Pa c_C_Pa_writeOwnCodes 4 (none)) (hQ : X.2.2.2.2.2.2.2.2.2.2 = eQ gG D z X.2.2.2.2.2.2.2.1 X.2.2.2.2.1 L0 0 0 (pC_v lt_C U oa K (fun _ _ => False))) (hA : A = owA gG L0 X.2.2.2.2.1.heap.size) (hR : X.2.2.2.1 = { frames := 2, cells := 1, slots := 6, locals := 200 }) (hu : c_cl U u = 6) (x2 : Nat) (x3 : Int32) (S : cs) (hp : e_Pa_writeOwnCodes_10 U u x2 x3 S K) : aw gG D z A X 4 10 [some (.ref (oa u)), none, some (.ref (oa x2)), some (.int x3)] [] (cw lt_C U oa S) 0 0 := by
  obtain ⟨I, μ, h0, hs⟩ := hp
  have key : ∀ (n : Nat) (yx2 : Nat) (yx3 : Int32) (yS : cs), μ yx2 yx3 yS < n → I yx2 yx3 yS → aw gG D z A X 4 10 [some (.ref (oa u)), none, some (.ref (oa yx2)), some (.int yx3)] [] (cw lt_C U oa yS) 0 0 := by
    intro n
    induction n with
    | zero => intro yx2 yx3 yS h; omega
    | succ n ih =>
      intro yx2 yx3 yS hn hI
      exact s_Pa_writeOwnCodes_10 C hQ hA hR hu yx2 yx3 yS _ (fun zx2 zx3 zS hw => ih zx2 zx3 zS (by omega) hw.1) (hs yx2 yx3 yS hI)
  exact key (μ x2 x3 S + 1) x2 x3 S (Nat.lt_succ_self _) h0
set_option maxRecDepth 100000 in
set_option maxHeartbeats 1000000 in
theorem s_Pa_writeOwnCodes_0 (C : fcx gG D z A X R_Pa c_C_Pa_writeOwnCodes 4 (none)) (hQ : X.2.2.2.2.2.2.2.2.2.2 = eQ gG D z X.2.2.2.2.2.2.2.1 X.2.2.2.2.1 L0 0 0 (pC_v lt_C U oa K (fun _ _ => False))) (hA : A = owA gG L0 X.2.2.2.2.1.heap.size) (hR : X.2.2.2.1 = { frames := 2, cells := 1, slots := 6, locals := 200 }) (hu : c_cl U u = 6) (x1 : Int32) (x2 : Nat) (S : cs) (hp : p_Pa_writeOwnCodes U u x1 x2 S K) : aw gG D z A X 4 0 [some (.ref (oa u)), some (.int x1), some (.ref (oa x2)), none] [] (cw lt_C U oa S) 0 0 := by
  unfold p_Pa_writeOwnCodes at hp
  refine a_aload_n C dc_Pa_writeOwnCodes_0 rfl rfl ?_
  refine c_getR C u 0 dc_Pa_writeOwnCodes_1 hu rfl rfl (Nat.le_of_ble_eq_true rfl) f_Pa_15 rfl hp.1 ?_
  have hp := hp.2
  refine a_iload_n C dc_Pa_writeOwnCodes_4 rfl rfl ?_
  have hc7 := hp.1
  have hp := hp.2
  refine c_call (rest := []) (av := .ref (oa (S.2.2 u 0)) :: [.int x1]) C dc_Pa_writeOwnCodes_5 (ct_Ro_add (S.2.2 u 0) x1 S hc7 hp) cd_C_Ro_add i_Ro (Nat.le_of_ble_eq_true rfl) (by rw [hR]; exact Nat.le_of_ble_eq_true rfl) (by rw [hR]; exact Nat.le_of_ble_eq_true rfl) (by rw [hR]; exact Nat.le_of_ble_eq_true rfl) (by rw [hR]; exact Nat.le_of_ble_eq_true rfl) (inv_V C (S.2.2 u 0) dc_Pa_writeOwnCodes_5 l_Pa_214 im_C_Ro_add se_C_Ro_add cd_C_Ro_add ⟨by decide, by decide⟩ ln_C_Ro_add rfl rfl (cw_obj hc7 rfl) rfl rfl) (fun oc L1 hL => ?_)
  obtain ⟨S5, hp, rfl, rfl⟩ := hL.resolve_right pC_no
  refine ⟨_, rfl, ?_⟩
  refine aw_eq (lo' := _) (st' := []) (L' := (cw lt_C U oa S5)) rfl rfl rfl ?_
  refine a_iconst (v := 1) C dc_Pa_writeOwnCodes_8 (by decide) ?_
  refine a_istore_n (lo' := [some (.ref (oa u)), some (.int x1), some (.ref (oa x2)), some (.int 1)]) C dc_Pa_writeOwnCodes_9 rfl (by decide) rfl ?_
  refine aw_lo (lo' := [some (.ref (oa u)), none, some (.ref (oa x2)), some (.int 1)]) ⟨.inr rfl, .inl rfl, .inr rfl, .inr rfl, trivial⟩ ?_
  exact se_Pa_writeOwnCodes_10 C hQ hA hR hu x2 1 S5  hp
end C_Pa_writeOwnCodes
section C_Pa_writeOwnCodesc
variable {D : va_G} {z : Nat → ClassId} {U : ut} {oa : Nat → Nat}
set_option maxRecDepth 100000 in
theorem ct_Pa_writeOwnCodes {l : Launch} (u : Nat) (x1 : Int32) (x2 : Nat) (S : cs) {K : cs → Prop} (hu : c_cl U u = 6) (hp : p_Pa_writeOwnCodes U u x1 x2 S K) : ct gG D z l n_C_Pa_writeOwnCodes c_C_Pa_writeOwnCodes 4 (none) 2 200 [.ref (oa u), .int x1, .ref (oa x2)] (cw lt_C U oa S) 0 0 (pC_v lt_C U oa K (fun _ _ => False)) := by
  refine ct_of (lo := [some (.ref (oa u)), some (.int x1), some (.ref (oa x2)), none]) (by decide) g_ok (Nat.le_of_ble_eq_true rfl) rfl ?_
  intro X A _ C hR hQ hA _
  exact s_Pa_writeOwnCodes_0 C hQ hA hR hu x1 x2 S hp
end C_Pa_writeOwnCodesc
def b_Pa_writeCodes_60 (U : ut) (u : Nat) (x2 : Int32) (S : cs) (R60 : Int32 → cs → Prop) (K : cs → Prop) : Prop :=
  ((S.1 u 8) ≤ x2 → (K S)) ∧ (¬ ((S.1 u 8) ≤ x2) → (¬ S.2.2 u 5 = NU ∧ (c_cl U (S.2.2 u 5) = 950 ∧ (vp_in x2 (c_ln U (S.2.2 u 5)) ∧ ¬ S.2.2 (S.2.2 u 5) x2.toNatClampNeg = NU ∧ (p_Pa_writeOwnCodes U u x2 (S.2.2 (S.2.2 u 5) x2.toNatClampNeg) S (fun S76 => ¬ S76.2.2 u 6 = NU ∧ (c_cl U (S76.2.2 u 6) = 950 ∧ (vp_in x2 (c_ln U (S76.2.2 u 6)) ∧ ¬ S76.2.2 (S76.2.2 u 6) x2.toNatClampNeg = NU ∧ (p_Pa_writeOwnCodes U u (16 + x2) (S76.2.2 (S76.2.2 u 6) x2.toNatClampNeg) S76 (fun S90 => R60 (x2 + 1) S90))))))))))
def e_Pa_writeCodes_60 (U : ut) (u : Nat) (x2 : Int32) (S : cs) (K : cs → Prop) : Prop :=
  ∃ (I : Int32 → cs → Prop) (μ : Int32 → cs → Nat), I x2 S ∧ ∀ yx2 yS, I yx2 yS → b_Pa_writeCodes_60 U u yx2 yS (fun zx2 zS => I zx2 zS ∧ μ zx2 zS < μ yx2 yS) K
def b_Pa_writeCodes_4 (U : ut) (u : Nat) (x1 : Int32) (x2 : Int32) (S : cs) (R4 : Int32 → Int32 → cs → Prop) (K : cs → Prop) : Prop :=
  ((S.1 u 8) ≤ x2 → (p_Pa_addMark U u 196 S (fun S47 => ¬ S47.2.2 u 0 = NU ∧ (c_cl U (S47.2.2 u 0) = 9 ∧ (p_Ro_addTwo U (S47.2.2 u 0) x1 S47 (fun S55 => e_Pa_writeCodes_60 U u 0 S55 K)))))) ∧ (¬ ((S.1 u 8) ≤ x2) → (¬ S.2.2 u 5 = NU ∧ (c_cl U (S.2.2 u 5) = 950 ∧ (vp_in x2 (c_ln U (S.2.2 u 5)) ∧ ¬ S.2.2 (S.2.2 u 5) x2.toNatClampNeg = NU ∧ (c_cl U (S.2.2 (S.2.2 u 5) x2.toNatClampNeg) = 5 ∧ (¬ S.2.2 u 6 = NU ∧ (c_cl U (S.2.2 u 6) = 950 ∧ (vp_in x2 (c_ln U (S.2.2 u 6)) ∧ ¬ S.2.2 (S.2.2 u 6) x2.toNatClampNeg = NU ∧ (c_cl U (S.2.2 (S.2.2 u 6) x2.toNatClampNeg) = 5 ∧ (R4 (x1 + ((34 + (S.1 (S.2.2 (S.2.2 u 5) x2.toNatClampNeg) 4)) + (S.1 (S.2.2 (S.2.2 u 6) x2.toNatClampNeg) 4))) (x2 + 1) S))))))))))
def e_Pa_writeCodes_4 (U : ut) (u : Nat) (x1 : Int32) (x2 : Int32) (S : cs) (K : cs → Prop) : Prop :=
  ∃ (I : Int32 → Int32 → cs → Prop) (μ : Int32 → Int32 → cs → Nat), I x1 x2 S ∧ ∀ yx1 yx2 yS, I yx1 yx2 yS → b_Pa_writeCodes_4 U u yx1 yx2 yS (fun zx1 zx2 zS => I zx1 zx2 zS ∧ μ zx1 zx2 zS < μ yx1 yx2 yS) K
def p_Pa_writeCodes (U : ut) (u : Nat)  (S : cs) (K : cs → Prop) : Prop :=
  e_Pa_writeCodes_4 U u 2 0 S K
section C_Pa_writeCodes
variable {D : va_G} {z : Nat → ClassId} {A : Nat → Prop} {X : cx} {L0 : fw} {U : ut} {oa : Nat → Nat} {u : Nat} {K : cs → Prop}
set_option maxRecDepth 100000 in
set_option maxHeartbeats 1000000 in
theorem s_Pa_writeCodes_60 (C : fcx gG D z A X R_Pa c_C_Pa_writeCodes 3 (none)) (hQ : X.2.2.2.2.2.2.2.2.2.2 = eQ gG D z X.2.2.2.2.2.2.2.1 X.2.2.2.2.1 L0 0 0 (pC_v lt_C U oa K (fun _ _ => False))) (hA : A = owA gG L0 X.2.2.2.2.1.heap.size) (hR : X.2.2.2.1 = { frames := 3, cells := 1, slots := 6, locals := 300 }) (hu : c_cl U u = 6) (x2 : Int32) (S : cs) (R60 : Int32 → cs → Prop) (hR60 : ∀ yx2 yS, R60 yx2 yS → aw gG D z A X 3 60 [some (.ref (oa u)), none, some (.int yx2)] [] (cw lt_C U oa yS) 0 0) (hp : b_Pa_writeCodes_60 U u x2 S R60 K) : aw gG D z A X 3 60 [some (.ref (oa u)), none, some (.int x2)] [] (cw lt_C U oa S) 0 0 := by
  unfold b_Pa_writeCodes_60 at hp
  refine a_iload_n C dc_Pa_writeCodes_60 rfl rfl ?_
  refine a_aload_n C dc_Pa_writeCodes_61 rfl rfl ?_
  refine c_getI C u 8 dc_Pa_writeCodes_62 hu rfl rfl (Nat.le_of_ble_eq_true rfl) f_Pa_69 (Nat.le_of_ble_eq_true rfl) ?_
  refine a_icmp_ge (tgt := 99) C dc_Pa_writeCodes_65 (by decide) ⟨fun hc => ?_, fun hc => ?_⟩
  · have hp := hp.1 hc
    exact a_vret C hQ hA dc_Pa_writeCodes_99 rfl (Or.inl ⟨S, hp, rfl, rfl⟩)
  · have hp := hp.2 hc
    refine a_aload_n C dc_Pa_writeCodes_68 rfl rfl ?_
    refine a_iload_n C dc_Pa_writeCodes_69 rfl rfl ?_
    refine a_aload_n C dc_Pa_writeCodes_70 rfl rfl ?_
    refine c_getR C u 5 dc_Pa_writeCodes_71 hu rfl rfl (Nat.le_of_ble_eq_true rfl) f_Pa_52 rfl hp.1 ?_
    have hp := hp.2
    refine a_iload_n C dc_Pa_writeCodes_74 rfl rfl ?_
    have hc1 := hp.1
    have hp := hp.2
    refine c_aald C (S.2.2 u 5) 0 dc_Pa_writeCodes_75 hc1 rfl (by decide) rfl hp.1 hp.2.1 ?_
    have hp := hp.2.2
    refine c_call (rest := []) (av := .ref (oa u) :: [.int x2, .ref (oa (S.2.2 (S.2.2 u 5) x2.toNatClampNeg))]) C dc_Pa_writeCodes_76 (ct_Pa_writeOwnCodes u x2 (S.2.2 (S.2.2 u 5) x2.toNatClampNeg) S hu hp) cd_C_Pa_writeOwnCodes i_Pa (Nat.le_of_ble_eq_true rfl) (by rw [hR]; exact Nat.le_of_ble_eq_true rfl) (by rw [hR]; exact Nat.le_of_ble_eq_true rfl) (by rw [hR]; exact Nat.le_of_ble_eq_true rfl) (by rw [hR]; exact Nat.le_of_ble_eq_true rfl) (inv_V C u dc_Pa_writeCodes_76 l_Pa_220 im_C_Pa_writeOwnCodes se_C_Pa_writeOwnCodes cd_C_Pa_writeOwnCodes ⟨by decide, by decide⟩ ln_C_Pa_writeOwnCodes rfl rfl (cw_obj hu rfl) rfl rfl) (fun oc L1 hL => ?_)
    obtain ⟨S76, hp, rfl, rfl⟩ := hL.resolve_right pC_no
    refine ⟨_, rfl, ?_⟩
    refine aw_eq (lo' := _) (st' := []) (L' := (cw lt_C U oa S76)) rfl rfl rfl ?_
    refine a_aload_n C dc_Pa_writeCodes_79 rfl rfl ?_
    refine a_bipush (v := 16) C dc_Pa_writeCodes_80 (by decide) ?_
    refine a_iload_n C dc_Pa_writeCodes_82 rfl rfl ?_
    refine a_iadd C dc_Pa_writeCodes_83 ?_
    refine a_aload_n C dc_Pa_writeCodes_84 rfl rfl ?_
    refine c_getR C u 6 dc_Pa_writeCodes_85 hu rfl rfl (Nat.le_of_ble_eq_true rfl) f_Pa_56 rfl hp.1 ?_
    have hp := hp.2
    refine a_iload_n C dc_Pa_writeCodes_88 rfl rfl ?_
    have hc2 := hp.1
    have hp := hp.2
    refine c_aald C (S76.2.2 u 6) 0 dc_Pa_writeCodes_89 hc2 rfl (by decide) rfl hp.1 hp.2.1 ?_
    have hp := hp.2.2
    refine c_call (rest := []) (av := .ref (oa u) :: [.int (16 + x2), .ref (oa (S76.2.2 (S76.2.2 u 6) x2.toNatClampNeg))]) C dc_Pa_writeCodes_90 (ct_Pa_writeOwnCodes u (16 + x2) (S76.2.2 (S76.2.2 u 6) x2.toNatClampNeg) S76 hu hp) cd_C_Pa_writeOwnCodes i_Pa (Nat.le_of_ble_eq_true rfl) (by rw [hR]; exact Nat.le_of_ble_eq_true rfl) (by rw [hR]; exact Nat.le_of_ble_eq_true rfl) (by rw [hR]; exact Nat.le_of_ble_eq_true rfl) (by rw [hR]; exact Nat.le_of_ble_eq_true rfl) (inv_V C u dc_Pa_writeCodes_90 l_Pa_220 im_C_Pa_writeOwnCodes se_C_Pa_writeOwnCodes cd_C_Pa_writeOwnCodes ⟨by decide, by decide⟩ ln_C_Pa_writeOwnCodes rfl rfl (cw_obj hu rfl) rfl rfl) (fun oc L1 hL => ?_)
    obtain ⟨S90, hp, rfl, rfl⟩ := hL.resolve_right pC_no
    refine ⟨_, rfl, ?_⟩
    refine aw_eq (lo' := _) (st' := []) (L' := (cw lt_C U oa S90)) rfl rfl rfl ?_
    refine a_iinc (v := x2 + 1) (lo' := [some (.ref (oa u)), none, some (.int (x2 + 1))]) C dc_Pa_writeCodes_93 rfl rfl (by decide) rfl ?_
    refine a_goto (tgt := 60) C dc_Pa_writeCodes_96 (by decide) ?_
    refine aw_lo (lo' := [some (.ref (oa u)), none, some (.int (x2 + 1))]) ⟨.inr rfl, .inr rfl, .inr rfl, trivial⟩ ?_
    exact hR60 (x2 + 1) S90 hp
set_option maxRecDepth 100000 in
set_option maxHeartbeats 1000000 in
theorem se_Pa_writeCodes_60 (C : fcx gG D z A X R_Pa c_C_Pa_writeCodes 3 (none)) (hQ : X.2.2.2.2.2.2.2.2.2.2 = eQ gG D z X.2.2.2.2.2.2.2.1 X.2.2.2.2.1 L0 0 0 (pC_v lt_C U oa K (fun _ _ => False))) (hA : A = owA gG L0 X.2.2.2.2.1.heap.size) (hR : X.2.2.2.1 = { frames := 3, cells := 1, slots := 6, locals := 300 }) (hu : c_cl U u = 6) (x2 : Int32) (S : cs) (hp : e_Pa_writeCodes_60 U u x2 S K) : aw gG D z A X 3 60 [some (.ref (oa u)), none, some (.int x2)] [] (cw lt_C U oa S) 0 0 := by
  obtain ⟨I, μ, h0, hs⟩ := hp
  have key : ∀ (n : Nat) (yx2 : Int32) (yS : cs), μ yx2 yS < n → I yx2 yS → aw gG D z A X 3 60 [some (.ref (oa u)), none, some (.int yx2)] [] (cw lt_C U oa yS) 0 0 := by
    intro n
    induction n with
    | zero => intro yx2 yS h; omega
    | succ n ih =>
      intro yx2 yS hn hI
      exact s_Pa_writeCodes_60 C hQ hA hR hu yx2 yS _ (fun zx2 zS hw => ih zx2 zS (by omega) hw.1) (hs yx2 yS hI)
  exact key (μ x2 S + 1) x2 S (Nat.lt_succ_self _) h0
set_option maxRecDepth 100000 in
set_option maxHeartbeats 1000000 in
theorem s_Pa_writeCodes_4 (C : fcx gG D z A X R_Pa c_C_Pa_writeCodes 3 (none)) (hQ : X.2.2.2.2.2.2.2.2.2.2 = eQ gG D z X.2.2.2.2.2.2.2.1 X.2.2.2.2.1 L0 0 0 (pC_v lt_C U oa K (fun _ _ => False))) (hA : A = owA gG L0 X.2.2.2.2.1.heap.size) (hR : X.2.2.2.1 = { frames := 3, cells := 1, slots := 6, locals := 300 }) (hu : c_cl U u = 6) (x1 : Int32) (x2 : Int32) (S : cs) (R4 : Int32 → Int32 → cs → Prop) (hR4 : ∀ yx1 yx2 yS, R4 yx1 yx2 yS → aw gG D z A X 3 4 [some (.ref (oa u)), some (.int yx1), some (.int yx2)] [] (cw lt_C U oa yS) 0 0) (hp : b_Pa_writeCodes_4 U u x1 x2 S R4 K) : aw gG D z A X 3 4 [some (.ref (oa u)), some (.int x1), some (.int x2)] [] (cw lt_C U oa S) 0 0 := by
  unfold b_Pa_writeCodes_4 at hp
  refine a_iload_n C dc_Pa_writeCodes_4 rfl rfl ?_
  refine a_aload_n C dc_Pa_writeCodes_5 rfl rfl ?_
  refine c_getI C u 8 dc_Pa_writeCodes_6 hu rfl rfl (Nat.le_of_ble_eq_true rfl) f_Pa_69 (Nat.le_of_ble_eq_true rfl) ?_
  refine a_icmp_ge (tgt := 43) C dc_Pa_writeCodes_9 (by decide) ⟨fun hc => ?_, fun hc => ?_⟩
  · have hp := hp.1 hc
    refine a_aload_n C dc_Pa_writeCodes_43 rfl rfl ?_
    refine a_sipush (v := 196) C dc_Pa_writeCodes_44 (by decide) ?_
    refine c_call (rest := []) (av := .ref (oa u) :: [.int 196]) C dc_Pa_writeCodes_47 (ct_Pa_addMark u 196 S hu hp) cd_C_Pa_addMark i_Pa (Nat.le_of_ble_eq_true rfl) (by rw [hR]; exact Nat.le_of_ble_eq_true rfl) (by rw [hR]; exact Nat.le_of_ble_eq_true rfl) (by rw [hR]; exact Nat.le_of_ble_eq_true rfl) (by rw [hR]; exact Nat.le_of_ble_eq_true rfl) (inv_V C u dc_Pa_writeCodes_47 l_Pa_195 im_C_Pa_addMark se_C_Pa_addMark cd_C_Pa_addMark ⟨by decide, by decide⟩ ln_C_Pa_addMark rfl rfl (cw_obj hu rfl) rfl rfl) (fun oc L1 hL => ?_)
    obtain ⟨S47, hp, rfl, rfl⟩ := hL.resolve_right pC_no
    refine ⟨_, rfl, ?_⟩
    refine aw_eq (lo' := _) (st' := []) (L' := (cw lt_C U oa S47)) rfl rfl rfl ?_
    refine a_aload_n C dc_Pa_writeCodes_50 rfl rfl ?_
    refine c_getR C u 0 dc_Pa_writeCodes_51 hu rfl rfl (Nat.le_of_ble_eq_true rfl) f_Pa_15 rfl hp.1 ?_
    have hp := hp.2
    refine a_iload_n C dc_Pa_writeCodes_54 rfl rfl ?_
    have hc3 := hp.1
    have hp := hp.2
    refine c_call (rest := []) (av := .ref (oa (S47.2.2 u 0)) :: [.int x1]) C dc_Pa_writeCodes_55 (ct_Ro_addTwo (S47.2.2 u 0) x1 S47 hc3 hp) cd_C_Ro_addTwo i_Ro (Nat.le_of_ble_eq_true rfl) (by rw [hR]; exact Nat.le_of_ble_eq_true rfl) (by rw [hR]; exact Nat.le_of_ble_eq_true rfl) (by rw [hR]; exact Nat.le_of_ble_eq_true rfl) (by rw [hR]; exact Nat.le_of_ble_eq_true rfl) (inv_V C (S47.2.2 u 0) dc_Pa_writeCodes_55 l_Pa_208 im_C_Ro_addTwo se_C_Ro_addTwo cd_C_Ro_addTwo ⟨by decide, by decide⟩ ln_C_Ro_addTwo rfl rfl (cw_obj hc3 rfl) rfl rfl) (fun oc L1 hL => ?_)
    obtain ⟨S55, hp, rfl, rfl⟩ := hL.resolve_right pC_no
    refine ⟨_, rfl, ?_⟩
    refine aw_eq (lo' := _) (st' := []) (L' := (cw lt_C U oa S55)) rfl rfl rfl ?_
    refine a_iconst (v := 0) C dc_Pa_writeCodes_58 (by decide) ?_
    refine a_istore_n (lo' := [some (.ref (oa u)), some (.int x1), some (.int 0)]) C dc_Pa_writeCodes_59 rfl (by decide) rfl ?_
    refine aw_lo (lo' := [some (.ref (oa u)), none, some (.int 0)]) ⟨.inr rfl, .inl rfl, .inr rfl, trivial⟩ ?_
    exact se_Pa_writeCodes_60 C hQ hA hR hu 0 S55  hp
  · have hp := hp.2 hc
    refine a_iload_n C dc_Pa_writeCodes_12 rfl rfl ?_
    refine a_bipush (v := 34) C dc_Pa_writeCodes_13 (by decide) ?_
    refine a_aload_n C dc_Pa_writeCodes_15 rfl rfl ?_
    refine c_getR C u 5 dc_Pa_writeCodes_16 hu rfl rfl (Nat.le_of_ble_eq_true rfl) f_Pa_52 rfl hp.1 ?_
    have hp := hp.2
    refine a_iload_n C dc_Pa_writeCodes_19 rfl rfl ?_
    have hc4 := hp.1
    have hp := hp.2
    refine c_aald C (S.2.2 u 5) 0 dc_Pa_writeCodes_20 hc4 rfl (by decide) rfl hp.1 hp.2.1 ?_
    have hp := hp.2.2
    have hc5 := hp.1
    have hp := hp.2
    refine c_getIN C (S.2.2 (S.2.2 u 5) x2.toNatClampNeg) 4 dc_Pa_writeCodes_21 hc5 rfl rfl (Nat.le_of_ble_eq_true rfl) f_Pa_219 (Nat.le_of_ble_eq_true rfl) ?_
    refine a_iadd C dc_Pa_writeCodes_24 ?_
    refine a_aload_n C dc_Pa_writeCodes_25 rfl rfl ?_
    refine c_getR C u 6 dc_Pa_writeCodes_26 hu rfl rfl (Nat.le_of_ble_eq_true rfl) f_Pa_56 rfl hp.1 ?_
    have hp := hp.2
    refine a_iload_n C dc_Pa_writeCodes_29 rfl rfl ?_
    have hc6 := hp.1
    have hp := hp.2
    refine c_aald C (S.2.2 u 6) 0 dc_Pa_writeCodes_30 hc6 rfl (by decide) rfl hp.1 hp.2.1 ?_
    have hp := hp.2.2
    have hc7 := hp.1
    have hp := hp.2
    refine c_getIN C (S.2.2 (S.2.2 u 6) x2.toNatClampNeg) 4 dc_Pa_writeCodes_31 hc7 rfl rfl (Nat.le_of_ble_eq_true rfl) f_Pa_219 (Nat.le_of_ble_eq_true rfl) ?_
    refine a_iadd C dc_Pa_writeCodes_34 ?_
    refine a_iadd C dc_Pa_writeCodes_35 ?_
    refine a_istore_n (lo' := [some (.ref (oa u)), some (.int (x1 + ((34 + (S.1 (S.2.2 (S.2.2 u 5) x2.toNatClampNeg) 4)) + (S.1 (S.2.2 (S.2.2 u 6) x2.toNatClampNeg) 4)))), some (.int x2)]) C dc_Pa_writeCodes_36 rfl (by decide) rfl ?_
    refine a_iinc (v := x2 + 1) (lo' := [some (.ref (oa u)), some (.int (x1 + ((34 + (S.1 (S.2.2 (S.2.2 u 5) x2.toNatClampNeg) 4)) + (S.1 (S.2.2 (S.2.2 u 6) x2.toNatClampNeg) 4)))), some (.int (x2 + 1))]) C dc_Pa_writeCodes_37 rfl rfl (by decide) rfl ?_
    refine a_goto (tgt := 4) C dc_Pa_writeCodes_40 (by decide) ?_
    refine aw_lo (lo' := [some (.ref (oa u)), some (.int (x1 + ((34 + (S.1 (S.2.2 (S.2.2 u 5) x2.toNatClampNeg) 4)) + (S.1 (S.2.2 (S.2.2 u 6) x2.toNatClampNeg) 4)))), some (.int (x2 + 1))]) ⟨.inr rfl, .inr rfl, .inr rfl, trivial⟩ ?_
    exact hR4 (x1 + ((34 + (S.1 (S.2.2 (S.2.2 u 5) x2.toNatClampNeg) 4)) + (S.1 (S.2.2 (S.2.2 u 6) x2.toNatClampNeg) 4))) (x2 + 1) S hp
set_option maxRecDepth 100000 in
set_option maxHeartbeats 1000000 in
theorem se_Pa_writeCodes_4 (C : fcx gG D z A X R_Pa c_C_Pa_writeCodes 3 (none)) (hQ : X.2.2.2.2.2.2.2.2.2.2 = eQ gG D z X.2.2.2.2.2.2.2.1 X.2.2.2.2.1 L0 0 0 (pC_v lt_C U oa K (fun _ _ => False))) (hA : A = owA gG L0 X.2.2.2.2.1.heap.size) (hR : X.2.2.2.1 = { frames := 3, cells := 1, slots := 6, locals := 300 }) (hu : c_cl U u = 6) (x1 : Int32) (x2 : Int32) (S : cs) (hp : e_Pa_writeCodes_4 U u x1 x2 S K) : aw gG D z A X 3 4 [some (.ref (oa u)), some (.int x1), some (.int x2)] [] (cw lt_C U oa S) 0 0 := by
  obtain ⟨I, μ, h0, hs⟩ := hp
  have key : ∀ (n : Nat) (yx1 : Int32) (yx2 : Int32) (yS : cs), μ yx1 yx2 yS < n → I yx1 yx2 yS → aw gG D z A X 3 4 [some (.ref (oa u)), some (.int yx1), some (.int yx2)] [] (cw lt_C U oa yS) 0 0 := by
    intro n
    induction n with
    | zero => intro yx1 yx2 yS h; omega
    | succ n ih =>
      intro yx1 yx2 yS hn hI
      exact s_Pa_writeCodes_4 C hQ hA hR hu yx1 yx2 yS _ (fun zx1 zx2 zS hw => ih zx1 zx2 zS (by omega) hw.1) (hs yx1 yx2 yS hI)
  exact key (μ x1 x2 S + 1) x1 x2 S (Nat.lt_succ_self _) h0
set_option maxRecDepth 100000 in
set_option maxHeartbeats 1000000 in
theorem s_Pa_writeCodes_0 (C : fcx gG D z A X R_Pa c_C_Pa_writeCodes 3 (none)) (hQ : X.2.2.2.2.2.2.2.2.2.2 = eQ gG D z X.2.2.2.2.2.2.2.1 X.2.2.2.2.1 L0 0 0 (pC_v lt_C U oa K (fun _ _ => False))) (hA : A = owA gG L0 X.2.2.2.2.1.heap.size) (hR : X.2.2.2.1 = { frames := 3, cells := 1, slots := 6, locals := 300 }) (hu : c_cl U u = 6)  (S : cs) (hp : p_Pa_writeCodes U u S K) : aw gG D z A X 3 0 [some (.ref (oa u)), none, none] [] (cw lt_C U oa S) 0 0 := by
  unfold p_Pa_writeCodes at hp
  refine a_iconst (v := 2) C dc_Pa_writeCodes_0 (by decide) ?_
  refine a_istore_n (lo' := [some (.ref (oa u)), some (.int 2), none]) C dc_Pa_writeCodes_1 rfl (by decide) rfl ?_
  refine a_iconst (v := 0) C dc_Pa_writeCodes_2 (by decide) ?_
  refine a_istore_n (lo' := [some (.ref (oa u)), some (.int 2), some (.int 0)]) C dc_Pa_writeCodes_3 rfl (by decide) rfl ?_
  refine aw_lo (lo' := [some (.ref (oa u)), some (.int 2), some (.int 0)]) ⟨.inr rfl, .inr rfl, .inr rfl, trivial⟩ ?_
  exact se_Pa_writeCodes_4 C hQ hA hR hu 2 0 S  hp
end C_Pa_writeCodes
section C_Pa_writeCodesc
variable {D : va_G} {z : Nat → ClassId} {U : ut} {oa : Nat → Nat}
set_option maxRecDepth 100000 in
theorem ct_Pa_writeCodes {l : Launch} (u : Nat)  (S : cs) {K : cs → Prop} (hu : c_cl U u = 6) (hp : p_Pa_writeCodes U u S K) : ct gG D z l n_C_Pa_writeCodes c_C_Pa_writeCodes 3 (none) 3 300 [.ref (oa u)] (cw lt_C U oa S) 0 0 (pC_v lt_C U oa K (fun _ _ => False)) := by
  refine ct_of (lo := [some (.ref (oa u)), none, none]) (by decide) g_ok (Nat.le_of_ble_eq_true rfl) rfl ?_
  intro X A _ C hR hQ hA _
  exact s_Pa_writeCodes_0 C hQ hA hR hu S hp
end C_Pa_writeCodesc
def b_Pa_writeScan_42 (U : ut) (u : Nat) (x1 : Int32) (S : cs) (R42 : Int32 → cs → Prop) (K : cs → Prop) : Prop :=
  ¬ S.2.2 u 2 = NU ∧ (c_cl U (S.2.2 u 2) = 7 ∧ (((S.1 (S.2.2 u 2) 2) ≤ x1 → (¬ S.2.2 u 0 = NU ∧ (c_cl U (S.2.2 u 0) = 9 ∧ (p_Ro_add U (S.2.2 u 0) 0 S (fun S88 => ¬ S88.2.2 u 0 = NU ∧ (c_cl U (S88.2.2 u 0) = 9 ∧ (p_Ro_add U (S88.2.2 u 0) 63 S88 (fun S97 => ¬ S97.2.2 u 0 = NU ∧ (c_cl U (S97.2.2 u 0) = 9 ∧ (p_Ro_add U (S97.2.2 u 0) 0 S97 (fun S105 => K S105))))))))))) ∧ (¬ ((S.1 (S.2.2 u 2) 2) ≤ x1) → (¬ S.2.2 u 0 = NU ∧ (c_cl U (S.2.2 u 0) = 9 ∧ (p_Ro_add U (S.2.2 u 0) (x1 + 1) S (fun S60 => ¬ S60.2.2 u 0 = NU ∧ (p_Pa_kindOf x1 (fun v70 => c_cl U (S60.2.2 u 0) = 9 ∧ (p_Ro_add U (S60.2.2 u 0) (17 * v70) S60 (fun S74 => R42 (x1 + 1) S74)))))))))))
def e_Pa_writeScan_42 (U : ut) (u : Nat) (x1 : Int32) (S : cs) (K : cs → Prop) : Prop :=
  ∃ (I : Int32 → cs → Prop) (μ : Int32 → cs → Nat), I x1 S ∧ ∀ yx1 yS, I yx1 yS → b_Pa_writeScan_42 U u yx1 yS (fun zx1 zS => I zx1 zS ∧ μ zx1 zS < μ yx1 yS) K
def p_Pa_writeScan (U : ut) (u : Nat)  (S : cs) (K : cs → Prop) : Prop :=
  p_Pa_addMark U u 218 S (fun S4 => ¬ S4.2.2 u 0 = NU ∧ (¬ S4.2.2 u 2 = NU ∧ (c_cl U (S4.2.2 u 2) = 7 ∧ (c_cl U (S4.2.2 u 0) = 9 ∧ (p_Ro_addTwo U (S4.2.2 u 0) (6 + (2 * (S4.1 (S4.2.2 u 2) 2))) S4 (fun S23 => ¬ S23.2.2 u 0 = NU ∧ (¬ S23.2.2 u 2 = NU ∧ (c_cl U (S23.2.2 u 2) = 7 ∧ (c_cl U (S23.2.2 u 0) = 9 ∧ (p_Ro_add U (S23.2.2 u 0) (S23.1 (S23.2.2 u 2) 2) S23 (fun S37 => e_Pa_writeScan_42 U u 0 S37 K)))))))))))
section C_Pa_writeScan
variable {D : va_G} {z : Nat → ClassId} {A : Nat → Prop} {X : cx} {L0 : fw} {U : ut} {oa : Nat → Nat} {u : Nat} {K : cs → Prop}
set_option maxRecDepth 100000 in
set_option maxHeartbeats 1000000 in
theorem s_Pa_writeScan_42 (C : fcx gG D z A X R_Pa c_C_Pa_writeScan 2 (none)) (hQ : X.2.2.2.2.2.2.2.2.2.2 = eQ gG D z X.2.2.2.2.2.2.2.1 X.2.2.2.2.1 L0 0 0 (pC_v lt_C U oa K (fun _ _ => False))) (hA : A = owA gG L0 X.2.2.2.2.1.heap.size) (hR : X.2.2.2.1 = { frames := 3, cells := 1, slots := 6, locals := 300 }) (hu : c_cl U u = 6) (x1 : Int32) (S : cs) (R42 : Int32 → cs → Prop) (hR42 : ∀ yx1 yS, R42 yx1 yS → aw gG D z A X 2 42 [some (.ref (oa u)), some (.int yx1)] [] (cw lt_C U oa yS) 0 0) (hp : b_Pa_writeScan_42 U u x1 S R42 K) : aw gG D z A X 2 42 [some (.ref (oa u)), some (.int x1)] [] (cw lt_C U oa S) 0 0 := by
  unfold b_Pa_writeScan_42 at hp
  refine a_iload_n C dc_Pa_writeScan_42 rfl rfl ?_
  refine a_aload_n C dc_Pa_writeScan_43 rfl rfl ?_
  refine c_getR C u 2 dc_Pa_writeScan_44 hu rfl rfl (Nat.le_of_ble_eq_true rfl) f_Pa_31 rfl hp.1 ?_
  have hp := hp.2
  have hc1 := hp.1
  have hp := hp.2
  refine c_getIN C (S.2.2 u 2) 2 dc_Pa_writeScan_47 hc1 rfl rfl (Nat.le_of_ble_eq_true rfl) f_Pa_85 (Nat.le_of_ble_eq_true rfl) ?_
  refine a_icmp_ge (tgt := 83) C dc_Pa_writeScan_50 (by decide) ⟨fun hc => ?_, fun hc => ?_⟩
  · have hp := hp.1 hc
    refine a_aload_n C dc_Pa_writeScan_83 rfl rfl ?_
    refine c_getR C u 0 dc_Pa_writeScan_84 hu rfl rfl (Nat.le_of_ble_eq_true rfl) f_Pa_15 rfl hp.1 ?_
    have hp := hp.2
    refine a_iconst (v := 0) C dc_Pa_writeScan_87 (by decide) ?_
    have hc2 := hp.1
    have hp := hp.2
    refine c_call (rest := []) (av := .ref (oa (S.2.2 u 0)) :: [.int 0]) C dc_Pa_writeScan_88 (ct_Ro_add (S.2.2 u 0) 0 S hc2 hp) cd_C_Ro_add i_Ro (Nat.le_of_ble_eq_true rfl) (by rw [hR]; exact Nat.le_of_ble_eq_true rfl) (by rw [hR]; exact Nat.le_of_ble_eq_true rfl) (by rw [hR]; exact Nat.le_of_ble_eq_true rfl) (by rw [hR]; exact Nat.le_of_ble_eq_true rfl) (inv_V C (S.2.2 u 0) dc_Pa_writeScan_88 l_Pa_214 im_C_Ro_add se_C_Ro_add cd_C_Ro_add ⟨by decide, by decide⟩ ln_C_Ro_add rfl rfl (cw_obj hc2 rfl) rfl rfl) (fun oc L1 hL => ?_)
    obtain ⟨S88, hp, rfl, rfl⟩ := hL.resolve_right pC_no
    refine ⟨_, rfl, ?_⟩
    refine aw_eq (lo' := _) (st' := []) (L' := (cw lt_C U oa S88)) rfl rfl rfl ?_
    refine a_aload_n C dc_Pa_writeScan_91 rfl rfl ?_
    refine c_getR C u 0 dc_Pa_writeScan_92 hu rfl rfl (Nat.le_of_ble_eq_true rfl) f_Pa_15 rfl hp.1 ?_
    have hp := hp.2
    refine a_bipush (v := 63) C dc_Pa_writeScan_95 (by decide) ?_
    have hc3 := hp.1
    have hp := hp.2
    refine c_call (rest := []) (av := .ref (oa (S88.2.2 u 0)) :: [.int 63]) C dc_Pa_writeScan_97 (ct_Ro_add (S88.2.2 u 0) 63 S88 hc3 hp) cd_C_Ro_add i_Ro (Nat.le_of_ble_eq_true rfl) (by rw [hR]; exact Nat.le_of_ble_eq_true rfl) (by rw [hR]; exact Nat.le_of_ble_eq_true rfl) (by rw [hR]; exact Nat.le_of_ble_eq_true rfl) (by rw [hR]; exact Nat.le_of_ble_eq_true rfl) (inv_V C (S88.2.2 u 0) dc_Pa_writeScan_97 l_Pa_214 im_C_Ro_add se_C_Ro_add cd_C_Ro_add ⟨by decide, by decide⟩ ln_C_Ro_add rfl rfl (cw_obj hc3 rfl) rfl rfl) (fun oc L1 hL => ?_)
    obtain ⟨S97, hp, rfl, rfl⟩ := hL.resolve_right pC_no
    refine ⟨_, rfl, ?_⟩
    refine aw_eq (lo' := _) (st' := []) (L' := (cw lt_C U oa S97)) rfl rfl rfl ?_
    refine a_aload_n C dc_Pa_writeScan_100 rfl rfl ?_
    refine c_getR C u 0 dc_Pa_writeScan_101 hu rfl rfl (Nat.le_of_ble_eq_true rfl) f_Pa_15 rfl hp.1 ?_
    have hp := hp.2
    refine a_iconst (v := 0) C dc_Pa_writeScan_104 (by decide) ?_
    have hc4 := hp.1
    have hp := hp.2
    refine c_call (rest := []) (av := .ref (oa (S97.2.2 u 0)) :: [.int 0]) C dc_Pa_writeScan_105 (ct_Ro_add (S97.2.2 u 0) 0 S97 hc4 hp) cd_C_Ro_add i_Ro (Nat.le_of_ble_eq_true rfl) (by rw [hR]; exact Nat.le_of_ble_eq_true rfl) (by rw [hR]; exact Nat.le_of_ble_eq_true rfl) (by rw [hR]; exact Nat.le_of_ble_eq_true rfl) (by rw [hR]; exact Nat.le_of_ble_eq_true rfl) (inv_V C (S97.2.2 u 0) dc_Pa_writeScan_105 l_Pa_214 im_C_Ro_add se_C_Ro_add cd_C_Ro_add ⟨by decide, by decide⟩ ln_C_Ro_add rfl rfl (cw_obj hc4 rfl) rfl rfl) (fun oc L1 hL => ?_)
    obtain ⟨S105, hp, rfl, rfl⟩ := hL.resolve_right pC_no
    refine ⟨_, rfl, ?_⟩
    refine aw_eq (lo' := _) (st' := []) (L' := (cw lt_C U oa S105)) rfl rfl rfl ?_
    exact a_vret C hQ hA dc_Pa_writeScan_108 rfl (Or.inl ⟨S105, hp, rfl, rfl⟩)
  · have hp := hp.2 hc
    refine a_aload_n C dc_Pa_writeScan_53 rfl rfl ?_
    refine c_getR C u 0 dc_Pa_writeScan_54 hu rfl rfl (Nat.le_of_ble_eq_true rfl) f_Pa_15 rfl hp.1 ?_
    have hp := hp.2
    refine a_iload_n C dc_Pa_writeScan_57 rfl rfl ?_
    refine a_iconst (v := 1) C dc_Pa_writeScan_58 (by decide) ?_
    refine a_iadd C dc_Pa_writeScan_59 ?_
    have hc5 := hp.1
    have hp := hp.2
    refine c_call (rest := []) (av := .ref (oa (S.2.2 u 0)) :: [.int (x1 + 1)]) C dc_Pa_writeScan_60 (ct_Ro_add (S.2.2 u 0) (x1 + 1) S hc5 hp) cd_C_Ro_add i_Ro (Nat.le_of_ble_eq_true rfl) (by rw [hR]; exact Nat.le_of_ble_eq_true rfl) (by rw [hR]; exact Nat.le_of_ble_eq_true rfl) (by rw [hR]; exact Nat.le_of_ble_eq_true rfl) (by rw [hR]; exact Nat.le_of_ble_eq_true rfl) (inv_V C (S.2.2 u 0) dc_Pa_writeScan_60 l_Pa_214 im_C_Ro_add se_C_Ro_add cd_C_Ro_add ⟨by decide, by decide⟩ ln_C_Ro_add rfl rfl (cw_obj hc5 rfl) rfl rfl) (fun oc L1 hL => ?_)
    obtain ⟨S60, hp, rfl, rfl⟩ := hL.resolve_right pC_no
    refine ⟨_, rfl, ?_⟩
    refine aw_eq (lo' := _) (st' := []) (L' := (cw lt_C U oa S60)) rfl rfl rfl ?_
    refine a_aload_n C dc_Pa_writeScan_63 rfl rfl ?_
    refine c_getR C u 0 dc_Pa_writeScan_64 hu rfl rfl (Nat.le_of_ble_eq_true rfl) f_Pa_15 rfl hp.1 ?_
    have hp := hp.2
    refine a_bipush (v := 17) C dc_Pa_writeScan_67 (by decide) ?_
    refine a_iload_n C dc_Pa_writeScan_69 rfl rfl ?_
    refine a_callP (rest := [.int 17, .ref (oa (S60.2.2 u 0))]) (av := [.int x1]) C dc_Pa_writeScan_70 (ct_Pa_kindOf x1 hp) cd_C_Pa_kindOf i_Pa (Nat.le_of_ble_eq_true rfl) (by rw [hR]; exact Nat.le_of_ble_eq_true rfl) (by rw [hR]; exact Nat.le_of_ble_eq_true rfl) (by rw [hR]; exact Nat.le_of_ble_eq_true rfl) (by rw [hR]; exact Nat.le_of_ble_eq_true rfl) (inv_S C dc_Pa_writeScan_70 l_Pa_89 st_C_Pa_kindOf i_Pa cd_C_Pa_kindOf ⟨by decide, by decide⟩ ln_C_Pa_kindOf rfl) (fun v70 hp => ?_)
    refine aw_eq (lo' := _) (st' := [.int v70, .int 17, .ref (oa (S60.2.2 u 0))]) (L' := (cw lt_C U oa S60)) rfl rfl rfl ?_
    refine a_imul C dc_Pa_writeScan_73 ?_
    have hc6 := hp.1
    have hp := hp.2
    refine c_call (rest := []) (av := .ref (oa (S60.2.2 u 0)) :: [.int (17 * v70)]) C dc_Pa_writeScan_74 (ct_Ro_add (S60.2.2 u 0) (17 * v70) S60 hc6 hp) cd_C_Ro_add i_Ro (Nat.le_of_ble_eq_true rfl) (by rw [hR]; exact Nat.le_of_ble_eq_true rfl) (by rw [hR]; exact Nat.le_of_ble_eq_true rfl) (by rw [hR]; exact Nat.le_of_ble_eq_true rfl) (by rw [hR]; exact Nat.le_of_ble_eq_true rfl) (inv_V C (S60.2.2 u 0) dc_Pa_writeScan_74 l_Pa_214 im_C_Ro_add se_C_Ro_add cd_C_Ro_add ⟨by decide, by decide⟩ ln_C_Ro_add rfl rfl (cw_obj hc6 rfl) rfl rfl) (fun oc L1 hL => ?_)
    obtain ⟨S74, hp, rfl, rfl⟩ := hL.resolve_right pC_no
    refine ⟨_, rfl, ?_⟩
    refine aw_eq (lo' := _) (st' := []) (L' := (cw lt_C U oa S74)) rfl rfl rfl ?_
    refine a_iinc (v := x1 + 1) (lo' := [some (.ref (oa u)), some (.int (x1 + 1))]) C dc_Pa_writeScan_77 rfl rfl (by decide) rfl ?_
    refine a_goto (tgt := 42) C dc_Pa_writeScan_80 (by decide) ?_
    refine aw_lo (lo' := [some (.ref (oa u)), some (.int (x1 + 1))]) ⟨.inr rfl, .inr rfl, trivial⟩ ?_
    exact hR42 (x1 + 1) S74 hp
set_option maxRecDepth 100000 in
set_option maxHeartbeats 1000000 in
theorem se_Pa_writeScan_42 (C : fcx gG D z A X R_Pa c_C_Pa_writeScan 2 (none)) (hQ : X.2.2.2.2.2.2.2.2.2.2 = eQ gG D z X.2.2.2.2.2.2.2.1 X.2.2.2.2.1 L0 0 0 (pC_v lt_C U oa K (fun _ _ => False))) (hA : A = owA gG L0 X.2.2.2.2.1.heap.size) (hR : X.2.2.2.1 = { frames := 3, cells := 1, slots := 6, locals := 300 }) (hu : c_cl U u = 6) (x1 : Int32) (S : cs) (hp : e_Pa_writeScan_42 U u x1 S K) : aw gG D z A X 2 42 [some (.ref (oa u)), some (.int x1)] [] (cw lt_C U oa S) 0 0 := by
  obtain ⟨I, μ, h0, hs⟩ := hp
  have key : ∀ (n : Nat) (yx1 : Int32) (yS : cs), μ yx1 yS < n → I yx1 yS → aw gG D z A X 2 42 [some (.ref (oa u)), some (.int yx1)] [] (cw lt_C U oa yS) 0 0 := by
    intro n
    induction n with
    | zero => intro yx1 yS h; omega
    | succ n ih =>
      intro yx1 yS hn hI
      exact s_Pa_writeScan_42 C hQ hA hR hu yx1 yS _ (fun zx1 zS hw => ih zx1 zS (by omega) hw.1) (hs yx1 yS hI)
  exact key (μ x1 S + 1) x1 S (Nat.lt_succ_self _) h0
set_option maxRecDepth 100000 in
set_option maxHeartbeats 1000000 in
theorem s_Pa_writeScan_0 (C : fcx gG D z A X R_Pa c_C_Pa_writeScan 2 (none)) (hQ : X.2.2.2.2.2.2.2.2.2.2 = eQ gG D z X.2.2.2.2.2.2.2.1 X.2.2.2.2.1 L0 0 0 (pC_v lt_C U oa K (fun _ _ => False))) (hA : A = owA gG L0 X.2.2.2.2.1.heap.size) (hR : X.2.2.2.1 = { frames := 3, cells := 1, slots := 6, locals := 300 }) (hu : c_cl U u = 6)  (S : cs) (hp : p_Pa_writeScan U u S K) : aw gG D z A X 2 0 [some (.ref (oa u)), none] [] (cw lt_C U oa S) 0 0 := by
  unfold p_Pa_writeScan at hp
  refine a_aload_n C dc_Pa_writeScan_0 rfl rfl ?_
  refine a_sipush (v := 218) C dc_Pa_writeScan_1 (by decide) ?_
  refine c_call (rest := []) (av := .ref (oa u) :: [.int 218]) C dc_Pa_writeScan_4 (ct_Pa_addMark u 218 S hu hp) cd_C_Pa_addMark i_Pa (Nat.le_of_ble_eq_true rfl) (by rw [hR]; exact Nat.le_of_ble_eq_true rfl) (by rw [hR]; exact Nat.le_of_ble_eq_true rfl) (by rw [hR]; exact Nat.le_of_ble_eq_true rfl) (by rw [hR]; exact Nat.le_of_ble_eq_true rfl) (inv_V C u dc_Pa_writeScan_4 l_Pa_195 im_C_Pa_addMark se_C_Pa_addMark cd_C_Pa_addMark ⟨by decide, by decide⟩ ln_C_Pa_addMark rfl rfl (cw_obj hu rfl) rfl rfl) (fun oc L1 hL => ?_)
  obtain ⟨S4, hp, rfl, rfl⟩ := hL.resolve_right pC_no
  refine ⟨_, rfl, ?_⟩
  refine aw_eq (lo' := _) (st' := []) (L' := (cw lt_C U oa S4)) rfl rfl rfl ?_
  refine a_aload_n C dc_Pa_writeScan_7 rfl rfl ?_
  refine c_getR C u 0 dc_Pa_writeScan_8 hu rfl rfl (Nat.le_of_ble_eq_true rfl) f_Pa_15 rfl hp.1 ?_
  have hp := hp.2
  refine a_bipush (v := 6) C dc_Pa_writeScan_11 (by decide) ?_
  refine a_iconst (v := 2) C dc_Pa_writeScan_13 (by decide) ?_
  refine a_aload_n C dc_Pa_writeScan_14 rfl rfl ?_
  refine c_getR C u 2 dc_Pa_writeScan_15 hu rfl rfl (Nat.le_of_ble_eq_true rfl) f_Pa_31 rfl hp.1 ?_
  have hp := hp.2
  have hc7 := hp.1
  have hp := hp.2
  refine c_getIN C (S4.2.2 u 2) 2 dc_Pa_writeScan_18 hc7 rfl rfl (Nat.le_of_ble_eq_true rfl) f_Pa_85 (Nat.le_of_ble_eq_true rfl) ?_
  refine a_imul C dc_Pa_writeScan_21 ?_
  refine a_iadd C dc_Pa_writeScan_22 ?_
  have hc8 := hp.1
  have hp := hp.2
  refine c_call (rest := []) (av := .ref (oa (S4.2.2 u 0)) :: [.int (6 + (2 * (S4.1 (S4.2.2 u 2) 2)))]) C dc_Pa_writeScan_23 (ct_Ro_addTwo (S4.2.2 u 0) (6 + (2 * (S4.1 (S4.2.2 u 2) 2))) S4 hc8 hp) cd_C_Ro_addTwo i_Ro (Nat.le_of_ble_eq_true rfl) (by rw [hR]; exact Nat.le_of_ble_eq_true rfl) (by rw [hR]; exact Nat.le_of_ble_eq_true rfl) (by rw [hR]; exact Nat.le_of_ble_eq_true rfl) (by rw [hR]; exact Nat.le_of_ble_eq_true rfl) (inv_V C (S4.2.2 u 0) dc_Pa_writeScan_23 l_Pa_208 im_C_Ro_addTwo se_C_Ro_addTwo cd_C_Ro_addTwo ⟨by decide, by decide⟩ ln_C_Ro_addTwo rfl rfl (cw_obj hc8 rfl) rfl rfl) (fun oc L1 hL => ?_)
  obtain ⟨S23, hp, rfl, rfl⟩ := hL.resolve_right pC_no
  refine ⟨_, rfl, ?_⟩
  refine aw_eq (lo' := _) (st' := []) (L' := (cw lt_C U oa S23)) rfl rfl rfl ?_
  refine a_aload_n C dc_Pa_writeScan_26 rfl rfl ?_
  refine c_getR C u 0 dc_Pa_writeScan_27 hu rfl rfl (Nat.le_of_ble_eq_true rfl) f_Pa_15 rfl hp.1 ?_
  have hp := hp.2
  refine a_aload_n C dc_Pa_writeScan_30 rfl rfl ?_
  refine c_getR C u 2 dc_Pa_writeScan_31 hu rfl rfl (Nat.le_of_ble_eq_true rfl) f_Pa_31 rfl hp.1 ?_
  have hp := hp.2
  have hc9 := hp.1
  have hp := hp.2
  refine c_getIN C (S23.2.2 u 2) 2 dc_Pa_writeScan_34 hc9 rfl rfl (Nat.le_of_ble_eq_true rfl) f_Pa_85 (Nat.le_of_ble_eq_true rfl) ?_
  have hc10 := hp.1
  have hp := hp.2
  refine c_call (rest := []) (av := .ref (oa (S23.2.2 u 0)) :: [.int (S23.1 (S23.2.2 u 2) 2)]) C dc_Pa_writeScan_37 (ct_Ro_add (S23.2.2 u 0) (S23.1 (S23.2.2 u 2) 2) S23 hc10 hp) cd_C_Ro_add i_Ro (Nat.le_of_ble_eq_true rfl) (by rw [hR]; exact Nat.le_of_ble_eq_true rfl) (by rw [hR]; exact Nat.le_of_ble_eq_true rfl) (by rw [hR]; exact Nat.le_of_ble_eq_true rfl) (by rw [hR]; exact Nat.le_of_ble_eq_true rfl) (inv_V C (S23.2.2 u 0) dc_Pa_writeScan_37 l_Pa_214 im_C_Ro_add se_C_Ro_add cd_C_Ro_add ⟨by decide, by decide⟩ ln_C_Ro_add rfl rfl (cw_obj hc10 rfl) rfl rfl) (fun oc L1 hL => ?_)
  obtain ⟨S37, hp, rfl, rfl⟩ := hL.resolve_right pC_no
  refine ⟨_, rfl, ?_⟩
  refine aw_eq (lo' := _) (st' := []) (L' := (cw lt_C U oa S37)) rfl rfl rfl ?_
  refine a_iconst (v := 0) C dc_Pa_writeScan_40 (by decide) ?_
  refine a_istore_n (lo' := [some (.ref (oa u)), some (.int 0)]) C dc_Pa_writeScan_41 rfl (by decide) rfl ?_
  refine aw_lo (lo' := [some (.ref (oa u)), some (.int 0)]) ⟨.inr rfl, .inr rfl, trivial⟩ ?_
  exact se_Pa_writeScan_42 C hQ hA hR hu 0 S37  hp
end C_Pa_writeScan
section C_Pa_writeScanc
variable {D : va_G} {z : Nat → ClassId} {U : ut} {oa : Nat → Nat}
set_option maxRecDepth 100000 in
theorem ct_Pa_writeScan {l : Launch} (u : Nat)  (S : cs) {K : cs → Prop} (hu : c_cl U u = 6) (hp : p_Pa_writeScan U u S K) : ct gG D z l n_C_Pa_writeScan c_C_Pa_writeScan 2 (none) 3 300 [.ref (oa u)] (cw lt_C U oa S) 0 0 (pC_v lt_C U oa K (fun _ _ => False)) := by
  refine ct_of (lo := [some (.ref (oa u)), none]) (by decide) g_ok (Nat.le_of_ble_eq_true rfl) rfl ?_
  intro X A _ C hR hQ hA _
  exact s_Pa_writeScan_0 C hQ hA hR hu S hp
end C_Pa_writeScanc
def b_Pa_write_55 (U : ut) (u : Nat) (x2 : Int32) (S : cs) (K : cs → Prop) : Prop :=
  p_Pa_writeScan U u S (fun S56 => p_Pa_writeData U u x2 S56 (fun S61 => p_Pa_addMark U u 217 S61 (fun S68 => K S68)))
def p_Pa_write (U : ut) (u : Nat) (x1 : Nat) (x2 : Int32) (S : cs) (K : cs → Prop) : Prop :=
  ¬ S.2.2 u 0 = NU ∧ (c_cl U (S.2.2 u 0) = 9 ∧ (p_Pa_addMark U u 216 (va_up S.1 (S.2.2 u 0) (upd (S.1 (S.2.2 u 0)) 1 0), S.2.1, S.2.2) (fun S12 => p_Pa_writeTables U u x1 S12 (fun S17 => p_Pa_writeFrame U u S17 (fun S21 => p_Pa_writeCodes U u S21 (fun S25 => (x2 ≤ 0 → (b_Pa_write_55 U u x2 S25 K)) ∧ (¬ (x2 ≤ 0) → (p_Pa_addMark U u 221 S25 (fun S36 => ¬ S36.2.2 u 0 = NU ∧ (c_cl U (S36.2.2 u 0) = 9 ∧ (p_Ro_addTwo U (S36.2.2 u 0) 4 S36 (fun S44 => ¬ S44.2.2 u 0 = NU ∧ (c_cl U (S44.2.2 u 0) = 9 ∧ (p_Ro_addTwo U (S44.2.2 u 0) x2 S44 (fun S52 => b_Pa_write_55 U u x2 S52 K)))))))))))))))
section C_Pa_write
variable {D : va_G} {z : Nat → ClassId} {A : Nat → Prop} {X : cx} {L0 : fw} {U : ut} {oa : Nat → Nat} {u : Nat} {K : cs → Prop}
set_option maxRecDepth 100000 in
set_option maxHeartbeats 1000000 in
theorem s_Pa_write_55 (C : fcx gG D z A X R_Pa c_C_Pa_write 3 (none)) (hQ : X.2.2.2.2.2.2.2.2.2.2 = eQ gG D z X.2.2.2.2.2.2.2.1 X.2.2.2.2.1 L0 0 0 (pC_v lt_C U oa K (fun _ _ => False))) (hA : A = owA gG L0 X.2.2.2.2.1.heap.size) (hR : X.2.2.2.1 = { frames := 6, cells := 1, slots := 6, locals := 600 }) (hu : c_cl U u = 6) (x2 : Int32) (S : cs) (hp : b_Pa_write_55 U u x2 S K) : aw gG D z A X 3 55 [some (.ref (oa u)), none, some (.int x2)] [] (cw lt_C U oa S) 0 0 := by
  unfold b_Pa_write_55 at hp
  refine a_aload_n C dc_Pa_write_55 rfl rfl ?_
  refine c_call (rest := []) (av := .ref (oa u) :: []) C dc_Pa_write_56 (ct_Pa_writeScan u S hu hp) cd_C_Pa_writeScan i_Pa (Nat.le_of_ble_eq_true rfl) (by rw [hR]; exact Nat.le_of_ble_eq_true rfl) (by rw [hR]; exact Nat.le_of_ble_eq_true rfl) (by rw [hR]; exact Nat.le_of_ble_eq_true rfl) (by rw [hR]; exact Nat.le_of_ble_eq_true rfl) (inv_V C u dc_Pa_write_56 l_Pa_211 im_C_Pa_writeScan se_C_Pa_writeScan cd_C_Pa_writeScan ⟨by decide, by decide⟩ ln_C_Pa_writeScan rfl rfl (cw_obj hu rfl) rfl rfl) (fun oc L1 hL => ?_)
  obtain ⟨S56, hp, rfl, rfl⟩ := hL.resolve_right pC_no
  refine ⟨_, rfl, ?_⟩
  refine aw_eq (lo' := _) (st' := []) (L' := (cw lt_C U oa S56)) rfl rfl rfl ?_
  refine a_aload_n C dc_Pa_write_59 rfl rfl ?_
  refine a_iload_n C dc_Pa_write_60 rfl rfl ?_
  refine c_call (rest := []) (av := .ref (oa u) :: [.int x2]) C dc_Pa_write_61 (ct_Pa_writeData u x2 S56 hu hp) cd_C_Pa_writeData i_Pa (Nat.le_of_ble_eq_true rfl) (by rw [hR]; exact Nat.le_of_ble_eq_true rfl) (by rw [hR]; exact Nat.le_of_ble_eq_true rfl) (by rw [hR]; exact Nat.le_of_ble_eq_true rfl) (by rw [hR]; exact Nat.le_of_ble_eq_true rfl) (inv_V C u dc_Pa_write_61 l_Pa_182 im_C_Pa_writeData se_C_Pa_writeData cd_C_Pa_writeData ⟨by decide, by decide⟩ ln_C_Pa_writeData rfl rfl (cw_obj hu rfl) rfl rfl) (fun oc L1 hL => ?_)
  obtain ⟨S61, hp, rfl, rfl⟩ := hL.resolve_right pC_no
  refine ⟨_, rfl, ?_⟩
  refine aw_eq (lo' := _) (st' := []) (L' := (cw lt_C U oa S61)) rfl rfl rfl ?_
  refine a_aload_n C dc_Pa_write_64 rfl rfl ?_
  refine a_sipush (v := 217) C dc_Pa_write_65 (by decide) ?_
  refine c_call (rest := []) (av := .ref (oa u) :: [.int 217]) C dc_Pa_write_68 (ct_Pa_addMark u 217 S61 hu hp) cd_C_Pa_addMark i_Pa (Nat.le_of_ble_eq_true rfl) (by rw [hR]; exact Nat.le_of_ble_eq_true rfl) (by rw [hR]; exact Nat.le_of_ble_eq_true rfl) (by rw [hR]; exact Nat.le_of_ble_eq_true rfl) (by rw [hR]; exact Nat.le_of_ble_eq_true rfl) (inv_V C u dc_Pa_write_68 l_Pa_195 im_C_Pa_addMark se_C_Pa_addMark cd_C_Pa_addMark ⟨by decide, by decide⟩ ln_C_Pa_addMark rfl rfl (cw_obj hu rfl) rfl rfl) (fun oc L1 hL => ?_)
  obtain ⟨S68, hp, rfl, rfl⟩ := hL.resolve_right pC_no
  refine ⟨_, rfl, ?_⟩
  refine aw_eq (lo' := _) (st' := []) (L' := (cw lt_C U oa S68)) rfl rfl rfl ?_
  exact a_vret C hQ hA dc_Pa_write_71 rfl (Or.inl ⟨S68, hp, rfl, rfl⟩)
set_option maxRecDepth 100000 in
set_option maxHeartbeats 1000000 in
theorem s_Pa_write_0 (C : fcx gG D z A X R_Pa c_C_Pa_write 3 (none)) (hQ : X.2.2.2.2.2.2.2.2.2.2 = eQ gG D z X.2.2.2.2.2.2.2.1 X.2.2.2.2.1 L0 0 0 (pC_v lt_C U oa K (fun _ _ => False))) (hA : A = owA gG L0 X.2.2.2.2.1.heap.size) (hR : X.2.2.2.1 = { frames := 6, cells := 1, slots := 6, locals := 600 }) (hu : c_cl U u = 6) (x1 : Nat) (x2 : Int32) (S : cs) (hp : p_Pa_write U u x1 x2 S K) : aw gG D z A X 3 0 [some (.ref (oa u)), some (.ref (oa x1)), some (.int x2)] [] (cw lt_C U oa S) 0 0 := by
  unfold p_Pa_write at hp
  refine a_aload_n C dc_Pa_write_0 rfl rfl ?_
  refine c_getR C u 0 dc_Pa_write_1 hu rfl rfl (Nat.le_of_ble_eq_true rfl) f_Pa_15 rfl hp.1 ?_
  have hp := hp.2
  refine a_iconst (v := 0) C dc_Pa_write_4 (by decide) ?_
  have hc1 := hp.1
  have hp := hp.2
  refine c_putIN (ty := .int) C (S.2.2 u 0) 1 dc_Pa_write_5 hc1 rfl rfl (Nat.le_of_ble_eq_true rfl) f_Pa_192 (Nat.le_of_ble_eq_true rfl) rfl rfl rfl rfl ?_
  refine aw_eq (lo' := _) (st' := _) (L' := (cw lt_C U oa (va_up S.1 (S.2.2 u 0) (upd (S.1 (S.2.2 u 0)) 1 0), S.2.1, S.2.2))) rfl rfl rfl ?_
  refine a_aload_n C dc_Pa_write_8 rfl rfl ?_
  refine a_sipush (v := 216) C dc_Pa_write_9 (by decide) ?_
  refine c_call (rest := []) (av := .ref (oa u) :: [.int 216]) C dc_Pa_write_12 (ct_Pa_addMark u 216 (va_up S.1 (S.2.2 u 0) (upd (S.1 (S.2.2 u 0)) 1 0), S.2.1, S.2.2) hu hp) cd_C_Pa_addMark i_Pa (Nat.le_of_ble_eq_true rfl) (by rw [hR]; exact Nat.le_of_ble_eq_true rfl) (by rw [hR]; exact Nat.le_of_ble_eq_true rfl) (by rw [hR]; exact Nat.le_of_ble_eq_true rfl) (by rw [hR]; exact Nat.le_of_ble_eq_true rfl) (inv_V C u dc_Pa_write_12 l_Pa_195 im_C_Pa_addMark se_C_Pa_addMark cd_C_Pa_addMark ⟨by decide, by decide⟩ ln_C_Pa_addMark rfl rfl (cw_obj hu rfl) rfl rfl) (fun oc L1 hL => ?_)
  obtain ⟨S12, hp, rfl, rfl⟩ := hL.resolve_right pC_no
  refine ⟨_, rfl, ?_⟩
  refine aw_eq (lo' := _) (st' := []) (L' := (cw lt_C U oa S12)) rfl rfl rfl ?_
  refine a_aload_n C dc_Pa_write_15 rfl rfl ?_
  refine a_aload_n C dc_Pa_write_16 rfl rfl ?_
  refine c_call (rest := []) (av := .ref (oa u) :: [.ref (oa x1)]) C dc_Pa_write_17 (ct_Pa_writeTables u x1 S12 hu hp) cd_C_Pa_writeTables i_Pa (Nat.le_of_ble_eq_true rfl) (by rw [hR]; exact Nat.le_of_ble_eq_true rfl) (by rw [hR]; exact Nat.le_of_ble_eq_true rfl) (by rw [hR]; exact Nat.le_of_ble_eq_true rfl) (by rw [hR]; exact Nat.le_of_ble_eq_true rfl) (inv_V C u dc_Pa_write_17 l_Pa_198 im_C_Pa_writeTables se_C_Pa_writeTables cd_C_Pa_writeTables ⟨by decide, by decide⟩ ln_C_Pa_writeTables rfl rfl (cw_obj hu rfl) rfl rfl) (fun oc L1 hL => ?_)
  obtain ⟨S17, hp, rfl, rfl⟩ := hL.resolve_right pC_no
  refine ⟨_, rfl, ?_⟩
  refine aw_eq (lo' := _) (st' := []) (L' := (cw lt_C U oa S17)) rfl rfl rfl ?_
  refine a_aload_n C dc_Pa_write_20 rfl rfl ?_
  refine c_call (rest := []) (av := .ref (oa u) :: []) C dc_Pa_write_21 (ct_Pa_writeFrame u S17 hu hp) cd_C_Pa_writeFrame i_Pa (Nat.le_of_ble_eq_true rfl) (by rw [hR]; exact Nat.le_of_ble_eq_true rfl) (by rw [hR]; exact Nat.le_of_ble_eq_true rfl) (by rw [hR]; exact Nat.le_of_ble_eq_true rfl) (by rw [hR]; exact Nat.le_of_ble_eq_true rfl) (inv_V C u dc_Pa_write_21 l_Pa_202 im_C_Pa_writeFrame se_C_Pa_writeFrame cd_C_Pa_writeFrame ⟨by decide, by decide⟩ ln_C_Pa_writeFrame rfl rfl (cw_obj hu rfl) rfl rfl) (fun oc L1 hL => ?_)
  obtain ⟨S21, hp, rfl, rfl⟩ := hL.resolve_right pC_no
  refine ⟨_, rfl, ?_⟩
  refine aw_eq (lo' := _) (st' := []) (L' := (cw lt_C U oa S21)) rfl rfl rfl ?_
  refine a_aload_n C dc_Pa_write_24 rfl rfl ?_
  refine c_call (rest := []) (av := .ref (oa u) :: []) C dc_Pa_write_25 (ct_Pa_writeCodes u S21 hu hp) cd_C_Pa_writeCodes i_Pa (Nat.le_of_ble_eq_true rfl) (by rw [hR]; exact Nat.le_of_ble_eq_true rfl) (by rw [hR]; exact Nat.le_of_ble_eq_true rfl) (by rw [hR]; exact Nat.le_of_ble_eq_true rfl) (by rw [hR]; exact Nat.le_of_ble_eq_true rfl) (inv_V C u dc_Pa_write_25 l_Pa_205 im_C_Pa_writeCodes se_C_Pa_writeCodes cd_C_Pa_writeCodes ⟨by decide, by decide⟩ ln_C_Pa_writeCodes rfl rfl (cw_obj hu rfl) rfl rfl) (fun oc L1 hL => ?_)
  obtain ⟨S25, hp, rfl, rfl⟩ := hL.resolve_right pC_no
  refine ⟨_, rfl, ?_⟩
  refine aw_eq (lo' := _) (st' := []) (L' := (cw lt_C U oa S25)) rfl rfl rfl ?_
  refine a_iload_n C dc_Pa_write_28 rfl rfl ?_
  refine a_if_le (tgt := 55) C dc_Pa_write_29 (by decide) ⟨fun hc => ?_, fun hc => ?_⟩
  · have hp := hp.1 hc
    refine aw_lo (lo' := [some (.ref (oa u)), none, some (.int x2)]) ⟨.inr rfl, .inl rfl, .inr rfl, trivial⟩ ?_
    exact s_Pa_write_55 C hQ hA hR hu x2 S25  hp
  · have hp := hp.2 hc
    refine a_aload_n C dc_Pa_write_32 rfl rfl ?_
    refine a_sipush (v := 221) C dc_Pa_write_33 (by decide) ?_
    refine c_call (rest := []) (av := .ref (oa u) :: [.int 221]) C dc_Pa_write_36 (ct_Pa_addMark u 221 S25 hu hp) cd_C_Pa_addMark i_Pa (Nat.le_of_ble_eq_true rfl) (by rw [hR]; exact Nat.le_of_ble_eq_true rfl) (by rw [hR]; exact Nat.le_of_ble_eq_true rfl) (by rw [hR]; exact Nat.le_of_ble_eq_true rfl) (by rw [hR]; exact Nat.le_of_ble_eq_true rfl) (inv_V C u dc_Pa_write_36 l_Pa_195 im_C_Pa_addMark se_C_Pa_addMark cd_C_Pa_addMark ⟨by decide, by decide⟩ ln_C_Pa_addMark rfl rfl (cw_obj hu rfl) rfl rfl) (fun oc L1 hL => ?_)
    obtain ⟨S36, hp, rfl, rfl⟩ := hL.resolve_right pC_no
    refine ⟨_, rfl, ?_⟩
    refine aw_eq (lo' := _) (st' := []) (L' := (cw lt_C U oa S36)) rfl rfl rfl ?_
    refine a_aload_n C dc_Pa_write_39 rfl rfl ?_
    refine c_getR C u 0 dc_Pa_write_40 hu rfl rfl (Nat.le_of_ble_eq_true rfl) f_Pa_15 rfl hp.1 ?_
    have hp := hp.2
    refine a_iconst (v := 4) C dc_Pa_write_43 (by decide) ?_
    have hc2 := hp.1
    have hp := hp.2
    refine c_call (rest := []) (av := .ref (oa (S36.2.2 u 0)) :: [.int 4]) C dc_Pa_write_44 (ct_Ro_addTwo (S36.2.2 u 0) 4 S36 hc2 hp) cd_C_Ro_addTwo i_Ro (Nat.le_of_ble_eq_true rfl) (by rw [hR]; exact Nat.le_of_ble_eq_true rfl) (by rw [hR]; exact Nat.le_of_ble_eq_true rfl) (by rw [hR]; exact Nat.le_of_ble_eq_true rfl) (by rw [hR]; exact Nat.le_of_ble_eq_true rfl) (inv_V C (S36.2.2 u 0) dc_Pa_write_44 l_Pa_208 im_C_Ro_addTwo se_C_Ro_addTwo cd_C_Ro_addTwo ⟨by decide, by decide⟩ ln_C_Ro_addTwo rfl rfl (cw_obj hc2 rfl) rfl rfl) (fun oc L1 hL => ?_)
    obtain ⟨S44, hp, rfl, rfl⟩ := hL.resolve_right pC_no
    refine ⟨_, rfl, ?_⟩
    refine aw_eq (lo' := _) (st' := []) (L' := (cw lt_C U oa S44)) rfl rfl rfl ?_
    refine a_aload_n C dc_Pa_write_47 rfl rfl ?_
    refine c_getR C u 0 dc_Pa_write_48 hu rfl rfl (Nat.le_of_ble_eq_true rfl) f_Pa_15 rfl hp.1 ?_
    have hp := hp.2
    refine a_iload_n C dc_Pa_write_51 rfl rfl ?_
    have hc3 := hp.1
    have hp := hp.2
    refine c_call (rest := []) (av := .ref (oa (S44.2.2 u 0)) :: [.int x2]) C dc_Pa_write_52 (ct_Ro_addTwo (S44.2.2 u 0) x2 S44 hc3 hp) cd_C_Ro_addTwo i_Ro (Nat.le_of_ble_eq_true rfl) (by rw [hR]; exact Nat.le_of_ble_eq_true rfl) (by rw [hR]; exact Nat.le_of_ble_eq_true rfl) (by rw [hR]; exact Nat.le_of_ble_eq_true rfl) (by rw [hR]; exact Nat.le_of_ble_eq_true rfl) (inv_V C (S44.2.2 u 0) dc_Pa_write_52 l_Pa_208 im_C_Ro_addTwo se_C_Ro_addTwo cd_C_Ro_addTwo ⟨by decide, by decide⟩ ln_C_Ro_addTwo rfl rfl (cw_obj hc3 rfl) rfl rfl) (fun oc L1 hL => ?_)
    obtain ⟨S52, hp, rfl, rfl⟩ := hL.resolve_right pC_no
    refine ⟨_, rfl, ?_⟩
    refine aw_eq (lo' := _) (st' := []) (L' := (cw lt_C U oa S52)) rfl rfl rfl ?_
    refine aw_lo (lo' := [some (.ref (oa u)), none, some (.int x2)]) ⟨.inr rfl, .inl rfl, .inr rfl, trivial⟩ ?_
    exact s_Pa_write_55 C hQ hA hR hu x2 S52  hp
end C_Pa_write
section C_Pa_writec
variable {D : va_G} {z : Nat → ClassId} {U : ut} {oa : Nat → Nat}
set_option maxRecDepth 100000 in
theorem ct_Pa_write {l : Launch} (u : Nat) (x1 : Nat) (x2 : Int32) (S : cs) {K : cs → Prop} (hu : c_cl U u = 6) (hp : p_Pa_write U u x1 x2 S K) : ct gG D z l n_C_Pa_write c_C_Pa_write 3 (none) 6 600 [.ref (oa u), .ref (oa x1), .int x2] (cw lt_C U oa S) 0 0 (pC_v lt_C U oa K (fun _ _ => False)) := by
  refine ct_of (lo := [some (.ref (oa u)), some (.ref (oa x1)), some (.int x2)]) (by decide) g_ok (Nat.le_of_ble_eq_true rfl) rfl ?_
  intro X A _ C hR hQ hA _
  exact s_Pa_write_0 C hQ hA hR hu x1 x2 S hp
end C_Pa_writec
def b_B_pack_28 (U : ut) (u : Nat)  (S : cs) (K : Int32 → cs → Prop) (T : Nat → cs → Prop) : Prop :=
  T 14 S
def p_B_pack (U : ut) (u : Nat) (x1 : Int32) (x2 : Int32) (x3 : Int32) (S : cs) (K : Int32 → cs → Prop) (T : Nat → cs → Prop) : Prop :=
  p_B_isWithin x1 1 2 (fun v3 => (v3 = 0 → (b_B_pack_28 U u S K T)) ∧ (¬ (v3 = 0) → (p_B_isWithin x2 1 2 (fun v12 => (v12 = 0 → (b_B_pack_28 U u S K T)) ∧ (¬ (v12 = 0) → (p_B_isWithin x3 0 65535 (fun v22 => (¬ v22 = 0 → (¬ S.2.2 u 2 = NU ∧ (¬ S.2.2 u 0 = NU ∧ (¬ S.2.2 u 1 = NU ∧ (c_cl U (S.2.2 u 2) = 6 ∧ (p_Pa_makeLevels U (S.2.2 u 2) (S.2.2 u 0) (S.2.2 u 1) x1 x2 S (fun S52 => ¬ S52.2.2 u 2 = NU ∧ (c_cl U (S52.2.2 u 2) = 6 ∧ (p_Pa_makeCodes U (S52.2.2 u 2) x3 S52 (fun S60 => ¬ S60.2.2 u 2 = NU ∧ (¬ S60.2.2 u 1 = NU ∧ (c_cl U (S60.2.2 u 2) = 6 ∧ (p_Pa_write U (S60.2.2 u 2) (S60.2.2 u 1) x3 S60 (fun S72 => ¬ S72.2.2 u 4 = NU ∧ (c_cl U (S72.2.2 u 4) = 9 ∧ (K (S72.1 (S72.2.2 u 4) 1) S72)))))))))))))))) ∧ (v22 = 0 → (b_B_pack_28 U u S K T)))))))))
section C_B_pack
variable {D : va_G} {z : Nat → ClassId} {A : Nat → Prop} {X : cx} {L0 : fw} {U : ut} {oa : Nat → Nat} {u : Nat} {K : Int32 → cs → Prop} {T : Nat → cs → Prop}
set_option maxRecDepth 100000 in
set_option maxHeartbeats 1000000 in
theorem s_B_pack_28 (C : fcx gG D z A X R_B c_C_B_pack 4 (some .int)) (hQ : X.2.2.2.2.2.2.2.2.2.2 = eQ gG D z X.2.2.2.2.2.2.2.1 X.2.2.2.2.1 L0 0 0 (pC_i lt_C U oa K T)) (hA : A = owA gG L0 X.2.2.2.2.1.heap.size) (hR : X.2.2.2.1 = { frames := 9, cells := 1, slots := 6, locals := 900 }) (hno : ∀ x ∈ X.2.2.2.2.2.2.2.2.2.1.exceptionTable.toList, False) (hfl : X.2.1.flags = pinnedFlags ++ [noTraceFlag]) (hu : c_cl U u = 1)  (S : cs) (hp : b_B_pack_28 U u S K T) : aw gG D z A X 4 28 [some (.ref (oa u)), none, none, none] [] (cw lt_C U oa S) 0 0 := by
  unfold b_B_pack_28 at hp
  exact a_throw (ci := 14) C hQ hA hno hfl dc_B_pack_28 dc_B_pack_31 dc_B_pack_32 dc_B_pack_34 dc_B_pack_37 x_B_75 rfl rfl y_B_121 i_E14 j_E14 (by decide) z_B_79 (at_E14 _ _) (Nat.le_of_ble_eq_true rfl) (by rw [hR]; exact Nat.le_of_ble_eq_true rfl) (by rw [hR]; exact Nat.le_of_ble_eq_true rfl) (Nat.le_refl _) (Nat.le_refl _) (by rw [hR]; exact Nat.le_of_ble_eq_true rfl) (by rw [hR]; exact Nat.le_of_ble_eq_true rfl) (fun q => Or.inr ⟨14, q, S, hp, rfl, rfl⟩)
set_option maxRecDepth 100000 in
set_option maxHeartbeats 1000000 in
theorem s_B_pack_0 (C : fcx gG D z A X R_B c_C_B_pack 4 (some .int)) (hQ : X.2.2.2.2.2.2.2.2.2.2 = eQ gG D z X.2.2.2.2.2.2.2.1 X.2.2.2.2.1 L0 0 0 (pC_i lt_C U oa K T)) (hA : A = owA gG L0 X.2.2.2.2.1.heap.size) (hR : X.2.2.2.1 = { frames := 9, cells := 1, slots := 6, locals := 900 }) (hno : ∀ x ∈ X.2.2.2.2.2.2.2.2.2.1.exceptionTable.toList, False) (hfl : X.2.1.flags = pinnedFlags ++ [noTraceFlag]) (hu : c_cl U u = 1) (x1 : Int32) (x2 : Int32) (x3 : Int32) (S : cs) (hp : p_B_pack U u x1 x2 x3 S K T) : aw gG D z A X 4 0 [some (.ref (oa u)), some (.int x1), some (.int x2), some (.int x3)] [] (cw lt_C U oa S) 0 0 := by
  unfold p_B_pack at hp
  refine a_iload_n C dc_B_pack_0 rfl rfl ?_
  refine a_iconst (v := 1) C dc_B_pack_1 (by decide) ?_
  refine a_iconst (v := 2) C dc_B_pack_2 (by decide) ?_
  refine a_callP (rest := []) (av := [.int x1, .int 1, .int 2]) C dc_B_pack_3 (ct_B_isWithin x1 1 2 hp) cd_C_B_isWithin i_B (Nat.le_of_ble_eq_true rfl) (by rw [hR]; exact Nat.le_of_ble_eq_true rfl) (by rw [hR]; exact Nat.le_of_ble_eq_true rfl) (by rw [hR]; exact Nat.le_of_ble_eq_true rfl) (by rw [hR]; exact Nat.le_of_ble_eq_true rfl) (inv_S C dc_B_pack_3 l_B_71 st_C_B_isWithin i_B cd_C_B_isWithin ⟨by decide, by decide⟩ ln_C_B_isWithin rfl) (fun v3 hp => ?_)
  refine aw_eq (lo' := _) (st' := [.int v3]) (L' := (cw lt_C U oa S)) rfl rfl rfl ?_
  refine a_if_eq (tgt := 28) C dc_B_pack_6 (by decide) ⟨fun hc => ?_, fun hc => ?_⟩
  · have hp := hp.1 hc
    refine aw_lo (lo' := [some (.ref (oa u)), none, none, none]) ⟨.inr rfl, .inl rfl, .inl rfl, .inl rfl, trivial⟩ ?_
    exact s_B_pack_28 C hQ hA hR hno hfl hu S  hp
  · have hp := hp.2 hc
    refine a_iload_n C dc_B_pack_9 rfl rfl ?_
    refine a_iconst (v := 1) C dc_B_pack_10 (by decide) ?_
    refine a_iconst (v := 2) C dc_B_pack_11 (by decide) ?_
    refine a_callP (rest := []) (av := [.int x2, .int 1, .int 2]) C dc_B_pack_12 (ct_B_isWithin x2 1 2 hp) cd_C_B_isWithin i_B (Nat.le_of_ble_eq_true rfl) (by rw [hR]; exact Nat.le_of_ble_eq_true rfl) (by rw [hR]; exact Nat.le_of_ble_eq_true rfl) (by rw [hR]; exact Nat.le_of_ble_eq_true rfl) (by rw [hR]; exact Nat.le_of_ble_eq_true rfl) (inv_S C dc_B_pack_12 l_B_71 st_C_B_isWithin i_B cd_C_B_isWithin ⟨by decide, by decide⟩ ln_C_B_isWithin rfl) (fun v12 hp => ?_)
    refine aw_eq (lo' := _) (st' := [.int v12]) (L' := (cw lt_C U oa S)) rfl rfl rfl ?_
    refine a_if_eq (tgt := 28) C dc_B_pack_15 (by decide) ⟨fun hc => ?_, fun hc => ?_⟩
    · have hp := hp.1 hc
      refine aw_lo (lo' := [some (.ref (oa u)), none, none, none]) ⟨.inr rfl, .inl rfl, .inl rfl, .inl rfl, trivial⟩ ?_
      exact s_B_pack_28 C hQ hA hR hno hfl hu S  hp
    · have hp := hp.2 hc
      refine a_iload_n C dc_B_pack_18 rfl rfl ?_
      refine a_iconst (v := 0) C dc_B_pack_19 (by decide) ?_
      refine a_ldc (v := 65535) C dc_B_pack_20 k_B_120 ?_
      refine a_callP (rest := []) (av := [.int x3, .int 0, .int 65535]) C dc_B_pack_22 (ct_B_isWithin x3 0 65535 hp) cd_C_B_isWithin i_B (Nat.le_of_ble_eq_true rfl) (by rw [hR]; exact Nat.le_of_ble_eq_true rfl) (by rw [hR]; exact Nat.le_of_ble_eq_true rfl) (by rw [hR]; exact Nat.le_of_ble_eq_true rfl) (by rw [hR]; exact Nat.le_of_ble_eq_true rfl) (inv_S C dc_B_pack_22 l_B_71 st_C_B_isWithin i_B cd_C_B_isWithin ⟨by decide, by decide⟩ ln_C_B_isWithin rfl) (fun v22 hp => ?_)
      refine aw_eq (lo' := _) (st' := [.int v22]) (L' := (cw lt_C U oa S)) rfl rfl rfl ?_
      refine a_if_ne (tgt := 38) C dc_B_pack_25 (by decide) ⟨fun hc => ?_, fun hc => ?_⟩
      · have hp := hp.1 hc
        refine a_aload_n C dc_B_pack_38 rfl rfl ?_
        refine c_getR C u 2 dc_B_pack_39 hu rfl rfl (Nat.le_of_ble_eq_true rfl) f_B_23 rfl hp.1 ?_
        have hp := hp.2
        refine a_aload_n C dc_B_pack_42 rfl rfl ?_
        refine c_getR C u 0 dc_B_pack_43 hu rfl rfl (Nat.le_of_ble_eq_true rfl) f_B_12 rfl hp.1 ?_
        have hp := hp.2
        refine a_aload_n C dc_B_pack_46 rfl rfl ?_
        refine c_getR C u 1 dc_B_pack_47 hu rfl rfl (Nat.le_of_ble_eq_true rfl) f_B_16 rfl hp.1 ?_
        have hp := hp.2
        refine a_iload_n C dc_B_pack_50 rfl rfl ?_
        refine a_iload_n C dc_B_pack_51 rfl rfl ?_
        have hc1 := hp.1
        have hp := hp.2
        refine c_call (rest := []) (av := .ref (oa (S.2.2 u 2)) :: [.ref (oa (S.2.2 u 0)), .ref (oa (S.2.2 u 1)), .int x1, .int x2]) C dc_B_pack_52 (ct_Pa_makeLevels (S.2.2 u 2) (S.2.2 u 0) (S.2.2 u 1) x1 x2 S hc1 hp) cd_C_Pa_makeLevels i_Pa (Nat.le_of_ble_eq_true rfl) (by rw [hR]; exact Nat.le_of_ble_eq_true rfl) (by rw [hR]; exact Nat.le_of_ble_eq_true rfl) (by rw [hR]; exact Nat.le_of_ble_eq_true rfl) (by rw [hR]; exact Nat.le_of_ble_eq_true rfl) (inv_V C (S.2.2 u 2) dc_B_pack_52 l_B_123 im_C_Pa_makeLevels se_C_Pa_makeLevels cd_C_Pa_makeLevels ⟨by decide, by decide⟩ ln_C_Pa_makeLevels rfl rfl (cw_obj hc1 rfl) rfl rfl) (fun oc L1 hL => ?_)
        obtain ⟨S52, hp, rfl, rfl⟩ := hL.resolve_right pC_no
        refine ⟨_, rfl, ?_⟩
        refine aw_eq (lo' := _) (st' := []) (L' := (cw lt_C U oa S52)) rfl rfl rfl ?_
        refine a_aload_n C dc_B_pack_55 rfl rfl ?_
        refine c_getR C u 2 dc_B_pack_56 hu rfl rfl (Nat.le_of_ble_eq_true rfl) f_B_23 rfl hp.1 ?_
        have hp := hp.2
        refine a_iload_n C dc_B_pack_59 rfl rfl ?_
        have hc2 := hp.1
        have hp := hp.2
        refine c_call (rest := []) (av := .ref (oa (S52.2.2 u 2)) :: [.int x3]) C dc_B_pack_60 (ct_Pa_makeCodes (S52.2.2 u 2) x3 S52 hc2 hp) cd_C_Pa_makeCodes i_Pa (Nat.le_of_ble_eq_true rfl) (by rw [hR]; exact Nat.le_of_ble_eq_true rfl) (by rw [hR]; exact Nat.le_of_ble_eq_true rfl) (by rw [hR]; exact Nat.le_of_ble_eq_true rfl) (by rw [hR]; exact Nat.le_of_ble_eq_true rfl) (inv_V C (S52.2.2 u 2) dc_B_pack_60 l_B_127 im_C_Pa_makeCodes se_C_Pa_makeCodes cd_C_Pa_makeCodes ⟨by decide, by decide⟩ ln_C_Pa_makeCodes rfl rfl (cw_obj hc2 rfl) rfl rfl) (fun oc L1 hL => ?_)
        obtain ⟨S60, hp, rfl, rfl⟩ := hL.resolve_right pC_no
        refine ⟨_, rfl, ?_⟩
        refine aw_eq (lo' := _) (st' := []) (L' := (cw lt_C U oa S60)) rfl rfl rfl ?_
        refine a_aload_n C dc_B_pack_63 rfl rfl ?_
        refine c_getR C u 2 dc_B_pack_64 hu rfl rfl (Nat.le_of_ble_eq_true rfl) f_B_23 rfl hp.1 ?_
        have hp := hp.2
        refine a_aload_n C dc_B_pack_67 rfl rfl ?_
        refine c_getR C u 1 dc_B_pack_68 hu rfl rfl (Nat.le_of_ble_eq_true rfl) f_B_16 rfl hp.1 ?_
        have hp := hp.2
        refine a_iload_n C dc_B_pack_71 rfl rfl ?_
        have hc3 := hp.1
        have hp := hp.2
        refine c_call (rest := []) (av := .ref (oa (S60.2.2 u 2)) :: [.ref (oa (S60.2.2 u 1)), .int x3]) C dc_B_pack_72 (ct_Pa_write (S60.2.2 u 2) (S60.2.2 u 1) x3 S60 hc3 hp) cd_C_Pa_write i_Pa (Nat.le_of_ble_eq_true rfl) (by rw [hR]; exact Nat.le_of_ble_eq_true rfl) (by rw [hR]; exact Nat.le_of_ble_eq_true rfl) (by rw [hR]; exact Nat.le_of_ble_eq_true rfl) (by rw [hR]; exact Nat.le_of_ble_eq_true rfl) (inv_V C (S60.2.2 u 2) dc_B_pack_72 l_B_131 im_C_Pa_write se_C_Pa_write cd_C_Pa_write ⟨by decide, by decide⟩ ln_C_Pa_write rfl rfl (cw_obj hc3 rfl) rfl rfl) (fun oc L1 hL => ?_)
        obtain ⟨S72, hp, rfl, rfl⟩ := hL.resolve_right pC_no
        refine ⟨_, rfl, ?_⟩
        refine aw_eq (lo' := _) (st' := []) (L' := (cw lt_C U oa S72)) rfl rfl rfl ?_
        refine a_aload_n C dc_B_pack_75 rfl rfl ?_
        refine c_getR C u 4 dc_B_pack_76 hu rfl rfl (Nat.le_of_ble_eq_true rfl) f_B_38 rfl hp.1 ?_
        have hp := hp.2
        have hc4 := hp.1
        have hp := hp.2
        refine c_getIN C (S72.2.2 u 4) 1 dc_B_pack_79 hc4 rfl rfl (Nat.le_of_ble_eq_true rfl) f_B_134 (Nat.le_of_ble_eq_true rfl) ?_
        exact a_iret (ty := .int) C hQ hA dc_B_pack_82 rfl rfl (Or.inl ⟨_, S72, hp, rfl, rfl⟩)
      · have hp := hp.2 hc
        refine aw_lo (lo' := [some (.ref (oa u)), none, none, none]) ⟨.inr rfl, .inl rfl, .inl rfl, .inl rfl, trivial⟩ ?_
        exact s_B_pack_28 C hQ hA hR hno hfl hu S  hp
end C_B_pack
section C_B_packc
variable {D : va_G} {z : Nat → ClassId} {U : ut} {oa : Nat → Nat}
set_option maxRecDepth 100000 in
theorem ct_B_pack {l : Launch} (u : Nat) (x1 : Int32) (x2 : Int32) (x3 : Int32) (S : cs) {K : Int32 → cs → Prop} {T : Nat → cs → Prop} (hfl : l.flags = pinnedFlags ++ [noTraceFlag]) (hu : c_cl U u = 1) (hp : p_B_pack U u x1 x2 x3 S K T) : ct gG D z l n_C_B_pack c_C_B_pack 4 (some .int) 9 900 [.ref (oa u), .int x1, .int x2, .int x3] (cw lt_C U oa S) 0 0 (pC_i lt_C U oa K T) := by
  refine ct_of (lo := [some (.ref (oa u)), some (.int x1), some (.int x2), some (.int x3)]) (by decide) g_ok (Nat.le_of_ble_eq_true rfl) rfl ?_
  intro X A hl C hR hQ hA hno
  exact s_B_pack_0 C hQ hA hR hno (by rw [hl]; exact hfl) hu x1 x2 x3 S hp
end C_B_packc
def p_B_size (U : ut) (u : Nat)  (S : cs) (K : Int32 → cs → Prop) : Prop :=
  ¬ S.2.2 u 4 = NU ∧ (c_cl U (S.2.2 u 4) = 9 ∧ (K (S.1 (S.2.2 u 4) 1) S))
section C_B_size
variable {D : va_G} {z : Nat → ClassId} {A : Nat → Prop} {X : cx} {L0 : fw} {U : ut} {oa : Nat → Nat} {u : Nat} {K : Int32 → cs → Prop}
set_option maxRecDepth 100000 in
set_option maxHeartbeats 1000000 in
theorem s_B_size_0 (C : fcx gG D z A X R_B c_C_B_size 1 (some .int)) (hQ : X.2.2.2.2.2.2.2.2.2.2 = eQ gG D z X.2.2.2.2.2.2.2.1 X.2.2.2.2.1 L0 0 0 (pC_i lt_C U oa K (fun _ _ => False))) (hA : A = owA gG L0 X.2.2.2.2.1.heap.size) (hR : X.2.2.2.1 = { frames := 1, cells := 1, slots := 6, locals := 100 }) (hu : c_cl U u = 1)  (S : cs) (hp : p_B_size U u S K) : aw gG D z A X 1 0 [some (.ref (oa u))] [] (cw lt_C U oa S) 0 0 := by
  unfold p_B_size at hp
  refine a_aload_n C dc_B_size_0 rfl rfl ?_
  refine c_getR C u 4 dc_B_size_1 hu rfl rfl (Nat.le_of_ble_eq_true rfl) f_B_38 rfl hp.1 ?_
  have hp := hp.2
  have hc1 := hp.1
  have hp := hp.2
  refine c_getIN C (S.2.2 u 4) 1 dc_B_size_4 hc1 rfl rfl (Nat.le_of_ble_eq_true rfl) f_B_134 (Nat.le_of_ble_eq_true rfl) ?_
  exact a_iret (ty := .int) C hQ hA dc_B_size_7 rfl rfl (Or.inl ⟨_, S, hp, rfl, rfl⟩)
end C_B_size
section C_B_sizec
variable {D : va_G} {z : Nat → ClassId} {U : ut} {oa : Nat → Nat}
set_option maxRecDepth 100000 in
theorem ct_B_size {l : Launch} (u : Nat)  (S : cs) {K : Int32 → cs → Prop} (hu : c_cl U u = 1) (hp : p_B_size U u S K) : ct gG D z l n_C_B_size c_C_B_size 1 (some .int) 1 100 [.ref (oa u)] (cw lt_C U oa S) 0 0 (pC_i lt_C U oa K (fun _ _ => False)) := by
  refine ct_of (lo := [some (.ref (oa u))]) (by decide) g_ok (Nat.le_of_ble_eq_true rfl) rfl ?_
  intro X A _ C hR hQ hA _
  exact s_B_size_0 C hQ hA hR hu S hp
end C_B_sizec
def b_Ro_has_17 (U : ut) (u : Nat) (s0 : Int32) (S : cs) (K : Int32 → cs → Prop) : Prop :=
  narrow .boolean (.int s0) = .int s0 ∧ K s0 S
def b_Ro_has_16 (U : ut) (u : Nat)  (S : cs) (K : Int32 → cs → Prop) : Prop :=
  b_Ro_has_17 U u 0 S K
def p_Ro_has (U : ut) (u : Nat) (x1 : Int32) (S : cs) (K : Int32 → cs → Prop) : Prop :=
  (x1 < 0 → (b_Ro_has_16 U u S K)) ∧ (¬ (x1 < 0) → (((S.1 u 1) ≤ x1 → (b_Ro_has_16 U u S K)) ∧ (¬ ((S.1 u 1) ≤ x1) → (b_Ro_has_17 U u 1 S K))))
section C_Ro_has
variable {D : va_G} {z : Nat → ClassId} {A : Nat → Prop} {X : cx} {L0 : fw} {U : ut} {oa : Nat → Nat} {u : Nat} {K : Int32 → cs → Prop}
set_option maxRecDepth 100000 in
set_option maxHeartbeats 1000000 in
theorem s_Ro_has_17 (C : fcx gG D z A X R_Ro c_C_Ro_has 2 (some .boolean)) (hQ : X.2.2.2.2.2.2.2.2.2.2 = eQ gG D z X.2.2.2.2.2.2.2.1 X.2.2.2.2.1 L0 0 0 (pC_i lt_C U oa K (fun _ _ => False))) (hA : A = owA gG L0 X.2.2.2.2.1.heap.size) (hR : X.2.2.2.1 = { frames := 1, cells := 1, slots := 6, locals := 100 }) (hu : c_cl U u = 9) (s0 : Int32) (S : cs) (hp : b_Ro_has_17 U u s0 S K) : aw gG D z A X 2 17 [some (.ref (oa u)), none] [.int s0] (cw lt_C U oa S) 0 0 := by
  unfold b_Ro_has_17 at hp
  exact a_iret (ty := .boolean) C hQ hA dc_Ro_has_17 rfl hp.1 (Or.inl ⟨_, S, hp.2, rfl, rfl⟩)
set_option maxRecDepth 100000 in
set_option maxHeartbeats 1000000 in
theorem s_Ro_has_16 (C : fcx gG D z A X R_Ro c_C_Ro_has 2 (some .boolean)) (hQ : X.2.2.2.2.2.2.2.2.2.2 = eQ gG D z X.2.2.2.2.2.2.2.1 X.2.2.2.2.1 L0 0 0 (pC_i lt_C U oa K (fun _ _ => False))) (hA : A = owA gG L0 X.2.2.2.2.1.heap.size) (hR : X.2.2.2.1 = { frames := 1, cells := 1, slots := 6, locals := 100 }) (hu : c_cl U u = 9)  (S : cs) (hp : b_Ro_has_16 U u S K) : aw gG D z A X 2 16 [some (.ref (oa u)), none] [] (cw lt_C U oa S) 0 0 := by
  unfold b_Ro_has_16 at hp
  refine a_iconst (v := 0) C dc_Ro_has_16 (by decide) ?_
  refine aw_lo (lo' := [some (.ref (oa u)), none]) ⟨.inr rfl, .inr rfl, trivial⟩ ?_
  exact s_Ro_has_17 C hQ hA hR hu 0 S  hp
set_option maxRecDepth 100000 in
set_option maxHeartbeats 1000000 in
theorem s_Ro_has_0 (C : fcx gG D z A X R_Ro c_C_Ro_has 2 (some .boolean)) (hQ : X.2.2.2.2.2.2.2.2.2.2 = eQ gG D z X.2.2.2.2.2.2.2.1 X.2.2.2.2.1 L0 0 0 (pC_i lt_C U oa K (fun _ _ => False))) (hA : A = owA gG L0 X.2.2.2.2.1.heap.size) (hR : X.2.2.2.1 = { frames := 1, cells := 1, slots := 6, locals := 100 }) (hu : c_cl U u = 9) (x1 : Int32) (S : cs) (hp : p_Ro_has U u x1 S K) : aw gG D z A X 2 0 [some (.ref (oa u)), some (.int x1)] [] (cw lt_C U oa S) 0 0 := by
  unfold p_Ro_has at hp
  refine a_iload_n C dc_Ro_has_0 rfl rfl ?_
  refine a_if_lt (tgt := 16) C dc_Ro_has_1 (by decide) ⟨fun hc => ?_, fun hc => ?_⟩
  · have hp := hp.1 hc
    refine aw_lo (lo' := [some (.ref (oa u)), none]) ⟨.inr rfl, .inl rfl, trivial⟩ ?_
    exact s_Ro_has_16 C hQ hA hR hu S  hp
  · have hp := hp.2 hc
    refine a_iload_n C dc_Ro_has_4 rfl rfl ?_
    refine a_aload_n C dc_Ro_has_5 rfl rfl ?_
    refine c_getI C u 1 dc_Ro_has_6 hu rfl rfl (Nat.le_of_ble_eq_true rfl) f_Ro_19 (Nat.le_of_ble_eq_true rfl) ?_
    refine a_icmp_ge (tgt := 16) C dc_Ro_has_9 (by decide) ⟨fun hc => ?_, fun hc => ?_⟩
    · have hp := hp.1 hc
      refine aw_lo (lo' := [some (.ref (oa u)), none]) ⟨.inr rfl, .inl rfl, trivial⟩ ?_
      exact s_Ro_has_16 C hQ hA hR hu S  hp
    · have hp := hp.2 hc
      refine a_iconst (v := 1) C dc_Ro_has_12 (by decide) ?_
      refine a_goto (tgt := 17) C dc_Ro_has_13 (by decide) ?_
      refine aw_lo (lo' := [some (.ref (oa u)), none]) ⟨.inr rfl, .inl rfl, trivial⟩ ?_
      exact s_Ro_has_17 C hQ hA hR hu 1 S  hp
end C_Ro_has
section C_Ro_hasc
variable {D : va_G} {z : Nat → ClassId} {U : ut} {oa : Nat → Nat}
set_option maxRecDepth 100000 in
theorem ct_Ro_has {l : Launch} (u : Nat) (x1 : Int32) (S : cs) {K : Int32 → cs → Prop} (hu : c_cl U u = 9) (hp : p_Ro_has U u x1 S K) : ct gG D z l n_C_Ro_has c_C_Ro_has 2 (some .boolean) 1 100 [.ref (oa u), .int x1] (cw lt_C U oa S) 0 0 (pC_i lt_C U oa K (fun _ _ => False)) := by
  refine ct_of (lo := [some (.ref (oa u)), some (.int x1)]) (by decide) g_ok (Nat.le_of_ble_eq_true rfl) rfl ?_
  intro X A _ C hR hQ hA _
  exact s_Ro_has_0 C hQ hA hR hu x1 S hp
end C_Ro_hasc
