def b_Sc_blocksTogether_4 (U : ut) (u : Nat) (x1 : Nat) (x2 : Int32) (x3 : Int32) (S : cs) (R4 : Nat → Int32 → Int32 → cs → Prop) (K : Int32 → cs → Prop) : Prop :=
  ((S.1 u 0) ≤ x3 → (K x2 S)) ∧ (¬ ((S.1 u 0) ≤ x3) → (c_cl U x1 = 7 ∧ (¬ S.2.2 x1 3 = NU ∧ (¬ S.2.2 u 1 = NU ∧ (c_cl U (S.2.2 u 1) = 902 ∧ (vp_in x3 (c_ln U (S.2.2 u 1)) ∧ (c_cl U (S.2.2 x1 3) = 902 ∧ (vp_in (S.1 (S.2.2 u 1) x3.toNatClampNeg) (c_ln U (S.2.2 x1 3)) ∧ (¬ S.2.2 x1 4 = NU ∧ (¬ S.2.2 u 1 = NU ∧ (vp_in x3 (c_ln U (S.2.2 u 1)) ∧ (c_cl U (S.2.2 x1 4) = 902 ∧ (vp_in (S.1 (S.2.2 u 1) x3.toNatClampNeg) (c_ln U (S.2.2 x1 4)) ∧ (R4 x1 (x2 + ((S.1 (S.2.2 x1 3) (S.1 (S.2.2 u 1) x3.toNatClampNeg).toNatClampNeg) * (S.1 (S.2.2 x1 4) (S.1 (S.2.2 u 1) x3.toNatClampNeg).toNatClampNeg))) (x3 + 1) S))))))))))))))
def e_Sc_blocksTogether_4 (U : ut) (u : Nat) (x1 : Nat) (x2 : Int32) (x3 : Int32) (S : cs) (K : Int32 → cs → Prop) : Prop :=
  ∃ (I : Nat → Int32 → Int32 → cs → Prop) (μ : Nat → Int32 → Int32 → cs → Nat), I x1 x2 x3 S ∧ ∀ yx1 yx2 yx3 yS, I yx1 yx2 yx3 yS → b_Sc_blocksTogether_4 U u yx1 yx2 yx3 yS (fun zx1 zx2 zx3 zS => I zx1 zx2 zx3 zS ∧ μ zx1 zx2 zx3 zS < μ yx1 yx2 yx3 yS) K
def p_Sc_blocksTogether (U : ut) (u : Nat) (x1 : Nat) (S : cs) (K : Int32 → cs → Prop) : Prop :=
  e_Sc_blocksTogether_4 U u x1 0 0 S K
section C_Sc_blocksTogether
variable {D : va_G} {z : Nat → ClassId} {A : Nat → Prop} {X : cx} {L0 : fw} {U : ut} {oa : Nat → Nat} {u : Nat} {K : Int32 → cs → Prop}
set_option maxRecDepth 100000 in
set_option maxHeartbeats 1000000 in
theorem s_Sc_blocksTogether_4 (C : fcx gG D z A X R_Sc c_C_Sc_blocksTogether 4 (some .int)) (hQ : X.2.2.2.2.2.2.2.2.2.2 = eQ gG D z X.2.2.2.2.2.2.2.1 X.2.2.2.2.1 L0 0 0 (pC_i lt_C U oa K (fun _ _ => False))) (hA : A = owA gG L0 X.2.2.2.2.1.heap.size) (hR : X.2.2.2.1 = { frames := 1, cells := 1, slots := 6, locals := 100 }) (hu : c_cl U u = 10) (x1 : Nat) (x2 : Int32) (x3 : Int32) (S : cs) (R4 : Nat → Int32 → Int32 → cs → Prop) (hR4 : ∀ yx1 yx2 yx3 yS, R4 yx1 yx2 yx3 yS → aw gG D z A X 4 4 [some (.ref (oa u)), some (.ref (oa yx1)), some (.int yx2), some (.int yx3)] [] (cw lt_C U oa yS) 0 0) (hp : b_Sc_blocksTogether_4 U u x1 x2 x3 S R4 K) : aw gG D z A X 4 4 [some (.ref (oa u)), some (.ref (oa x1)), some (.int x2), some (.int x3)] [] (cw lt_C U oa S) 0 0 := by
  unfold b_Sc_blocksTogether_4 at hp
  refine a_iload_n C dc_Sc_blocksTogether_4 rfl rfl ?_
  refine a_aload_n C dc_Sc_blocksTogether_5 rfl rfl ?_
  refine c_getI C u 0 dc_Sc_blocksTogether_6 hu rfl rfl (Nat.le_of_ble_eq_true rfl) f_Sc_24 (Nat.le_of_ble_eq_true rfl) ?_
  refine a_icmp_ge (tgt := 44) C dc_Sc_blocksTogether_9 (by decide) ⟨fun hc => ?_, fun hc => ?_⟩
  · have hp := hp.1 hc
    refine a_iload_n C dc_Sc_blocksTogether_44 rfl rfl ?_
    exact a_iret (ty := .int) C hQ hA dc_Sc_blocksTogether_45 rfl rfl (Or.inl ⟨_, S, hp, rfl, rfl⟩)
  · have hp := hp.2 hc
    refine a_iload_n C dc_Sc_blocksTogether_12 rfl rfl ?_
    refine a_aload_n C dc_Sc_blocksTogether_13 rfl rfl ?_
    have hc1 := hp.1
    have hp := hp.2
    refine c_getRN C x1 3 dc_Sc_blocksTogether_14 hc1 rfl rfl (Nat.le_of_ble_eq_true rfl) f_Sc_28 rfl hp.1 ?_
    have hp := hp.2
    refine a_aload_n C dc_Sc_blocksTogether_17 rfl rfl ?_
    refine c_getR C u 1 dc_Sc_blocksTogether_18 hu rfl rfl (Nat.le_of_ble_eq_true rfl) f_Sc_9 rfl hp.1 ?_
    have hp := hp.2
    refine a_iload_n C dc_Sc_blocksTogether_21 rfl rfl ?_
    have hc2 := hp.1
    have hp := hp.2
    refine c_iald C (S.2.2 u 1) dc_Sc_blocksTogether_22 hc2 hp.1 ?_
    have hp := hp.2
    have hc3 := hp.1
    have hp := hp.2
    refine c_iald C (S.2.2 x1 3) dc_Sc_blocksTogether_23 hc3 hp.1 ?_
    have hp := hp.2
    refine a_aload_n C dc_Sc_blocksTogether_24 rfl rfl ?_
    refine c_getRN C x1 4 dc_Sc_blocksTogether_25 hc1 rfl rfl (Nat.le_of_ble_eq_true rfl) f_Sc_33 rfl hp.1 ?_
    have hp := hp.2
    refine a_aload_n C dc_Sc_blocksTogether_28 rfl rfl ?_
    refine c_getR C u 1 dc_Sc_blocksTogether_29 hu rfl rfl (Nat.le_of_ble_eq_true rfl) f_Sc_9 rfl hp.1 ?_
    have hp := hp.2
    refine a_iload_n C dc_Sc_blocksTogether_32 rfl rfl ?_
    refine c_iald C (S.2.2 u 1) dc_Sc_blocksTogether_33 hc2 hp.1 ?_
    have hp := hp.2
    have hc4 := hp.1
    have hp := hp.2
    refine c_iald C (S.2.2 x1 4) dc_Sc_blocksTogether_34 hc4 hp.1 ?_
    have hp := hp.2
    refine a_imul C dc_Sc_blocksTogether_35 ?_
    refine a_iadd C dc_Sc_blocksTogether_36 ?_
    refine a_istore_n (lo' := [some (.ref (oa u)), some (.ref (oa x1)), some (.int (x2 + ((S.1 (S.2.2 x1 3) (S.1 (S.2.2 u 1) x3.toNatClampNeg).toNatClampNeg) * (S.1 (S.2.2 x1 4) (S.1 (S.2.2 u 1) x3.toNatClampNeg).toNatClampNeg)))), some (.int x3)]) C dc_Sc_blocksTogether_37 rfl (by decide) rfl ?_
    refine a_iinc (v := x3 + 1) (lo' := [some (.ref (oa u)), some (.ref (oa x1)), some (.int (x2 + ((S.1 (S.2.2 x1 3) (S.1 (S.2.2 u 1) x3.toNatClampNeg).toNatClampNeg) * (S.1 (S.2.2 x1 4) (S.1 (S.2.2 u 1) x3.toNatClampNeg).toNatClampNeg)))), some (.int (x3 + 1))]) C dc_Sc_blocksTogether_38 rfl rfl (by decide) rfl ?_
    refine a_goto (tgt := 4) C dc_Sc_blocksTogether_41 (by decide) ?_
    refine aw_lo (lo' := [some (.ref (oa u)), some (.ref (oa x1)), some (.int (x2 + ((S.1 (S.2.2 x1 3) (S.1 (S.2.2 u 1) x3.toNatClampNeg).toNatClampNeg) * (S.1 (S.2.2 x1 4) (S.1 (S.2.2 u 1) x3.toNatClampNeg).toNatClampNeg)))), some (.int (x3 + 1))]) ⟨.inr rfl, .inr rfl, .inr rfl, .inr rfl, trivial⟩ ?_
    exact hR4 x1 (x2 + ((S.1 (S.2.2 x1 3) (S.1 (S.2.2 u 1) x3.toNatClampNeg).toNatClampNeg) * (S.1 (S.2.2 x1 4) (S.1 (S.2.2 u 1) x3.toNatClampNeg).toNatClampNeg))) (x3 + 1) S hp
set_option maxRecDepth 100000 in
set_option maxHeartbeats 1000000 in
theorem se_Sc_blocksTogether_4 (C : fcx gG D z A X R_Sc c_C_Sc_blocksTogether 4 (some .int)) (hQ : X.2.2.2.2.2.2.2.2.2.2 = eQ gG D z X.2.2.2.2.2.2.2.1 X.2.2.2.2.1 L0 0 0 (pC_i lt_C U oa K (fun _ _ => False))) (hA : A = owA gG L0 X.2.2.2.2.1.heap.size) (hR : X.2.2.2.1 = { frames := 1, cells := 1, slots := 6, locals := 100 }) (hu : c_cl U u = 10) (x1 : Nat) (x2 : Int32) (x3 : Int32) (S : cs) (hp : e_Sc_blocksTogether_4 U u x1 x2 x3 S K) : aw gG D z A X 4 4 [some (.ref (oa u)), some (.ref (oa x1)), some (.int x2), some (.int x3)] [] (cw lt_C U oa S) 0 0 := by
  obtain ⟨I, μ, h0, hs⟩ := hp
  have key : ∀ (n : Nat) (yx1 : Nat) (yx2 : Int32) (yx3 : Int32) (yS : cs), μ yx1 yx2 yx3 yS < n → I yx1 yx2 yx3 yS → aw gG D z A X 4 4 [some (.ref (oa u)), some (.ref (oa yx1)), some (.int yx2), some (.int yx3)] [] (cw lt_C U oa yS) 0 0 := by
    intro n
    induction n with
    | zero => intro yx1 yx2 yx3 yS h; omega
    | succ n ih =>
      intro yx1 yx2 yx3 yS hn hI
      exact s_Sc_blocksTogether_4 C hQ hA hR hu yx1 yx2 yx3 yS _ (fun zx1 zx2 zx3 zS hw => ih zx1 zx2 zx3 zS (by omega) hw.1) (hs yx1 yx2 yx3 yS hI)
  exact key (μ x1 x2 x3 S + 1) x1 x2 x3 S (Nat.lt_succ_self _) h0
set_option maxRecDepth 100000 in
set_option maxHeartbeats 1000000 in
theorem s_Sc_blocksTogether_0 (C : fcx gG D z A X R_Sc c_C_Sc_blocksTogether 4 (some .int)) (hQ : X.2.2.2.2.2.2.2.2.2.2 = eQ gG D z X.2.2.2.2.2.2.2.1 X.2.2.2.2.1 L0 0 0 (pC_i lt_C U oa K (fun _ _ => False))) (hA : A = owA gG L0 X.2.2.2.2.1.heap.size) (hR : X.2.2.2.1 = { frames := 1, cells := 1, slots := 6, locals := 100 }) (hu : c_cl U u = 10) (x1 : Nat) (S : cs) (hp : p_Sc_blocksTogether U u x1 S K) : aw gG D z A X 4 0 [some (.ref (oa u)), some (.ref (oa x1)), none, none] [] (cw lt_C U oa S) 0 0 := by
  unfold p_Sc_blocksTogether at hp
  refine a_iconst (v := 0) C dc_Sc_blocksTogether_0 (by decide) ?_
  refine a_istore_n (lo' := [some (.ref (oa u)), some (.ref (oa x1)), some (.int 0), none]) C dc_Sc_blocksTogether_1 rfl (by decide) rfl ?_
  refine a_iconst (v := 0) C dc_Sc_blocksTogether_2 (by decide) ?_
  refine a_istore_n (lo' := [some (.ref (oa u)), some (.ref (oa x1)), some (.int 0), some (.int 0)]) C dc_Sc_blocksTogether_3 rfl (by decide) rfl ?_
  refine aw_lo (lo' := [some (.ref (oa u)), some (.ref (oa x1)), some (.int 0), some (.int 0)]) ⟨.inr rfl, .inr rfl, .inr rfl, .inr rfl, trivial⟩ ?_
  exact se_Sc_blocksTogether_4 C hQ hA hR hu x1 0 0 S  hp
end C_Sc_blocksTogether
section C_Sc_blocksTogetherc
variable {D : va_G} {z : Nat → ClassId} {U : ut} {oa : Nat → Nat}
set_option maxRecDepth 100000 in
theorem ct_Sc_blocksTogether {l : Launch} (u : Nat) (x1 : Nat) (S : cs) {K : Int32 → cs → Prop} (hu : c_cl U u = 10) (hp : p_Sc_blocksTogether U u x1 S K) : ct gG D z l n_C_Sc_blocksTogether c_C_Sc_blocksTogether 4 (some .int) 1 100 [.ref (oa u), .ref (oa x1)] (cw lt_C U oa S) 0 0 (pC_i lt_C U oa K (fun _ _ => False)) := by
  refine ct_of (lo := [some (.ref (oa u)), some (.ref (oa x1)), none, none]) (by decide) g_ok (Nat.le_of_ble_eq_true rfl) rfl ?_
  intro X A _ C hR hQ hA _
  exact s_Sc_blocksTogether_0 C hQ hA hR hu x1 S hp
end C_Sc_blocksTogetherc
def b_Sc_addStretch_38 (U : ut) (u : Nat) (x1 : Nat) (x2 : Int32) (x5 : Int32) (x6 : Int32) (x7 : Int32) (x8 : Int32) (S : cs) (R24 : Nat → Int32 → Int32 → Int32 → Int32 → cs → Prop) (R38 : Nat → Int32 → Int32 → Int32 → Int32 → Int32 → cs → Prop) (K : cs → Prop) : Prop :=
  c_cl U x1 = 7 ∧ (¬ S.2.2 x1 3 = NU ∧ (c_cl U (S.2.2 x1 3) = 902 ∧ (vp_in x2 (c_ln U (S.2.2 x1 3)) ∧ (((S.1 (S.2.2 x1 3) x2.toNatClampNeg) ≤ x8 → (R24 x1 x2 x5 x6 (x7 + 1) S)) ∧ (¬ ((S.1 (S.2.2 x1 3) x2.toNatClampNeg) ≤ x8) → (¬ S.2.2 x1 11 = NU ∧ (c_cl U (S.2.2 x1 11) = 902 ∧ (vp_in x2 (c_ln U (S.2.2 x1 11)) ∧ (p_Sc_addBlock U u x2 ((((x6 + x7) * (S.1 (S.2.2 x1 11) x2.toNatClampNeg)) + x5) + x8) S (fun S69 => R38 x1 x2 x5 x6 x7 (x8 + 1) S69))))))))))
def e_Sc_addStretch_38 (U : ut) (u : Nat) (x1 : Nat) (x2 : Int32) (x5 : Int32) (x6 : Int32) (x7 : Int32) (x8 : Int32) (S : cs) (R24 : Nat → Int32 → Int32 → Int32 → Int32 → cs → Prop) (K : cs → Prop) : Prop :=
  ∃ (I : Nat → Int32 → Int32 → Int32 → Int32 → Int32 → cs → Prop) (μ : Nat → Int32 → Int32 → Int32 → Int32 → Int32 → cs → Nat), I x1 x2 x5 x6 x7 x8 S ∧ ∀ yx1 yx2 yx5 yx6 yx7 yx8 yS, I yx1 yx2 yx5 yx6 yx7 yx8 yS → b_Sc_addStretch_38 U u yx1 yx2 yx5 yx6 yx7 yx8 yS R24 (fun zx1 zx2 zx5 zx6 zx7 zx8 zS => I zx1 zx2 zx5 zx6 zx7 zx8 zS ∧ μ zx1 zx2 zx5 zx6 zx7 zx8 zS < μ yx1 yx2 yx5 yx6 yx7 yx8 yS) K
def b_Sc_addStretch_24 (U : ut) (u : Nat) (x1 : Nat) (x2 : Int32) (x5 : Int32) (x6 : Int32) (x7 : Int32) (S : cs) (R24 : Nat → Int32 → Int32 → Int32 → Int32 → cs → Prop) (K : cs → Prop) : Prop :=
  c_cl U x1 = 7 ∧ (¬ S.2.2 x1 4 = NU ∧ (c_cl U (S.2.2 x1 4) = 902 ∧ (vp_in x2 (c_ln U (S.2.2 x1 4)) ∧ (((S.1 (S.2.2 x1 4) x2.toNatClampNeg) ≤ x7 → (K S)) ∧ (¬ ((S.1 (S.2.2 x1 4) x2.toNatClampNeg) ≤ x7) → (e_Sc_addStretch_38 U u x1 x2 x5 x6 x7 0 S R24 K))))))
def e_Sc_addStretch_24 (U : ut) (u : Nat) (x1 : Nat) (x2 : Int32) (x5 : Int32) (x6 : Int32) (x7 : Int32) (S : cs) (K : cs → Prop) : Prop :=
  ∃ (I : Nat → Int32 → Int32 → Int32 → Int32 → cs → Prop) (μ : Nat → Int32 → Int32 → Int32 → Int32 → cs → Nat), I x1 x2 x5 x6 x7 S ∧ ∀ yx1 yx2 yx5 yx6 yx7 yS, I yx1 yx2 yx5 yx6 yx7 yS → b_Sc_addStretch_24 U u yx1 yx2 yx5 yx6 yx7 yS (fun zx1 zx2 zx5 zx6 zx7 zS => I zx1 zx2 zx5 zx6 zx7 zS ∧ μ zx1 zx2 zx5 zx6 zx7 zS < μ yx1 yx2 yx5 yx6 yx7 yS) K
def p_Sc_addStretch (U : ut) (u : Nat) (x1 : Nat) (x2 : Int32) (x3 : Int32) (x4 : Int32) (S : cs) (K : cs → Prop) : Prop :=
  c_cl U x1 = 7 ∧ (¬ S.2.2 x1 3 = NU ∧ (c_cl U (S.2.2 x1 3) = 902 ∧ (vp_in x2 (c_ln U (S.2.2 x1 3)) ∧ (¬ S.2.2 x1 4 = NU ∧ (c_cl U (S.2.2 x1 4) = 902 ∧ (vp_in x2 (c_ln U (S.2.2 x1 4)) ∧ (e_Sc_addStretch_24 U u x1 x2 (x3 * (S.1 (S.2.2 x1 3) x2.toNatClampNeg)) (x4 * (S.1 (S.2.2 x1 4) x2.toNatClampNeg)) 0 S K)))))))
section C_Sc_addStretch
variable {D : va_G} {z : Nat → ClassId} {A : Nat → Prop} {X : cx} {L0 : fw} {U : ut} {oa : Nat → Nat} {u : Nat} {K : cs → Prop}
set_option maxRecDepth 100000 in
set_option maxHeartbeats 1000000 in
theorem s_Sc_addStretch_38 (C : fcx gG D z A X R_Sc c_C_Sc_addStretch 9 (none)) (hQ : X.2.2.2.2.2.2.2.2.2.2 = eQ gG D z X.2.2.2.2.2.2.2.1 X.2.2.2.2.1 L0 0 0 (pC_v lt_C U oa K (fun _ _ => False))) (hA : A = owA gG L0 X.2.2.2.2.1.heap.size) (hR : X.2.2.2.1 = { frames := 2, cells := 1, slots := 6, locals := 200 }) (hu : c_cl U u = 10) (x1 : Nat) (x2 : Int32) (x5 : Int32) (x6 : Int32) (x7 : Int32) (x8 : Int32) (S : cs) (R24 : Nat → Int32 → Int32 → Int32 → Int32 → cs → Prop) (hR24 : ∀ yx1 yx2 yx5 yx6 yx7 yS, R24 yx1 yx2 yx5 yx6 yx7 yS → aw gG D z A X 9 24 [some (.ref (oa u)), some (.ref (oa yx1)), some (.int yx2), none, none, some (.int yx5), some (.int yx6), some (.int yx7), none] [] (cw lt_C U oa yS) 0 0) (R38 : Nat → Int32 → Int32 → Int32 → Int32 → Int32 → cs → Prop) (hR38 : ∀ yx1 yx2 yx5 yx6 yx7 yx8 yS, R38 yx1 yx2 yx5 yx6 yx7 yx8 yS → aw gG D z A X 9 38 [some (.ref (oa u)), some (.ref (oa yx1)), some (.int yx2), none, none, some (.int yx5), some (.int yx6), some (.int yx7), some (.int yx8)] [] (cw lt_C U oa yS) 0 0) (hp : b_Sc_addStretch_38 U u x1 x2 x5 x6 x7 x8 S R24 R38 K) : aw gG D z A X 9 38 [some (.ref (oa u)), some (.ref (oa x1)), some (.int x2), none, none, some (.int x5), some (.int x6), some (.int x7), some (.int x8)] [] (cw lt_C U oa S) 0 0 := by
  unfold b_Sc_addStretch_38 at hp
  refine a_iload C dc_Sc_addStretch_38 rfl ?_
  refine a_aload_n C dc_Sc_addStretch_40 rfl rfl ?_
  have hc1 := hp.1
  have hp := hp.2
  refine c_getRN C x1 3 dc_Sc_addStretch_41 hc1 rfl rfl (Nat.le_of_ble_eq_true rfl) f_Sc_28 rfl hp.1 ?_
  have hp := hp.2
  refine a_iload_n C dc_Sc_addStretch_44 rfl rfl ?_
  have hc2 := hp.1
  have hp := hp.2
  refine c_iald C (S.2.2 x1 3) dc_Sc_addStretch_45 hc2 hp.1 ?_
  have hp := hp.2
  refine a_icmp_ge (tgt := 78) C dc_Sc_addStretch_46 (by decide) ⟨fun hc => ?_, fun hc => ?_⟩
  · have hp := hp.1 hc
    refine a_iinc (v := x7 + 1) (lo' := [some (.ref (oa u)), some (.ref (oa x1)), some (.int x2), none, none, some (.int x5), some (.int x6), some (.int (x7 + 1)), some (.int x8)]) C dc_Sc_addStretch_78 rfl rfl (by decide) rfl ?_
    refine a_goto (tgt := 24) C dc_Sc_addStretch_81 (by decide) ?_
    refine aw_lo (lo' := [some (.ref (oa u)), some (.ref (oa x1)), some (.int x2), none, none, some (.int x5), some (.int x6), some (.int (x7 + 1)), none]) ⟨.inr rfl, .inr rfl, .inr rfl, .inr rfl, .inr rfl, .inr rfl, .inr rfl, .inr rfl, .inl rfl, trivial⟩ ?_
    exact hR24 x1 x2 x5 x6 (x7 + 1) S hp
  · have hp := hp.2 hc
    refine a_aload_n C dc_Sc_addStretch_49 rfl rfl ?_
    refine a_iload_n C dc_Sc_addStretch_50 rfl rfl ?_
    refine a_iload C dc_Sc_addStretch_51 rfl ?_
    refine a_iload C dc_Sc_addStretch_53 rfl ?_
    refine a_iadd C dc_Sc_addStretch_55 ?_
    refine a_aload_n C dc_Sc_addStretch_56 rfl rfl ?_
    refine c_getRN C x1 11 dc_Sc_addStretch_57 hc1 rfl rfl (Nat.le_of_ble_eq_true rfl) f_Sc_63 rfl hp.1 ?_
    have hp := hp.2
    refine a_iload_n C dc_Sc_addStretch_60 rfl rfl ?_
    have hc3 := hp.1
    have hp := hp.2
    refine c_iald C (S.2.2 x1 11) dc_Sc_addStretch_61 hc3 hp.1 ?_
    have hp := hp.2
    refine a_imul C dc_Sc_addStretch_62 ?_
    refine a_iload C dc_Sc_addStretch_63 rfl ?_
    refine a_iadd C dc_Sc_addStretch_65 ?_
    refine a_iload C dc_Sc_addStretch_66 rfl ?_
    refine a_iadd C dc_Sc_addStretch_68 ?_
    refine c_call (rest := []) (av := .ref (oa u) :: [.int x2, .int ((((x6 + x7) * (S.1 (S.2.2 x1 11) x2.toNatClampNeg)) + x5) + x8)]) C dc_Sc_addStretch_69 (ct_Sc_addBlock u x2 ((((x6 + x7) * (S.1 (S.2.2 x1 11) x2.toNatClampNeg)) + x5) + x8) S hu hp) cd_C_Sc_addBlock i_Sc (Nat.le_of_ble_eq_true rfl) (by rw [hR]; exact Nat.le_of_ble_eq_true rfl) (by rw [hR]; exact Nat.le_of_ble_eq_true rfl) (by rw [hR]; exact Nat.le_of_ble_eq_true rfl) (by rw [hR]; exact Nat.le_of_ble_eq_true rfl) (inv_V C u dc_Sc_addStretch_69 l_Sc_66 im_C_Sc_addBlock se_C_Sc_addBlock cd_C_Sc_addBlock ⟨by decide, by decide⟩ ln_C_Sc_addBlock rfl rfl (cw_obj hu rfl) rfl rfl) (fun oc L1 hL => ?_)
    obtain ⟨S69, hp, rfl, rfl⟩ := hL.resolve_right pC_no
    refine ⟨_, rfl, ?_⟩
    refine aw_eq (lo' := _) (st' := []) (L' := (cw lt_C U oa S69)) rfl rfl rfl ?_
    refine a_iinc (v := x8 + 1) (lo' := [some (.ref (oa u)), some (.ref (oa x1)), some (.int x2), none, none, some (.int x5), some (.int x6), some (.int x7), some (.int (x8 + 1))]) C dc_Sc_addStretch_72 rfl rfl (by decide) rfl ?_
    refine a_goto (tgt := 38) C dc_Sc_addStretch_75 (by decide) ?_
    refine aw_lo (lo' := [some (.ref (oa u)), some (.ref (oa x1)), some (.int x2), none, none, some (.int x5), some (.int x6), some (.int x7), some (.int (x8 + 1))]) ⟨.inr rfl, .inr rfl, .inr rfl, .inr rfl, .inr rfl, .inr rfl, .inr rfl, .inr rfl, .inr rfl, trivial⟩ ?_
    exact hR38 x1 x2 x5 x6 x7 (x8 + 1) S69 hp
set_option maxRecDepth 100000 in
set_option maxHeartbeats 1000000 in
theorem se_Sc_addStretch_38 (C : fcx gG D z A X R_Sc c_C_Sc_addStretch 9 (none)) (hQ : X.2.2.2.2.2.2.2.2.2.2 = eQ gG D z X.2.2.2.2.2.2.2.1 X.2.2.2.2.1 L0 0 0 (pC_v lt_C U oa K (fun _ _ => False))) (hA : A = owA gG L0 X.2.2.2.2.1.heap.size) (hR : X.2.2.2.1 = { frames := 2, cells := 1, slots := 6, locals := 200 }) (hu : c_cl U u = 10) (x1 : Nat) (x2 : Int32) (x5 : Int32) (x6 : Int32) (x7 : Int32) (x8 : Int32) (S : cs) (R24 : Nat → Int32 → Int32 → Int32 → Int32 → cs → Prop) (hR24 : ∀ yx1 yx2 yx5 yx6 yx7 yS, R24 yx1 yx2 yx5 yx6 yx7 yS → aw gG D z A X 9 24 [some (.ref (oa u)), some (.ref (oa yx1)), some (.int yx2), none, none, some (.int yx5), some (.int yx6), some (.int yx7), none] [] (cw lt_C U oa yS) 0 0) (hp : e_Sc_addStretch_38 U u x1 x2 x5 x6 x7 x8 S R24 K) : aw gG D z A X 9 38 [some (.ref (oa u)), some (.ref (oa x1)), some (.int x2), none, none, some (.int x5), some (.int x6), some (.int x7), some (.int x8)] [] (cw lt_C U oa S) 0 0 := by
  obtain ⟨I, μ, h0, hs⟩ := hp
  have key : ∀ (n : Nat) (yx1 : Nat) (yx2 : Int32) (yx5 : Int32) (yx6 : Int32) (yx7 : Int32) (yx8 : Int32) (yS : cs), μ yx1 yx2 yx5 yx6 yx7 yx8 yS < n → I yx1 yx2 yx5 yx6 yx7 yx8 yS → aw gG D z A X 9 38 [some (.ref (oa u)), some (.ref (oa yx1)), some (.int yx2), none, none, some (.int yx5), some (.int yx6), some (.int yx7), some (.int yx8)] [] (cw lt_C U oa yS) 0 0 := by
    intro n
    induction n with
    | zero => intro yx1 yx2 yx5 yx6 yx7 yx8 yS h; omega
    | succ n ih =>
      intro yx1 yx2 yx5 yx6 yx7 yx8 yS hn hI
      exact s_Sc_addStretch_38 C hQ hA hR hu yx1 yx2 yx5 yx6 yx7 yx8 yS R24 hR24 _ (fun zx1 zx2 zx5 zx6 zx7 zx8 zS hw => ih zx1 zx2 zx5 zx6 zx7 zx8 zS (by omega) hw.1) (hs yx1 yx2 yx5 yx6 yx7 yx8 yS hI)
  exact key (μ x1 x2 x5 x6 x7 x8 S + 1) x1 x2 x5 x6 x7 x8 S (Nat.lt_succ_self _) h0
set_option maxRecDepth 100000 in
set_option maxHeartbeats 1000000 in
theorem s_Sc_addStretch_24 (C : fcx gG D z A X R_Sc c_C_Sc_addStretch 9 (none)) (hQ : X.2.2.2.2.2.2.2.2.2.2 = eQ gG D z X.2.2.2.2.2.2.2.1 X.2.2.2.2.1 L0 0 0 (pC_v lt_C U oa K (fun _ _ => False))) (hA : A = owA gG L0 X.2.2.2.2.1.heap.size) (hR : X.2.2.2.1 = { frames := 2, cells := 1, slots := 6, locals := 200 }) (hu : c_cl U u = 10) (x1 : Nat) (x2 : Int32) (x5 : Int32) (x6 : Int32) (x7 : Int32) (S : cs) (R24 : Nat → Int32 → Int32 → Int32 → Int32 → cs → Prop) (hR24 : ∀ yx1 yx2 yx5 yx6 yx7 yS, R24 yx1 yx2 yx5 yx6 yx7 yS → aw gG D z A X 9 24 [some (.ref (oa u)), some (.ref (oa yx1)), some (.int yx2), none, none, some (.int yx5), some (.int yx6), some (.int yx7), none] [] (cw lt_C U oa yS) 0 0) (hp : b_Sc_addStretch_24 U u x1 x2 x5 x6 x7 S R24 K) : aw gG D z A X 9 24 [some (.ref (oa u)), some (.ref (oa x1)), some (.int x2), none, none, some (.int x5), some (.int x6), some (.int x7), none] [] (cw lt_C U oa S) 0 0 := by
  unfold b_Sc_addStretch_24 at hp
  refine a_iload C dc_Sc_addStretch_24 rfl ?_
  refine a_aload_n C dc_Sc_addStretch_26 rfl rfl ?_
  have hc4 := hp.1
  have hp := hp.2
  refine c_getRN C x1 4 dc_Sc_addStretch_27 hc4 rfl rfl (Nat.le_of_ble_eq_true rfl) f_Sc_33 rfl hp.1 ?_
  have hp := hp.2
  refine a_iload_n C dc_Sc_addStretch_30 rfl rfl ?_
  have hc5 := hp.1
  have hp := hp.2
  refine c_iald C (S.2.2 x1 4) dc_Sc_addStretch_31 hc5 hp.1 ?_
  have hp := hp.2
  refine a_icmp_ge (tgt := 84) C dc_Sc_addStretch_32 (by decide) ⟨fun hc => ?_, fun hc => ?_⟩
  · have hp := hp.1 hc
    exact a_vret C hQ hA dc_Sc_addStretch_84 rfl (Or.inl ⟨S, hp, rfl, rfl⟩)
  · have hp := hp.2 hc
    refine a_iconst (v := 0) C dc_Sc_addStretch_35 (by decide) ?_
    refine a_istore (lo' := [some (.ref (oa u)), some (.ref (oa x1)), some (.int x2), none, none, some (.int x5), some (.int x6), some (.int x7), some (.int 0)]) C dc_Sc_addStretch_36 (by decide) rfl ?_
    refine aw_lo (lo' := [some (.ref (oa u)), some (.ref (oa x1)), some (.int x2), none, none, some (.int x5), some (.int x6), some (.int x7), some (.int 0)]) ⟨.inr rfl, .inr rfl, .inr rfl, .inr rfl, .inr rfl, .inr rfl, .inr rfl, .inr rfl, .inr rfl, trivial⟩ ?_
    exact se_Sc_addStretch_38 C hQ hA hR hu x1 x2 x5 x6 x7 0 S R24 hR24 hp
set_option maxRecDepth 100000 in
set_option maxHeartbeats 1000000 in
theorem se_Sc_addStretch_24 (C : fcx gG D z A X R_Sc c_C_Sc_addStretch 9 (none)) (hQ : X.2.2.2.2.2.2.2.2.2.2 = eQ gG D z X.2.2.2.2.2.2.2.1 X.2.2.2.2.1 L0 0 0 (pC_v lt_C U oa K (fun _ _ => False))) (hA : A = owA gG L0 X.2.2.2.2.1.heap.size) (hR : X.2.2.2.1 = { frames := 2, cells := 1, slots := 6, locals := 200 }) (hu : c_cl U u = 10) (x1 : Nat) (x2 : Int32) (x5 : Int32) (x6 : Int32) (x7 : Int32) (S : cs) (hp : e_Sc_addStretch_24 U u x1 x2 x5 x6 x7 S K) : aw gG D z A X 9 24 [some (.ref (oa u)), some (.ref (oa x1)), some (.int x2), none, none, some (.int x5), some (.int x6), some (.int x7), none] [] (cw lt_C U oa S) 0 0 := by
  obtain ⟨I, μ, h0, hs⟩ := hp
  have key : ∀ (n : Nat) (yx1 : Nat) (yx2 : Int32) (yx5 : Int32) (yx6 : Int32) (yx7 : Int32) (yS : cs), μ yx1 yx2 yx5 yx6 yx7 yS < n → I yx1 yx2 yx5 yx6 yx7 yS → aw gG D z A X 9 24 [some (.ref (oa u)), some (.ref (oa yx1)), some (.int yx2), none, none, some (.int yx5), some (.int yx6), some (.int yx7), none] [] (cw lt_C U oa yS) 0 0 := by
    intro n
    induction n with
    | zero => intro yx1 yx2 yx5 yx6 yx7 yS h; omega
    | succ n ih =>
      intro yx1 yx2 yx5 yx6 yx7 yS hn hI
      exact s_Sc_addStretch_24 C hQ hA hR hu yx1 yx2 yx5 yx6 yx7 yS _ (fun zx1 zx2 zx5 zx6 zx7 zS hw => ih zx1 zx2 zx5 zx6 zx7 zS (by omega) hw.1) (hs yx1 yx2 yx5 yx6 yx7 yS hI)
  exact key (μ x1 x2 x5 x6 x7 S + 1) x1 x2 x5 x6 x7 S (Nat.lt_succ_self _) h0
set_option maxRecDepth 100000 in
set_option maxHeartbeats 1000000 in
theorem s_Sc_addStretch_0 (C : fcx gG D z A X R_Sc c_C_Sc_addStretch 9 (none)) (hQ : X.2.2.2.2.2.2.2.2.2.2 = eQ gG D z X.2.2.2.2.2.2.2.1 X.2.2.2.2.1 L0 0 0 (pC_v lt_C U oa K (fun _ _ => False))) (hA : A = owA gG L0 X.2.2.2.2.1.heap.size) (hR : X.2.2.2.1 = { frames := 2, cells := 1, slots := 6, locals := 200 }) (hu : c_cl U u = 10) (x1 : Nat) (x2 : Int32) (x3 : Int32) (x4 : Int32) (S : cs) (hp : p_Sc_addStretch U u x1 x2 x3 x4 S K) : aw gG D z A X 9 0 [some (.ref (oa u)), some (.ref (oa x1)), some (.int x2), some (.int x3), some (.int x4), none, none, none, none] [] (cw lt_C U oa S) 0 0 := by
  unfold p_Sc_addStretch at hp
  refine a_iload_n C dc_Sc_addStretch_0 rfl rfl ?_
  refine a_aload_n C dc_Sc_addStretch_1 rfl rfl ?_
  have hc6 := hp.1
  have hp := hp.2
  refine c_getRN C x1 3 dc_Sc_addStretch_2 hc6 rfl rfl (Nat.le_of_ble_eq_true rfl) f_Sc_28 rfl hp.1 ?_
  have hp := hp.2
  refine a_iload_n C dc_Sc_addStretch_5 rfl rfl ?_
  have hc7 := hp.1
  have hp := hp.2
  refine c_iald C (S.2.2 x1 3) dc_Sc_addStretch_6 hc7 hp.1 ?_
  have hp := hp.2
  refine a_imul C dc_Sc_addStretch_7 ?_
  refine a_istore (lo' := [some (.ref (oa u)), some (.ref (oa x1)), some (.int x2), some (.int x3), some (.int x4), some (.int (x3 * (S.1 (S.2.2 x1 3) x2.toNatClampNeg))), none, none, none]) C dc_Sc_addStretch_8 (by decide) rfl ?_
  refine a_iload C dc_Sc_addStretch_10 rfl ?_
  refine a_aload_n C dc_Sc_addStretch_12 rfl rfl ?_
  refine c_getRN C x1 4 dc_Sc_addStretch_13 hc6 rfl rfl (Nat.le_of_ble_eq_true rfl) f_Sc_33 rfl hp.1 ?_
  have hp := hp.2
  refine a_iload_n C dc_Sc_addStretch_16 rfl rfl ?_
  have hc8 := hp.1
  have hp := hp.2
  refine c_iald C (S.2.2 x1 4) dc_Sc_addStretch_17 hc8 hp.1 ?_
  have hp := hp.2
  refine a_imul C dc_Sc_addStretch_18 ?_
  refine a_istore (lo' := [some (.ref (oa u)), some (.ref (oa x1)), some (.int x2), some (.int x3), some (.int x4), some (.int (x3 * (S.1 (S.2.2 x1 3) x2.toNatClampNeg))), some (.int (x4 * (S.1 (S.2.2 x1 4) x2.toNatClampNeg))), none, none]) C dc_Sc_addStretch_19 (by decide) rfl ?_
  refine a_iconst (v := 0) C dc_Sc_addStretch_21 (by decide) ?_
  refine a_istore (lo' := [some (.ref (oa u)), some (.ref (oa x1)), some (.int x2), some (.int x3), some (.int x4), some (.int (x3 * (S.1 (S.2.2 x1 3) x2.toNatClampNeg))), some (.int (x4 * (S.1 (S.2.2 x1 4) x2.toNatClampNeg))), some (.int 0), none]) C dc_Sc_addStretch_22 (by decide) rfl ?_
  refine aw_lo (lo' := [some (.ref (oa u)), some (.ref (oa x1)), some (.int x2), none, none, some (.int (x3 * (S.1 (S.2.2 x1 3) x2.toNatClampNeg))), some (.int (x4 * (S.1 (S.2.2 x1 4) x2.toNatClampNeg))), some (.int 0), none]) ⟨.inr rfl, .inr rfl, .inr rfl, .inl rfl, .inl rfl, .inr rfl, .inr rfl, .inr rfl, .inr rfl, trivial⟩ ?_
  exact se_Sc_addStretch_24 C hQ hA hR hu x1 x2 (x3 * (S.1 (S.2.2 x1 3) x2.toNatClampNeg)) (x4 * (S.1 (S.2.2 x1 4) x2.toNatClampNeg)) 0 S  hp
end C_Sc_addStretch
section C_Sc_addStretchc
variable {D : va_G} {z : Nat → ClassId} {U : ut} {oa : Nat → Nat}
set_option maxRecDepth 100000 in
theorem ct_Sc_addStretch {l : Launch} (u : Nat) (x1 : Nat) (x2 : Int32) (x3 : Int32) (x4 : Int32) (S : cs) {K : cs → Prop} (hu : c_cl U u = 10) (hp : p_Sc_addStretch U u x1 x2 x3 x4 S K) : ct gG D z l n_C_Sc_addStretch c_C_Sc_addStretch 9 (none) 2 200 [.ref (oa u), .ref (oa x1), .int x2, .int x3, .int x4] (cw lt_C U oa S) 0 0 (pC_v lt_C U oa K (fun _ _ => False)) := by
  refine ct_of (lo := [some (.ref (oa u)), some (.ref (oa x1)), some (.int x2), some (.int x3), some (.int x4), none, none, none, none]) (by decide) g_ok (Nat.le_of_ble_eq_true rfl) rfl ?_
  intro X A _ C hR hQ hA _
  exact s_Sc_addStretch_0 C hQ hA hR hu x1 x2 x3 x4 S hp
end C_Sc_addStretchc
def b_Sc_arrangeTogether_23 (U : ut) (u : Nat) (x1 : Nat) (x2 : Int32) (x3 : Int32) (x4 : Int32) (S : cs) (R2 : Nat → Int32 → cs → Prop) (R12 : Nat → Int32 → Int32 → cs → Prop) (R23 : Nat → Int32 → Int32 → Int32 → cs → Prop) (K : cs → Prop) : Prop :=
  ((S.1 u 0) ≤ x4 → (R12 x1 x2 (x3 + 1) S)) ∧ (¬ ((S.1 u 0) ≤ x4) → (¬ S.2.2 u 1 = NU ∧ (c_cl U (S.2.2 u 1) = 902 ∧ (vp_in x4 (c_ln U (S.2.2 u 1)) ∧ (p_Sc_addStretch U u x1 (S.1 (S.2.2 u 1) x4.toNatClampNeg) x3 x2 S (fun S43 => R23 x1 x2 x3 (x4 + 1) S43))))))
def e_Sc_arrangeTogether_23 (U : ut) (u : Nat) (x1 : Nat) (x2 : Int32) (x3 : Int32) (x4 : Int32) (S : cs) (R2 : Nat → Int32 → cs → Prop) (R12 : Nat → Int32 → Int32 → cs → Prop) (K : cs → Prop) : Prop :=
  ∃ (I : Nat → Int32 → Int32 → Int32 → cs → Prop) (μ : Nat → Int32 → Int32 → Int32 → cs → Nat), I x1 x2 x3 x4 S ∧ ∀ yx1 yx2 yx3 yx4 yS, I yx1 yx2 yx3 yx4 yS → b_Sc_arrangeTogether_23 U u yx1 yx2 yx3 yx4 yS R2 R12 (fun zx1 zx2 zx3 zx4 zS => I zx1 zx2 zx3 zx4 zS ∧ μ zx1 zx2 zx3 zx4 zS < μ yx1 yx2 yx3 yx4 yS) K
def b_Sc_arrangeTogether_12 (U : ut) (u : Nat) (x1 : Nat) (x2 : Int32) (x3 : Int32) (S : cs) (R2 : Nat → Int32 → cs → Prop) (R12 : Nat → Int32 → Int32 → cs → Prop) (K : cs → Prop) : Prop :=
  c_cl U x1 = 7 ∧ (((S.1 x1 7) ≤ x3 → (R2 x1 (x2 + 1) S)) ∧ (¬ ((S.1 x1 7) ≤ x3) → (e_Sc_arrangeTogether_23 U u x1 x2 x3 0 S R2 R12 K)))
def e_Sc_arrangeTogether_12 (U : ut) (u : Nat) (x1 : Nat) (x2 : Int32) (x3 : Int32) (S : cs) (R2 : Nat → Int32 → cs → Prop) (K : cs → Prop) : Prop :=
  ∃ (I : Nat → Int32 → Int32 → cs → Prop) (μ : Nat → Int32 → Int32 → cs → Nat), I x1 x2 x3 S ∧ ∀ yx1 yx2 yx3 yS, I yx1 yx2 yx3 yS → b_Sc_arrangeTogether_12 U u yx1 yx2 yx3 yS R2 (fun zx1 zx2 zx3 zS => I zx1 zx2 zx3 zS ∧ μ zx1 zx2 zx3 zS < μ yx1 yx2 yx3 yS) K
def b_Sc_arrangeTogether_2 (U : ut) (u : Nat) (x1 : Nat) (x2 : Int32) (S : cs) (R2 : Nat → Int32 → cs → Prop) (K : cs → Prop) : Prop :=
  c_cl U x1 = 7 ∧ (((S.1 x1 8) ≤ x2 → (K S)) ∧ (¬ ((S.1 x1 8) ≤ x2) → (e_Sc_arrangeTogether_12 U u x1 x2 0 S R2 K)))
def e_Sc_arrangeTogether_2 (U : ut) (u : Nat) (x1 : Nat) (x2 : Int32) (S : cs) (K : cs → Prop) : Prop :=
  ∃ (I : Nat → Int32 → cs → Prop) (μ : Nat → Int32 → cs → Nat), I x1 x2 S ∧ ∀ yx1 yx2 yS, I yx1 yx2 yS → b_Sc_arrangeTogether_2 U u yx1 yx2 yS (fun zx1 zx2 zS => I zx1 zx2 zS ∧ μ zx1 zx2 zS < μ yx1 yx2 yS) K
def p_Sc_arrangeTogether (U : ut) (u : Nat) (x1 : Nat) (S : cs) (K : cs → Prop) : Prop :=
  e_Sc_arrangeTogether_2 U u x1 0 S K
section C_Sc_arrangeTogether
variable {D : va_G} {z : Nat → ClassId} {A : Nat → Prop} {X : cx} {L0 : fw} {U : ut} {oa : Nat → Nat} {u : Nat} {K : cs → Prop}
set_option maxRecDepth 100000 in
set_option maxHeartbeats 1000000 in
theorem s_Sc_arrangeTogether_23 (C : fcx gG D z A X R_Sc c_C_Sc_arrangeTogether 5 (none)) (hQ : X.2.2.2.2.2.2.2.2.2.2 = eQ gG D z X.2.2.2.2.2.2.2.1 X.2.2.2.2.1 L0 0 0 (pC_v lt_C U oa K (fun _ _ => False))) (hA : A = owA gG L0 X.2.2.2.2.1.heap.size) (hR : X.2.2.2.1 = { frames := 3, cells := 1, slots := 6, locals := 300 }) (hu : c_cl U u = 10) (x1 : Nat) (x2 : Int32) (x3 : Int32) (x4 : Int32) (S : cs) (R2 : Nat → Int32 → cs → Prop) (hR2 : ∀ yx1 yx2 yS, R2 yx1 yx2 yS → aw gG D z A X 5 2 [some (.ref (oa u)), some (.ref (oa yx1)), some (.int yx2), none, none] [] (cw lt_C U oa yS) 0 0) (R12 : Nat → Int32 → Int32 → cs → Prop) (hR12 : ∀ yx1 yx2 yx3 yS, R12 yx1 yx2 yx3 yS → aw gG D z A X 5 12 [some (.ref (oa u)), some (.ref (oa yx1)), some (.int yx2), some (.int yx3), none] [] (cw lt_C U oa yS) 0 0) (R23 : Nat → Int32 → Int32 → Int32 → cs → Prop) (hR23 : ∀ yx1 yx2 yx3 yx4 yS, R23 yx1 yx2 yx3 yx4 yS → aw gG D z A X 5 23 [some (.ref (oa u)), some (.ref (oa yx1)), some (.int yx2), some (.int yx3), some (.int yx4)] [] (cw lt_C U oa yS) 0 0) (hp : b_Sc_arrangeTogether_23 U u x1 x2 x3 x4 S R2 R12 R23 K) : aw gG D z A X 5 23 [some (.ref (oa u)), some (.ref (oa x1)), some (.int x2), some (.int x3), some (.int x4)] [] (cw lt_C U oa S) 0 0 := by
  unfold b_Sc_arrangeTogether_23 at hp
  refine a_iload C dc_Sc_arrangeTogether_23 rfl ?_
  refine a_aload_n C dc_Sc_arrangeTogether_25 rfl rfl ?_
  refine c_getI C u 0 dc_Sc_arrangeTogether_26 hu rfl rfl (Nat.le_of_ble_eq_true rfl) f_Sc_24 (Nat.le_of_ble_eq_true rfl) ?_
  refine a_icmp_ge (tgt := 52) C dc_Sc_arrangeTogether_29 (by decide) ⟨fun hc => ?_, fun hc => ?_⟩
  · have hp := hp.1 hc
    refine a_iinc (v := x3 + 1) (lo' := [some (.ref (oa u)), some (.ref (oa x1)), some (.int x2), some (.int (x3 + 1)), some (.int x4)]) C dc_Sc_arrangeTogether_52 rfl rfl (by decide) rfl ?_
    refine a_goto (tgt := 12) C dc_Sc_arrangeTogether_55 (by decide) ?_
    refine aw_lo (lo' := [some (.ref (oa u)), some (.ref (oa x1)), some (.int x2), some (.int (x3 + 1)), none]) ⟨.inr rfl, .inr rfl, .inr rfl, .inr rfl, .inl rfl, trivial⟩ ?_
    exact hR12 x1 x2 (x3 + 1) S hp
  · have hp := hp.2 hc
    refine a_aload_n C dc_Sc_arrangeTogether_32 rfl rfl ?_
    refine a_aload_n C dc_Sc_arrangeTogether_33 rfl rfl ?_
    refine a_aload_n C dc_Sc_arrangeTogether_34 rfl rfl ?_
    refine c_getR C u 1 dc_Sc_arrangeTogether_35 hu rfl rfl (Nat.le_of_ble_eq_true rfl) f_Sc_9 rfl hp.1 ?_
    have hp := hp.2
    refine a_iload C dc_Sc_arrangeTogether_38 rfl ?_
    have hc1 := hp.1
    have hp := hp.2
    refine c_iald C (S.2.2 u 1) dc_Sc_arrangeTogether_40 hc1 hp.1 ?_
    have hp := hp.2
    refine a_iload_n C dc_Sc_arrangeTogether_41 rfl rfl ?_
    refine a_iload_n C dc_Sc_arrangeTogether_42 rfl rfl ?_
    refine c_call (rest := []) (av := .ref (oa u) :: [.ref (oa x1), .int (S.1 (S.2.2 u 1) x4.toNatClampNeg), .int x3, .int x2]) C dc_Sc_arrangeTogether_43 (ct_Sc_addStretch u x1 (S.1 (S.2.2 u 1) x4.toNatClampNeg) x3 x2 S hu hp) cd_C_Sc_addStretch i_Sc (Nat.le_of_ble_eq_true rfl) (by rw [hR]; exact Nat.le_of_ble_eq_true rfl) (by rw [hR]; exact Nat.le_of_ble_eq_true rfl) (by rw [hR]; exact Nat.le_of_ble_eq_true rfl) (by rw [hR]; exact Nat.le_of_ble_eq_true rfl) (inv_V C u dc_Sc_arrangeTogether_43 l_Sc_76 im_C_Sc_addStretch se_C_Sc_addStretch cd_C_Sc_addStretch ⟨by decide, by decide⟩ ln_C_Sc_addStretch rfl rfl (cw_obj hu rfl) rfl rfl) (fun oc L1 hL => ?_)
    obtain ⟨S43, hp, rfl, rfl⟩ := hL.resolve_right pC_no
    refine ⟨_, rfl, ?_⟩
    refine aw_eq (lo' := _) (st' := []) (L' := (cw lt_C U oa S43)) rfl rfl rfl ?_
    refine a_iinc (v := x4 + 1) (lo' := [some (.ref (oa u)), some (.ref (oa x1)), some (.int x2), some (.int x3), some (.int (x4 + 1))]) C dc_Sc_arrangeTogether_46 rfl rfl (by decide) rfl ?_
    refine a_goto (tgt := 23) C dc_Sc_arrangeTogether_49 (by decide) ?_
    refine aw_lo (lo' := [some (.ref (oa u)), some (.ref (oa x1)), some (.int x2), some (.int x3), some (.int (x4 + 1))]) ⟨.inr rfl, .inr rfl, .inr rfl, .inr rfl, .inr rfl, trivial⟩ ?_
    exact hR23 x1 x2 x3 (x4 + 1) S43 hp
set_option maxRecDepth 100000 in
set_option maxHeartbeats 1000000 in
theorem se_Sc_arrangeTogether_23 (C : fcx gG D z A X R_Sc c_C_Sc_arrangeTogether 5 (none)) (hQ : X.2.2.2.2.2.2.2.2.2.2 = eQ gG D z X.2.2.2.2.2.2.2.1 X.2.2.2.2.1 L0 0 0 (pC_v lt_C U oa K (fun _ _ => False))) (hA : A = owA gG L0 X.2.2.2.2.1.heap.size) (hR : X.2.2.2.1 = { frames := 3, cells := 1, slots := 6, locals := 300 }) (hu : c_cl U u = 10) (x1 : Nat) (x2 : Int32) (x3 : Int32) (x4 : Int32) (S : cs) (R2 : Nat → Int32 → cs → Prop) (hR2 : ∀ yx1 yx2 yS, R2 yx1 yx2 yS → aw gG D z A X 5 2 [some (.ref (oa u)), some (.ref (oa yx1)), some (.int yx2), none, none] [] (cw lt_C U oa yS) 0 0) (R12 : Nat → Int32 → Int32 → cs → Prop) (hR12 : ∀ yx1 yx2 yx3 yS, R12 yx1 yx2 yx3 yS → aw gG D z A X 5 12 [some (.ref (oa u)), some (.ref (oa yx1)), some (.int yx2), some (.int yx3), none] [] (cw lt_C U oa yS) 0 0) (hp : e_Sc_arrangeTogether_23 U u x1 x2 x3 x4 S R2 R12 K) : aw gG D z A X 5 23 [some (.ref (oa u)), some (.ref (oa x1)), some (.int x2), some (.int x3), some (.int x4)] [] (cw lt_C U oa S) 0 0 := by
  obtain ⟨I, μ, h0, hs⟩ := hp
  have key : ∀ (n : Nat) (yx1 : Nat) (yx2 : Int32) (yx3 : Int32) (yx4 : Int32) (yS : cs), μ yx1 yx2 yx3 yx4 yS < n → I yx1 yx2 yx3 yx4 yS → aw gG D z A X 5 23 [some (.ref (oa u)), some (.ref (oa yx1)), some (.int yx2), some (.int yx3), some (.int yx4)] [] (cw lt_C U oa yS) 0 0 := by
    intro n
    induction n with
    | zero => intro yx1 yx2 yx3 yx4 yS h; omega
    | succ n ih =>
      intro yx1 yx2 yx3 yx4 yS hn hI
      exact s_Sc_arrangeTogether_23 C hQ hA hR hu yx1 yx2 yx3 yx4 yS R2 hR2 R12 hR12 _ (fun zx1 zx2 zx3 zx4 zS hw => ih zx1 zx2 zx3 zx4 zS (by omega) hw.1) (hs yx1 yx2 yx3 yx4 yS hI)
  exact key (μ x1 x2 x3 x4 S + 1) x1 x2 x3 x4 S (Nat.lt_succ_self _) h0
set_option maxRecDepth 100000 in
set_option maxHeartbeats 1000000 in
theorem s_Sc_arrangeTogether_12 (C : fcx gG D z A X R_Sc c_C_Sc_arrangeTogether 5 (none)) (hQ : X.2.2.2.2.2.2.2.2.2.2 = eQ gG D z X.2.2.2.2.2.2.2.1 X.2.2.2.2.1 L0 0 0 (pC_v lt_C U oa K (fun _ _ => False))) (hA : A = owA gG L0 X.2.2.2.2.1.heap.size) (hR : X.2.2.2.1 = { frames := 3, cells := 1, slots := 6, locals := 300 }) (hu : c_cl U u = 10) (x1 : Nat) (x2 : Int32) (x3 : Int32) (S : cs) (R2 : Nat → Int32 → cs → Prop) (hR2 : ∀ yx1 yx2 yS, R2 yx1 yx2 yS → aw gG D z A X 5 2 [some (.ref (oa u)), some (.ref (oa yx1)), some (.int yx2), none, none] [] (cw lt_C U oa yS) 0 0) (R12 : Nat → Int32 → Int32 → cs → Prop) (hR12 : ∀ yx1 yx2 yx3 yS, R12 yx1 yx2 yx3 yS → aw gG D z A X 5 12 [some (.ref (oa u)), some (.ref (oa yx1)), some (.int yx2), some (.int yx3), none] [] (cw lt_C U oa yS) 0 0) (hp : b_Sc_arrangeTogether_12 U u x1 x2 x3 S R2 R12 K) : aw gG D z A X 5 12 [some (.ref (oa u)), some (.ref (oa x1)), some (.int x2), some (.int x3), none] [] (cw lt_C U oa S) 0 0 := by
  unfold b_Sc_arrangeTogether_12 at hp
  refine a_iload_n C dc_Sc_arrangeTogether_12 rfl rfl ?_
  refine a_aload_n C dc_Sc_arrangeTogether_13 rfl rfl ?_
  have hc2 := hp.1
  have hp := hp.2
  refine c_getIN C x1 7 dc_Sc_arrangeTogether_14 hc2 rfl rfl (Nat.le_of_ble_eq_true rfl) f_Sc_73 (Nat.le_of_ble_eq_true rfl) ?_
  refine a_icmp_ge (tgt := 58) C dc_Sc_arrangeTogether_17 (by decide) ⟨fun hc => ?_, fun hc => ?_⟩
  · have hp := hp.1 hc
    refine a_iinc (v := x2 + 1) (lo' := [some (.ref (oa u)), some (.ref (oa x1)), some (.int (x2 + 1)), some (.int x3), none]) C dc_Sc_arrangeTogether_58 rfl rfl (by decide) rfl ?_
    refine a_goto (tgt := 2) C dc_Sc_arrangeTogether_61 (by decide) ?_
    refine aw_lo (lo' := [some (.ref (oa u)), some (.ref (oa x1)), some (.int (x2 + 1)), none, none]) ⟨.inr rfl, .inr rfl, .inr rfl, .inl rfl, .inr rfl, trivial⟩ ?_
    exact hR2 x1 (x2 + 1) S hp
  · have hp := hp.2 hc
    refine a_iconst (v := 0) C dc_Sc_arrangeTogether_20 (by decide) ?_
    refine a_istore (lo' := [some (.ref (oa u)), some (.ref (oa x1)), some (.int x2), some (.int x3), some (.int 0)]) C dc_Sc_arrangeTogether_21 (by decide) rfl ?_
    refine aw_lo (lo' := [some (.ref (oa u)), some (.ref (oa x1)), some (.int x2), some (.int x3), some (.int 0)]) ⟨.inr rfl, .inr rfl, .inr rfl, .inr rfl, .inr rfl, trivial⟩ ?_
    exact se_Sc_arrangeTogether_23 C hQ hA hR hu x1 x2 x3 0 S R2 hR2 R12 hR12 hp
set_option maxRecDepth 100000 in
set_option maxHeartbeats 1000000 in
theorem se_Sc_arrangeTogether_12 (C : fcx gG D z A X R_Sc c_C_Sc_arrangeTogether 5 (none)) (hQ : X.2.2.2.2.2.2.2.2.2.2 = eQ gG D z X.2.2.2.2.2.2.2.1 X.2.2.2.2.1 L0 0 0 (pC_v lt_C U oa K (fun _ _ => False))) (hA : A = owA gG L0 X.2.2.2.2.1.heap.size) (hR : X.2.2.2.1 = { frames := 3, cells := 1, slots := 6, locals := 300 }) (hu : c_cl U u = 10) (x1 : Nat) (x2 : Int32) (x3 : Int32) (S : cs) (R2 : Nat → Int32 → cs → Prop) (hR2 : ∀ yx1 yx2 yS, R2 yx1 yx2 yS → aw gG D z A X 5 2 [some (.ref (oa u)), some (.ref (oa yx1)), some (.int yx2), none, none] [] (cw lt_C U oa yS) 0 0) (hp : e_Sc_arrangeTogether_12 U u x1 x2 x3 S R2 K) : aw gG D z A X 5 12 [some (.ref (oa u)), some (.ref (oa x1)), some (.int x2), some (.int x3), none] [] (cw lt_C U oa S) 0 0 := by
  obtain ⟨I, μ, h0, hs⟩ := hp
  have key : ∀ (n : Nat) (yx1 : Nat) (yx2 : Int32) (yx3 : Int32) (yS : cs), μ yx1 yx2 yx3 yS < n → I yx1 yx2 yx3 yS → aw gG D z A X 5 12 [some (.ref (oa u)), some (.ref (oa yx1)), some (.int yx2), some (.int yx3), none] [] (cw lt_C U oa yS) 0 0 := by
    intro n
    induction n with
    | zero => intro yx1 yx2 yx3 yS h; omega
    | succ n ih =>
      intro yx1 yx2 yx3 yS hn hI
      exact s_Sc_arrangeTogether_12 C hQ hA hR hu yx1 yx2 yx3 yS R2 hR2 _ (fun zx1 zx2 zx3 zS hw => ih zx1 zx2 zx3 zS (by omega) hw.1) (hs yx1 yx2 yx3 yS hI)
  exact key (μ x1 x2 x3 S + 1) x1 x2 x3 S (Nat.lt_succ_self _) h0
set_option maxRecDepth 100000 in
set_option maxHeartbeats 1000000 in
theorem s_Sc_arrangeTogether_2 (C : fcx gG D z A X R_Sc c_C_Sc_arrangeTogether 5 (none)) (hQ : X.2.2.2.2.2.2.2.2.2.2 = eQ gG D z X.2.2.2.2.2.2.2.1 X.2.2.2.2.1 L0 0 0 (pC_v lt_C U oa K (fun _ _ => False))) (hA : A = owA gG L0 X.2.2.2.2.1.heap.size) (hR : X.2.2.2.1 = { frames := 3, cells := 1, slots := 6, locals := 300 }) (hu : c_cl U u = 10) (x1 : Nat) (x2 : Int32) (S : cs) (R2 : Nat → Int32 → cs → Prop) (hR2 : ∀ yx1 yx2 yS, R2 yx1 yx2 yS → aw gG D z A X 5 2 [some (.ref (oa u)), some (.ref (oa yx1)), some (.int yx2), none, none] [] (cw lt_C U oa yS) 0 0) (hp : b_Sc_arrangeTogether_2 U u x1 x2 S R2 K) : aw gG D z A X 5 2 [some (.ref (oa u)), some (.ref (oa x1)), some (.int x2), none, none] [] (cw lt_C U oa S) 0 0 := by
  unfold b_Sc_arrangeTogether_2 at hp
  refine a_iload_n C dc_Sc_arrangeTogether_2 rfl rfl ?_
  refine a_aload_n C dc_Sc_arrangeTogether_3 rfl rfl ?_
  have hc3 := hp.1
  have hp := hp.2
  refine c_getIN C x1 8 dc_Sc_arrangeTogether_4 hc3 rfl rfl (Nat.le_of_ble_eq_true rfl) f_Sc_70 (Nat.le_of_ble_eq_true rfl) ?_
  refine a_icmp_ge (tgt := 64) C dc_Sc_arrangeTogether_7 (by decide) ⟨fun hc => ?_, fun hc => ?_⟩
  · have hp := hp.1 hc
    exact a_vret C hQ hA dc_Sc_arrangeTogether_64 rfl (Or.inl ⟨S, hp, rfl, rfl⟩)
  · have hp := hp.2 hc
    refine a_iconst (v := 0) C dc_Sc_arrangeTogether_10 (by decide) ?_
    refine a_istore_n (lo' := [some (.ref (oa u)), some (.ref (oa x1)), some (.int x2), some (.int 0), none]) C dc_Sc_arrangeTogether_11 rfl (by decide) rfl ?_
    refine aw_lo (lo' := [some (.ref (oa u)), some (.ref (oa x1)), some (.int x2), some (.int 0), none]) ⟨.inr rfl, .inr rfl, .inr rfl, .inr rfl, .inr rfl, trivial⟩ ?_
    exact se_Sc_arrangeTogether_12 C hQ hA hR hu x1 x2 0 S R2 hR2 hp
set_option maxRecDepth 100000 in
set_option maxHeartbeats 1000000 in
theorem se_Sc_arrangeTogether_2 (C : fcx gG D z A X R_Sc c_C_Sc_arrangeTogether 5 (none)) (hQ : X.2.2.2.2.2.2.2.2.2.2 = eQ gG D z X.2.2.2.2.2.2.2.1 X.2.2.2.2.1 L0 0 0 (pC_v lt_C U oa K (fun _ _ => False))) (hA : A = owA gG L0 X.2.2.2.2.1.heap.size) (hR : X.2.2.2.1 = { frames := 3, cells := 1, slots := 6, locals := 300 }) (hu : c_cl U u = 10) (x1 : Nat) (x2 : Int32) (S : cs) (hp : e_Sc_arrangeTogether_2 U u x1 x2 S K) : aw gG D z A X 5 2 [some (.ref (oa u)), some (.ref (oa x1)), some (.int x2), none, none] [] (cw lt_C U oa S) 0 0 := by
  obtain ⟨I, μ, h0, hs⟩ := hp
  have key : ∀ (n : Nat) (yx1 : Nat) (yx2 : Int32) (yS : cs), μ yx1 yx2 yS < n → I yx1 yx2 yS → aw gG D z A X 5 2 [some (.ref (oa u)), some (.ref (oa yx1)), some (.int yx2), none, none] [] (cw lt_C U oa yS) 0 0 := by
    intro n
    induction n with
    | zero => intro yx1 yx2 yS h; omega
    | succ n ih =>
      intro yx1 yx2 yS hn hI
      exact s_Sc_arrangeTogether_2 C hQ hA hR hu yx1 yx2 yS _ (fun zx1 zx2 zS hw => ih zx1 zx2 zS (by omega) hw.1) (hs yx1 yx2 yS hI)
  exact key (μ x1 x2 S + 1) x1 x2 S (Nat.lt_succ_self _) h0
set_option maxRecDepth 100000 in
set_option maxHeartbeats 1000000 in
theorem s_Sc_arrangeTogether_0 (C : fcx gG D z A X R_Sc c_C_Sc_arrangeTogether 5 (none)) (hQ : X.2.2.2.2.2.2.2.2.2.2 = eQ gG D z X.2.2.2.2.2.2.2.1 X.2.2.2.2.1 L0 0 0 (pC_v lt_C U oa K (fun _ _ => False))) (hA : A = owA gG L0 X.2.2.2.2.1.heap.size) (hR : X.2.2.2.1 = { frames := 3, cells := 1, slots := 6, locals := 300 }) (hu : c_cl U u = 10) (x1 : Nat) (S : cs) (hp : p_Sc_arrangeTogether U u x1 S K) : aw gG D z A X 5 0 [some (.ref (oa u)), some (.ref (oa x1)), none, none, none] [] (cw lt_C U oa S) 0 0 := by
  unfold p_Sc_arrangeTogether at hp
  refine a_iconst (v := 0) C dc_Sc_arrangeTogether_0 (by decide) ?_
  refine a_istore_n (lo' := [some (.ref (oa u)), some (.ref (oa x1)), some (.int 0), none, none]) C dc_Sc_arrangeTogether_1 rfl (by decide) rfl ?_
  refine aw_lo (lo' := [some (.ref (oa u)), some (.ref (oa x1)), some (.int 0), none, none]) ⟨.inr rfl, .inr rfl, .inr rfl, .inr rfl, .inr rfl, trivial⟩ ?_
  exact se_Sc_arrangeTogether_2 C hQ hA hR hu x1 0 S  hp
end C_Sc_arrangeTogether
section C_Sc_arrangeTogetherc
variable {D : va_G} {z : Nat → ClassId} {U : ut} {oa : Nat → Nat}
set_option maxRecDepth 100000 in
theorem ct_Sc_arrangeTogether {l : Launch} (u : Nat) (x1 : Nat) (S : cs) {K : cs → Prop} (hu : c_cl U u = 10) (hp : p_Sc_arrangeTogether U u x1 S K) : ct gG D z l n_C_Sc_arrangeTogether c_C_Sc_arrangeTogether 5 (none) 3 300 [.ref (oa u), .ref (oa x1)] (cw lt_C U oa S) 0 0 (pC_v lt_C U oa K (fun _ _ => False)) := by
  refine ct_of (lo := [some (.ref (oa u)), some (.ref (oa x1)), none, none, none]) (by decide) g_ok (Nat.le_of_ble_eq_true rfl) rfl ?_
  intro X A _ C hR hQ hA _
  exact s_Sc_arrangeTogether_0 C hQ hA hR hu x1 S hp
end C_Sc_arrangeTogetherc
def b_Sc_arrange_68 (U : ut) (u : Nat) (s1 : Int32) (S : cs) (K : cs → Prop) : Prop :=
  K (va_up S.1 u (upd (S.1 u) 4 s1), S.2.1, S.2.2)
def b_Sc_arrange_46 (U : ut) (u : Nat)  (S : cs) (K : cs → Prop) : Prop :=
  (1 ≤ (S.1 u 5) → (¬ (S.1 u 5) = 0 ∧ (b_Sc_arrange_68 U u ((S.1 u 6) / (S.1 u 5)) S K))) ∧ (¬ (1 ≤ (S.1 u 5)) → (b_Sc_arrange_68 U u 0 S K))
def p_Sc_arrange (U : ut) (u : Nat) (x1 : Nat) (S : cs) (K : cs → Prop) : Prop :=
  (¬ ((va_up S.1 u (upd (S.1 u) 6 0)) u 0) = 1 → (p_Sc_blocksTogether U u x1 (va_up S.1 u (upd (S.1 u) 6 0), S.2.1, S.2.2) (fun v35 S35 => p_Sc_arrangeTogether U u x1 (va_up S35.1 u (upd (S35.1 u) 5 v35), S35.2.1, S35.2.2) (fun S43 => b_Sc_arrange_46 U u S43 K)))) ∧ (((va_up S.1 u (upd (S.1 u) 6 0)) u 0) = 1 → (¬ S.2.2 u 1 = NU ∧ (c_cl U (S.2.2 u 1) = 902 ∧ (vp_in 0 (c_ln U (S.2.2 u 1)) ∧ (p_Sc_arrangeAlone U u x1 ((va_up (va_up S.1 u (upd (S.1 u) 6 0)) u (upd ((va_up S.1 u (upd (S.1 u) 6 0)) u) 5 1)) (S.2.2 u 1) (0 : Int32).toNatClampNeg) (va_up (va_up S.1 u (upd (S.1 u) 6 0)) u (upd ((va_up S.1 u (upd (S.1 u) 6 0)) u) 5 1), S.2.1, S.2.2) (fun S26 => b_Sc_arrange_46 U u S26 K))))))
section C_Sc_arrange
variable {D : va_G} {z : Nat → ClassId} {A : Nat → Prop} {X : cx} {L0 : fw} {U : ut} {oa : Nat → Nat} {u : Nat} {K : cs → Prop}
set_option maxRecDepth 100000 in
set_option maxHeartbeats 1000000 in
theorem s_Sc_arrange_68 (C : fcx gG D z A X R_Sc c_C_Sc_arrange 2 (none)) (hQ : X.2.2.2.2.2.2.2.2.2.2 = eQ gG D z X.2.2.2.2.2.2.2.1 X.2.2.2.2.1 L0 0 0 (pC_v lt_C U oa K (fun _ _ => False))) (hA : A = owA gG L0 X.2.2.2.2.1.heap.size) (hR : X.2.2.2.1 = { frames := 4, cells := 1, slots := 6, locals := 400 }) (hu : c_cl U u = 10) (s1 : Int32) (S : cs) (hp : b_Sc_arrange_68 U u s1 S K) : aw gG D z A X 2 68 [some (.ref (oa u)), none] [.int s1, .ref (oa u)] (cw lt_C U oa S) 0 0 := by
  unfold b_Sc_arrange_68 at hp
  refine c_putI (ty := .int) C u 4 dc_Sc_arrange_68 hu rfl rfl (Nat.le_of_ble_eq_true rfl) f_Sc_54 (Nat.le_of_ble_eq_true rfl) rfl rfl rfl rfl ?_
  refine aw_eq (lo' := _) (st' := _) (L' := (cw lt_C U oa (va_up S.1 u (upd (S.1 u) 4 s1), S.2.1, S.2.2))) rfl rfl rfl ?_
  exact a_vret C hQ hA dc_Sc_arrange_71 rfl (Or.inl ⟨(va_up S.1 u (upd (S.1 u) 4 s1), S.2.1, S.2.2), hp, rfl, rfl⟩)
set_option maxRecDepth 100000 in
set_option maxHeartbeats 1000000 in
theorem s_Sc_arrange_46 (C : fcx gG D z A X R_Sc c_C_Sc_arrange 2 (none)) (hQ : X.2.2.2.2.2.2.2.2.2.2 = eQ gG D z X.2.2.2.2.2.2.2.1 X.2.2.2.2.1 L0 0 0 (pC_v lt_C U oa K (fun _ _ => False))) (hA : A = owA gG L0 X.2.2.2.2.1.heap.size) (hR : X.2.2.2.1 = { frames := 4, cells := 1, slots := 6, locals := 400 }) (hu : c_cl U u = 10)  (S : cs) (hp : b_Sc_arrange_46 U u S K) : aw gG D z A X 2 46 [some (.ref (oa u)), none] [] (cw lt_C U oa S) 0 0 := by
  unfold b_Sc_arrange_46 at hp
  refine a_aload_n C dc_Sc_arrange_46 rfl rfl ?_
  refine a_aload_n C dc_Sc_arrange_47 rfl rfl ?_
  refine c_getI C u 5 dc_Sc_arrange_48 hu rfl rfl (Nat.le_of_ble_eq_true rfl) f_Sc_39 (Nat.le_of_ble_eq_true rfl) ?_
  refine a_iconst (v := 1) C dc_Sc_arrange_51 (by decide) ?_
  refine a_icmp_ge (tgt := 59) C dc_Sc_arrange_52 (by decide) ⟨fun hc => ?_, fun hc => ?_⟩
  · have hp := hp.1 hc
    refine a_aload_n C dc_Sc_arrange_59 rfl rfl ?_
    refine c_getI C u 6 dc_Sc_arrange_60 hu rfl rfl (Nat.le_of_ble_eq_true rfl) f_Sc_36 (Nat.le_of_ble_eq_true rfl) ?_
    refine a_aload_n C dc_Sc_arrange_63 rfl rfl ?_
    refine c_getI C u 5 dc_Sc_arrange_64 hu rfl rfl (Nat.le_of_ble_eq_true rfl) f_Sc_39 (Nat.le_of_ble_eq_true rfl) ?_
    refine a_idiv C dc_Sc_arrange_67 hp.1 ?_
    have hp := hp.2
    refine aw_lo (lo' := [some (.ref (oa u)), none]) ⟨.inr rfl, .inr rfl, trivial⟩ ?_
    exact s_Sc_arrange_68 C hQ hA hR hu ((S.1 u 6) / (S.1 u 5)) S  hp
  · have hp := hp.2 hc
    refine a_iconst (v := 0) C dc_Sc_arrange_55 (by decide) ?_
    refine a_goto (tgt := 68) C dc_Sc_arrange_56 (by decide) ?_
    refine aw_lo (lo' := [some (.ref (oa u)), none]) ⟨.inr rfl, .inr rfl, trivial⟩ ?_
    exact s_Sc_arrange_68 C hQ hA hR hu 0 S  hp
set_option maxRecDepth 100000 in
set_option maxHeartbeats 1000000 in
theorem s_Sc_arrange_0 (C : fcx gG D z A X R_Sc c_C_Sc_arrange 2 (none)) (hQ : X.2.2.2.2.2.2.2.2.2.2 = eQ gG D z X.2.2.2.2.2.2.2.1 X.2.2.2.2.1 L0 0 0 (pC_v lt_C U oa K (fun _ _ => False))) (hA : A = owA gG L0 X.2.2.2.2.1.heap.size) (hR : X.2.2.2.1 = { frames := 4, cells := 1, slots := 6, locals := 400 }) (hu : c_cl U u = 10) (x1 : Nat) (S : cs) (hp : p_Sc_arrange U u x1 S K) : aw gG D z A X 2 0 [some (.ref (oa u)), some (.ref (oa x1))] [] (cw lt_C U oa S) 0 0 := by
  unfold p_Sc_arrange at hp
  refine a_aload_n C dc_Sc_arrange_0 rfl rfl ?_
  refine a_iconst (v := 0) C dc_Sc_arrange_1 (by decide) ?_
  refine c_putI (ty := .int) C u 6 dc_Sc_arrange_2 hu rfl rfl (Nat.le_of_ble_eq_true rfl) f_Sc_36 (Nat.le_of_ble_eq_true rfl) rfl rfl rfl rfl ?_
  refine aw_eq (lo' := _) (st' := _) (L' := (cw lt_C U oa (va_up S.1 u (upd (S.1 u) 6 0), S.2.1, S.2.2))) rfl rfl rfl ?_
  refine a_aload_n C dc_Sc_arrange_5 rfl rfl ?_
  refine c_getI C u 0 dc_Sc_arrange_6 hu rfl rfl (Nat.le_of_ble_eq_true rfl) f_Sc_24 (Nat.le_of_ble_eq_true rfl) ?_
  refine a_iconst (v := 1) C dc_Sc_arrange_9 (by decide) ?_
  refine a_icmp_ne (tgt := 32) C dc_Sc_arrange_10 (by decide) ⟨fun hc => ?_, fun hc => ?_⟩
  · have hp := hp.1 hc
    refine a_aload_n C dc_Sc_arrange_32 rfl rfl ?_
    refine a_aload_n C dc_Sc_arrange_33 rfl rfl ?_
    refine a_aload_n C dc_Sc_arrange_34 rfl rfl ?_
    refine c_call (rest := [.ref (oa u)]) (av := .ref (oa u) :: [.ref (oa x1)]) C dc_Sc_arrange_35 (ct_Sc_blocksTogether u x1 (va_up S.1 u (upd (S.1 u) 6 0), S.2.1, S.2.2) hu hp) cd_C_Sc_blocksTogether i_Sc (Nat.le_of_ble_eq_true rfl) (by rw [hR]; exact Nat.le_of_ble_eq_true rfl) (by rw [hR]; exact Nat.le_of_ble_eq_true rfl) (by rw [hR]; exact Nat.le_of_ble_eq_true rfl) (by rw [hR]; exact Nat.le_of_ble_eq_true rfl) (inv_V C u dc_Sc_arrange_35 l_Sc_46 im_C_Sc_blocksTogether se_C_Sc_blocksTogether cd_C_Sc_blocksTogether ⟨by decide, by decide⟩ ln_C_Sc_blocksTogether rfl rfl (cw_obj hu rfl) rfl rfl) (fun oc L1 hL => ?_)
    obtain ⟨v35, S35, hp, rfl, rfl⟩ := hL.resolve_right pC_no
    refine ⟨_, rfl, ?_⟩
    refine aw_eq (lo' := _) (st' := [.int v35, .ref (oa u)]) (L' := (cw lt_C U oa S35)) rfl rfl rfl ?_
    refine c_putI (ty := .int) C u 5 dc_Sc_arrange_38 hu rfl rfl (Nat.le_of_ble_eq_true rfl) f_Sc_39 (Nat.le_of_ble_eq_true rfl) rfl rfl rfl rfl ?_
    refine aw_eq (lo' := _) (st' := _) (L' := (cw lt_C U oa (va_up S35.1 u (upd (S35.1 u) 5 v35), S35.2.1, S35.2.2))) rfl rfl rfl ?_
    refine a_aload_n C dc_Sc_arrange_41 rfl rfl ?_
    refine a_aload_n C dc_Sc_arrange_42 rfl rfl ?_
    refine c_call (rest := []) (av := .ref (oa u) :: [.ref (oa x1)]) C dc_Sc_arrange_43 (ct_Sc_arrangeTogether u x1 (va_up S35.1 u (upd (S35.1 u) 5 v35), S35.2.1, S35.2.2) hu hp) cd_C_Sc_arrangeTogether i_Sc (Nat.le_of_ble_eq_true rfl) (by rw [hR]; exact Nat.le_of_ble_eq_true rfl) (by rw [hR]; exact Nat.le_of_ble_eq_true rfl) (by rw [hR]; exact Nat.le_of_ble_eq_true rfl) (by rw [hR]; exact Nat.le_of_ble_eq_true rfl) (inv_V C u dc_Sc_arrange_43 l_Sc_50 im_C_Sc_arrangeTogether se_C_Sc_arrangeTogether cd_C_Sc_arrangeTogether ⟨by decide, by decide⟩ ln_C_Sc_arrangeTogether rfl rfl (cw_obj hu rfl) rfl rfl) (fun oc L1 hL => ?_)
    obtain ⟨S43, hp, rfl, rfl⟩ := hL.resolve_right pC_no
    refine ⟨_, rfl, ?_⟩
    refine aw_eq (lo' := _) (st' := []) (L' := (cw lt_C U oa S43)) rfl rfl rfl ?_
    refine aw_lo (lo' := [some (.ref (oa u)), none]) ⟨.inr rfl, .inl rfl, trivial⟩ ?_
    exact s_Sc_arrange_46 C hQ hA hR hu S43  hp
  · have hp := hp.2 hc
    refine a_aload_n C dc_Sc_arrange_13 rfl rfl ?_
    refine a_iconst (v := 1) C dc_Sc_arrange_14 (by decide) ?_
    refine c_putI (ty := .int) C u 5 dc_Sc_arrange_15 hu rfl rfl (Nat.le_of_ble_eq_true rfl) f_Sc_39 (Nat.le_of_ble_eq_true rfl) rfl rfl rfl rfl ?_
    refine aw_eq (lo' := _) (st' := _) (L' := (cw lt_C U oa (va_up (va_up S.1 u (upd (S.1 u) 6 0)) u (upd ((va_up S.1 u (upd (S.1 u) 6 0)) u) 5 1), S.2.1, S.2.2))) rfl rfl rfl ?_
    refine a_aload_n C dc_Sc_arrange_18 rfl rfl ?_
    refine a_aload_n C dc_Sc_arrange_19 rfl rfl ?_
    refine a_aload_n C dc_Sc_arrange_20 rfl rfl ?_
    refine c_getR C u 1 dc_Sc_arrange_21 hu rfl rfl (Nat.le_of_ble_eq_true rfl) f_Sc_9 rfl hp.1 ?_
    have hp := hp.2
    refine a_iconst (v := 0) C dc_Sc_arrange_24 (by decide) ?_
    have hc1 := hp.1
    have hp := hp.2
    refine c_iald C (S.2.2 u 1) dc_Sc_arrange_25 hc1 hp.1 ?_
    have hp := hp.2
    refine c_call (rest := []) (av := .ref (oa u) :: [.ref (oa x1), .int ((va_up (va_up S.1 u (upd (S.1 u) 6 0)) u (upd ((va_up S.1 u (upd (S.1 u) 6 0)) u) 5 1)) (S.2.2 u 1) (0 : Int32).toNatClampNeg)]) C dc_Sc_arrange_26 (ct_Sc_arrangeAlone u x1 ((va_up (va_up S.1 u (upd (S.1 u) 6 0)) u (upd ((va_up S.1 u (upd (S.1 u) 6 0)) u) 5 1)) (S.2.2 u 1) (0 : Int32).toNatClampNeg) (va_up (va_up S.1 u (upd (S.1 u) 6 0)) u (upd ((va_up S.1 u (upd (S.1 u) 6 0)) u) 5 1), S.2.1, S.2.2) hu hp) cd_C_Sc_arrangeAlone i_Sc (Nat.le_of_ble_eq_true rfl) (by rw [hR]; exact Nat.le_of_ble_eq_true rfl) (by rw [hR]; exact Nat.le_of_ble_eq_true rfl) (by rw [hR]; exact Nat.le_of_ble_eq_true rfl) (by rw [hR]; exact Nat.le_of_ble_eq_true rfl) (inv_V C u dc_Sc_arrange_26 l_Sc_42 im_C_Sc_arrangeAlone se_C_Sc_arrangeAlone cd_C_Sc_arrangeAlone ⟨by decide, by decide⟩ ln_C_Sc_arrangeAlone rfl rfl (cw_obj hu rfl) rfl rfl) (fun oc L1 hL => ?_)
    obtain ⟨S26, hp, rfl, rfl⟩ := hL.resolve_right pC_no
    refine ⟨_, rfl, ?_⟩
    refine aw_eq (lo' := _) (st' := []) (L' := (cw lt_C U oa S26)) rfl rfl rfl ?_
    refine a_goto (tgt := 46) C dc_Sc_arrange_29 (by decide) ?_
    refine aw_lo (lo' := [some (.ref (oa u)), none]) ⟨.inr rfl, .inl rfl, trivial⟩ ?_
    exact s_Sc_arrange_46 C hQ hA hR hu S26  hp
end C_Sc_arrange
section C_Sc_arrangec
variable {D : va_G} {z : Nat → ClassId} {U : ut} {oa : Nat → Nat}
set_option maxRecDepth 100000 in
theorem ct_Sc_arrange {l : Launch} (u : Nat) (x1 : Nat) (S : cs) {K : cs → Prop} (hu : c_cl U u = 10) (hp : p_Sc_arrange U u x1 S K) : ct gG D z l n_C_Sc_arrange c_C_Sc_arrange 2 (none) 4 400 [.ref (oa u), .ref (oa x1)] (cw lt_C U oa S) 0 0 (pC_v lt_C U oa K (fun _ _ => False)) := by
  refine ct_of (lo := [some (.ref (oa u)), some (.ref (oa x1))]) (by decide) g_ok (Nat.le_of_ble_eq_true rfl) rfl ?_
  intro X A _ C hR hQ hA _
  exact s_Sc_arrange_0 C hQ hA hR hu x1 S hp
end C_Sc_arrangec
def b_Ca_kind_126 (U : ut) (u : Nat) (s0 : Int32) (S : cs) (K : Int32 → cs → Prop) : Prop :=
  K (i_min 255 (128 + ((s0 + 32768) >>> (16 &&& 31 : Int32) : Int32))) S
def p_Ca_kind (U : ut) (u : Nat) (x1 : Int32) (x2 : Int32) (x3 : Int32) (S : cs) (K : Int32 → cs → Prop) : Prop :=
  ¬ S.2.2 u 3 = NU ∧ (p_B_spot 0 x2 x3 (fun v7 => c_cl U (S.2.2 u 3) = 902 ∧ (vp_in v7 (c_ln U (S.2.2 u 3)) ∧ ((¬ (S.1 u 2) = 1 → (¬ S.2.2 u 3 = NU ∧ (p_B_spot 1 x2 x3 (fun v31 => vp_in v31 (c_ln U (S.2.2 u 3)) ∧ (¬ S.2.2 u 3 = NU ∧ (p_B_spot 2 x2 x3 (fun v44 => vp_in v44 (c_ln U (S.2.2 u 3)) ∧ ((¬ x1 = 0 → ((¬ x1 = 1 → (b_Ca_kind_126 U u (((32768 * (S.1 (S.2.2 u 3) v7.toNatClampNeg)) - (27439 * (S.1 (S.2.2 u 3) v31.toNatClampNeg))) - (5329 * (S.1 (S.2.2 u 3) v44.toNatClampNeg))) S K)) ∧ (x1 = 1 → (b_Ca_kind_126 U u ((((-11059) * (S.1 (S.2.2 u 3) v7.toNatClampNeg)) - (21709 * (S.1 (S.2.2 u 3) v31.toNatClampNeg))) + (32768 * (S.1 (S.2.2 u 3) v44.toNatClampNeg))) S K)))) ∧ (x1 = 0 → (K (((((19595 * (S.1 (S.2.2 u 3) v7.toNatClampNeg)) + (38470 * (S.1 (S.2.2 u 3) v31.toNatClampNeg))) + (7471 * (S.1 (S.2.2 u 3) v44.toNatClampNeg))) + 32768) >>> (16 &&& 31 : Int32) : Int32) S)))))))))) ∧ ((S.1 u 2) = 1 → (K (S.1 (S.2.2 u 3) v7.toNatClampNeg) S))))))
section C_Ca_kind
variable {D : va_G} {z : Nat → ClassId} {A : Nat → Prop} {X : cx} {L0 : fw} {U : ut} {oa : Nat → Nat} {u : Nat} {K : Int32 → cs → Prop}
set_option maxRecDepth 100000 in
set_option maxHeartbeats 1000000 in
theorem s_Ca_kind_126 (C : fcx gG D z A X R_Ca c_C_Ca_kind 8 (some .int)) (hQ : X.2.2.2.2.2.2.2.2.2.2 = eQ gG D z X.2.2.2.2.2.2.2.1 X.2.2.2.2.1 L0 0 0 (pC_i lt_C U oa K (fun _ _ => False))) (hA : A = owA gG L0 X.2.2.2.2.1.heap.size) (hR : X.2.2.2.1 = { frames := 2, cells := 1, slots := 6, locals := 200 }) (hu : c_cl U u = 2) (s0 : Int32) (S : cs) (hp : b_Ca_kind_126 U u s0 S K) : aw gG D z A X 8 126 [some (.ref (oa u)), none, none, none, none, none, none, none] [.int s0] (cw lt_C U oa S) 0 0 := by
  unfold b_Ca_kind_126 at hp
  refine a_istore (lo' := [some (.ref (oa u)), none, none, none, none, none, none, some (.int s0)]) C dc_Ca_kind_126 (by decide) rfl ?_
  refine a_sipush (v := 255) C dc_Ca_kind_128 (by decide) ?_
  refine a_sipush (v := 128) C dc_Ca_kind_131 (by decide) ?_
  refine a_iload C dc_Ca_kind_134 rfl ?_
  refine a_ldc (v := 32768) C dc_Ca_kind_136 k_Ca_36 ?_
  refine a_iadd C dc_Ca_kind_138 ?_
  refine a_bipush (v := 16) C dc_Ca_kind_139 (by decide) ?_
  refine a_ishr C dc_Ca_kind_141 ?_
  refine a_iadd C dc_Ca_kind_142 ?_
  refine a_mn C dc_Ca_kind_143 l_Ca_37 st_Ma_min i_Ma cd_Ma_min (Nat.le_of_ble_eq_true rfl) (by rw [hR]; exact Nat.le_of_ble_eq_true rfl) (by rw [hR]; exact Nat.le_of_ble_eq_true rfl) (by rw [hR]; exact Nat.le_of_ble_eq_true rfl) (by rw [hR]; exact Nat.le_of_ble_eq_true rfl) ?_
  exact a_iret (ty := .int) C hQ hA dc_Ca_kind_146 rfl rfl (Or.inl ⟨_, S, hp, rfl, rfl⟩)
set_option maxRecDepth 100000 in
set_option maxHeartbeats 1000000 in
theorem s_Ca_kind_0 (C : fcx gG D z A X R_Ca c_C_Ca_kind 8 (some .int)) (hQ : X.2.2.2.2.2.2.2.2.2.2 = eQ gG D z X.2.2.2.2.2.2.2.1 X.2.2.2.2.1 L0 0 0 (pC_i lt_C U oa K (fun _ _ => False))) (hA : A = owA gG L0 X.2.2.2.2.1.heap.size) (hR : X.2.2.2.1 = { frames := 2, cells := 1, slots := 6, locals := 200 }) (hu : c_cl U u = 2) (x1 : Int32) (x2 : Int32) (x3 : Int32) (S : cs) (hp : p_Ca_kind U u x1 x2 x3 S K) : aw gG D z A X 8 0 [some (.ref (oa u)), some (.int x1), some (.int x2), some (.int x3), none, none, none, none] [] (cw lt_C U oa S) 0 0 := by
  unfold p_Ca_kind at hp
  refine a_aload_n C dc_Ca_kind_0 rfl rfl ?_
  refine c_getR C u 3 dc_Ca_kind_1 hu rfl rfl (Nat.le_of_ble_eq_true rfl) f_Ca_21 rfl hp.1 ?_
  have hp := hp.2
  refine a_iconst (v := 0) C dc_Ca_kind_4 (by decide) ?_
  refine a_iload_n C dc_Ca_kind_5 rfl rfl ?_
  refine a_iload_n C dc_Ca_kind_6 rfl rfl ?_
  refine a_callP (rest := [.ref (oa (S.2.2 u 3))]) (av := [.int 0, .int x2, .int x3]) C dc_Ca_kind_7 (ct_B_spot 0 x2 x3 hp) cd_C_B_spot i_B (Nat.le_of_ble_eq_true rfl) (by rw [hR]; exact Nat.le_of_ble_eq_true rfl) (by rw [hR]; exact Nat.le_of_ble_eq_true rfl) (by rw [hR]; exact Nat.le_of_ble_eq_true rfl) (by rw [hR]; exact Nat.le_of_ble_eq_true rfl) (inv_SN C dc_Ca_kind_7 l_Ca_31 st_C_B_spot i_B cd_C_B_spot ⟨by decide, by decide⟩ ln_C_B_spot rfl) (fun v7 hp => ?_)
  refine aw_eq (lo' := _) (st' := [.int v7, .ref (oa (S.2.2 u 3))]) (L' := (cw lt_C U oa S)) rfl rfl rfl ?_
  have hc1 := hp.1
  have hp := hp.2
  refine c_iald C (S.2.2 u 3) dc_Ca_kind_10 hc1 hp.1 ?_
  have hp := hp.2
  refine a_istore (lo' := [some (.ref (oa u)), some (.int x1), some (.int x2), some (.int x3), some (.int (S.1 (S.2.2 u 3) v7.toNatClampNeg)), none, none, none]) C dc_Ca_kind_11 (by decide) rfl ?_
  refine a_aload_n C dc_Ca_kind_13 rfl rfl ?_
  refine c_getI C u 2 dc_Ca_kind_14 hu rfl rfl (Nat.le_of_ble_eq_true rfl) f_Ca_18 (Nat.le_of_ble_eq_true rfl) ?_
  refine a_iconst (v := 1) C dc_Ca_kind_17 (by decide) ?_
  refine a_icmp_ne (tgt := 24) C dc_Ca_kind_18 (by decide) ⟨fun hc => ?_, fun hc => ?_⟩
  · have hp := hp.1 hc
    refine a_aload_n C dc_Ca_kind_24 rfl rfl ?_
    refine c_getR C u 3 dc_Ca_kind_25 hu rfl rfl (Nat.le_of_ble_eq_true rfl) f_Ca_21 rfl hp.1 ?_
    have hp := hp.2
    refine a_iconst (v := 1) C dc_Ca_kind_28 (by decide) ?_
    refine a_iload_n C dc_Ca_kind_29 rfl rfl ?_
    refine a_iload_n C dc_Ca_kind_30 rfl rfl ?_
    refine a_callP (rest := [.ref (oa (S.2.2 u 3))]) (av := [.int 1, .int x2, .int x3]) C dc_Ca_kind_31 (ct_B_spot 1 x2 x3 hp) cd_C_B_spot i_B (Nat.le_of_ble_eq_true rfl) (by rw [hR]; exact Nat.le_of_ble_eq_true rfl) (by rw [hR]; exact Nat.le_of_ble_eq_true rfl) (by rw [hR]; exact Nat.le_of_ble_eq_true rfl) (by rw [hR]; exact Nat.le_of_ble_eq_true rfl) (inv_SN C dc_Ca_kind_31 l_Ca_31 st_C_B_spot i_B cd_C_B_spot ⟨by decide, by decide⟩ ln_C_B_spot rfl) (fun v31 hp => ?_)
    refine aw_eq (lo' := _) (st' := [.int v31, .ref (oa (S.2.2 u 3))]) (L' := (cw lt_C U oa S)) rfl rfl rfl ?_
    refine c_iald C (S.2.2 u 3) dc_Ca_kind_34 hc1 hp.1 ?_
    have hp := hp.2
    refine a_istore (lo' := [some (.ref (oa u)), some (.int x1), some (.int x2), some (.int x3), some (.int (S.1 (S.2.2 u 3) v7.toNatClampNeg)), some (.int (S.1 (S.2.2 u 3) v31.toNatClampNeg)), none, none]) C dc_Ca_kind_35 (by decide) rfl ?_
    refine a_aload_n C dc_Ca_kind_37 rfl rfl ?_
    refine c_getR C u 3 dc_Ca_kind_38 hu rfl rfl (Nat.le_of_ble_eq_true rfl) f_Ca_21 rfl hp.1 ?_
    have hp := hp.2
    refine a_iconst (v := 2) C dc_Ca_kind_41 (by decide) ?_
    refine a_iload_n C dc_Ca_kind_42 rfl rfl ?_
    refine a_iload_n C dc_Ca_kind_43 rfl rfl ?_
    refine a_callP (rest := [.ref (oa (S.2.2 u 3))]) (av := [.int 2, .int x2, .int x3]) C dc_Ca_kind_44 (ct_B_spot 2 x2 x3 hp) cd_C_B_spot i_B (Nat.le_of_ble_eq_true rfl) (by rw [hR]; exact Nat.le_of_ble_eq_true rfl) (by rw [hR]; exact Nat.le_of_ble_eq_true rfl) (by rw [hR]; exact Nat.le_of_ble_eq_true rfl) (by rw [hR]; exact Nat.le_of_ble_eq_true rfl) (inv_SN C dc_Ca_kind_44 l_Ca_31 st_C_B_spot i_B cd_C_B_spot ⟨by decide, by decide⟩ ln_C_B_spot rfl) (fun v44 hp => ?_)
    refine aw_eq (lo' := _) (st' := [.int v44, .ref (oa (S.2.2 u 3))]) (L' := (cw lt_C U oa S)) rfl rfl rfl ?_
    refine c_iald C (S.2.2 u 3) dc_Ca_kind_47 hc1 hp.1 ?_
    have hp := hp.2
    refine a_istore (lo' := [some (.ref (oa u)), some (.int x1), some (.int x2), some (.int x3), some (.int (S.1 (S.2.2 u 3) v7.toNatClampNeg)), some (.int (S.1 (S.2.2 u 3) v31.toNatClampNeg)), some (.int (S.1 (S.2.2 u 3) v44.toNatClampNeg)), none]) C dc_Ca_kind_48 (by decide) rfl ?_
    refine a_iload_n C dc_Ca_kind_50 rfl rfl ?_
    refine a_if_ne (tgt := 80) C dc_Ca_kind_51 (by decide) ⟨fun hc => ?_, fun hc => ?_⟩
    · have hp := hp.1 hc
      refine a_iload_n C dc_Ca_kind_80 rfl rfl ?_
      refine a_iconst (v := 1) C dc_Ca_kind_81 (by decide) ?_
      refine a_icmp_ne (tgt := 107) C dc_Ca_kind_82 (by decide) ⟨fun hc => ?_, fun hc => ?_⟩
      · have hp := hp.1 hc
        refine a_ldc (v := 32768) C dc_Ca_kind_107 k_Ca_36 ?_
        refine a_iload C dc_Ca_kind_109 rfl ?_
        refine a_imul C dc_Ca_kind_111 ?_
        refine a_sipush (v := 27439) C dc_Ca_kind_112 (by decide) ?_
        refine a_iload C dc_Ca_kind_115 rfl ?_
        refine a_imul C dc_Ca_kind_117 ?_
        refine a_isub C dc_Ca_kind_118 ?_
        refine a_sipush (v := 5329) C dc_Ca_kind_119 (by decide) ?_
        refine a_iload C dc_Ca_kind_122 rfl ?_
        refine a_imul C dc_Ca_kind_124 ?_
        refine a_isub C dc_Ca_kind_125 ?_
        refine aw_lo (lo' := [some (.ref (oa u)), none, none, none, none, none, none, none]) ⟨.inr rfl, .inl rfl, .inl rfl, .inl rfl, .inl rfl, .inl rfl, .inl rfl, .inr rfl, trivial⟩ ?_
        exact s_Ca_kind_126 C hQ hA hR hu (((32768 * (S.1 (S.2.2 u 3) v7.toNatClampNeg)) - (27439 * (S.1 (S.2.2 u 3) v31.toNatClampNeg))) - (5329 * (S.1 (S.2.2 u 3) v44.toNatClampNeg))) S  hp
      · have hp := hp.2 hc
        refine a_sipush (v := (-11059)) C dc_Ca_kind_85 (by decide) ?_
        refine a_iload C dc_Ca_kind_88 rfl ?_
        refine a_imul C dc_Ca_kind_90 ?_
        refine a_sipush (v := 21709) C dc_Ca_kind_91 (by decide) ?_
        refine a_iload C dc_Ca_kind_94 rfl ?_
        refine a_imul C dc_Ca_kind_96 ?_
        refine a_isub C dc_Ca_kind_97 ?_
        refine a_ldc (v := 32768) C dc_Ca_kind_98 k_Ca_36 ?_
        refine a_iload C dc_Ca_kind_100 rfl ?_
        refine a_imul C dc_Ca_kind_102 ?_
        refine a_iadd C dc_Ca_kind_103 ?_
        refine a_goto (tgt := 126) C dc_Ca_kind_104 (by decide) ?_
        refine aw_lo (lo' := [some (.ref (oa u)), none, none, none, none, none, none, none]) ⟨.inr rfl, .inl rfl, .inl rfl, .inl rfl, .inl rfl, .inl rfl, .inl rfl, .inr rfl, trivial⟩ ?_
        exact s_Ca_kind_126 C hQ hA hR hu ((((-11059) * (S.1 (S.2.2 u 3) v7.toNatClampNeg)) - (21709 * (S.1 (S.2.2 u 3) v31.toNatClampNeg))) + (32768 * (S.1 (S.2.2 u 3) v44.toNatClampNeg))) S  hp
    · have hp := hp.2 hc
      refine a_sipush (v := 19595) C dc_Ca_kind_54 (by decide) ?_
      refine a_iload C dc_Ca_kind_57 rfl ?_
      refine a_imul C dc_Ca_kind_59 ?_
      refine a_ldc (v := 38470) C dc_Ca_kind_60 k_Ca_35 ?_
      refine a_iload C dc_Ca_kind_62 rfl ?_
      refine a_imul C dc_Ca_kind_64 ?_
      refine a_iadd C dc_Ca_kind_65 ?_
      refine a_sipush (v := 7471) C dc_Ca_kind_66 (by decide) ?_
      refine a_iload C dc_Ca_kind_69 rfl ?_
      refine a_imul C dc_Ca_kind_71 ?_
      refine a_iadd C dc_Ca_kind_72 ?_
      refine a_ldc (v := 32768) C dc_Ca_kind_73 k_Ca_36 ?_
      refine a_iadd C dc_Ca_kind_75 ?_
      refine a_bipush (v := 16) C dc_Ca_kind_76 (by decide) ?_
      refine a_ishr C dc_Ca_kind_78 ?_
      exact a_iret (ty := .int) C hQ hA dc_Ca_kind_79 rfl rfl (Or.inl ⟨_, S, hp, rfl, rfl⟩)
  · have hp := hp.2 hc
    refine a_iload C dc_Ca_kind_21 rfl ?_
    exact a_iret (ty := .int) C hQ hA dc_Ca_kind_23 rfl rfl (Or.inl ⟨_, S, hp, rfl, rfl⟩)
end C_Ca_kind
section C_Ca_kindc
variable {D : va_G} {z : Nat → ClassId} {U : ut} {oa : Nat → Nat}
set_option maxRecDepth 100000 in
theorem ct_Ca_kind {l : Launch} (u : Nat) (x1 : Int32) (x2 : Int32) (x3 : Int32) (S : cs) {K : Int32 → cs → Prop} (hu : c_cl U u = 2) (hp : p_Ca_kind U u x1 x2 x3 S K) : ct gG D z l n_C_Ca_kind c_C_Ca_kind 8 (some .int) 2 200 [.ref (oa u), .int x1, .int x2, .int x3] (cw lt_C U oa S) 0 0 (pC_i lt_C U oa K (fun _ _ => False)) := by
  refine ct_of (lo := [some (.ref (oa u)), some (.int x1), some (.int x2), some (.int x3), none, none, none, none]) (by decide) g_ok (Nat.le_of_ble_eq_true rfl) rfl ?_
  intro X A _ C hR hQ hA _
  exact s_Ca_kind_0 C hQ hA hR hu x1 x2 x3 S hp
end C_Ca_kindc
def b_Pa_makeLayer_96 (U : ut) (u : Nat) (x1 : Nat) (x2 : Int32) (x3 : Int32) (x4 : Int32) (x5 : Int32) (x6 : Int32) (x7 : Int32) (x8 : Int32) (S : cs) (R54 : Nat → Int32 → Int32 → Int32 → Int32 → cs → Prop) (R71 : Nat → Int32 → Int32 → Int32 → Int32 → Int32 → cs → Prop) (R96 : Nat → Int32 → Int32 → Int32 → Int32 → Int32 → Int32 → Int32 → cs → Prop) (K : cs → Prop) : Prop :=
  ((x3 * x4) ≤ x8 → (¬ S.2.2 u 2 = NU ∧ (c_cl U (S.2.2 u 2) = 7 ∧ (¬ S.2.2 (S.2.2 u 2) 15 = NU ∧ (p_B_spot x2 x6 x5 (fun v170 => ¬ (x3 * x4) = 0 ∧ (c_cl U (S.2.2 (S.2.2 u 2) 15) = 902 ∧ (vp_in v170 (c_ln U (S.2.2 (S.2.2 u 2) 15)) ∧ (R71 x1 x2 x3 x4 x5 (x6 + 1) (va_up S.1 (S.2.2 (S.2.2 u 2) 15) (upd (S.1 (S.2.2 (S.2.2 u 2) 15)) v170.toNatClampNeg (x7 / (x3 * x4))), S.2.1, S.2.2)))))))))) ∧ (¬ ((x3 * x4) ≤ x8) → (c_cl U x1 = 2 ∧ (¬ x3 = 0 ∧ (¬ x3 = 0 ∧ (p_Ca_kind U x1 x2 (i_min ((S.1 x1 0) - 1) ((x3 * x6) + (x8 - x8 / x3 * x3))) (i_min ((S.1 x1 1) - 1) ((x4 * x5) + (x8 / x3))) S (fun v146 S146 => R96 x1 x2 x3 x4 x5 x6 (x7 + v146) (x8 + 1) S146))))))
def e_Pa_makeLayer_96 (U : ut) (u : Nat) (x1 : Nat) (x2 : Int32) (x3 : Int32) (x4 : Int32) (x5 : Int32) (x6 : Int32) (x7 : Int32) (x8 : Int32) (S : cs) (R54 : Nat → Int32 → Int32 → Int32 → Int32 → cs → Prop) (R71 : Nat → Int32 → Int32 → Int32 → Int32 → Int32 → cs → Prop) (K : cs → Prop) : Prop :=
  ∃ (I : Nat → Int32 → Int32 → Int32 → Int32 → Int32 → Int32 → Int32 → cs → Prop) (μ : Nat → Int32 → Int32 → Int32 → Int32 → Int32 → Int32 → Int32 → cs → Nat), I x1 x2 x3 x4 x5 x6 x7 x8 S ∧ ∀ yx1 yx2 yx3 yx4 yx5 yx6 yx7 yx8 yS, I yx1 yx2 yx3 yx4 yx5 yx6 yx7 yx8 yS → b_Pa_makeLayer_96 U u yx1 yx2 yx3 yx4 yx5 yx6 yx7 yx8 yS R54 R71 (fun zx1 zx2 zx3 zx4 zx5 zx6 zx7 zx8 zS => I zx1 zx2 zx3 zx4 zx5 zx6 zx7 zx8 zS ∧ μ zx1 zx2 zx3 zx4 zx5 zx6 zx7 zx8 zS < μ yx1 yx2 yx3 yx4 yx5 yx6 yx7 yx8 yS) K
def b_Pa_makeLayer_71 (U : ut) (u : Nat) (x1 : Nat) (x2 : Int32) (x3 : Int32) (x4 : Int32) (x5 : Int32) (x6 : Int32) (S : cs) (R54 : Nat → Int32 → Int32 → Int32 → Int32 → cs → Prop) (R71 : Nat → Int32 → Int32 → Int32 → Int32 → Int32 → cs → Prop) (K : cs → Prop) : Prop :=
  ¬ S.2.2 u 2 = NU ∧ (c_cl U (S.2.2 u 2) = 7 ∧ (¬ S.2.2 (S.2.2 u 2) 9 = NU ∧ (c_cl U (S.2.2 (S.2.2 u 2) 9) = 902 ∧ (vp_in x2 (c_ln U (S.2.2 (S.2.2 u 2) 9)) ∧ (((S.1 (S.2.2 (S.2.2 u 2) 9) x2.toNatClampNeg) ≤ x6 → (R54 x1 x2 x3 x4 (x5 + 1) S)) ∧ (¬ ((S.1 (S.2.2 (S.2.2 u 2) 9) x2.toNatClampNeg) ≤ x6) → (e_Pa_makeLayer_96 U u x1 x2 x3 x4 x5 x6 ((x3 * x4) / 2) 0 S R54 R71 K)))))))
def e_Pa_makeLayer_71 (U : ut) (u : Nat) (x1 : Nat) (x2 : Int32) (x3 : Int32) (x4 : Int32) (x5 : Int32) (x6 : Int32) (S : cs) (R54 : Nat → Int32 → Int32 → Int32 → Int32 → cs → Prop) (K : cs → Prop) : Prop :=
  ∃ (I : Nat → Int32 → Int32 → Int32 → Int32 → Int32 → cs → Prop) (μ : Nat → Int32 → Int32 → Int32 → Int32 → Int32 → cs → Nat), I x1 x2 x3 x4 x5 x6 S ∧ ∀ yx1 yx2 yx3 yx4 yx5 yx6 yS, I yx1 yx2 yx3 yx4 yx5 yx6 yS → b_Pa_makeLayer_71 U u yx1 yx2 yx3 yx4 yx5 yx6 yS R54 (fun zx1 zx2 zx3 zx4 zx5 zx6 zS => I zx1 zx2 zx3 zx4 zx5 zx6 zS ∧ μ zx1 zx2 zx3 zx4 zx5 zx6 zS < μ yx1 yx2 yx3 yx4 yx5 yx6 yS) K
def b_Pa_makeLayer_54 (U : ut) (u : Nat) (x1 : Nat) (x2 : Int32) (x3 : Int32) (x4 : Int32) (x5 : Int32) (S : cs) (R54 : Nat → Int32 → Int32 → Int32 → Int32 → cs → Prop) (K : cs → Prop) : Prop :=
  ¬ S.2.2 u 2 = NU ∧ (c_cl U (S.2.2 u 2) = 7 ∧ (¬ S.2.2 (S.2.2 u 2) 10 = NU ∧ (c_cl U (S.2.2 (S.2.2 u 2) 10) = 902 ∧ (vp_in x2 (c_ln U (S.2.2 (S.2.2 u 2) 10)) ∧ (((S.1 (S.2.2 (S.2.2 u 2) 10) x2.toNatClampNeg) ≤ x5 → (K S)) ∧ (¬ ((S.1 (S.2.2 (S.2.2 u 2) 10) x2.toNatClampNeg) ≤ x5) → (e_Pa_makeLayer_71 U u x1 x2 x3 x4 x5 0 S R54 K)))))))
def e_Pa_makeLayer_54 (U : ut) (u : Nat) (x1 : Nat) (x2 : Int32) (x3 : Int32) (x4 : Int32) (x5 : Int32) (S : cs) (K : cs → Prop) : Prop :=
  ∃ (I : Nat → Int32 → Int32 → Int32 → Int32 → cs → Prop) (μ : Nat → Int32 → Int32 → Int32 → Int32 → cs → Nat), I x1 x2 x3 x4 x5 S ∧ ∀ yx1 yx2 yx3 yx4 yx5 yS, I yx1 yx2 yx3 yx4 yx5 yS → b_Pa_makeLayer_54 U u yx1 yx2 yx3 yx4 yx5 yS (fun zx1 zx2 zx3 zx4 zx5 zS => I zx1 zx2 zx3 zx4 zx5 zS ∧ μ zx1 zx2 zx3 zx4 zx5 zS < μ yx1 yx2 yx3 yx4 yx5 yS) K
def b_Pa_makeLayer_49 (U : ut) (u : Nat) (x1 : Nat) (x2 : Int32) (x3 : Int32) (s0 : Int32) (S : cs) (K : cs → Prop) : Prop :=
  e_Pa_makeLayer_54 U u x1 x2 x3 s0 0 S K
def b_Pa_makeLayer_24 (U : ut) (u : Nat) (x1 : Nat) (x2 : Int32) (s0 : Int32) (S : cs) (K : cs → Prop) : Prop :=
  ¬ S.2.2 u 2 = NU ∧ (c_cl U (S.2.2 u 2) = 7 ∧ (¬ S.2.2 (S.2.2 u 2) 4 = NU ∧ (c_cl U (S.2.2 (S.2.2 u 2) 4) = 902 ∧ (vp_in x2 (c_ln U (S.2.2 (S.2.2 u 2) 4)) ∧ (¬ S.2.2 u 2 = NU ∧ (((S.1 (S.2.2 u 2) 6) ≤ (S.1 (S.2.2 (S.2.2 u 2) 4) x2.toNatClampNeg) → (b_Pa_makeLayer_49 U u x1 x2 s0 1 S K)) ∧ (¬ ((S.1 (S.2.2 u 2) 6) ≤ (S.1 (S.2.2 (S.2.2 u 2) 4) x2.toNatClampNeg)) → (b_Pa_makeLayer_49 U u x1 x2 s0 2 S K))))))))
def p_Pa_makeLayer (U : ut) (u : Nat) (x1 : Nat) (x2 : Int32) (S : cs) (K : cs → Prop) : Prop :=
  ¬ S.2.2 u 2 = NU ∧ (c_cl U (S.2.2 u 2) = 7 ∧ (¬ S.2.2 (S.2.2 u 2) 3 = NU ∧ (c_cl U (S.2.2 (S.2.2 u 2) 3) = 902 ∧ (vp_in x2 (c_ln U (S.2.2 (S.2.2 u 2) 3)) ∧ (¬ S.2.2 u 2 = NU ∧ (((S.1 (S.2.2 u 2) 5) ≤ (S.1 (S.2.2 (S.2.2 u 2) 3) x2.toNatClampNeg) → (b_Pa_makeLayer_24 U u x1 x2 1 S K)) ∧ (¬ ((S.1 (S.2.2 u 2) 5) ≤ (S.1 (S.2.2 (S.2.2 u 2) 3) x2.toNatClampNeg)) → (b_Pa_makeLayer_24 U u x1 x2 2 S K))))))))
section C_Pa_makeLayer
variable {D : va_G} {z : Nat → ClassId} {A : Nat → Prop} {X : cx} {L0 : fw} {U : ut} {oa : Nat → Nat} {u : Nat} {K : cs → Prop}
set_option maxRecDepth 100000 in
set_option maxHeartbeats 1000000 in
theorem s_Pa_makeLayer_96 (C : fcx gG D z A X R_Pa c_C_Pa_makeLayer 9 (none)) (hQ : X.2.2.2.2.2.2.2.2.2.2 = eQ gG D z X.2.2.2.2.2.2.2.1 X.2.2.2.2.1 L0 0 0 (pC_v lt_C U oa K (fun _ _ => False))) (hA : A = owA gG L0 X.2.2.2.2.1.heap.size) (hR : X.2.2.2.1 = { frames := 3, cells := 1, slots := 6, locals := 300 }) (hu : c_cl U u = 6) (x1 : Nat) (x2 : Int32) (x3 : Int32) (x4 : Int32) (x5 : Int32) (x6 : Int32) (x7 : Int32) (x8 : Int32) (S : cs) (R54 : Nat → Int32 → Int32 → Int32 → Int32 → cs → Prop) (hR54 : ∀ yx1 yx2 yx3 yx4 yx5 yS, R54 yx1 yx2 yx3 yx4 yx5 yS → aw gG D z A X 9 54 [some (.ref (oa u)), some (.ref (oa yx1)), some (.int yx2), some (.int yx3), some (.int yx4), some (.int yx5), none, none, none] [] (cw lt_C U oa yS) 0 0) (R71 : Nat → Int32 → Int32 → Int32 → Int32 → Int32 → cs → Prop) (hR71 : ∀ yx1 yx2 yx3 yx4 yx5 yx6 yS, R71 yx1 yx2 yx3 yx4 yx5 yx6 yS → aw gG D z A X 9 71 [some (.ref (oa u)), some (.ref (oa yx1)), some (.int yx2), some (.int yx3), some (.int yx4), some (.int yx5), some (.int yx6), none, none] [] (cw lt_C U oa yS) 0 0) (R96 : Nat → Int32 → Int32 → Int32 → Int32 → Int32 → Int32 → Int32 → cs → Prop) (hR96 : ∀ yx1 yx2 yx3 yx4 yx5 yx6 yx7 yx8 yS, R96 yx1 yx2 yx3 yx4 yx5 yx6 yx7 yx8 yS → aw gG D z A X 9 96 [some (.ref (oa u)), some (.ref (oa yx1)), some (.int yx2), some (.int yx3), some (.int yx4), some (.int yx5), some (.int yx6), some (.int yx7), some (.int yx8)] [] (cw lt_C U oa yS) 0 0) (hp : b_Pa_makeLayer_96 U u x1 x2 x3 x4 x5 x6 x7 x8 S R54 R71 R96 K) : aw gG D z A X 9 96 [some (.ref (oa u)), some (.ref (oa x1)), some (.int x2), some (.int x3), some (.int x4), some (.int x5), some (.int x6), some (.int x7), some (.int x8)] [] (cw lt_C U oa S) 0 0 := by
  unfold b_Pa_makeLayer_96 at hp
  refine a_iload C dc_Pa_makeLayer_96 rfl ?_
  refine a_iload_n C dc_Pa_makeLayer_98 rfl rfl ?_
  refine a_iload C dc_Pa_makeLayer_99 rfl ?_
  refine a_imul C dc_Pa_makeLayer_101 ?_
  refine a_icmp_ge (tgt := 158) C dc_Pa_makeLayer_102 (by decide) ⟨fun hc => ?_, fun hc => ?_⟩
  · have hp := hp.1 hc
    refine a_aload_n C dc_Pa_makeLayer_158 rfl rfl ?_
    refine c_getR C u 2 dc_Pa_makeLayer_159 hu rfl rfl (Nat.le_of_ble_eq_true rfl) f_Pa_31 rfl hp.1 ?_
    have hp := hp.2
    have hc1 := hp.1
    have hp := hp.2
    refine c_getRN C (S.2.2 u 2) 15 dc_Pa_makeLayer_162 hc1 rfl rfl (Nat.le_of_ble_eq_true rfl) f_Pa_149 rfl hp.1 ?_
    have hp := hp.2
    refine a_iload_n C dc_Pa_makeLayer_165 rfl rfl ?_
    refine a_iload C dc_Pa_makeLayer_166 rfl ?_
    refine a_iload C dc_Pa_makeLayer_168 rfl ?_
    refine a_callP (rest := [.ref (oa (S.2.2 (S.2.2 u 2) 15))]) (av := [.int x2, .int x6, .int x5]) C dc_Pa_makeLayer_170 (ct_B_spot x2 x6 x5 hp) cd_C_B_spot i_B (Nat.le_of_ble_eq_true rfl) (by rw [hR]; exact Nat.le_of_ble_eq_true rfl) (by rw [hR]; exact Nat.le_of_ble_eq_true rfl) (by rw [hR]; exact Nat.le_of_ble_eq_true rfl) (by rw [hR]; exact Nat.le_of_ble_eq_true rfl) (inv_SN C dc_Pa_makeLayer_170 l_Pa_152 st_C_B_spot i_B cd_C_B_spot ⟨by decide, by decide⟩ ln_C_B_spot rfl) (fun v170 hp => ?_)
    refine aw_eq (lo' := _) (st' := [.int v170, .ref (oa (S.2.2 (S.2.2 u 2) 15))]) (L' := (cw lt_C U oa S)) rfl rfl rfl ?_
    refine a_iload C dc_Pa_makeLayer_173 rfl ?_
    refine a_iload_n C dc_Pa_makeLayer_175 rfl rfl ?_
    refine a_iload C dc_Pa_makeLayer_176 rfl ?_
    refine a_imul C dc_Pa_makeLayer_178 ?_
    refine a_idiv C dc_Pa_makeLayer_179 hp.1 ?_
    have hp := hp.2
    have hc2 := hp.1
    have hp := hp.2
    refine c_iast C (S.2.2 (S.2.2 u 2) 15) dc_Pa_makeLayer_180 hc2 hp.1 ?_
    have hp := hp.2
    refine aw_eq (lo' := _) (st' := _) (L' := (cw lt_C U oa (va_up S.1 (S.2.2 (S.2.2 u 2) 15) (upd (S.1 (S.2.2 (S.2.2 u 2) 15)) v170.toNatClampNeg (x7 / (x3 * x4))), S.2.1, S.2.2))) rfl rfl rfl ?_
    refine a_iinc (v := x6 + 1) (lo' := [some (.ref (oa u)), some (.ref (oa x1)), some (.int x2), some (.int x3), some (.int x4), some (.int x5), some (.int (x6 + 1)), some (.int x7), some (.int x8)]) C dc_Pa_makeLayer_181 rfl rfl (by decide) rfl ?_
    refine a_goto (tgt := 71) C dc_Pa_makeLayer_184 (by decide) ?_
    refine aw_lo (lo' := [some (.ref (oa u)), some (.ref (oa x1)), some (.int x2), some (.int x3), some (.int x4), some (.int x5), some (.int (x6 + 1)), none, none]) ⟨.inr rfl, .inr rfl, .inr rfl, .inr rfl, .inr rfl, .inr rfl, .inr rfl, .inl rfl, .inl rfl, trivial⟩ ?_
    exact hR71 x1 x2 x3 x4 x5 (x6 + 1) (va_up S.1 (S.2.2 (S.2.2 u 2) 15) (upd (S.1 (S.2.2 (S.2.2 u 2) 15)) v170.toNatClampNeg (x7 / (x3 * x4))), S.2.1, S.2.2) hp
  · have hp := hp.2 hc
    refine a_iload C dc_Pa_makeLayer_105 rfl ?_
    refine a_aload_n C dc_Pa_makeLayer_107 rfl rfl ?_
    refine a_iload_n C dc_Pa_makeLayer_108 rfl rfl ?_
    refine a_aload_n C dc_Pa_makeLayer_109 rfl rfl ?_
    have hc3 := hp.1
    have hp := hp.2
    refine c_getIN C x1 0 dc_Pa_makeLayer_110 hc3 rfl rfl (Nat.le_of_ble_eq_true rfl) f_Pa_72 (Nat.le_of_ble_eq_true rfl) ?_
    refine a_iconst (v := 1) C dc_Pa_makeLayer_113 (by decide) ?_
    refine a_isub C dc_Pa_makeLayer_114 ?_
    refine a_iload_n C dc_Pa_makeLayer_115 rfl rfl ?_
    refine a_iload C dc_Pa_makeLayer_116 rfl ?_
    refine a_imul C dc_Pa_makeLayer_118 ?_
    refine a_iload C dc_Pa_makeLayer_119 rfl ?_
    refine a_iload_n C dc_Pa_makeLayer_121 rfl rfl ?_
    refine a_irem C dc_Pa_makeLayer_122 hp.1 ?_
    have hp := hp.2
    refine a_iadd C dc_Pa_makeLayer_123 ?_
    refine a_mn C dc_Pa_makeLayer_124 l_Pa_139 st_Ma_min i_Ma cd_Ma_min (Nat.le_of_ble_eq_true rfl) (by rw [hR]; exact Nat.le_of_ble_eq_true rfl) (by rw [hR]; exact Nat.le_of_ble_eq_true rfl) (by rw [hR]; exact Nat.le_of_ble_eq_true rfl) (by rw [hR]; exact Nat.le_of_ble_eq_true rfl) ?_
    refine a_aload_n C dc_Pa_makeLayer_127 rfl rfl ?_
    refine c_getIN C x1 1 dc_Pa_makeLayer_128 hc3 rfl rfl (Nat.le_of_ble_eq_true rfl) f_Pa_75 (Nat.le_of_ble_eq_true rfl) ?_
    refine a_iconst (v := 1) C dc_Pa_makeLayer_131 (by decide) ?_
    refine a_isub C dc_Pa_makeLayer_132 ?_
    refine a_iload C dc_Pa_makeLayer_133 rfl ?_
    refine a_iload C dc_Pa_makeLayer_135 rfl ?_
    refine a_imul C dc_Pa_makeLayer_137 ?_
    refine a_iload C dc_Pa_makeLayer_138 rfl ?_
    refine a_iload_n C dc_Pa_makeLayer_140 rfl rfl ?_
    refine a_idiv C dc_Pa_makeLayer_141 hp.1 ?_
    have hp := hp.2
    refine a_iadd C dc_Pa_makeLayer_142 ?_
    refine a_mn C dc_Pa_makeLayer_143 l_Pa_139 st_Ma_min i_Ma cd_Ma_min (Nat.le_of_ble_eq_true rfl) (by rw [hR]; exact Nat.le_of_ble_eq_true rfl) (by rw [hR]; exact Nat.le_of_ble_eq_true rfl) (by rw [hR]; exact Nat.le_of_ble_eq_true rfl) (by rw [hR]; exact Nat.le_of_ble_eq_true rfl) ?_
    refine c_call (rest := [.int x7]) (av := .ref (oa x1) :: [.int x2, .int (i_min ((S.1 x1 0) - 1) ((x3 * x6) + (x8 - x8 / x3 * x3))), .int (i_min ((S.1 x1 1) - 1) ((x4 * x5) + (x8 / x3)))]) C dc_Pa_makeLayer_146 (ct_Ca_kind x1 x2 (i_min ((S.1 x1 0) - 1) ((x3 * x6) + (x8 - x8 / x3 * x3))) (i_min ((S.1 x1 1) - 1) ((x4 * x5) + (x8 / x3))) S hc3 hp) cd_C_Ca_kind i_Ca (Nat.le_of_ble_eq_true rfl) (by rw [hR]; exact Nat.le_of_ble_eq_true rfl) (by rw [hR]; exact Nat.le_of_ble_eq_true rfl) (by rw [hR]; exact Nat.le_of_ble_eq_true rfl) (by rw [hR]; exact Nat.le_of_ble_eq_true rfl) (inv_V C x1 dc_Pa_makeLayer_146 l_Pa_145 im_C_Ca_kind se_C_Ca_kind cd_C_Ca_kind ⟨by decide, by decide⟩ ln_C_Ca_kind rfl rfl (cw_obj hc3 rfl) rfl rfl) (fun oc L1 hL => ?_)
    obtain ⟨v146, S146, hp, rfl, rfl⟩ := hL.resolve_right pC_no
    refine ⟨_, rfl, ?_⟩
    refine aw_eq (lo' := _) (st' := [.int v146, .int x7]) (L' := (cw lt_C U oa S146)) rfl rfl rfl ?_
    refine a_iadd C dc_Pa_makeLayer_149 ?_
    refine a_istore (lo' := [some (.ref (oa u)), some (.ref (oa x1)), some (.int x2), some (.int x3), some (.int x4), some (.int x5), some (.int x6), some (.int (x7 + v146)), some (.int x8)]) C dc_Pa_makeLayer_150 (by decide) rfl ?_
    refine a_iinc (v := x8 + 1) (lo' := [some (.ref (oa u)), some (.ref (oa x1)), some (.int x2), some (.int x3), some (.int x4), some (.int x5), some (.int x6), some (.int (x7 + v146)), some (.int (x8 + 1))]) C dc_Pa_makeLayer_152 rfl rfl (by decide) rfl ?_
    refine a_goto (tgt := 96) C dc_Pa_makeLayer_155 (by decide) ?_
    refine aw_lo (lo' := [some (.ref (oa u)), some (.ref (oa x1)), some (.int x2), some (.int x3), some (.int x4), some (.int x5), some (.int x6), some (.int (x7 + v146)), some (.int (x8 + 1))]) ⟨.inr rfl, .inr rfl, .inr rfl, .inr rfl, .inr rfl, .inr rfl, .inr rfl, .inr rfl, .inr rfl, trivial⟩ ?_
    exact hR96 x1 x2 x3 x4 x5 x6 (x7 + v146) (x8 + 1) S146 hp
set_option maxRecDepth 100000 in
set_option maxHeartbeats 1000000 in
theorem se_Pa_makeLayer_96 (C : fcx gG D z A X R_Pa c_C_Pa_makeLayer 9 (none)) (hQ : X.2.2.2.2.2.2.2.2.2.2 = eQ gG D z X.2.2.2.2.2.2.2.1 X.2.2.2.2.1 L0 0 0 (pC_v lt_C U oa K (fun _ _ => False))) (hA : A = owA gG L0 X.2.2.2.2.1.heap.size) (hR : X.2.2.2.1 = { frames := 3, cells := 1, slots := 6, locals := 300 }) (hu : c_cl U u = 6) (x1 : Nat) (x2 : Int32) (x3 : Int32) (x4 : Int32) (x5 : Int32) (x6 : Int32) (x7 : Int32) (x8 : Int32) (S : cs) (R54 : Nat → Int32 → Int32 → Int32 → Int32 → cs → Prop) (hR54 : ∀ yx1 yx2 yx3 yx4 yx5 yS, R54 yx1 yx2 yx3 yx4 yx5 yS → aw gG D z A X 9 54 [some (.ref (oa u)), some (.ref (oa yx1)), some (.int yx2), some (.int yx3), some (.int yx4), some (.int yx5), none, none, none] [] (cw lt_C U oa yS) 0 0) (R71 : Nat → Int32 → Int32 → Int32 → Int32 → Int32 → cs → Prop) (hR71 : ∀ yx1 yx2 yx3 yx4 yx5 yx6 yS, R71 yx1 yx2 yx3 yx4 yx5 yx6 yS → aw gG D z A X 9 71 [some (.ref (oa u)), some (.ref (oa yx1)), some (.int yx2), some (.int yx3), some (.int yx4), some (.int yx5), some (.int yx6), none, none] [] (cw lt_C U oa yS) 0 0) (hp : e_Pa_makeLayer_96 U u x1 x2 x3 x4 x5 x6 x7 x8 S R54 R71 K) : aw gG D z A X 9 96 [some (.ref (oa u)), some (.ref (oa x1)), some (.int x2), some (.int x3), some (.int x4), some (.int x5), some (.int x6), some (.int x7), some (.int x8)] [] (cw lt_C U oa S) 0 0 := by
  obtain ⟨I, μ, h0, hs⟩ := hp
  have key : ∀ (n : Nat) (yx1 : Nat) (yx2 : Int32) (yx3 : Int32) (yx4 : Int32) (yx5 : Int32) (yx6 : Int32) (yx7 : Int32) (yx8 : Int32) (yS : cs), μ yx1 yx2 yx3 yx4 yx5 yx6 yx7 yx8 yS < n → I yx1 yx2 yx3 yx4 yx5 yx6 yx7 yx8 yS → aw gG D z A X 9 96 [some (.ref (oa u)), some (.ref (oa yx1)), some (.int yx2), some (.int yx3), some (.int yx4), some (.int yx5), some (.int yx6), some (.int yx7), some (.int yx8)] [] (cw lt_C U oa yS) 0 0 := by
    intro n
    induction n with
    | zero => intro yx1 yx2 yx3 yx4 yx5 yx6 yx7 yx8 yS h; omega
    | succ n ih =>
      intro yx1 yx2 yx3 yx4 yx5 yx6 yx7 yx8 yS hn hI
      exact s_Pa_makeLayer_96 C hQ hA hR hu yx1 yx2 yx3 yx4 yx5 yx6 yx7 yx8 yS R54 hR54 R71 hR71 _ (fun zx1 zx2 zx3 zx4 zx5 zx6 zx7 zx8 zS hw => ih zx1 zx2 zx3 zx4 zx5 zx6 zx7 zx8 zS (by omega) hw.1) (hs yx1 yx2 yx3 yx4 yx5 yx6 yx7 yx8 yS hI)
  exact key (μ x1 x2 x3 x4 x5 x6 x7 x8 S + 1) x1 x2 x3 x4 x5 x6 x7 x8 S (Nat.lt_succ_self _) h0
set_option maxRecDepth 100000 in
set_option maxHeartbeats 1000000 in
theorem s_Pa_makeLayer_71 (C : fcx gG D z A X R_Pa c_C_Pa_makeLayer 9 (none)) (hQ : X.2.2.2.2.2.2.2.2.2.2 = eQ gG D z X.2.2.2.2.2.2.2.1 X.2.2.2.2.1 L0 0 0 (pC_v lt_C U oa K (fun _ _ => False))) (hA : A = owA gG L0 X.2.2.2.2.1.heap.size) (hR : X.2.2.2.1 = { frames := 3, cells := 1, slots := 6, locals := 300 }) (hu : c_cl U u = 6) (x1 : Nat) (x2 : Int32) (x3 : Int32) (x4 : Int32) (x5 : Int32) (x6 : Int32) (S : cs) (R54 : Nat → Int32 → Int32 → Int32 → Int32 → cs → Prop) (hR54 : ∀ yx1 yx2 yx3 yx4 yx5 yS, R54 yx1 yx2 yx3 yx4 yx5 yS → aw gG D z A X 9 54 [some (.ref (oa u)), some (.ref (oa yx1)), some (.int yx2), some (.int yx3), some (.int yx4), some (.int yx5), none, none, none] [] (cw lt_C U oa yS) 0 0) (R71 : Nat → Int32 → Int32 → Int32 → Int32 → Int32 → cs → Prop) (hR71 : ∀ yx1 yx2 yx3 yx4 yx5 yx6 yS, R71 yx1 yx2 yx3 yx4 yx5 yx6 yS → aw gG D z A X 9 71 [some (.ref (oa u)), some (.ref (oa yx1)), some (.int yx2), some (.int yx3), some (.int yx4), some (.int yx5), some (.int yx6), none, none] [] (cw lt_C U oa yS) 0 0) (hp : b_Pa_makeLayer_71 U u x1 x2 x3 x4 x5 x6 S R54 R71 K) : aw gG D z A X 9 71 [some (.ref (oa u)), some (.ref (oa x1)), some (.int x2), some (.int x3), some (.int x4), some (.int x5), some (.int x6), none, none] [] (cw lt_C U oa S) 0 0 := by
  unfold b_Pa_makeLayer_71 at hp
  refine a_iload C dc_Pa_makeLayer_71 rfl ?_
  refine a_aload_n C dc_Pa_makeLayer_73 rfl rfl ?_
  refine c_getR C u 2 dc_Pa_makeLayer_74 hu rfl rfl (Nat.le_of_ble_eq_true rfl) f_Pa_31 rfl hp.1 ?_
  have hp := hp.2
  have hc4 := hp.1
  have hp := hp.2
  refine c_getRN C (S.2.2 u 2) 9 dc_Pa_makeLayer_77 hc4 rfl rfl (Nat.le_of_ble_eq_true rfl) f_Pa_136 rfl hp.1 ?_
  have hp := hp.2
  refine a_iload_n C dc_Pa_makeLayer_80 rfl rfl ?_
  have hc5 := hp.1
  have hp := hp.2
  refine c_iald C (S.2.2 (S.2.2 u 2) 9) dc_Pa_makeLayer_81 hc5 hp.1 ?_
  have hp := hp.2
  refine a_icmp_ge (tgt := 187) C dc_Pa_makeLayer_82 (by decide) ⟨fun hc => ?_, fun hc => ?_⟩
  · have hp := hp.1 hc
    refine a_iinc (v := x5 + 1) (lo' := [some (.ref (oa u)), some (.ref (oa x1)), some (.int x2), some (.int x3), some (.int x4), some (.int (x5 + 1)), some (.int x6), none, none]) C dc_Pa_makeLayer_187 rfl rfl (by decide) rfl ?_
    refine a_goto (tgt := 54) C dc_Pa_makeLayer_190 (by decide) ?_
    refine aw_lo (lo' := [some (.ref (oa u)), some (.ref (oa x1)), some (.int x2), some (.int x3), some (.int x4), some (.int (x5 + 1)), none, none, none]) ⟨.inr rfl, .inr rfl, .inr rfl, .inr rfl, .inr rfl, .inr rfl, .inl rfl, .inr rfl, .inr rfl, trivial⟩ ?_
    exact hR54 x1 x2 x3 x4 (x5 + 1) S hp
  · have hp := hp.2 hc
    refine a_iload_n C dc_Pa_makeLayer_85 rfl rfl ?_
    refine a_iload C dc_Pa_makeLayer_86 rfl ?_
    refine a_imul C dc_Pa_makeLayer_88 ?_
    refine a_iconst (v := 2) C dc_Pa_makeLayer_89 (by decide) ?_
    refine a_idiv C dc_Pa_makeLayer_90 (by decide) ?_
    refine a_istore (lo' := [some (.ref (oa u)), some (.ref (oa x1)), some (.int x2), some (.int x3), some (.int x4), some (.int x5), some (.int x6), some (.int ((x3 * x4) / 2)), none]) C dc_Pa_makeLayer_91 (by decide) rfl ?_
    refine a_iconst (v := 0) C dc_Pa_makeLayer_93 (by decide) ?_
    refine a_istore (lo' := [some (.ref (oa u)), some (.ref (oa x1)), some (.int x2), some (.int x3), some (.int x4), some (.int x5), some (.int x6), some (.int ((x3 * x4) / 2)), some (.int 0)]) C dc_Pa_makeLayer_94 (by decide) rfl ?_
    refine aw_lo (lo' := [some (.ref (oa u)), some (.ref (oa x1)), some (.int x2), some (.int x3), some (.int x4), some (.int x5), some (.int x6), some (.int ((x3 * x4) / 2)), some (.int 0)]) ⟨.inr rfl, .inr rfl, .inr rfl, .inr rfl, .inr rfl, .inr rfl, .inr rfl, .inr rfl, .inr rfl, trivial⟩ ?_
    exact se_Pa_makeLayer_96 C hQ hA hR hu x1 x2 x3 x4 x5 x6 ((x3 * x4) / 2) 0 S R54 hR54 R71 hR71 hp
set_option maxRecDepth 100000 in
set_option maxHeartbeats 1000000 in
theorem se_Pa_makeLayer_71 (C : fcx gG D z A X R_Pa c_C_Pa_makeLayer 9 (none)) (hQ : X.2.2.2.2.2.2.2.2.2.2 = eQ gG D z X.2.2.2.2.2.2.2.1 X.2.2.2.2.1 L0 0 0 (pC_v lt_C U oa K (fun _ _ => False))) (hA : A = owA gG L0 X.2.2.2.2.1.heap.size) (hR : X.2.2.2.1 = { frames := 3, cells := 1, slots := 6, locals := 300 }) (hu : c_cl U u = 6) (x1 : Nat) (x2 : Int32) (x3 : Int32) (x4 : Int32) (x5 : Int32) (x6 : Int32) (S : cs) (R54 : Nat → Int32 → Int32 → Int32 → Int32 → cs → Prop) (hR54 : ∀ yx1 yx2 yx3 yx4 yx5 yS, R54 yx1 yx2 yx3 yx4 yx5 yS → aw gG D z A X 9 54 [some (.ref (oa u)), some (.ref (oa yx1)), some (.int yx2), some (.int yx3), some (.int yx4), some (.int yx5), none, none, none] [] (cw lt_C U oa yS) 0 0) (hp : e_Pa_makeLayer_71 U u x1 x2 x3 x4 x5 x6 S R54 K) : aw gG D z A X 9 71 [some (.ref (oa u)), some (.ref (oa x1)), some (.int x2), some (.int x3), some (.int x4), some (.int x5), some (.int x6), none, none] [] (cw lt_C U oa S) 0 0 := by
  obtain ⟨I, μ, h0, hs⟩ := hp
  have key : ∀ (n : Nat) (yx1 : Nat) (yx2 : Int32) (yx3 : Int32) (yx4 : Int32) (yx5 : Int32) (yx6 : Int32) (yS : cs), μ yx1 yx2 yx3 yx4 yx5 yx6 yS < n → I yx1 yx2 yx3 yx4 yx5 yx6 yS → aw gG D z A X 9 71 [some (.ref (oa u)), some (.ref (oa yx1)), some (.int yx2), some (.int yx3), some (.int yx4), some (.int yx5), some (.int yx6), none, none] [] (cw lt_C U oa yS) 0 0 := by
    intro n
    induction n with
    | zero => intro yx1 yx2 yx3 yx4 yx5 yx6 yS h; omega
    | succ n ih =>
      intro yx1 yx2 yx3 yx4 yx5 yx6 yS hn hI
      exact s_Pa_makeLayer_71 C hQ hA hR hu yx1 yx2 yx3 yx4 yx5 yx6 yS R54 hR54 _ (fun zx1 zx2 zx3 zx4 zx5 zx6 zS hw => ih zx1 zx2 zx3 zx4 zx5 zx6 zS (by omega) hw.1) (hs yx1 yx2 yx3 yx4 yx5 yx6 yS hI)
  exact key (μ x1 x2 x3 x4 x5 x6 S + 1) x1 x2 x3 x4 x5 x6 S (Nat.lt_succ_self _) h0
set_option maxRecDepth 100000 in
set_option maxHeartbeats 1000000 in
theorem s_Pa_makeLayer_54 (C : fcx gG D z A X R_Pa c_C_Pa_makeLayer 9 (none)) (hQ : X.2.2.2.2.2.2.2.2.2.2 = eQ gG D z X.2.2.2.2.2.2.2.1 X.2.2.2.2.1 L0 0 0 (pC_v lt_C U oa K (fun _ _ => False))) (hA : A = owA gG L0 X.2.2.2.2.1.heap.size) (hR : X.2.2.2.1 = { frames := 3, cells := 1, slots := 6, locals := 300 }) (hu : c_cl U u = 6) (x1 : Nat) (x2 : Int32) (x3 : Int32) (x4 : Int32) (x5 : Int32) (S : cs) (R54 : Nat → Int32 → Int32 → Int32 → Int32 → cs → Prop) (hR54 : ∀ yx1 yx2 yx3 yx4 yx5 yS, R54 yx1 yx2 yx3 yx4 yx5 yS → aw gG D z A X 9 54 [some (.ref (oa u)), some (.ref (oa yx1)), some (.int yx2), some (.int yx3), some (.int yx4), some (.int yx5), none, none, none] [] (cw lt_C U oa yS) 0 0) (hp : b_Pa_makeLayer_54 U u x1 x2 x3 x4 x5 S R54 K) : aw gG D z A X 9 54 [some (.ref (oa u)), some (.ref (oa x1)), some (.int x2), some (.int x3), some (.int x4), some (.int x5), none, none, none] [] (cw lt_C U oa S) 0 0 := by
  unfold b_Pa_makeLayer_54 at hp
  refine a_iload C dc_Pa_makeLayer_54 rfl ?_
  refine a_aload_n C dc_Pa_makeLayer_56 rfl rfl ?_
  refine c_getR C u 2 dc_Pa_makeLayer_57 hu rfl rfl (Nat.le_of_ble_eq_true rfl) f_Pa_31 rfl hp.1 ?_
  have hp := hp.2
  have hc6 := hp.1
  have hp := hp.2
  refine c_getRN C (S.2.2 u 2) 10 dc_Pa_makeLayer_60 hc6 rfl rfl (Nat.le_of_ble_eq_true rfl) f_Pa_133 rfl hp.1 ?_
  have hp := hp.2
  refine a_iload_n C dc_Pa_makeLayer_63 rfl rfl ?_
  have hc7 := hp.1
  have hp := hp.2
  refine c_iald C (S.2.2 (S.2.2 u 2) 10) dc_Pa_makeLayer_64 hc7 hp.1 ?_
  have hp := hp.2
  refine a_icmp_ge (tgt := 193) C dc_Pa_makeLayer_65 (by decide) ⟨fun hc => ?_, fun hc => ?_⟩
  · have hp := hp.1 hc
    exact a_vret C hQ hA dc_Pa_makeLayer_193 rfl (Or.inl ⟨S, hp, rfl, rfl⟩)
  · have hp := hp.2 hc
    refine a_iconst (v := 0) C dc_Pa_makeLayer_68 (by decide) ?_
    refine a_istore (lo' := [some (.ref (oa u)), some (.ref (oa x1)), some (.int x2), some (.int x3), some (.int x4), some (.int x5), some (.int 0), none, none]) C dc_Pa_makeLayer_69 (by decide) rfl ?_
    refine aw_lo (lo' := [some (.ref (oa u)), some (.ref (oa x1)), some (.int x2), some (.int x3), some (.int x4), some (.int x5), some (.int 0), none, none]) ⟨.inr rfl, .inr rfl, .inr rfl, .inr rfl, .inr rfl, .inr rfl, .inr rfl, .inr rfl, .inr rfl, trivial⟩ ?_
    exact se_Pa_makeLayer_71 C hQ hA hR hu x1 x2 x3 x4 x5 0 S R54 hR54 hp
set_option maxRecDepth 100000 in
set_option maxHeartbeats 1000000 in
theorem se_Pa_makeLayer_54 (C : fcx gG D z A X R_Pa c_C_Pa_makeLayer 9 (none)) (hQ : X.2.2.2.2.2.2.2.2.2.2 = eQ gG D z X.2.2.2.2.2.2.2.1 X.2.2.2.2.1 L0 0 0 (pC_v lt_C U oa K (fun _ _ => False))) (hA : A = owA gG L0 X.2.2.2.2.1.heap.size) (hR : X.2.2.2.1 = { frames := 3, cells := 1, slots := 6, locals := 300 }) (hu : c_cl U u = 6) (x1 : Nat) (x2 : Int32) (x3 : Int32) (x4 : Int32) (x5 : Int32) (S : cs) (hp : e_Pa_makeLayer_54 U u x1 x2 x3 x4 x5 S K) : aw gG D z A X 9 54 [some (.ref (oa u)), some (.ref (oa x1)), some (.int x2), some (.int x3), some (.int x4), some (.int x5), none, none, none] [] (cw lt_C U oa S) 0 0 := by
  obtain ⟨I, μ, h0, hs⟩ := hp
  have key : ∀ (n : Nat) (yx1 : Nat) (yx2 : Int32) (yx3 : Int32) (yx4 : Int32) (yx5 : Int32) (yS : cs), μ yx1 yx2 yx3 yx4 yx5 yS < n → I yx1 yx2 yx3 yx4 yx5 yS → aw gG D z A X 9 54 [some (.ref (oa u)), some (.ref (oa yx1)), some (.int yx2), some (.int yx3), some (.int yx4), some (.int yx5), none, none, none] [] (cw lt_C U oa yS) 0 0 := by
    intro n
    induction n with
    | zero => intro yx1 yx2 yx3 yx4 yx5 yS h; omega
    | succ n ih =>
      intro yx1 yx2 yx3 yx4 yx5 yS hn hI
      exact s_Pa_makeLayer_54 C hQ hA hR hu yx1 yx2 yx3 yx4 yx5 yS _ (fun zx1 zx2 zx3 zx4 zx5 zS hw => ih zx1 zx2 zx3 zx4 zx5 zS (by omega) hw.1) (hs yx1 yx2 yx3 yx4 yx5 yS hI)
  exact key (μ x1 x2 x3 x4 x5 S + 1) x1 x2 x3 x4 x5 S (Nat.lt_succ_self _) h0
set_option maxRecDepth 100000 in
set_option maxHeartbeats 1000000 in
theorem s_Pa_makeLayer_49 (C : fcx gG D z A X R_Pa c_C_Pa_makeLayer 9 (none)) (hQ : X.2.2.2.2.2.2.2.2.2.2 = eQ gG D z X.2.2.2.2.2.2.2.1 X.2.2.2.2.1 L0 0 0 (pC_v lt_C U oa K (fun _ _ => False))) (hA : A = owA gG L0 X.2.2.2.2.1.heap.size) (hR : X.2.2.2.1 = { frames := 3, cells := 1, slots := 6, locals := 300 }) (hu : c_cl U u = 6) (x1 : Nat) (x2 : Int32) (x3 : Int32) (s0 : Int32) (S : cs) (hp : b_Pa_makeLayer_49 U u x1 x2 x3 s0 S K) : aw gG D z A X 9 49 [some (.ref (oa u)), some (.ref (oa x1)), some (.int x2), some (.int x3), none, none, none, none, none] [.int s0] (cw lt_C U oa S) 0 0 := by
  unfold b_Pa_makeLayer_49 at hp
  refine a_istore (lo' := [some (.ref (oa u)), some (.ref (oa x1)), some (.int x2), some (.int x3), some (.int s0), none, none, none, none]) C dc_Pa_makeLayer_49 (by decide) rfl ?_
  refine a_iconst (v := 0) C dc_Pa_makeLayer_51 (by decide) ?_
  refine a_istore (lo' := [some (.ref (oa u)), some (.ref (oa x1)), some (.int x2), some (.int x3), some (.int s0), some (.int 0), none, none, none]) C dc_Pa_makeLayer_52 (by decide) rfl ?_
  refine aw_lo (lo' := [some (.ref (oa u)), some (.ref (oa x1)), some (.int x2), some (.int x3), some (.int s0), some (.int 0), none, none, none]) ⟨.inr rfl, .inr rfl, .inr rfl, .inr rfl, .inr rfl, .inr rfl, .inr rfl, .inr rfl, .inr rfl, trivial⟩ ?_
  exact se_Pa_makeLayer_54 C hQ hA hR hu x1 x2 x3 s0 0 S  hp
set_option maxRecDepth 100000 in
set_option maxHeartbeats 1000000 in
theorem s_Pa_makeLayer_24 (C : fcx gG D z A X R_Pa c_C_Pa_makeLayer 9 (none)) (hQ : X.2.2.2.2.2.2.2.2.2.2 = eQ gG D z X.2.2.2.2.2.2.2.1 X.2.2.2.2.1 L0 0 0 (pC_v lt_C U oa K (fun _ _ => False))) (hA : A = owA gG L0 X.2.2.2.2.1.heap.size) (hR : X.2.2.2.1 = { frames := 3, cells := 1, slots := 6, locals := 300 }) (hu : c_cl U u = 6) (x1 : Nat) (x2 : Int32) (s0 : Int32) (S : cs) (hp : b_Pa_makeLayer_24 U u x1 x2 s0 S K) : aw gG D z A X 9 24 [some (.ref (oa u)), some (.ref (oa x1)), some (.int x2), none, none, none, none, none, none] [.int s0] (cw lt_C U oa S) 0 0 := by
  unfold b_Pa_makeLayer_24 at hp
  refine a_istore_n (lo' := [some (.ref (oa u)), some (.ref (oa x1)), some (.int x2), some (.int s0), none, none, none, none, none]) C dc_Pa_makeLayer_24 rfl (by decide) rfl ?_
  refine a_aload_n C dc_Pa_makeLayer_25 rfl rfl ?_
  refine c_getR C u 2 dc_Pa_makeLayer_26 hu rfl rfl (Nat.le_of_ble_eq_true rfl) f_Pa_31 rfl hp.1 ?_
  have hp := hp.2
  have hc8 := hp.1
  have hp := hp.2
  refine c_getRN C (S.2.2 u 2) 4 dc_Pa_makeLayer_29 hc8 rfl rfl (Nat.le_of_ble_eq_true rfl) f_Pa_127 rfl hp.1 ?_
  have hp := hp.2
  refine a_iload_n C dc_Pa_makeLayer_32 rfl rfl ?_
  have hc9 := hp.1
  have hp := hp.2
  refine c_iald C (S.2.2 (S.2.2 u 2) 4) dc_Pa_makeLayer_33 hc9 hp.1 ?_
  have hp := hp.2
  refine a_aload_n C dc_Pa_makeLayer_34 rfl rfl ?_
  refine c_getR C u 2 dc_Pa_makeLayer_35 hu rfl rfl (Nat.le_of_ble_eq_true rfl) f_Pa_31 rfl hp.1 ?_
  have hp := hp.2
  refine c_getIN C (S.2.2 u 2) 6 dc_Pa_makeLayer_38 hc8 rfl rfl (Nat.le_of_ble_eq_true rfl) f_Pa_130 (Nat.le_of_ble_eq_true rfl) ?_
  refine a_icmp_ge (tgt := 48) C dc_Pa_makeLayer_41 (by decide) ⟨fun hc => ?_, fun hc => ?_⟩
  · have hp := hp.1 hc
    refine a_iconst (v := 1) C dc_Pa_makeLayer_48 (by decide) ?_
    refine aw_lo (lo' := [some (.ref (oa u)), some (.ref (oa x1)), some (.int x2), some (.int s0), none, none, none, none, none]) ⟨.inr rfl, .inr rfl, .inr rfl, .inr rfl, .inr rfl, .inr rfl, .inr rfl, .inr rfl, .inr rfl, trivial⟩ ?_
    exact s_Pa_makeLayer_49 C hQ hA hR hu x1 x2 s0 1 S  hp
  · have hp := hp.2 hc
    refine a_iconst (v := 2) C dc_Pa_makeLayer_44 (by decide) ?_
    refine a_goto (tgt := 49) C dc_Pa_makeLayer_45 (by decide) ?_
    refine aw_lo (lo' := [some (.ref (oa u)), some (.ref (oa x1)), some (.int x2), some (.int s0), none, none, none, none, none]) ⟨.inr rfl, .inr rfl, .inr rfl, .inr rfl, .inr rfl, .inr rfl, .inr rfl, .inr rfl, .inr rfl, trivial⟩ ?_
    exact s_Pa_makeLayer_49 C hQ hA hR hu x1 x2 s0 2 S  hp
set_option maxRecDepth 100000 in
set_option maxHeartbeats 1000000 in
theorem s_Pa_makeLayer_0 (C : fcx gG D z A X R_Pa c_C_Pa_makeLayer 9 (none)) (hQ : X.2.2.2.2.2.2.2.2.2.2 = eQ gG D z X.2.2.2.2.2.2.2.1 X.2.2.2.2.1 L0 0 0 (pC_v lt_C U oa K (fun _ _ => False))) (hA : A = owA gG L0 X.2.2.2.2.1.heap.size) (hR : X.2.2.2.1 = { frames := 3, cells := 1, slots := 6, locals := 300 }) (hu : c_cl U u = 6) (x1 : Nat) (x2 : Int32) (S : cs) (hp : p_Pa_makeLayer U u x1 x2 S K) : aw gG D z A X 9 0 [some (.ref (oa u)), some (.ref (oa x1)), some (.int x2), none, none, none, none, none, none] [] (cw lt_C U oa S) 0 0 := by
  unfold p_Pa_makeLayer at hp
  refine a_aload_n C dc_Pa_makeLayer_0 rfl rfl ?_
  refine c_getR C u 2 dc_Pa_makeLayer_1 hu rfl rfl (Nat.le_of_ble_eq_true rfl) f_Pa_31 rfl hp.1 ?_
  have hp := hp.2
  have hc10 := hp.1
  have hp := hp.2
  refine c_getRN C (S.2.2 u 2) 3 dc_Pa_makeLayer_4 hc10 rfl rfl (Nat.le_of_ble_eq_true rfl) f_Pa_121 rfl hp.1 ?_
  have hp := hp.2
  refine a_iload_n C dc_Pa_makeLayer_7 rfl rfl ?_
  have hc11 := hp.1
  have hp := hp.2
  refine c_iald C (S.2.2 (S.2.2 u 2) 3) dc_Pa_makeLayer_8 hc11 hp.1 ?_
  have hp := hp.2
  refine a_aload_n C dc_Pa_makeLayer_9 rfl rfl ?_
  refine c_getR C u 2 dc_Pa_makeLayer_10 hu rfl rfl (Nat.le_of_ble_eq_true rfl) f_Pa_31 rfl hp.1 ?_
  have hp := hp.2
  refine c_getIN C (S.2.2 u 2) 5 dc_Pa_makeLayer_13 hc10 rfl rfl (Nat.le_of_ble_eq_true rfl) f_Pa_124 (Nat.le_of_ble_eq_true rfl) ?_
  refine a_icmp_ge (tgt := 23) C dc_Pa_makeLayer_16 (by decide) ⟨fun hc => ?_, fun hc => ?_⟩
  · have hp := hp.1 hc
    refine a_iconst (v := 1) C dc_Pa_makeLayer_23 (by decide) ?_
    refine aw_lo (lo' := [some (.ref (oa u)), some (.ref (oa x1)), some (.int x2), none, none, none, none, none, none]) ⟨.inr rfl, .inr rfl, .inr rfl, .inr rfl, .inr rfl, .inr rfl, .inr rfl, .inr rfl, .inr rfl, trivial⟩ ?_
    exact s_Pa_makeLayer_24 C hQ hA hR hu x1 x2 1 S  hp
  · have hp := hp.2 hc
    refine a_iconst (v := 2) C dc_Pa_makeLayer_19 (by decide) ?_
    refine a_goto (tgt := 24) C dc_Pa_makeLayer_20 (by decide) ?_
    refine aw_lo (lo' := [some (.ref (oa u)), some (.ref (oa x1)), some (.int x2), none, none, none, none, none, none]) ⟨.inr rfl, .inr rfl, .inr rfl, .inr rfl, .inr rfl, .inr rfl, .inr rfl, .inr rfl, .inr rfl, trivial⟩ ?_
    exact s_Pa_makeLayer_24 C hQ hA hR hu x1 x2 2 S  hp
end C_Pa_makeLayer
section C_Pa_makeLayerc
variable {D : va_G} {z : Nat → ClassId} {U : ut} {oa : Nat → Nat}
set_option maxRecDepth 100000 in
theorem ct_Pa_makeLayer {l : Launch} (u : Nat) (x1 : Nat) (x2 : Int32) (S : cs) {K : cs → Prop} (hu : c_cl U u = 6) (hp : p_Pa_makeLayer U u x1 x2 S K) : ct gG D z l n_C_Pa_makeLayer c_C_Pa_makeLayer 9 (none) 3 300 [.ref (oa u), .ref (oa x1), .int x2] (cw lt_C U oa S) 0 0 (pC_v lt_C U oa K (fun _ _ => False)) := by
  refine ct_of (lo := [some (.ref (oa u)), some (.ref (oa x1)), some (.int x2), none, none, none, none, none, none]) (by decide) g_ok (Nat.le_of_ble_eq_true rfl) rfl ?_
  intro X A _ C hR hQ hA _
  exact s_Pa_makeLayer_0 C hQ hA hR hu x1 x2 S hp
end C_Pa_makeLayerc
def b_Wa_makeWeights_119 (U : ut) (u : Nat) (x1 : Int32) (x2 : Int32) (x3 : Int64) (x5 : Int32) (S : cs) (R98 : Int32 → cs → Prop) (R106 : Int32 → Int32 → cs → Prop) (R119 : Int32 → Int32 → Int64 → Int32 → cs → Prop) (K : cs → Prop) : Prop :=
  (8 ≤ x5 → (¬ S.2.2 u 2 = NU ∧ (c_cl U (S.2.2 u 2) = 902 ∧ (vp_in ((8 * x1) + x2) (c_ln U (S.2.2 u 2)) ∧ (R106 x1 (x2 + 1) (va_up S.1 (S.2.2 u 2) (upd (S.1 (S.2.2 u 2)) ((8 * x1) + x2).toNatClampNeg ((x3 >>> ((17 : Int32).toInt64 &&& 63 : Int64) : Int64).toInt32)), S.2.1, S.2.2)))))) ∧ (¬ (8 ≤ x5) → (¬ S.2.2 u 0 = NU ∧ (c_cl U (S.2.2 u 0) = 902 ∧ (vp_in ((8 * x1) + x5) (c_ln U (S.2.2 u 0)) ∧ (¬ S.2.2 u 3 = NU ∧ (c_cl U (S.2.2 u 3) = 904 ∧ (vp_in ((8 * x5) + x2) (c_ln U (S.2.2 u 3)) ∧ (R119 x1 x2 (x3 + (((S.1 (S.2.2 u 0) ((8 * x1) + x5).toNatClampNeg).toInt64) * (S.2.1 (S.2.2 u 3) ((8 * x5) + x2).toNatClampNeg))) (x5 + 1) S))))))))
def e_Wa_makeWeights_119 (U : ut) (u : Nat) (x1 : Int32) (x2 : Int32) (x3 : Int64) (x5 : Int32) (S : cs) (R98 : Int32 → cs → Prop) (R106 : Int32 → Int32 → cs → Prop) (K : cs → Prop) : Prop :=
  ∃ (I : Int32 → Int32 → Int64 → Int32 → cs → Prop) (μ : Int32 → Int32 → Int64 → Int32 → cs → Nat), I x1 x2 x3 x5 S ∧ ∀ yx1 yx2 yx3 yx5 yS, I yx1 yx2 yx3 yx5 yS → b_Wa_makeWeights_119 U u yx1 yx2 yx3 yx5 yS R98 R106 (fun zx1 zx2 zx3 zx5 zS => I zx1 zx2 zx3 zx5 zS ∧ μ zx1 zx2 zx3 zx5 zS < μ yx1 yx2 yx3 yx5 yS) K
def b_Wa_makeWeights_106 (U : ut) (u : Nat) (x1 : Int32) (x2 : Int32) (S : cs) (R98 : Int32 → cs → Prop) (R106 : Int32 → Int32 → cs → Prop) (K : cs → Prop) : Prop :=
  (8 ≤ x2 → (R98 (x1 + 1) S)) ∧ (¬ (8 ≤ x2) → (e_Wa_makeWeights_119 U u x1 x2 65536 0 S R98 R106 K))
def e_Wa_makeWeights_106 (U : ut) (u : Nat) (x1 : Int32) (x2 : Int32) (S : cs) (R98 : Int32 → cs → Prop) (K : cs → Prop) : Prop :=
  ∃ (I : Int32 → Int32 → cs → Prop) (μ : Int32 → Int32 → cs → Nat), I x1 x2 S ∧ ∀ yx1 yx2 yS, I yx1 yx2 yS → b_Wa_makeWeights_106 U u yx1 yx2 yS R98 (fun zx1 zx2 zS => I zx1 zx2 zS ∧ μ zx1 zx2 zS < μ yx1 yx2 yS) K
def b_Wa_makeWeights_98 (U : ut) (u : Nat) (x1 : Int32) (S : cs) (R98 : Int32 → cs → Prop) (K : cs → Prop) : Prop :=
  (8 ≤ x1 → (K S)) ∧ (¬ (8 ≤ x1) → (e_Wa_makeWeights_106 U u x1 0 S R98 K))
def e_Wa_makeWeights_98 (U : ut) (u : Nat) (x1 : Int32) (S : cs) (K : cs → Prop) : Prop :=
  ∃ (I : Int32 → cs → Prop) (μ : Int32 → cs → Nat), I x1 S ∧ ∀ yx1 yS, I yx1 yS → b_Wa_makeWeights_98 U u yx1 yS (fun zx1 zS => I zx1 zS ∧ μ zx1 zS < μ yx1 yS) K
def b_Wa_makeWeights_23 (U : ut) (u : Nat) (x1 : Int32) (x2 : Int32) (x3 : Int32) (x4 : Int32) (S : cs) (R2 : Int32 → cs → Prop) (R10 : Int32 → Int32 → cs → Prop) (R23 : Int32 → Int32 → Int32 → Int32 → cs → Prop) (K : cs → Prop) : Prop :=
  (8 ≤ x4 → (¬ S.2.2 u 3 = NU ∧ (c_cl U (S.2.2 u 3) = 904 ∧ (vp_in ((8 * x1) + x2) (c_ln U (S.2.2 u 3)) ∧ (R10 x1 (x2 + 1) (S.1, va_up S.2.1 (S.2.2 u 3) (vp_updL (S.2.1 (S.2.2 u 3)) ((8 * x1) + x2).toNatClampNeg ((x3 >>> (9 &&& 31 : Int32) : Int32).toInt64)), S.2.2)))))) ∧ (¬ (8 ≤ x4) → (¬ S.2.2 u 0 = NU ∧ (c_cl U (S.2.2 u 0) = 902 ∧ (vp_in ((8 * x2) + x4) (c_ln U (S.2.2 u 0)) ∧ (¬ S.2.2 u 1 = NU ∧ (c_cl U (S.2.2 u 1) = 902 ∧ (vp_in ((8 * x1) + x4) (c_ln U (S.2.2 u 1)) ∧ (R23 x1 x2 (x3 + ((S.1 (S.2.2 u 0) ((8 * x2) + x4).toNatClampNeg) * ((S.1 (S.2.2 u 1) ((8 * x1) + x4).toNatClampNeg) - 128))) (x4 + 1) S))))))))
def e_Wa_makeWeights_23 (U : ut) (u : Nat) (x1 : Int32) (x2 : Int32) (x3 : Int32) (x4 : Int32) (S : cs) (R2 : Int32 → cs → Prop) (R10 : Int32 → Int32 → cs → Prop) (K : cs → Prop) : Prop :=
  ∃ (I : Int32 → Int32 → Int32 → Int32 → cs → Prop) (μ : Int32 → Int32 → Int32 → Int32 → cs → Nat), I x1 x2 x3 x4 S ∧ ∀ yx1 yx2 yx3 yx4 yS, I yx1 yx2 yx3 yx4 yS → b_Wa_makeWeights_23 U u yx1 yx2 yx3 yx4 yS R2 R10 (fun zx1 zx2 zx3 zx4 zS => I zx1 zx2 zx3 zx4 zS ∧ μ zx1 zx2 zx3 zx4 zS < μ yx1 yx2 yx3 yx4 yS) K
def b_Wa_makeWeights_10 (U : ut) (u : Nat) (x1 : Int32) (x2 : Int32) (S : cs) (R2 : Int32 → cs → Prop) (R10 : Int32 → Int32 → cs → Prop) (K : cs → Prop) : Prop :=
  (8 ≤ x2 → (R2 (x1 + 1) S)) ∧ (¬ (8 ≤ x2) → (e_Wa_makeWeights_23 U u x1 x2 256 0 S R2 R10 K))
def e_Wa_makeWeights_10 (U : ut) (u : Nat) (x1 : Int32) (x2 : Int32) (S : cs) (R2 : Int32 → cs → Prop) (K : cs → Prop) : Prop :=
  ∃ (I : Int32 → Int32 → cs → Prop) (μ : Int32 → Int32 → cs → Nat), I x1 x2 S ∧ ∀ yx1 yx2 yS, I yx1 yx2 yS → b_Wa_makeWeights_10 U u yx1 yx2 yS R2 (fun zx1 zx2 zS => I zx1 zx2 zS ∧ μ zx1 zx2 zS < μ yx1 yx2 yS) K
def b_Wa_makeWeights_2 (U : ut) (u : Nat) (x1 : Int32) (S : cs) (R2 : Int32 → cs → Prop) (K : cs → Prop) : Prop :=
  (8 ≤ x1 → (e_Wa_makeWeights_98 U u 0 S K)) ∧ (¬ (8 ≤ x1) → (e_Wa_makeWeights_10 U u x1 0 S R2 K))
def e_Wa_makeWeights_2 (U : ut) (u : Nat) (x1 : Int32) (S : cs) (K : cs → Prop) : Prop :=
  ∃ (I : Int32 → cs → Prop) (μ : Int32 → cs → Nat), I x1 S ∧ ∀ yx1 yS, I yx1 yS → b_Wa_makeWeights_2 U u yx1 yS (fun zx1 zS => I zx1 zS ∧ μ zx1 zS < μ yx1 yS) K
def p_Wa_makeWeights (U : ut) (u : Nat)  (S : cs) (K : cs → Prop) : Prop :=
  e_Wa_makeWeights_2 U u 0 S K
section C_Wa_makeWeights
variable {D : va_G} {z : Nat → ClassId} {A : Nat → Prop} {X : cx} {L0 : fw} {U : ut} {oa : Nat → Nat} {u : Nat} {K : cs → Prop}
set_option maxRecDepth 100000 in
set_option maxHeartbeats 1000000 in
theorem s_Wa_makeWeights_119 (C : fcx gG D z A X R_Wa c_C_Wa_makeWeights 6 (none)) (hQ : X.2.2.2.2.2.2.2.2.2.2 = eQ gG D z X.2.2.2.2.2.2.2.1 X.2.2.2.2.1 L0 0 0 (pC_v lt_C U oa K (fun _ _ => False))) (hA : A = owA gG L0 X.2.2.2.2.1.heap.size) (hR : X.2.2.2.1 = { frames := 1, cells := 1, slots := 6, locals := 100 }) (hu : c_cl U u = 12) (x1 : Int32) (x2 : Int32) (x3 : Int64) (x5 : Int32) (S : cs) (R98 : Int32 → cs → Prop) (hR98 : ∀ yx1 yS, R98 yx1 yS → aw gG D z A X 6 98 [some (.ref (oa u)), some (.int yx1), none, none, none, none] [] (cw lt_C U oa yS) 0 0) (R106 : Int32 → Int32 → cs → Prop) (hR106 : ∀ yx1 yx2 yS, R106 yx1 yx2 yS → aw gG D z A X 6 106 [some (.ref (oa u)), some (.int yx1), some (.int yx2), none, none, none] [] (cw lt_C U oa yS) 0 0) (R119 : Int32 → Int32 → Int64 → Int32 → cs → Prop) (hR119 : ∀ yx1 yx2 yx3 yx5 yS, R119 yx1 yx2 yx3 yx5 yS → aw gG D z A X 6 119 [some (.ref (oa u)), some (.int yx1), some (.int yx2), some (.long yx3), none, some (.int yx5)] [] (cw lt_C U oa yS) 0 0) (hp : b_Wa_makeWeights_119 U u x1 x2 x3 x5 S R98 R106 R119 K) : aw gG D z A X 6 119 [some (.ref (oa u)), some (.int x1), some (.int x2), some (.long x3), none, some (.int x5)] [] (cw lt_C U oa S) 0 0 := by
  unfold b_Wa_makeWeights_119 at hp
  refine a_iload C dc_Wa_makeWeights_119 rfl ?_
  refine a_bipush (v := 8) C dc_Wa_makeWeights_121 (by decide) ?_
  refine a_icmp_ge (tgt := 161) C dc_Wa_makeWeights_123 (by decide) ⟨fun hc => ?_, fun hc => ?_⟩
  · have hp := hp.1 hc
    refine a_aload_n C dc_Wa_makeWeights_161 rfl rfl ?_
    refine c_getR C u 2 dc_Wa_makeWeights_162 hu rfl rfl (Nat.le_of_ble_eq_true rfl) f_Wa_18 rfl hp.1 ?_
    have hp := hp.2
    refine a_bipush (v := 8) C dc_Wa_makeWeights_165 (by decide) ?_
    refine a_iload_n C dc_Wa_makeWeights_167 rfl rfl ?_
    refine a_imul C dc_Wa_makeWeights_168 ?_
    refine a_iload_n C dc_Wa_makeWeights_169 rfl rfl ?_
    refine a_iadd C dc_Wa_makeWeights_170 ?_
    refine a_lload_n C dc_Wa_makeWeights_171 rfl rfl ?_
    refine a_bipush (v := 17) C dc_Wa_makeWeights_172 (by decide) ?_
    refine a_lshr C dc_Wa_makeWeights_174 ?_
    refine a_l2i C dc_Wa_makeWeights_175 ?_
    have hc1 := hp.1
    have hp := hp.2
    refine c_iast C (S.2.2 u 2) dc_Wa_makeWeights_176 hc1 hp.1 ?_
    have hp := hp.2
    refine aw_eq (lo' := _) (st' := _) (L' := (cw lt_C U oa (va_up S.1 (S.2.2 u 2) (upd (S.1 (S.2.2 u 2)) ((8 * x1) + x2).toNatClampNeg ((x3 >>> ((17 : Int32).toInt64 &&& 63 : Int64) : Int64).toInt32)), S.2.1, S.2.2))) rfl rfl rfl ?_
    refine a_iinc (v := x2 + 1) (lo' := [some (.ref (oa u)), some (.int x1), some (.int (x2 + 1)), some (.long x3), none, some (.int x5)]) C dc_Wa_makeWeights_177 rfl rfl (by decide) rfl ?_
    refine a_goto (tgt := 106) C dc_Wa_makeWeights_180 (by decide) ?_
    refine aw_lo (lo' := [some (.ref (oa u)), some (.int x1), some (.int (x2 + 1)), none, none, none]) ⟨.inr rfl, .inr rfl, .inr rfl, .inl rfl, .inr rfl, .inl rfl, trivial⟩ ?_
    exact hR106 x1 (x2 + 1) (va_up S.1 (S.2.2 u 2) (upd (S.1 (S.2.2 u 2)) ((8 * x1) + x2).toNatClampNeg ((x3 >>> ((17 : Int32).toInt64 &&& 63 : Int64) : Int64).toInt32)), S.2.1, S.2.2) hp
  · have hp := hp.2 hc
    refine a_lload_n C dc_Wa_makeWeights_126 rfl rfl ?_
    refine a_aload_n C dc_Wa_makeWeights_127 rfl rfl ?_
    refine c_getR C u 0 dc_Wa_makeWeights_128 hu rfl rfl (Nat.le_of_ble_eq_true rfl) f_Wa_9 rfl hp.1 ?_
    have hp := hp.2
    refine a_bipush (v := 8) C dc_Wa_makeWeights_131 (by decide) ?_
    refine a_iload_n C dc_Wa_makeWeights_133 rfl rfl ?_
    refine a_imul C dc_Wa_makeWeights_134 ?_
    refine a_iload C dc_Wa_makeWeights_135 rfl ?_
    refine a_iadd C dc_Wa_makeWeights_137 ?_
    have hc2 := hp.1
    have hp := hp.2
    refine c_iald C (S.2.2 u 0) dc_Wa_makeWeights_138 hc2 hp.1 ?_
    have hp := hp.2
    refine a_i2l C dc_Wa_makeWeights_139 ?_
    refine a_aload_n C dc_Wa_makeWeights_140 rfl rfl ?_
    refine c_getR C u 3 dc_Wa_makeWeights_141 hu rfl rfl (Nat.le_of_ble_eq_true rfl) f_Wa_21 rfl hp.1 ?_
    have hp := hp.2
    refine a_bipush (v := 8) C dc_Wa_makeWeights_144 (by decide) ?_
    refine a_iload C dc_Wa_makeWeights_146 rfl ?_
    refine a_imul C dc_Wa_makeWeights_148 ?_
    refine a_iload_n C dc_Wa_makeWeights_149 rfl rfl ?_
    refine a_iadd C dc_Wa_makeWeights_150 ?_
    have hc3 := hp.1
    have hp := hp.2
    refine c_lald C (S.2.2 u 3) dc_Wa_makeWeights_151 hc3 hp.1 ?_
    have hp := hp.2
    refine a_lmul C dc_Wa_makeWeights_152 ?_
    refine a_ladd C dc_Wa_makeWeights_153 ?_
    refine a_lstore_n (lo' := [some (.ref (oa u)), some (.int x1), some (.int x2), some (.long (x3 + (((S.1 (S.2.2 u 0) ((8 * x1) + x5).toNatClampNeg).toInt64) * (S.2.1 (S.2.2 u 3) ((8 * x5) + x2).toNatClampNeg)))), none, some (.int x5)]) C dc_Wa_makeWeights_154 rfl (by decide) rfl ?_
    refine a_iinc (v := x5 + 1) (lo' := [some (.ref (oa u)), some (.int x1), some (.int x2), some (.long (x3 + (((S.1 (S.2.2 u 0) ((8 * x1) + x5).toNatClampNeg).toInt64) * (S.2.1 (S.2.2 u 3) ((8 * x5) + x2).toNatClampNeg)))), none, some (.int (x5 + 1))]) C dc_Wa_makeWeights_155 rfl rfl (by decide) rfl ?_
    refine a_goto (tgt := 119) C dc_Wa_makeWeights_158 (by decide) ?_
    refine aw_lo (lo' := [some (.ref (oa u)), some (.int x1), some (.int x2), some (.long (x3 + (((S.1 (S.2.2 u 0) ((8 * x1) + x5).toNatClampNeg).toInt64) * (S.2.1 (S.2.2 u 3) ((8 * x5) + x2).toNatClampNeg)))), none, some (.int (x5 + 1))]) ⟨.inr rfl, .inr rfl, .inr rfl, .inr rfl, .inr rfl, .inr rfl, trivial⟩ ?_
    exact hR119 x1 x2 (x3 + (((S.1 (S.2.2 u 0) ((8 * x1) + x5).toNatClampNeg).toInt64) * (S.2.1 (S.2.2 u 3) ((8 * x5) + x2).toNatClampNeg))) (x5 + 1) S hp
set_option maxRecDepth 100000 in
set_option maxHeartbeats 1000000 in
theorem se_Wa_makeWeights_119 (C : fcx gG D z A X R_Wa c_C_Wa_makeWeights 6 (none)) (hQ : X.2.2.2.2.2.2.2.2.2.2 = eQ gG D z X.2.2.2.2.2.2.2.1 X.2.2.2.2.1 L0 0 0 (pC_v lt_C U oa K (fun _ _ => False))) (hA : A = owA gG L0 X.2.2.2.2.1.heap.size) (hR : X.2.2.2.1 = { frames := 1, cells := 1, slots := 6, locals := 100 }) (hu : c_cl U u = 12) (x1 : Int32) (x2 : Int32) (x3 : Int64) (x5 : Int32) (S : cs) (R98 : Int32 → cs → Prop) (hR98 : ∀ yx1 yS, R98 yx1 yS → aw gG D z A X 6 98 [some (.ref (oa u)), some (.int yx1), none, none, none, none] [] (cw lt_C U oa yS) 0 0) (R106 : Int32 → Int32 → cs → Prop) (hR106 : ∀ yx1 yx2 yS, R106 yx1 yx2 yS → aw gG D z A X 6 106 [some (.ref (oa u)), some (.int yx1), some (.int yx2), none, none, none] [] (cw lt_C U oa yS) 0 0) (hp : e_Wa_makeWeights_119 U u x1 x2 x3 x5 S R98 R106 K) : aw gG D z A X 6 119 [some (.ref (oa u)), some (.int x1), some (.int x2), some (.long x3), none, some (.int x5)] [] (cw lt_C U oa S) 0 0 := by
  obtain ⟨I, μ, h0, hs⟩ := hp
  have key : ∀ (n : Nat) (yx1 : Int32) (yx2 : Int32) (yx3 : Int64) (yx5 : Int32) (yS : cs), μ yx1 yx2 yx3 yx5 yS < n → I yx1 yx2 yx3 yx5 yS → aw gG D z A X 6 119 [some (.ref (oa u)), some (.int yx1), some (.int yx2), some (.long yx3), none, some (.int yx5)] [] (cw lt_C U oa yS) 0 0 := by
    intro n
    induction n with
    | zero => intro yx1 yx2 yx3 yx5 yS h; omega
    | succ n ih =>
      intro yx1 yx2 yx3 yx5 yS hn hI
      exact s_Wa_makeWeights_119 C hQ hA hR hu yx1 yx2 yx3 yx5 yS R98 hR98 R106 hR106 _ (fun zx1 zx2 zx3 zx5 zS hw => ih zx1 zx2 zx3 zx5 zS (by omega) hw.1) (hs yx1 yx2 yx3 yx5 yS hI)
  exact key (μ x1 x2 x3 x5 S + 1) x1 x2 x3 x5 S (Nat.lt_succ_self _) h0
set_option maxRecDepth 100000 in
set_option maxHeartbeats 1000000 in
theorem s_Wa_makeWeights_106 (C : fcx gG D z A X R_Wa c_C_Wa_makeWeights 6 (none)) (hQ : X.2.2.2.2.2.2.2.2.2.2 = eQ gG D z X.2.2.2.2.2.2.2.1 X.2.2.2.2.1 L0 0 0 (pC_v lt_C U oa K (fun _ _ => False))) (hA : A = owA gG L0 X.2.2.2.2.1.heap.size) (hR : X.2.2.2.1 = { frames := 1, cells := 1, slots := 6, locals := 100 }) (hu : c_cl U u = 12) (x1 : Int32) (x2 : Int32) (S : cs) (R98 : Int32 → cs → Prop) (hR98 : ∀ yx1 yS, R98 yx1 yS → aw gG D z A X 6 98 [some (.ref (oa u)), some (.int yx1), none, none, none, none] [] (cw lt_C U oa yS) 0 0) (R106 : Int32 → Int32 → cs → Prop) (hR106 : ∀ yx1 yx2 yS, R106 yx1 yx2 yS → aw gG D z A X 6 106 [some (.ref (oa u)), some (.int yx1), some (.int yx2), none, none, none] [] (cw lt_C U oa yS) 0 0) (hp : b_Wa_makeWeights_106 U u x1 x2 S R98 R106 K) : aw gG D z A X 6 106 [some (.ref (oa u)), some (.int x1), some (.int x2), none, none, none] [] (cw lt_C U oa S) 0 0 := by
  unfold b_Wa_makeWeights_106 at hp
  refine a_iload_n C dc_Wa_makeWeights_106 rfl rfl ?_
  refine a_bipush (v := 8) C dc_Wa_makeWeights_107 (by decide) ?_
  refine a_icmp_ge (tgt := 183) C dc_Wa_makeWeights_109 (by decide) ⟨fun hc => ?_, fun hc => ?_⟩
  · have hp := hp.1 hc
    refine a_iinc (v := x1 + 1) (lo' := [some (.ref (oa u)), some (.int (x1 + 1)), some (.int x2), none, none, none]) C dc_Wa_makeWeights_183 rfl rfl (by decide) rfl ?_
    refine a_goto (tgt := 98) C dc_Wa_makeWeights_186 (by decide) ?_
    refine aw_lo (lo' := [some (.ref (oa u)), some (.int (x1 + 1)), none, none, none, none]) ⟨.inr rfl, .inr rfl, .inl rfl, .inr rfl, .inr rfl, .inr rfl, trivial⟩ ?_
    exact hR98 (x1 + 1) S hp
  · have hp := hp.2 hc
    refine a_ldc2 (v := 65536) C dc_Wa_makeWeights_112 k_Wa_32 ?_
    refine a_lstore_n (lo' := [some (.ref (oa u)), some (.int x1), some (.int x2), some (.long 65536), none, none]) C dc_Wa_makeWeights_115 rfl (by decide) rfl ?_
    refine a_iconst (v := 0) C dc_Wa_makeWeights_116 (by decide) ?_
    refine a_istore (lo' := [some (.ref (oa u)), some (.int x1), some (.int x2), some (.long 65536), none, some (.int 0)]) C dc_Wa_makeWeights_117 (by decide) rfl ?_
    refine aw_lo (lo' := [some (.ref (oa u)), some (.int x1), some (.int x2), some (.long 65536), none, some (.int 0)]) ⟨.inr rfl, .inr rfl, .inr rfl, .inr rfl, .inr rfl, .inr rfl, trivial⟩ ?_
    exact se_Wa_makeWeights_119 C hQ hA hR hu x1 x2 65536 0 S R98 hR98 R106 hR106 hp
set_option maxRecDepth 100000 in
set_option maxHeartbeats 1000000 in
theorem se_Wa_makeWeights_106 (C : fcx gG D z A X R_Wa c_C_Wa_makeWeights 6 (none)) (hQ : X.2.2.2.2.2.2.2.2.2.2 = eQ gG D z X.2.2.2.2.2.2.2.1 X.2.2.2.2.1 L0 0 0 (pC_v lt_C U oa K (fun _ _ => False))) (hA : A = owA gG L0 X.2.2.2.2.1.heap.size) (hR : X.2.2.2.1 = { frames := 1, cells := 1, slots := 6, locals := 100 }) (hu : c_cl U u = 12) (x1 : Int32) (x2 : Int32) (S : cs) (R98 : Int32 → cs → Prop) (hR98 : ∀ yx1 yS, R98 yx1 yS → aw gG D z A X 6 98 [some (.ref (oa u)), some (.int yx1), none, none, none, none] [] (cw lt_C U oa yS) 0 0) (hp : e_Wa_makeWeights_106 U u x1 x2 S R98 K) : aw gG D z A X 6 106 [some (.ref (oa u)), some (.int x1), some (.int x2), none, none, none] [] (cw lt_C U oa S) 0 0 := by
  obtain ⟨I, μ, h0, hs⟩ := hp
  have key : ∀ (n : Nat) (yx1 : Int32) (yx2 : Int32) (yS : cs), μ yx1 yx2 yS < n → I yx1 yx2 yS → aw gG D z A X 6 106 [some (.ref (oa u)), some (.int yx1), some (.int yx2), none, none, none] [] (cw lt_C U oa yS) 0 0 := by
    intro n
    induction n with
    | zero => intro yx1 yx2 yS h; omega
    | succ n ih =>
      intro yx1 yx2 yS hn hI
      exact s_Wa_makeWeights_106 C hQ hA hR hu yx1 yx2 yS R98 hR98 _ (fun zx1 zx2 zS hw => ih zx1 zx2 zS (by omega) hw.1) (hs yx1 yx2 yS hI)
  exact key (μ x1 x2 S + 1) x1 x2 S (Nat.lt_succ_self _) h0
set_option maxRecDepth 100000 in
set_option maxHeartbeats 1000000 in
theorem s_Wa_makeWeights_98 (C : fcx gG D z A X R_Wa c_C_Wa_makeWeights 6 (none)) (hQ : X.2.2.2.2.2.2.2.2.2.2 = eQ gG D z X.2.2.2.2.2.2.2.1 X.2.2.2.2.1 L0 0 0 (pC_v lt_C U oa K (fun _ _ => False))) (hA : A = owA gG L0 X.2.2.2.2.1.heap.size) (hR : X.2.2.2.1 = { frames := 1, cells := 1, slots := 6, locals := 100 }) (hu : c_cl U u = 12) (x1 : Int32) (S : cs) (R98 : Int32 → cs → Prop) (hR98 : ∀ yx1 yS, R98 yx1 yS → aw gG D z A X 6 98 [some (.ref (oa u)), some (.int yx1), none, none, none, none] [] (cw lt_C U oa yS) 0 0) (hp : b_Wa_makeWeights_98 U u x1 S R98 K) : aw gG D z A X 6 98 [some (.ref (oa u)), some (.int x1), none, none, none, none] [] (cw lt_C U oa S) 0 0 := by
  unfold b_Wa_makeWeights_98 at hp
  refine a_iload_n C dc_Wa_makeWeights_98 rfl rfl ?_
  refine a_bipush (v := 8) C dc_Wa_makeWeights_99 (by decide) ?_
  refine a_icmp_ge (tgt := 189) C dc_Wa_makeWeights_101 (by decide) ⟨fun hc => ?_, fun hc => ?_⟩
  · have hp := hp.1 hc
    exact a_vret C hQ hA dc_Wa_makeWeights_189 rfl (Or.inl ⟨S, hp, rfl, rfl⟩)
  · have hp := hp.2 hc
    refine a_iconst (v := 0) C dc_Wa_makeWeights_104 (by decide) ?_
    refine a_istore_n (lo' := [some (.ref (oa u)), some (.int x1), some (.int 0), none, none, none]) C dc_Wa_makeWeights_105 rfl (by decide) rfl ?_
    refine aw_lo (lo' := [some (.ref (oa u)), some (.int x1), some (.int 0), none, none, none]) ⟨.inr rfl, .inr rfl, .inr rfl, .inr rfl, .inr rfl, .inr rfl, trivial⟩ ?_
    exact se_Wa_makeWeights_106 C hQ hA hR hu x1 0 S R98 hR98 hp
set_option maxRecDepth 100000 in
set_option maxHeartbeats 1000000 in
theorem se_Wa_makeWeights_98 (C : fcx gG D z A X R_Wa c_C_Wa_makeWeights 6 (none)) (hQ : X.2.2.2.2.2.2.2.2.2.2 = eQ gG D z X.2.2.2.2.2.2.2.1 X.2.2.2.2.1 L0 0 0 (pC_v lt_C U oa K (fun _ _ => False))) (hA : A = owA gG L0 X.2.2.2.2.1.heap.size) (hR : X.2.2.2.1 = { frames := 1, cells := 1, slots := 6, locals := 100 }) (hu : c_cl U u = 12) (x1 : Int32) (S : cs) (hp : e_Wa_makeWeights_98 U u x1 S K) : aw gG D z A X 6 98 [some (.ref (oa u)), some (.int x1), none, none, none, none] [] (cw lt_C U oa S) 0 0 := by
  obtain ⟨I, μ, h0, hs⟩ := hp
  have key : ∀ (n : Nat) (yx1 : Int32) (yS : cs), μ yx1 yS < n → I yx1 yS → aw gG D z A X 6 98 [some (.ref (oa u)), some (.int yx1), none, none, none, none] [] (cw lt_C U oa yS) 0 0 := by
    intro n
    induction n with
    | zero => intro yx1 yS h; omega
    | succ n ih =>
      intro yx1 yS hn hI
      exact s_Wa_makeWeights_98 C hQ hA hR hu yx1 yS _ (fun zx1 zS hw => ih zx1 zS (by omega) hw.1) (hs yx1 yS hI)
  exact key (μ x1 S + 1) x1 S (Nat.lt_succ_self _) h0
set_option maxRecDepth 100000 in
set_option maxHeartbeats 1000000 in
theorem s_Wa_makeWeights_23 (C : fcx gG D z A X R_Wa c_C_Wa_makeWeights 6 (none)) (hQ : X.2.2.2.2.2.2.2.2.2.2 = eQ gG D z X.2.2.2.2.2.2.2.1 X.2.2.2.2.1 L0 0 0 (pC_v lt_C U oa K (fun _ _ => False))) (hA : A = owA gG L0 X.2.2.2.2.1.heap.size) (hR : X.2.2.2.1 = { frames := 1, cells := 1, slots := 6, locals := 100 }) (hu : c_cl U u = 12) (x1 : Int32) (x2 : Int32) (x3 : Int32) (x4 : Int32) (S : cs) (R2 : Int32 → cs → Prop) (hR2 : ∀ yx1 yS, R2 yx1 yS → aw gG D z A X 6 2 [some (.ref (oa u)), some (.int yx1), none, none, none, none] [] (cw lt_C U oa yS) 0 0) (R10 : Int32 → Int32 → cs → Prop) (hR10 : ∀ yx1 yx2 yS, R10 yx1 yx2 yS → aw gG D z A X 6 10 [some (.ref (oa u)), some (.int yx1), some (.int yx2), none, none, none] [] (cw lt_C U oa yS) 0 0) (R23 : Int32 → Int32 → Int32 → Int32 → cs → Prop) (hR23 : ∀ yx1 yx2 yx3 yx4 yS, R23 yx1 yx2 yx3 yx4 yS → aw gG D z A X 6 23 [some (.ref (oa u)), some (.int yx1), some (.int yx2), some (.int yx3), some (.int yx4), none] [] (cw lt_C U oa yS) 0 0) (hp : b_Wa_makeWeights_23 U u x1 x2 x3 x4 S R2 R10 R23 K) : aw gG D z A X 6 23 [some (.ref (oa u)), some (.int x1), some (.int x2), some (.int x3), some (.int x4), none] [] (cw lt_C U oa S) 0 0 := by
  unfold b_Wa_makeWeights_23 at hp
  refine a_iload C dc_Wa_makeWeights_23 rfl ?_
  refine a_bipush (v := 8) C dc_Wa_makeWeights_25 (by decide) ?_
  refine a_icmp_ge (tgt := 68) C dc_Wa_makeWeights_27 (by decide) ⟨fun hc => ?_, fun hc => ?_⟩
  · have hp := hp.1 hc
    refine a_aload_n C dc_Wa_makeWeights_68 rfl rfl ?_
    refine c_getR C u 3 dc_Wa_makeWeights_69 hu rfl rfl (Nat.le_of_ble_eq_true rfl) f_Wa_21 rfl hp.1 ?_
    have hp := hp.2
    refine a_bipush (v := 8) C dc_Wa_makeWeights_72 (by decide) ?_
    refine a_iload_n C dc_Wa_makeWeights_74 rfl rfl ?_
    refine a_imul C dc_Wa_makeWeights_75 ?_
    refine a_iload_n C dc_Wa_makeWeights_76 rfl rfl ?_
    refine a_iadd C dc_Wa_makeWeights_77 ?_
    refine a_iload_n C dc_Wa_makeWeights_78 rfl rfl ?_
    refine a_bipush (v := 9) C dc_Wa_makeWeights_79 (by decide) ?_
    refine a_ishr C dc_Wa_makeWeights_81 ?_
    refine a_i2l C dc_Wa_makeWeights_82 ?_
    have hc4 := hp.1
    have hp := hp.2
    refine c_last C (S.2.2 u 3) dc_Wa_makeWeights_83 hc4 hp.1 ?_
    have hp := hp.2
    refine aw_eq (lo' := _) (st' := _) (L' := (cw lt_C U oa (S.1, va_up S.2.1 (S.2.2 u 3) (vp_updL (S.2.1 (S.2.2 u 3)) ((8 * x1) + x2).toNatClampNeg ((x3 >>> (9 &&& 31 : Int32) : Int32).toInt64)), S.2.2))) rfl rfl rfl ?_
    refine a_iinc (v := x2 + 1) (lo' := [some (.ref (oa u)), some (.int x1), some (.int (x2 + 1)), some (.int x3), some (.int x4), none]) C dc_Wa_makeWeights_84 rfl rfl (by decide) rfl ?_
    refine a_goto (tgt := 10) C dc_Wa_makeWeights_87 (by decide) ?_
    refine aw_lo (lo' := [some (.ref (oa u)), some (.int x1), some (.int (x2 + 1)), none, none, none]) ⟨.inr rfl, .inr rfl, .inr rfl, .inl rfl, .inl rfl, .inr rfl, trivial⟩ ?_
    exact hR10 x1 (x2 + 1) (S.1, va_up S.2.1 (S.2.2 u 3) (vp_updL (S.2.1 (S.2.2 u 3)) ((8 * x1) + x2).toNatClampNeg ((x3 >>> (9 &&& 31 : Int32) : Int32).toInt64)), S.2.2) hp
  · have hp := hp.2 hc
    refine a_iload_n C dc_Wa_makeWeights_30 rfl rfl ?_
    refine a_aload_n C dc_Wa_makeWeights_31 rfl rfl ?_
    refine c_getR C u 0 dc_Wa_makeWeights_32 hu rfl rfl (Nat.le_of_ble_eq_true rfl) f_Wa_9 rfl hp.1 ?_
    have hp := hp.2
    refine a_bipush (v := 8) C dc_Wa_makeWeights_35 (by decide) ?_
    refine a_iload_n C dc_Wa_makeWeights_37 rfl rfl ?_
    refine a_imul C dc_Wa_makeWeights_38 ?_
    refine a_iload C dc_Wa_makeWeights_39 rfl ?_
    refine a_iadd C dc_Wa_makeWeights_41 ?_
    have hc5 := hp.1
    have hp := hp.2
    refine c_iald C (S.2.2 u 0) dc_Wa_makeWeights_42 hc5 hp.1 ?_
    have hp := hp.2
    refine a_aload_n C dc_Wa_makeWeights_43 rfl rfl ?_
    refine c_getR C u 1 dc_Wa_makeWeights_44 hu rfl rfl (Nat.le_of_ble_eq_true rfl) f_Wa_15 rfl hp.1 ?_
    have hp := hp.2
    refine a_bipush (v := 8) C dc_Wa_makeWeights_47 (by decide) ?_
    refine a_iload_n C dc_Wa_makeWeights_49 rfl rfl ?_
    refine a_imul C dc_Wa_makeWeights_50 ?_
    refine a_iload C dc_Wa_makeWeights_51 rfl ?_
    refine a_iadd C dc_Wa_makeWeights_53 ?_
    have hc6 := hp.1
    have hp := hp.2
    refine c_iald C (S.2.2 u 1) dc_Wa_makeWeights_54 hc6 hp.1 ?_
    have hp := hp.2
    refine a_sipush (v := 128) C dc_Wa_makeWeights_55 (by decide) ?_
    refine a_isub C dc_Wa_makeWeights_58 ?_
    refine a_imul C dc_Wa_makeWeights_59 ?_
    refine a_iadd C dc_Wa_makeWeights_60 ?_
    refine a_istore_n (lo' := [some (.ref (oa u)), some (.int x1), some (.int x2), some (.int (x3 + ((S.1 (S.2.2 u 0) ((8 * x2) + x4).toNatClampNeg) * ((S.1 (S.2.2 u 1) ((8 * x1) + x4).toNatClampNeg) - 128)))), some (.int x4), none]) C dc_Wa_makeWeights_61 rfl (by decide) rfl ?_
    refine a_iinc (v := x4 + 1) (lo' := [some (.ref (oa u)), some (.int x1), some (.int x2), some (.int (x3 + ((S.1 (S.2.2 u 0) ((8 * x2) + x4).toNatClampNeg) * ((S.1 (S.2.2 u 1) ((8 * x1) + x4).toNatClampNeg) - 128)))), some (.int (x4 + 1)), none]) C dc_Wa_makeWeights_62 rfl rfl (by decide) rfl ?_
    refine a_goto (tgt := 23) C dc_Wa_makeWeights_65 (by decide) ?_
    refine aw_lo (lo' := [some (.ref (oa u)), some (.int x1), some (.int x2), some (.int (x3 + ((S.1 (S.2.2 u 0) ((8 * x2) + x4).toNatClampNeg) * ((S.1 (S.2.2 u 1) ((8 * x1) + x4).toNatClampNeg) - 128)))), some (.int (x4 + 1)), none]) ⟨.inr rfl, .inr rfl, .inr rfl, .inr rfl, .inr rfl, .inr rfl, trivial⟩ ?_
    exact hR23 x1 x2 (x3 + ((S.1 (S.2.2 u 0) ((8 * x2) + x4).toNatClampNeg) * ((S.1 (S.2.2 u 1) ((8 * x1) + x4).toNatClampNeg) - 128))) (x4 + 1) S hp
set_option maxRecDepth 100000 in
set_option maxHeartbeats 1000000 in
theorem se_Wa_makeWeights_23 (C : fcx gG D z A X R_Wa c_C_Wa_makeWeights 6 (none)) (hQ : X.2.2.2.2.2.2.2.2.2.2 = eQ gG D z X.2.2.2.2.2.2.2.1 X.2.2.2.2.1 L0 0 0 (pC_v lt_C U oa K (fun _ _ => False))) (hA : A = owA gG L0 X.2.2.2.2.1.heap.size) (hR : X.2.2.2.1 = { frames := 1, cells := 1, slots := 6, locals := 100 }) (hu : c_cl U u = 12) (x1 : Int32) (x2 : Int32) (x3 : Int32) (x4 : Int32) (S : cs) (R2 : Int32 → cs → Prop) (hR2 : ∀ yx1 yS, R2 yx1 yS → aw gG D z A X 6 2 [some (.ref (oa u)), some (.int yx1), none, none, none, none] [] (cw lt_C U oa yS) 0 0) (R10 : Int32 → Int32 → cs → Prop) (hR10 : ∀ yx1 yx2 yS, R10 yx1 yx2 yS → aw gG D z A X 6 10 [some (.ref (oa u)), some (.int yx1), some (.int yx2), none, none, none] [] (cw lt_C U oa yS) 0 0) (hp : e_Wa_makeWeights_23 U u x1 x2 x3 x4 S R2 R10 K) : aw gG D z A X 6 23 [some (.ref (oa u)), some (.int x1), some (.int x2), some (.int x3), some (.int x4), none] [] (cw lt_C U oa S) 0 0 := by
  obtain ⟨I, μ, h0, hs⟩ := hp
  have key : ∀ (n : Nat) (yx1 : Int32) (yx2 : Int32) (yx3 : Int32) (yx4 : Int32) (yS : cs), μ yx1 yx2 yx3 yx4 yS < n → I yx1 yx2 yx3 yx4 yS → aw gG D z A X 6 23 [some (.ref (oa u)), some (.int yx1), some (.int yx2), some (.int yx3), some (.int yx4), none] [] (cw lt_C U oa yS) 0 0 := by
    intro n
    induction n with
    | zero => intro yx1 yx2 yx3 yx4 yS h; omega
    | succ n ih =>
      intro yx1 yx2 yx3 yx4 yS hn hI
      exact s_Wa_makeWeights_23 C hQ hA hR hu yx1 yx2 yx3 yx4 yS R2 hR2 R10 hR10 _ (fun zx1 zx2 zx3 zx4 zS hw => ih zx1 zx2 zx3 zx4 zS (by omega) hw.1) (hs yx1 yx2 yx3 yx4 yS hI)
  exact key (μ x1 x2 x3 x4 S + 1) x1 x2 x3 x4 S (Nat.lt_succ_self _) h0
set_option maxRecDepth 100000 in
set_option maxHeartbeats 1000000 in
theorem s_Wa_makeWeights_10 (C : fcx gG D z A X R_Wa c_C_Wa_makeWeights 6 (none)) (hQ : X.2.2.2.2.2.2.2.2.2.2 = eQ gG D z X.2.2.2.2.2.2.2.1 X.2.2.2.2.1 L0 0 0 (pC_v lt_C U oa K (fun _ _ => False))) (hA : A = owA gG L0 X.2.2.2.2.1.heap.size) (hR : X.2.2.2.1 = { frames := 1, cells := 1, slots := 6, locals := 100 }) (hu : c_cl U u = 12) (x1 : Int32) (x2 : Int32) (S : cs) (R2 : Int32 → cs → Prop) (hR2 : ∀ yx1 yS, R2 yx1 yS → aw gG D z A X 6 2 [some (.ref (oa u)), some (.int yx1), none, none, none, none] [] (cw lt_C U oa yS) 0 0) (R10 : Int32 → Int32 → cs → Prop) (hR10 : ∀ yx1 yx2 yS, R10 yx1 yx2 yS → aw gG D z A X 6 10 [some (.ref (oa u)), some (.int yx1), some (.int yx2), none, none, none] [] (cw lt_C U oa yS) 0 0) (hp : b_Wa_makeWeights_10 U u x1 x2 S R2 R10 K) : aw gG D z A X 6 10 [some (.ref (oa u)), some (.int x1), some (.int x2), none, none, none] [] (cw lt_C U oa S) 0 0 := by
  unfold b_Wa_makeWeights_10 at hp
  refine a_iload_n C dc_Wa_makeWeights_10 rfl rfl ?_
  refine a_bipush (v := 8) C dc_Wa_makeWeights_11 (by decide) ?_
  refine a_icmp_ge (tgt := 90) C dc_Wa_makeWeights_13 (by decide) ⟨fun hc => ?_, fun hc => ?_⟩
  · have hp := hp.1 hc
    refine a_iinc (v := x1 + 1) (lo' := [some (.ref (oa u)), some (.int (x1 + 1)), some (.int x2), none, none, none]) C dc_Wa_makeWeights_90 rfl rfl (by decide) rfl ?_
    refine a_goto (tgt := 2) C dc_Wa_makeWeights_93 (by decide) ?_
    refine aw_lo (lo' := [some (.ref (oa u)), some (.int (x1 + 1)), none, none, none, none]) ⟨.inr rfl, .inr rfl, .inl rfl, .inr rfl, .inr rfl, .inr rfl, trivial⟩ ?_
    exact hR2 (x1 + 1) S hp
  · have hp := hp.2 hc
    refine a_sipush (v := 256) C dc_Wa_makeWeights_16 (by decide) ?_
    refine a_istore_n (lo' := [some (.ref (oa u)), some (.int x1), some (.int x2), some (.int 256), none, none]) C dc_Wa_makeWeights_19 rfl (by decide) rfl ?_
    refine a_iconst (v := 0) C dc_Wa_makeWeights_20 (by decide) ?_
    refine a_istore (lo' := [some (.ref (oa u)), some (.int x1), some (.int x2), some (.int 256), some (.int 0), none]) C dc_Wa_makeWeights_21 (by decide) rfl ?_
    refine aw_lo (lo' := [some (.ref (oa u)), some (.int x1), some (.int x2), some (.int 256), some (.int 0), none]) ⟨.inr rfl, .inr rfl, .inr rfl, .inr rfl, .inr rfl, .inr rfl, trivial⟩ ?_
    exact se_Wa_makeWeights_23 C hQ hA hR hu x1 x2 256 0 S R2 hR2 R10 hR10 hp
set_option maxRecDepth 100000 in
set_option maxHeartbeats 1000000 in
theorem se_Wa_makeWeights_10 (C : fcx gG D z A X R_Wa c_C_Wa_makeWeights 6 (none)) (hQ : X.2.2.2.2.2.2.2.2.2.2 = eQ gG D z X.2.2.2.2.2.2.2.1 X.2.2.2.2.1 L0 0 0 (pC_v lt_C U oa K (fun _ _ => False))) (hA : A = owA gG L0 X.2.2.2.2.1.heap.size) (hR : X.2.2.2.1 = { frames := 1, cells := 1, slots := 6, locals := 100 }) (hu : c_cl U u = 12) (x1 : Int32) (x2 : Int32) (S : cs) (R2 : Int32 → cs → Prop) (hR2 : ∀ yx1 yS, R2 yx1 yS → aw gG D z A X 6 2 [some (.ref (oa u)), some (.int yx1), none, none, none, none] [] (cw lt_C U oa yS) 0 0) (hp : e_Wa_makeWeights_10 U u x1 x2 S R2 K) : aw gG D z A X 6 10 [some (.ref (oa u)), some (.int x1), some (.int x2), none, none, none] [] (cw lt_C U oa S) 0 0 := by
  obtain ⟨I, μ, h0, hs⟩ := hp
  have key : ∀ (n : Nat) (yx1 : Int32) (yx2 : Int32) (yS : cs), μ yx1 yx2 yS < n → I yx1 yx2 yS → aw gG D z A X 6 10 [some (.ref (oa u)), some (.int yx1), some (.int yx2), none, none, none] [] (cw lt_C U oa yS) 0 0 := by
    intro n
    induction n with
    | zero => intro yx1 yx2 yS h; omega
    | succ n ih =>
      intro yx1 yx2 yS hn hI
      exact s_Wa_makeWeights_10 C hQ hA hR hu yx1 yx2 yS R2 hR2 _ (fun zx1 zx2 zS hw => ih zx1 zx2 zS (by omega) hw.1) (hs yx1 yx2 yS hI)
  exact key (μ x1 x2 S + 1) x1 x2 S (Nat.lt_succ_self _) h0
set_option maxRecDepth 100000 in
set_option maxHeartbeats 1000000 in
theorem s_Wa_makeWeights_2 (C : fcx gG D z A X R_Wa c_C_Wa_makeWeights 6 (none)) (hQ : X.2.2.2.2.2.2.2.2.2.2 = eQ gG D z X.2.2.2.2.2.2.2.1 X.2.2.2.2.1 L0 0 0 (pC_v lt_C U oa K (fun _ _ => False))) (hA : A = owA gG L0 X.2.2.2.2.1.heap.size) (hR : X.2.2.2.1 = { frames := 1, cells := 1, slots := 6, locals := 100 }) (hu : c_cl U u = 12) (x1 : Int32) (S : cs) (R2 : Int32 → cs → Prop) (hR2 : ∀ yx1 yS, R2 yx1 yS → aw gG D z A X 6 2 [some (.ref (oa u)), some (.int yx1), none, none, none, none] [] (cw lt_C U oa yS) 0 0) (hp : b_Wa_makeWeights_2 U u x1 S R2 K) : aw gG D z A X 6 2 [some (.ref (oa u)), some (.int x1), none, none, none, none] [] (cw lt_C U oa S) 0 0 := by
  unfold b_Wa_makeWeights_2 at hp
  refine a_iload_n C dc_Wa_makeWeights_2 rfl rfl ?_
  refine a_bipush (v := 8) C dc_Wa_makeWeights_3 (by decide) ?_
  refine a_icmp_ge (tgt := 96) C dc_Wa_makeWeights_5 (by decide) ⟨fun hc => ?_, fun hc => ?_⟩
  · have hp := hp.1 hc
    refine a_iconst (v := 0) C dc_Wa_makeWeights_96 (by decide) ?_
    refine a_istore_n (lo' := [some (.ref (oa u)), some (.int 0), none, none, none, none]) C dc_Wa_makeWeights_97 rfl (by decide) rfl ?_
    refine aw_lo (lo' := [some (.ref (oa u)), some (.int 0), none, none, none, none]) ⟨.inr rfl, .inr rfl, .inr rfl, .inr rfl, .inr rfl, .inr rfl, trivial⟩ ?_
    exact se_Wa_makeWeights_98 C hQ hA hR hu 0 S  hp
  · have hp := hp.2 hc
    refine a_iconst (v := 0) C dc_Wa_makeWeights_8 (by decide) ?_
    refine a_istore_n (lo' := [some (.ref (oa u)), some (.int x1), some (.int 0), none, none, none]) C dc_Wa_makeWeights_9 rfl (by decide) rfl ?_
    refine aw_lo (lo' := [some (.ref (oa u)), some (.int x1), some (.int 0), none, none, none]) ⟨.inr rfl, .inr rfl, .inr rfl, .inr rfl, .inr rfl, .inr rfl, trivial⟩ ?_
    exact se_Wa_makeWeights_10 C hQ hA hR hu x1 0 S R2 hR2 hp
set_option maxRecDepth 100000 in
set_option maxHeartbeats 1000000 in
theorem se_Wa_makeWeights_2 (C : fcx gG D z A X R_Wa c_C_Wa_makeWeights 6 (none)) (hQ : X.2.2.2.2.2.2.2.2.2.2 = eQ gG D z X.2.2.2.2.2.2.2.1 X.2.2.2.2.1 L0 0 0 (pC_v lt_C U oa K (fun _ _ => False))) (hA : A = owA gG L0 X.2.2.2.2.1.heap.size) (hR : X.2.2.2.1 = { frames := 1, cells := 1, slots := 6, locals := 100 }) (hu : c_cl U u = 12) (x1 : Int32) (S : cs) (hp : e_Wa_makeWeights_2 U u x1 S K) : aw gG D z A X 6 2 [some (.ref (oa u)), some (.int x1), none, none, none, none] [] (cw lt_C U oa S) 0 0 := by
  obtain ⟨I, μ, h0, hs⟩ := hp
  have key : ∀ (n : Nat) (yx1 : Int32) (yS : cs), μ yx1 yS < n → I yx1 yS → aw gG D z A X 6 2 [some (.ref (oa u)), some (.int yx1), none, none, none, none] [] (cw lt_C U oa yS) 0 0 := by
    intro n
    induction n with
    | zero => intro yx1 yS h; omega
    | succ n ih =>
      intro yx1 yS hn hI
      exact s_Wa_makeWeights_2 C hQ hA hR hu yx1 yS _ (fun zx1 zS hw => ih zx1 zS (by omega) hw.1) (hs yx1 yS hI)
  exact key (μ x1 S + 1) x1 S (Nat.lt_succ_self _) h0
set_option maxRecDepth 100000 in
set_option maxHeartbeats 1000000 in
theorem s_Wa_makeWeights_0 (C : fcx gG D z A X R_Wa c_C_Wa_makeWeights 6 (none)) (hQ : X.2.2.2.2.2.2.2.2.2.2 = eQ gG D z X.2.2.2.2.2.2.2.1 X.2.2.2.2.1 L0 0 0 (pC_v lt_C U oa K (fun _ _ => False))) (hA : A = owA gG L0 X.2.2.2.2.1.heap.size) (hR : X.2.2.2.1 = { frames := 1, cells := 1, slots := 6, locals := 100 }) (hu : c_cl U u = 12)  (S : cs) (hp : p_Wa_makeWeights U u S K) : aw gG D z A X 6 0 [some (.ref (oa u)), none, none, none, none, none] [] (cw lt_C U oa S) 0 0 := by
  unfold p_Wa_makeWeights at hp
  refine a_iconst (v := 0) C dc_Wa_makeWeights_0 (by decide) ?_
  refine a_istore_n (lo' := [some (.ref (oa u)), some (.int 0), none, none, none, none]) C dc_Wa_makeWeights_1 rfl (by decide) rfl ?_
  refine aw_lo (lo' := [some (.ref (oa u)), some (.int 0), none, none, none, none]) ⟨.inr rfl, .inr rfl, .inr rfl, .inr rfl, .inr rfl, .inr rfl, trivial⟩ ?_
  exact se_Wa_makeWeights_2 C hQ hA hR hu 0 S  hp
end C_Wa_makeWeights
section C_Wa_makeWeightsc
variable {D : va_G} {z : Nat → ClassId} {U : ut} {oa : Nat → Nat}
set_option maxRecDepth 100000 in
theorem ct_Wa_makeWeights {l : Launch} (u : Nat)  (S : cs) {K : cs → Prop} (hu : c_cl U u = 12) (hp : p_Wa_makeWeights U u S K) : ct gG D z l n_C_Wa_makeWeights c_C_Wa_makeWeights 6 (none) 1 100 [.ref (oa u)] (cw lt_C U oa S) 0 0 (pC_v lt_C U oa K (fun _ _ => False)) := by
  refine ct_of (lo := [some (.ref (oa u)), none, none, none, none, none]) (by decide) g_ok (Nat.le_of_ble_eq_true rfl) rfl ?_
  intro X A _ C hR hQ hA _
  exact s_Wa_makeWeights_0 C hQ hA hR hu S hp
end C_Wa_makeWeightsc
def b_Pa_makeBlock_239 (U : ut) (u : Nat) (x1 : Int32) (x2 : Nat) (x3 : Int32) (x9 : Int32) (s0 : Nat) (s1 : Int32) (s2 : Int32) (S : cs) (R152 : Int32 → Nat → Int32 → Int32 → cs → Prop) (K : cs → Prop) : Prop :=
  c_cl U s0 = 902 ∧ (vp_in s1 (c_ln U s0) ∧ (R152 x1 x2 x3 (x9 + 1) (va_up S.1 s0 (upd (S.1 s0) s1.toNatClampNeg s2), S.2.1, S.2.2)))
def b_Pa_makeBlock_152 (U : ut) (u : Nat) (x1 : Int32) (x2 : Nat) (x3 : Int32) (x9 : Int32) (S : cs) (R152 : Int32 → Nat → Int32 → Int32 → cs → Prop) (K : cs → Prop) : Prop :=
  (64 ≤ x9 → (K S)) ∧ (¬ (64 ≤ x9) → (¬ S.2.2 u 1 = NU ∧ (c_cl U (S.2.2 u 1) = 12 ∧ (¬ S.2.2 (S.2.2 u 1) 2 = NU ∧ (vp_in x9 64 ∧ (c_cl U (S.2.2 (S.2.2 u 1) 2) = 902 ∧ (vp_in (rw_at row_sl x9.toNatClampNeg) (c_ln U (S.2.2 (S.2.2 u 1) 2)) ∧ (p_Pa_kindOf x3 (fun v180 => vp_in x9 64 ∧ (c_cl U x2 = 902 ∧ (vp_in ((64 * v180) + (rw_at row_sl x9.toNatClampNeg)) (c_ln U x2) ∧ (¬ (i_max 1 (S.1 x2 ((64 * v180) + (rw_at row_sl x9.toNatClampNeg)).toNatClampNeg)) = 0 ∧ (¬ S.2.2 u 2 = NU ∧ (c_cl U (S.2.2 u 2) = 7 ∧ (¬ S.2.2 (S.2.2 u 2) 13 = NU ∧ ((0 ≤ (S.1 (S.2.2 (S.2.2 u 1) 2) (rw_at row_sl x9.toNatClampNeg).toNatClampNeg) → (b_Pa_makeBlock_239 U u x1 x2 x3 x9 (S.2.2 (S.2.2 u 2) 13) ((64 * x1) + x9) (((i_abs (S.1 (S.2.2 (S.2.2 u 1) 2) (rw_at row_sl x9.toNatClampNeg).toNatClampNeg)) + ((i_max 1 (S.1 x2 ((64 * v180) + (rw_at row_sl x9.toNatClampNeg)).toNatClampNeg)) / 2)) / (i_max 1 (S.1 x2 ((64 * v180) + (rw_at row_sl x9.toNatClampNeg)).toNatClampNeg))) S R152 K)) ∧ (¬ (0 ≤ (S.1 (S.2.2 (S.2.2 u 1) 2) (rw_at row_sl x9.toNatClampNeg).toNatClampNeg)) → (b_Pa_makeBlock_239 U u x1 x2 x3 x9 (S.2.2 (S.2.2 u 2) 13) ((64 * x1) + x9) (-(((i_abs (S.1 (S.2.2 (S.2.2 u 1) 2) (rw_at row_sl x9.toNatClampNeg).toNatClampNeg)) + ((i_max 1 (S.1 x2 ((64 * v180) + (rw_at row_sl x9.toNatClampNeg)).toNatClampNeg)) / 2)) / (i_max 1 (S.1 x2 ((64 * v180) + (rw_at row_sl x9.toNatClampNeg)).toNatClampNeg)))) S R152 K))))))))))))))))))
def e_Pa_makeBlock_152 (U : ut) (u : Nat) (x1 : Int32) (x2 : Nat) (x3 : Int32) (x9 : Int32) (S : cs) (K : cs → Prop) : Prop :=
  ∃ (I : Int32 → Nat → Int32 → Int32 → cs → Prop) (μ : Int32 → Nat → Int32 → Int32 → cs → Nat), I x1 x2 x3 x9 S ∧ ∀ yx1 yx2 yx3 yx9 yS, I yx1 yx2 yx3 yx9 yS → b_Pa_makeBlock_152 U u yx1 yx2 yx3 yx9 yS (fun zx1 zx2 zx3 zx9 zS => I zx1 zx2 zx3 zx9 zS ∧ μ zx1 zx2 zx3 zx9 zS < μ yx1 yx2 yx3 yx9 yS) K
def b_Pa_makeBlock_73 (U : ut) (u : Nat) (x1 : Int32) (x2 : Nat) (x3 : Int32) (x5 : Int32) (x6 : Int32) (x7 : Int32) (x8 : Int32) (x9 : Int32) (S : cs) (R73 : Int32 → Nat → Int32 → Int32 → Int32 → Int32 → Int32 → Int32 → cs → Prop) (K : cs → Prop) : Prop :=
  (64 ≤ x9 → (¬ S.2.2 u 1 = NU ∧ (c_cl U (S.2.2 u 1) = 12 ∧ (p_Wa_makeWeights U (S.2.2 u 1) S (fun S146 => e_Pa_makeBlock_152 U u x1 x2 x3 0 S146 K))))) ∧ (¬ (64 ≤ x9) → (¬ S.2.2 u 1 = NU ∧ (c_cl U (S.2.2 u 1) = 12 ∧ (¬ S.2.2 (S.2.2 u 1) 1 = NU ∧ (¬ S.2.2 u 2 = NU ∧ (c_cl U (S.2.2 u 2) = 7 ∧ (¬ S.2.2 (S.2.2 u 2) 15 = NU ∧ (p_B_spot x3 (i_min x7 (x5 + (x9 - x9 / 8 * 8))) (i_min x8 (x6 + (x9 / 8))) (fun v131 => c_cl U (S.2.2 (S.2.2 u 2) 15) = 902 ∧ (vp_in v131 (c_ln U (S.2.2 (S.2.2 u 2) 15)) ∧ (c_cl U (S.2.2 (S.2.2 u 1) 1) = 902 ∧ (vp_in x9 (c_ln U (S.2.2 (S.2.2 u 1) 1)) ∧ (R73 x1 x2 x3 x5 x6 x7 x8 (x9 + 1) (va_up S.1 (S.2.2 (S.2.2 u 1) 1) (upd (S.1 (S.2.2 (S.2.2 u 1) 1)) x9.toNatClampNeg (S.1 (S.2.2 (S.2.2 u 2) 15) v131.toNatClampNeg)), S.2.1, S.2.2))))))))))))))
def e_Pa_makeBlock_73 (U : ut) (u : Nat) (x1 : Int32) (x2 : Nat) (x3 : Int32) (x5 : Int32) (x6 : Int32) (x7 : Int32) (x8 : Int32) (x9 : Int32) (S : cs) (K : cs → Prop) : Prop :=
  ∃ (I : Int32 → Nat → Int32 → Int32 → Int32 → Int32 → Int32 → Int32 → cs → Prop) (μ : Int32 → Nat → Int32 → Int32 → Int32 → Int32 → Int32 → Int32 → cs → Nat), I x1 x2 x3 x5 x6 x7 x8 x9 S ∧ ∀ yx1 yx2 yx3 yx5 yx6 yx7 yx8 yx9 yS, I yx1 yx2 yx3 yx5 yx6 yx7 yx8 yx9 yS → b_Pa_makeBlock_73 U u yx1 yx2 yx3 yx5 yx6 yx7 yx8 yx9 yS (fun zx1 zx2 zx3 zx5 zx6 zx7 zx8 zx9 zS => I zx1 zx2 zx3 zx5 zx6 zx7 zx8 zx9 zS ∧ μ zx1 zx2 zx3 zx5 zx6 zx7 zx8 zx9 zS < μ yx1 yx2 yx3 yx5 yx6 yx7 yx8 yx9 yS) K
def p_Pa_makeBlock (U : ut) (u : Nat) (x1 : Int32) (x2 : Nat) (S : cs) (K : cs → Prop) : Prop :=
  ¬ S.2.2 u 2 = NU ∧ (c_cl U (S.2.2 u 2) = 7 ∧ (¬ S.2.2 (S.2.2 u 2) 11 = NU ∧ (c_cl U (S.2.2 (S.2.2 u 2) 11) = 902 ∧ (vp_in (x1 / 64) (c_ln U (S.2.2 (S.2.2 u 2) 11)) ∧ (¬ (i_max 1 (S.1 (S.2.2 (S.2.2 u 2) 11) (x1 / 64).toNatClampNeg)) = 0 ∧ (¬ (i_max 1 (S.1 (S.2.2 (S.2.2 u 2) 11) (x1 / 64).toNatClampNeg)) = 0 ∧ (¬ S.2.2 u 2 = NU ∧ (¬ S.2.2 (S.2.2 u 2) 9 = NU ∧ (c_cl U (S.2.2 (S.2.2 u 2) 9) = 902 ∧ (vp_in (x1 / 64) (c_ln U (S.2.2 (S.2.2 u 2) 9)) ∧ (¬ S.2.2 u 2 = NU ∧ (¬ S.2.2 (S.2.2 u 2) 10 = NU ∧ (c_cl U (S.2.2 (S.2.2 u 2) 10) = 902 ∧ (vp_in (x1 / 64) (c_ln U (S.2.2 (S.2.2 u 2) 10)) ∧ (e_Pa_makeBlock_73 U u x1 x2 (x1 / 64) (((x1 - x1 / 64 * 64) - (x1 - x1 / 64 * 64) / (i_max 1 (S.1 (S.2.2 (S.2.2 u 2) 11) (x1 / 64).toNatClampNeg)) * (i_max 1 (S.1 (S.2.2 (S.2.2 u 2) 11) (x1 / 64).toNatClampNeg))) * 8) (((x1 - x1 / 64 * 64) / (i_max 1 (S.1 (S.2.2 (S.2.2 u 2) 11) (x1 / 64).toNatClampNeg))) * 8) ((S.1 (S.2.2 (S.2.2 u 2) 9) (x1 / 64).toNatClampNeg) - 1) ((S.1 (S.2.2 (S.2.2 u 2) 10) (x1 / 64).toNatClampNeg) - 1) 0 S K)))))))))))))))
section C_Pa_makeBlock
variable {D : va_G} {z : Nat → ClassId} {A : Nat → Prop} {X : cx} {L0 : fw} {U : ut} {oa : Nat → Nat} {u : Nat} {K : cs → Prop}
set_option maxRecDepth 100000 in
set_option maxHeartbeats 1000000 in
theorem s_Pa_makeBlock_239 (C : fcx gG D z A X R_Pa c_C_Pa_makeBlock 13 (none)) (hQ : X.2.2.2.2.2.2.2.2.2.2 = eQ gG D z X.2.2.2.2.2.2.2.1 X.2.2.2.2.1 L0 0 0 (pC_v lt_C U oa K (fun _ _ => False))) (hA : A = owA gG L0 X.2.2.2.2.1.heap.size) (hR : X.2.2.2.1 = { frames := 2, cells := 1, slots := 6, locals := 200 }) (hu : c_cl U u = 6) (x1 : Int32) (x2 : Nat) (x3 : Int32) (x9 : Int32) (s0 : Nat) (s1 : Int32) (s2 : Int32) (S : cs) (R152 : Int32 → Nat → Int32 → Int32 → cs → Prop) (hR152 : ∀ yx1 yx2 yx3 yx9 yS, R152 yx1 yx2 yx3 yx9 yS → aw gG D z A X 13 152 [some (.ref (oa u)), some (.int yx1), some (.ref (oa yx2)), some (.int yx3), none, none, none, none, none, some (.int yx9), none, none, none] [] (cw lt_C U oa yS) 0 0) (hp : b_Pa_makeBlock_239 U u x1 x2 x3 x9 s0 s1 s2 S R152 K) : aw gG D z A X 13 239 [some (.ref (oa u)), some (.int x1), some (.ref (oa x2)), some (.int x3), none, none, none, none, none, some (.int x9), none, none, none] [.int s2, .int s1, .ref (oa s0)] (cw lt_C U oa S) 0 0 := by
  unfold b_Pa_makeBlock_239 at hp
  have hc1 := hp.1
  have hp := hp.2
  refine c_iast C s0 dc_Pa_makeBlock_239 hc1 hp.1 ?_
  have hp := hp.2
  refine aw_eq (lo' := _) (st' := _) (L' := (cw lt_C U oa (va_up S.1 s0 (upd (S.1 s0) s1.toNatClampNeg s2), S.2.1, S.2.2))) rfl rfl rfl ?_
  refine a_iinc (v := x9 + 1) (lo' := [some (.ref (oa u)), some (.int x1), some (.ref (oa x2)), some (.int x3), none, none, none, none, none, some (.int (x9 + 1)), none, none, none]) C dc_Pa_makeBlock_240 rfl rfl (by decide) rfl ?_
  refine a_goto (tgt := 152) C dc_Pa_makeBlock_243 (by decide) ?_
  refine aw_lo (lo' := [some (.ref (oa u)), some (.int x1), some (.ref (oa x2)), some (.int x3), none, none, none, none, none, some (.int (x9 + 1)), none, none, none]) ⟨.inr rfl, .inr rfl, .inr rfl, .inr rfl, .inr rfl, .inr rfl, .inr rfl, .inr rfl, .inr rfl, .inr rfl, .inr rfl, .inr rfl, .inr rfl, trivial⟩ ?_
  exact hR152 x1 x2 x3 (x9 + 1) (va_up S.1 s0 (upd (S.1 s0) s1.toNatClampNeg s2), S.2.1, S.2.2) hp
set_option maxRecDepth 100000 in
set_option maxHeartbeats 1000000 in
theorem s_Pa_makeBlock_152 (C : fcx gG D z A X R_Pa c_C_Pa_makeBlock 13 (none)) (hQ : X.2.2.2.2.2.2.2.2.2.2 = eQ gG D z X.2.2.2.2.2.2.2.1 X.2.2.2.2.1 L0 0 0 (pC_v lt_C U oa K (fun _ _ => False))) (hA : A = owA gG L0 X.2.2.2.2.1.heap.size) (hR : X.2.2.2.1 = { frames := 2, cells := 1, slots := 6, locals := 200 }) (hu : c_cl U u = 6) (x1 : Int32) (x2 : Nat) (x3 : Int32) (x9 : Int32) (S : cs) (R152 : Int32 → Nat → Int32 → Int32 → cs → Prop) (hR152 : ∀ yx1 yx2 yx3 yx9 yS, R152 yx1 yx2 yx3 yx9 yS → aw gG D z A X 13 152 [some (.ref (oa u)), some (.int yx1), some (.ref (oa yx2)), some (.int yx3), none, none, none, none, none, some (.int yx9), none, none, none] [] (cw lt_C U oa yS) 0 0) (hp : b_Pa_makeBlock_152 U u x1 x2 x3 x9 S R152 K) : aw gG D z A X 13 152 [some (.ref (oa u)), some (.int x1), some (.ref (oa x2)), some (.int x3), none, none, none, none, none, some (.int x9), none, none, none] [] (cw lt_C U oa S) 0 0 := by
  unfold b_Pa_makeBlock_152 at hp
  refine a_iload C dc_Pa_makeBlock_152 rfl ?_
  refine a_bipush (v := 64) C dc_Pa_makeBlock_154 (by decide) ?_
  refine a_icmp_ge (tgt := 246) C dc_Pa_makeBlock_156 (by decide) ⟨fun hc => ?_, fun hc => ?_⟩
  · have hp := hp.1 hc
    exact a_vret C hQ hA dc_Pa_makeBlock_246 rfl (Or.inl ⟨S, hp, rfl, rfl⟩)
  · have hp := hp.2 hc
    refine a_aload_n C dc_Pa_makeBlock_159 rfl rfl ?_
    refine c_getR C u 1 dc_Pa_makeBlock_160 hu rfl rfl (Nat.le_of_ble_eq_true rfl) f_Pa_24 rfl hp.1 ?_
    have hp := hp.2
    have hc2 := hp.1
    have hp := hp.2
    refine c_getRN C (S.2.2 u 1) 2 dc_Pa_makeBlock_163 hc2 rfl rfl (Nat.le_of_ble_eq_true rfl) f_Pa_165 rfl hp.1 ?_
    have hp := hp.2
    obtain ⟨t166, hZ166, hT166⟩ := C.sx.1
    refine a_getsN C dc_Pa_makeBlock_166 hZ166 f_Pa_168 ?_
    refine a_iload C dc_Pa_makeBlock_169 rfl ?_
    refine a_tld C dc_Pa_makeBlock_171 hT166 hp.1 ?_
    have hp := hp.2
    have hc3 := hp.1
    have hp := hp.2
    refine c_iald C (S.2.2 (S.2.2 u 1) 2) dc_Pa_makeBlock_172 hc3 hp.1 ?_
    have hp := hp.2
    refine a_istore (lo' := [some (.ref (oa u)), some (.int x1), some (.ref (oa x2)), some (.int x3), none, none, none, none, none, some (.int x9), some (.int (S.1 (S.2.2 (S.2.2 u 1) 2) (rw_at row_sl x9.toNatClampNeg).toNatClampNeg)), none, none]) C dc_Pa_makeBlock_173 (by decide) rfl ?_
    refine a_iconst (v := 1) C dc_Pa_makeBlock_175 (by decide) ?_
    refine a_aload_n C dc_Pa_makeBlock_176 rfl rfl ?_
    refine a_bipush (v := 64) C dc_Pa_makeBlock_177 (by decide) ?_
    refine a_iload_n C dc_Pa_makeBlock_179 rfl rfl ?_
    refine a_callP (rest := [.int 64, .ref (oa x2), .int 1]) (av := [.int x3]) C dc_Pa_makeBlock_180 (ct_Pa_kindOf x3 hp) cd_C_Pa_kindOf i_Pa (Nat.le_of_ble_eq_true rfl) (by rw [hR]; exact Nat.le_of_ble_eq_true rfl) (by rw [hR]; exact Nat.le_of_ble_eq_true rfl) (by rw [hR]; exact Nat.le_of_ble_eq_true rfl) (by rw [hR]; exact Nat.le_of_ble_eq_true rfl) (inv_S C dc_Pa_makeBlock_180 l_Pa_89 st_C_Pa_kindOf i_Pa cd_C_Pa_kindOf ⟨by decide, by decide⟩ ln_C_Pa_kindOf rfl) (fun v180 hp => ?_)
    refine aw_eq (lo' := _) (st' := [.int v180, .int 64, .ref (oa x2), .int 1]) (L' := (cw lt_C U oa S)) rfl rfl rfl ?_
    refine a_imul C dc_Pa_makeBlock_183 ?_
    obtain ⟨t184, hZ184, hT184⟩ := C.sx.1
    refine a_getsN C dc_Pa_makeBlock_184 hZ184 f_Pa_168 ?_
    refine a_iload C dc_Pa_makeBlock_187 rfl ?_
    refine a_tld C dc_Pa_makeBlock_189 hT184 hp.1 ?_
    have hp := hp.2
    refine a_iadd C dc_Pa_makeBlock_190 ?_
    have hc4 := hp.1
    have hp := hp.2
    refine c_iald C x2 dc_Pa_makeBlock_191 hc4 hp.1 ?_
    have hp := hp.2
    refine a_mx C dc_Pa_makeBlock_192 l_Pa_158 st_Ma_max i_Ma cd_Ma_max (Nat.le_of_ble_eq_true rfl) (by rw [hR]; exact Nat.le_of_ble_eq_true rfl) (by rw [hR]; exact Nat.le_of_ble_eq_true rfl) (by rw [hR]; exact Nat.le_of_ble_eq_true rfl) (by rw [hR]; exact Nat.le_of_ble_eq_true rfl) ?_
    refine a_istore (lo' := [some (.ref (oa u)), some (.int x1), some (.ref (oa x2)), some (.int x3), none, none, none, none, none, some (.int x9), some (.int (S.1 (S.2.2 (S.2.2 u 1) 2) (rw_at row_sl x9.toNatClampNeg).toNatClampNeg)), some (.int (i_max 1 (S.1 x2 ((64 * v180) + (rw_at row_sl x9.toNatClampNeg)).toNatClampNeg))), none]) C dc_Pa_makeBlock_195 (by decide) rfl ?_
    refine a_iload C dc_Pa_makeBlock_197 rfl ?_
    refine a_ab C dc_Pa_makeBlock_199 l_Pa_171 st_Ma_abs i_Ma cd_Ma_abs (Nat.le_of_ble_eq_true rfl) (by rw [hR]; exact Nat.le_of_ble_eq_true rfl) (by rw [hR]; exact Nat.le_of_ble_eq_true rfl) (by rw [hR]; exact Nat.le_of_ble_eq_true rfl) (by rw [hR]; exact Nat.le_of_ble_eq_true rfl) ?_
    refine a_iload C dc_Pa_makeBlock_202 rfl ?_
    refine a_iconst (v := 2) C dc_Pa_makeBlock_204 (by decide) ?_
    refine a_idiv C dc_Pa_makeBlock_205 (by decide) ?_
    refine a_iadd C dc_Pa_makeBlock_206 ?_
    refine a_iload C dc_Pa_makeBlock_207 rfl ?_
    refine a_idiv C dc_Pa_makeBlock_209 hp.1 ?_
    have hp := hp.2
    refine a_istore (lo' := [some (.ref (oa u)), some (.int x1), some (.ref (oa x2)), some (.int x3), none, none, none, none, none, some (.int x9), some (.int (S.1 (S.2.2 (S.2.2 u 1) 2) (rw_at row_sl x9.toNatClampNeg).toNatClampNeg)), some (.int (i_max 1 (S.1 x2 ((64 * v180) + (rw_at row_sl x9.toNatClampNeg)).toNatClampNeg))), some (.int (((i_abs (S.1 (S.2.2 (S.2.2 u 1) 2) (rw_at row_sl x9.toNatClampNeg).toNatClampNeg)) + ((i_max 1 (S.1 x2 ((64 * v180) + (rw_at row_sl x9.toNatClampNeg)).toNatClampNeg)) / 2)) / (i_max 1 (S.1 x2 ((64 * v180) + (rw_at row_sl x9.toNatClampNeg)).toNatClampNeg))))]) C dc_Pa_makeBlock_210 (by decide) rfl ?_
    refine a_aload_n C dc_Pa_makeBlock_212 rfl rfl ?_
    refine c_getR C u 2 dc_Pa_makeBlock_213 hu rfl rfl (Nat.le_of_ble_eq_true rfl) f_Pa_31 rfl hp.1 ?_
    have hp := hp.2
    have hc5 := hp.1
    have hp := hp.2
    refine c_getRN C (S.2.2 u 2) 13 dc_Pa_makeBlock_216 hc5 rfl rfl (Nat.le_of_ble_eq_true rfl) f_Pa_174 rfl hp.1 ?_
    have hp := hp.2
    refine a_bipush (v := 64) C dc_Pa_makeBlock_219 (by decide) ?_
    refine a_iload_n C dc_Pa_makeBlock_221 rfl rfl ?_
    refine a_imul C dc_Pa_makeBlock_222 ?_
    refine a_iload C dc_Pa_makeBlock_223 rfl ?_
    refine a_iadd C dc_Pa_makeBlock_225 ?_
    refine a_iload C dc_Pa_makeBlock_226 rfl ?_
    refine a_if_ge (tgt := 237) C dc_Pa_makeBlock_228 (by decide) ⟨fun hc => ?_, fun hc => ?_⟩
    · have hp := hp.1 hc
      refine a_iload C dc_Pa_makeBlock_237 rfl ?_
      refine aw_lo (lo' := [some (.ref (oa u)), some (.int x1), some (.ref (oa x2)), some (.int x3), none, none, none, none, none, some (.int x9), none, none, none]) ⟨.inr rfl, .inr rfl, .inr rfl, .inr rfl, .inr rfl, .inr rfl, .inr rfl, .inr rfl, .inr rfl, .inr rfl, .inl rfl, .inl rfl, .inl rfl, trivial⟩ ?_
      exact s_Pa_makeBlock_239 C hQ hA hR hu x1 x2 x3 x9 (S.2.2 (S.2.2 u 2) 13) ((64 * x1) + x9) (((i_abs (S.1 (S.2.2 (S.2.2 u 1) 2) (rw_at row_sl x9.toNatClampNeg).toNatClampNeg)) + ((i_max 1 (S.1 x2 ((64 * v180) + (rw_at row_sl x9.toNatClampNeg)).toNatClampNeg)) / 2)) / (i_max 1 (S.1 x2 ((64 * v180) + (rw_at row_sl x9.toNatClampNeg)).toNatClampNeg))) S R152 hR152 hp
    · have hp := hp.2 hc
      refine a_iload C dc_Pa_makeBlock_231 rfl ?_
      refine a_ineg C dc_Pa_makeBlock_233 ?_
      refine a_goto (tgt := 239) C dc_Pa_makeBlock_234 (by decide) ?_
      refine aw_lo (lo' := [some (.ref (oa u)), some (.int x1), some (.ref (oa x2)), some (.int x3), none, none, none, none, none, some (.int x9), none, none, none]) ⟨.inr rfl, .inr rfl, .inr rfl, .inr rfl, .inr rfl, .inr rfl, .inr rfl, .inr rfl, .inr rfl, .inr rfl, .inl rfl, .inl rfl, .inl rfl, trivial⟩ ?_
      exact s_Pa_makeBlock_239 C hQ hA hR hu x1 x2 x3 x9 (S.2.2 (S.2.2 u 2) 13) ((64 * x1) + x9) (-(((i_abs (S.1 (S.2.2 (S.2.2 u 1) 2) (rw_at row_sl x9.toNatClampNeg).toNatClampNeg)) + ((i_max 1 (S.1 x2 ((64 * v180) + (rw_at row_sl x9.toNatClampNeg)).toNatClampNeg)) / 2)) / (i_max 1 (S.1 x2 ((64 * v180) + (rw_at row_sl x9.toNatClampNeg)).toNatClampNeg)))) S R152 hR152 hp
set_option maxRecDepth 100000 in
set_option maxHeartbeats 1000000 in
theorem se_Pa_makeBlock_152 (C : fcx gG D z A X R_Pa c_C_Pa_makeBlock 13 (none)) (hQ : X.2.2.2.2.2.2.2.2.2.2 = eQ gG D z X.2.2.2.2.2.2.2.1 X.2.2.2.2.1 L0 0 0 (pC_v lt_C U oa K (fun _ _ => False))) (hA : A = owA gG L0 X.2.2.2.2.1.heap.size) (hR : X.2.2.2.1 = { frames := 2, cells := 1, slots := 6, locals := 200 }) (hu : c_cl U u = 6) (x1 : Int32) (x2 : Nat) (x3 : Int32) (x9 : Int32) (S : cs) (hp : e_Pa_makeBlock_152 U u x1 x2 x3 x9 S K) : aw gG D z A X 13 152 [some (.ref (oa u)), some (.int x1), some (.ref (oa x2)), some (.int x3), none, none, none, none, none, some (.int x9), none, none, none] [] (cw lt_C U oa S) 0 0 := by
  obtain ⟨I, μ, h0, hs⟩ := hp
  have key : ∀ (n : Nat) (yx1 : Int32) (yx2 : Nat) (yx3 : Int32) (yx9 : Int32) (yS : cs), μ yx1 yx2 yx3 yx9 yS < n → I yx1 yx2 yx3 yx9 yS → aw gG D z A X 13 152 [some (.ref (oa u)), some (.int yx1), some (.ref (oa yx2)), some (.int yx3), none, none, none, none, none, some (.int yx9), none, none, none] [] (cw lt_C U oa yS) 0 0 := by
    intro n
    induction n with
    | zero => intro yx1 yx2 yx3 yx9 yS h; omega
    | succ n ih =>
      intro yx1 yx2 yx3 yx9 yS hn hI
      exact s_Pa_makeBlock_152 C hQ hA hR hu yx1 yx2 yx3 yx9 yS _ (fun zx1 zx2 zx3 zx9 zS hw => ih zx1 zx2 zx3 zx9 zS (by omega) hw.1) (hs yx1 yx2 yx3 yx9 yS hI)
  exact key (μ x1 x2 x3 x9 S + 1) x1 x2 x3 x9 S (Nat.lt_succ_self _) h0
set_option maxRecDepth 100000 in
set_option maxHeartbeats 1000000 in
theorem s_Pa_makeBlock_73 (C : fcx gG D z A X R_Pa c_C_Pa_makeBlock 13 (none)) (hQ : X.2.2.2.2.2.2.2.2.2.2 = eQ gG D z X.2.2.2.2.2.2.2.1 X.2.2.2.2.1 L0 0 0 (pC_v lt_C U oa K (fun _ _ => False))) (hA : A = owA gG L0 X.2.2.2.2.1.heap.size) (hR : X.2.2.2.1 = { frames := 2, cells := 1, slots := 6, locals := 200 }) (hu : c_cl U u = 6) (x1 : Int32) (x2 : Nat) (x3 : Int32) (x5 : Int32) (x6 : Int32) (x7 : Int32) (x8 : Int32) (x9 : Int32) (S : cs) (R73 : Int32 → Nat → Int32 → Int32 → Int32 → Int32 → Int32 → Int32 → cs → Prop) (hR73 : ∀ yx1 yx2 yx3 yx5 yx6 yx7 yx8 yx9 yS, R73 yx1 yx2 yx3 yx5 yx6 yx7 yx8 yx9 yS → aw gG D z A X 13 73 [some (.ref (oa u)), some (.int yx1), some (.ref (oa yx2)), some (.int yx3), none, some (.int yx5), some (.int yx6), some (.int yx7), some (.int yx8), some (.int yx9), none, none, none] [] (cw lt_C U oa yS) 0 0) (hp : b_Pa_makeBlock_73 U u x1 x2 x3 x5 x6 x7 x8 x9 S R73 K) : aw gG D z A X 13 73 [some (.ref (oa u)), some (.int x1), some (.ref (oa x2)), some (.int x3), none, some (.int x5), some (.int x6), some (.int x7), some (.int x8), some (.int x9), none, none, none] [] (cw lt_C U oa S) 0 0 := by
  unfold b_Pa_makeBlock_73 at hp
  refine a_iload C dc_Pa_makeBlock_73 rfl ?_
  refine a_bipush (v := 64) C dc_Pa_makeBlock_75 (by decide) ?_
  refine a_icmp_ge (tgt := 142) C dc_Pa_makeBlock_77 (by decide) ⟨fun hc => ?_, fun hc => ?_⟩
  · have hp := hp.1 hc
    refine a_aload_n C dc_Pa_makeBlock_142 rfl rfl ?_
    refine c_getR C u 1 dc_Pa_makeBlock_143 hu rfl rfl (Nat.le_of_ble_eq_true rfl) f_Pa_24 rfl hp.1 ?_
    have hp := hp.2
    have hc6 := hp.1
    have hp := hp.2
    refine c_call (rest := []) (av := .ref (oa (S.2.2 u 1)) :: []) C dc_Pa_makeBlock_146 (ct_Wa_makeWeights (S.2.2 u 1) S hc6 hp) cd_C_Wa_makeWeights i_Wa (Nat.le_of_ble_eq_true rfl) (by rw [hR]; exact Nat.le_of_ble_eq_true rfl) (by rw [hR]; exact Nat.le_of_ble_eq_true rfl) (by rw [hR]; exact Nat.le_of_ble_eq_true rfl) (by rw [hR]; exact Nat.le_of_ble_eq_true rfl) (inv_V C (S.2.2 u 1) dc_Pa_makeBlock_146 l_Pa_162 im_C_Wa_makeWeights se_C_Wa_makeWeights cd_C_Wa_makeWeights ⟨by decide, by decide⟩ ln_C_Wa_makeWeights rfl rfl (cw_obj hc6 rfl) rfl rfl) (fun oc L1 hL => ?_)
    obtain ⟨S146, hp, rfl, rfl⟩ := hL.resolve_right pC_no
    refine ⟨_, rfl, ?_⟩
    refine aw_eq (lo' := _) (st' := []) (L' := (cw lt_C U oa S146)) rfl rfl rfl ?_
    refine a_iconst (v := 0) C dc_Pa_makeBlock_149 (by decide) ?_
    refine a_istore (lo' := [some (.ref (oa u)), some (.int x1), some (.ref (oa x2)), some (.int x3), none, some (.int x5), some (.int x6), some (.int x7), some (.int x8), some (.int 0), none, none, none]) C dc_Pa_makeBlock_150 (by decide) rfl ?_
    refine aw_lo (lo' := [some (.ref (oa u)), some (.int x1), some (.ref (oa x2)), some (.int x3), none, none, none, none, none, some (.int 0), none, none, none]) ⟨.inr rfl, .inr rfl, .inr rfl, .inr rfl, .inr rfl, .inl rfl, .inl rfl, .inl rfl, .inl rfl, .inr rfl, .inr rfl, .inr rfl, .inr rfl, trivial⟩ ?_
    exact se_Pa_makeBlock_152 C hQ hA hR hu x1 x2 x3 0 S146  hp
  · have hp := hp.2 hc
    refine a_iload C dc_Pa_makeBlock_80 rfl ?_
    refine a_iload C dc_Pa_makeBlock_82 rfl ?_
    refine a_iload C dc_Pa_makeBlock_84 rfl ?_
    refine a_bipush (v := 8) C dc_Pa_makeBlock_86 (by decide) ?_
    refine a_irem C dc_Pa_makeBlock_88 (by decide) ?_
    refine a_iadd C dc_Pa_makeBlock_89 ?_
    refine a_mn C dc_Pa_makeBlock_90 l_Pa_139 st_Ma_min i_Ma cd_Ma_min (Nat.le_of_ble_eq_true rfl) (by rw [hR]; exact Nat.le_of_ble_eq_true rfl) (by rw [hR]; exact Nat.le_of_ble_eq_true rfl) (by rw [hR]; exact Nat.le_of_ble_eq_true rfl) (by rw [hR]; exact Nat.le_of_ble_eq_true rfl) ?_
    refine a_istore (lo' := [some (.ref (oa u)), some (.int x1), some (.ref (oa x2)), some (.int x3), none, some (.int x5), some (.int x6), some (.int x7), some (.int x8), some (.int x9), some (.int (i_min x7 (x5 + (x9 - x9 / 8 * 8)))), none, none]) C dc_Pa_makeBlock_93 (by decide) rfl ?_
    refine a_iload C dc_Pa_makeBlock_95 rfl ?_
    refine a_iload C dc_Pa_makeBlock_97 rfl ?_
    refine a_iload C dc_Pa_makeBlock_99 rfl ?_
    refine a_bipush (v := 8) C dc_Pa_makeBlock_101 (by decide) ?_
    refine a_idiv C dc_Pa_makeBlock_103 (by decide) ?_
    refine a_iadd C dc_Pa_makeBlock_104 ?_
    refine a_mn C dc_Pa_makeBlock_105 l_Pa_139 st_Ma_min i_Ma cd_Ma_min (Nat.le_of_ble_eq_true rfl) (by rw [hR]; exact Nat.le_of_ble_eq_true rfl) (by rw [hR]; exact Nat.le_of_ble_eq_true rfl) (by rw [hR]; exact Nat.le_of_ble_eq_true rfl) (by rw [hR]; exact Nat.le_of_ble_eq_true rfl) ?_
    refine a_istore (lo' := [some (.ref (oa u)), some (.int x1), some (.ref (oa x2)), some (.int x3), none, some (.int x5), some (.int x6), some (.int x7), some (.int x8), some (.int x9), some (.int (i_min x7 (x5 + (x9 - x9 / 8 * 8)))), some (.int (i_min x8 (x6 + (x9 / 8)))), none]) C dc_Pa_makeBlock_108 (by decide) rfl ?_
    refine a_aload_n C dc_Pa_makeBlock_110 rfl rfl ?_
    refine c_getR C u 1 dc_Pa_makeBlock_111 hu rfl rfl (Nat.le_of_ble_eq_true rfl) f_Pa_24 rfl hp.1 ?_
    have hp := hp.2
    have hc7 := hp.1
    have hp := hp.2
    refine c_getRN C (S.2.2 u 1) 1 dc_Pa_makeBlock_114 hc7 rfl rfl (Nat.le_of_ble_eq_true rfl) f_Pa_161 rfl hp.1 ?_
    have hp := hp.2
    refine a_iload C dc_Pa_makeBlock_117 rfl ?_
    refine a_aload_n C dc_Pa_makeBlock_119 rfl rfl ?_
    refine c_getR C u 2 dc_Pa_makeBlock_120 hu rfl rfl (Nat.le_of_ble_eq_true rfl) f_Pa_31 rfl hp.1 ?_
    have hp := hp.2
    have hc8 := hp.1
    have hp := hp.2
    refine c_getRN C (S.2.2 u 2) 15 dc_Pa_makeBlock_123 hc8 rfl rfl (Nat.le_of_ble_eq_true rfl) f_Pa_149 rfl hp.1 ?_
    have hp := hp.2
    refine a_iload_n C dc_Pa_makeBlock_126 rfl rfl ?_
    refine a_iload C dc_Pa_makeBlock_127 rfl ?_
    refine a_iload C dc_Pa_makeBlock_129 rfl ?_
    refine a_callP (rest := [.ref (oa (S.2.2 (S.2.2 u 2) 15)), .int x9, .ref (oa (S.2.2 (S.2.2 u 1) 1))]) (av := [.int x3, .int (i_min x7 (x5 + (x9 - x9 / 8 * 8))), .int (i_min x8 (x6 + (x9 / 8)))]) C dc_Pa_makeBlock_131 (ct_B_spot x3 (i_min x7 (x5 + (x9 - x9 / 8 * 8))) (i_min x8 (x6 + (x9 / 8))) hp) cd_C_B_spot i_B (Nat.le_of_ble_eq_true rfl) (by rw [hR]; exact Nat.le_of_ble_eq_true rfl) (by rw [hR]; exact Nat.le_of_ble_eq_true rfl) (by rw [hR]; exact Nat.le_of_ble_eq_true rfl) (by rw [hR]; exact Nat.le_of_ble_eq_true rfl) (inv_SN C dc_Pa_makeBlock_131 l_Pa_152 st_C_B_spot i_B cd_C_B_spot ⟨by decide, by decide⟩ ln_C_B_spot rfl) (fun v131 hp => ?_)
    refine aw_eq (lo' := _) (st' := [.int v131, .ref (oa (S.2.2 (S.2.2 u 2) 15)), .int x9, .ref (oa (S.2.2 (S.2.2 u 1) 1))]) (L' := (cw lt_C U oa S)) rfl rfl rfl ?_
    have hc9 := hp.1
    have hp := hp.2
    refine c_iald C (S.2.2 (S.2.2 u 2) 15) dc_Pa_makeBlock_134 hc9 hp.1 ?_
    have hp := hp.2
    have hc10 := hp.1
    have hp := hp.2
    refine c_iast C (S.2.2 (S.2.2 u 1) 1) dc_Pa_makeBlock_135 hc10 hp.1 ?_
    have hp := hp.2
    refine aw_eq (lo' := _) (st' := _) (L' := (cw lt_C U oa (va_up S.1 (S.2.2 (S.2.2 u 1) 1) (upd (S.1 (S.2.2 (S.2.2 u 1) 1)) x9.toNatClampNeg (S.1 (S.2.2 (S.2.2 u 2) 15) v131.toNatClampNeg)), S.2.1, S.2.2))) rfl rfl rfl ?_
    refine a_iinc (v := x9 + 1) (lo' := [some (.ref (oa u)), some (.int x1), some (.ref (oa x2)), some (.int x3), none, some (.int x5), some (.int x6), some (.int x7), some (.int x8), some (.int (x9 + 1)), some (.int (i_min x7 (x5 + (x9 - x9 / 8 * 8)))), some (.int (i_min x8 (x6 + (x9 / 8)))), none]) C dc_Pa_makeBlock_136 rfl rfl (by decide) rfl ?_
    refine a_goto (tgt := 73) C dc_Pa_makeBlock_139 (by decide) ?_
    refine aw_lo (lo' := [some (.ref (oa u)), some (.int x1), some (.ref (oa x2)), some (.int x3), none, some (.int x5), some (.int x6), some (.int x7), some (.int x8), some (.int (x9 + 1)), none, none, none]) ⟨.inr rfl, .inr rfl, .inr rfl, .inr rfl, .inr rfl, .inr rfl, .inr rfl, .inr rfl, .inr rfl, .inr rfl, .inl rfl, .inl rfl, .inr rfl, trivial⟩ ?_
    exact hR73 x1 x2 x3 x5 x6 x7 x8 (x9 + 1) (va_up S.1 (S.2.2 (S.2.2 u 1) 1) (upd (S.1 (S.2.2 (S.2.2 u 1) 1)) x9.toNatClampNeg (S.1 (S.2.2 (S.2.2 u 2) 15) v131.toNatClampNeg)), S.2.1, S.2.2) hp
set_option maxRecDepth 100000 in
set_option maxHeartbeats 1000000 in
theorem se_Pa_makeBlock_73 (C : fcx gG D z A X R_Pa c_C_Pa_makeBlock 13 (none)) (hQ : X.2.2.2.2.2.2.2.2.2.2 = eQ gG D z X.2.2.2.2.2.2.2.1 X.2.2.2.2.1 L0 0 0 (pC_v lt_C U oa K (fun _ _ => False))) (hA : A = owA gG L0 X.2.2.2.2.1.heap.size) (hR : X.2.2.2.1 = { frames := 2, cells := 1, slots := 6, locals := 200 }) (hu : c_cl U u = 6) (x1 : Int32) (x2 : Nat) (x3 : Int32) (x5 : Int32) (x6 : Int32) (x7 : Int32) (x8 : Int32) (x9 : Int32) (S : cs) (hp : e_Pa_makeBlock_73 U u x1 x2 x3 x5 x6 x7 x8 x9 S K) : aw gG D z A X 13 73 [some (.ref (oa u)), some (.int x1), some (.ref (oa x2)), some (.int x3), none, some (.int x5), some (.int x6), some (.int x7), some (.int x8), some (.int x9), none, none, none] [] (cw lt_C U oa S) 0 0 := by
  obtain ⟨I, μ, h0, hs⟩ := hp
  have key : ∀ (n : Nat) (yx1 : Int32) (yx2 : Nat) (yx3 : Int32) (yx5 : Int32) (yx6 : Int32) (yx7 : Int32) (yx8 : Int32) (yx9 : Int32) (yS : cs), μ yx1 yx2 yx3 yx5 yx6 yx7 yx8 yx9 yS < n → I yx1 yx2 yx3 yx5 yx6 yx7 yx8 yx9 yS → aw gG D z A X 13 73 [some (.ref (oa u)), some (.int yx1), some (.ref (oa yx2)), some (.int yx3), none, some (.int yx5), some (.int yx6), some (.int yx7), some (.int yx8), some (.int yx9), none, none, none] [] (cw lt_C U oa yS) 0 0 := by
    intro n
    induction n with
    | zero => intro yx1 yx2 yx3 yx5 yx6 yx7 yx8 yx9 yS h; omega
    | succ n ih =>
      intro yx1 yx2 yx3 yx5 yx6 yx7 yx8 yx9 yS hn hI
      exact s_Pa_makeBlock_73 C hQ hA hR hu yx1 yx2 yx3 yx5 yx6 yx7 yx8 yx9 yS _ (fun zx1 zx2 zx3 zx5 zx6 zx7 zx8 zx9 zS hw => ih zx1 zx2 zx3 zx5 zx6 zx7 zx8 zx9 zS (by omega) hw.1) (hs yx1 yx2 yx3 yx5 yx6 yx7 yx8 yx9 yS hI)
  exact key (μ x1 x2 x3 x5 x6 x7 x8 x9 S + 1) x1 x2 x3 x5 x6 x7 x8 x9 S (Nat.lt_succ_self _) h0
set_option maxRecDepth 100000 in
set_option maxHeartbeats 1000000 in
theorem s_Pa_makeBlock_0 (C : fcx gG D z A X R_Pa c_C_Pa_makeBlock 13 (none)) (hQ : X.2.2.2.2.2.2.2.2.2.2 = eQ gG D z X.2.2.2.2.2.2.2.1 X.2.2.2.2.1 L0 0 0 (pC_v lt_C U oa K (fun _ _ => False))) (hA : A = owA gG L0 X.2.2.2.2.1.heap.size) (hR : X.2.2.2.1 = { frames := 2, cells := 1, slots := 6, locals := 200 }) (hu : c_cl U u = 6) (x1 : Int32) (x2 : Nat) (S : cs) (hp : p_Pa_makeBlock U u x1 x2 S K) : aw gG D z A X 13 0 [some (.ref (oa u)), some (.int x1), some (.ref (oa x2)), none, none, none, none, none, none, none, none, none, none] [] (cw lt_C U oa S) 0 0 := by
  unfold p_Pa_makeBlock at hp
  refine a_iload_n C dc_Pa_makeBlock_0 rfl rfl ?_
  refine a_bipush (v := 64) C dc_Pa_makeBlock_1 (by decide) ?_
  refine a_idiv C dc_Pa_makeBlock_3 (by decide) ?_
  refine a_istore_n (lo' := [some (.ref (oa u)), some (.int x1), some (.ref (oa x2)), some (.int (x1 / 64)), none, none, none, none, none, none, none, none, none]) C dc_Pa_makeBlock_4 rfl (by decide) rfl ?_
  refine a_iconst (v := 1) C dc_Pa_makeBlock_5 (by decide) ?_
  refine a_aload_n C dc_Pa_makeBlock_6 rfl rfl ?_
  refine c_getR C u 2 dc_Pa_makeBlock_7 hu rfl rfl (Nat.le_of_ble_eq_true rfl) f_Pa_31 rfl hp.1 ?_
  have hp := hp.2
  have hc11 := hp.1
  have hp := hp.2
  refine c_getRN C (S.2.2 u 2) 11 dc_Pa_makeBlock_10 hc11 rfl rfl (Nat.le_of_ble_eq_true rfl) f_Pa_155 rfl hp.1 ?_
  have hp := hp.2
  refine a_iload_n C dc_Pa_makeBlock_13 rfl rfl ?_
  have hc12 := hp.1
  have hp := hp.2
  refine c_iald C (S.2.2 (S.2.2 u 2) 11) dc_Pa_makeBlock_14 hc12 hp.1 ?_
  have hp := hp.2
  refine a_mx C dc_Pa_makeBlock_15 l_Pa_158 st_Ma_max i_Ma cd_Ma_max (Nat.le_of_ble_eq_true rfl) (by rw [hR]; exact Nat.le_of_ble_eq_true rfl) (by rw [hR]; exact Nat.le_of_ble_eq_true rfl) (by rw [hR]; exact Nat.le_of_ble_eq_true rfl) (by rw [hR]; exact Nat.le_of_ble_eq_true rfl) ?_
  refine a_istore (lo' := [some (.ref (oa u)), some (.int x1), some (.ref (oa x2)), some (.int (x1 / 64)), some (.int (i_max 1 (S.1 (S.2.2 (S.2.2 u 2) 11) (x1 / 64).toNatClampNeg))), none, none, none, none, none, none, none, none]) C dc_Pa_makeBlock_18 (by decide) rfl ?_
  refine a_iload_n C dc_Pa_makeBlock_20 rfl rfl ?_
  refine a_bipush (v := 64) C dc_Pa_makeBlock_21 (by decide) ?_
  refine a_irem C dc_Pa_makeBlock_23 (by decide) ?_
  refine a_iload C dc_Pa_makeBlock_24 rfl ?_
  refine a_irem C dc_Pa_makeBlock_26 hp.1 ?_
  have hp := hp.2
  refine a_bipush (v := 8) C dc_Pa_makeBlock_27 (by decide) ?_
  refine a_imul C dc_Pa_makeBlock_29 ?_
  refine a_istore (lo' := [some (.ref (oa u)), some (.int x1), some (.ref (oa x2)), some (.int (x1 / 64)), some (.int (i_max 1 (S.1 (S.2.2 (S.2.2 u 2) 11) (x1 / 64).toNatClampNeg))), some (.int (((x1 - x1 / 64 * 64) - (x1 - x1 / 64 * 64) / (i_max 1 (S.1 (S.2.2 (S.2.2 u 2) 11) (x1 / 64).toNatClampNeg)) * (i_max 1 (S.1 (S.2.2 (S.2.2 u 2) 11) (x1 / 64).toNatClampNeg))) * 8)), none, none, none, none, none, none, none]) C dc_Pa_makeBlock_30 (by decide) rfl ?_
  refine a_iload_n C dc_Pa_makeBlock_32 rfl rfl ?_
  refine a_bipush (v := 64) C dc_Pa_makeBlock_33 (by decide) ?_
  refine a_irem C dc_Pa_makeBlock_35 (by decide) ?_
  refine a_iload C dc_Pa_makeBlock_36 rfl ?_
  refine a_idiv C dc_Pa_makeBlock_38 hp.1 ?_
  have hp := hp.2
  refine a_bipush (v := 8) C dc_Pa_makeBlock_39 (by decide) ?_
  refine a_imul C dc_Pa_makeBlock_41 ?_
  refine a_istore (lo' := [some (.ref (oa u)), some (.int x1), some (.ref (oa x2)), some (.int (x1 / 64)), some (.int (i_max 1 (S.1 (S.2.2 (S.2.2 u 2) 11) (x1 / 64).toNatClampNeg))), some (.int (((x1 - x1 / 64 * 64) - (x1 - x1 / 64 * 64) / (i_max 1 (S.1 (S.2.2 (S.2.2 u 2) 11) (x1 / 64).toNatClampNeg)) * (i_max 1 (S.1 (S.2.2 (S.2.2 u 2) 11) (x1 / 64).toNatClampNeg))) * 8)), some (.int (((x1 - x1 / 64 * 64) / (i_max 1 (S.1 (S.2.2 (S.2.2 u 2) 11) (x1 / 64).toNatClampNeg))) * 8)), none, none, none, none, none, none]) C dc_Pa_makeBlock_42 (by decide) rfl ?_
  refine a_aload_n C dc_Pa_makeBlock_44 rfl rfl ?_
  refine c_getR C u 2 dc_Pa_makeBlock_45 hu rfl rfl (Nat.le_of_ble_eq_true rfl) f_Pa_31 rfl hp.1 ?_
  have hp := hp.2
  refine c_getRN C (S.2.2 u 2) 9 dc_Pa_makeBlock_48 hc11 rfl rfl (Nat.le_of_ble_eq_true rfl) f_Pa_136 rfl hp.1 ?_
  have hp := hp.2
  refine a_iload_n C dc_Pa_makeBlock_51 rfl rfl ?_
  have hc13 := hp.1
  have hp := hp.2
  refine c_iald C (S.2.2 (S.2.2 u 2) 9) dc_Pa_makeBlock_52 hc13 hp.1 ?_
  have hp := hp.2
  refine a_iconst (v := 1) C dc_Pa_makeBlock_53 (by decide) ?_
  refine a_isub C dc_Pa_makeBlock_54 ?_
  refine a_istore (lo' := [some (.ref (oa u)), some (.int x1), some (.ref (oa x2)), some (.int (x1 / 64)), some (.int (i_max 1 (S.1 (S.2.2 (S.2.2 u 2) 11) (x1 / 64).toNatClampNeg))), some (.int (((x1 - x1 / 64 * 64) - (x1 - x1 / 64 * 64) / (i_max 1 (S.1 (S.2.2 (S.2.2 u 2) 11) (x1 / 64).toNatClampNeg)) * (i_max 1 (S.1 (S.2.2 (S.2.2 u 2) 11) (x1 / 64).toNatClampNeg))) * 8)), some (.int (((x1 - x1 / 64 * 64) / (i_max 1 (S.1 (S.2.2 (S.2.2 u 2) 11) (x1 / 64).toNatClampNeg))) * 8)), some (.int ((S.1 (S.2.2 (S.2.2 u 2) 9) (x1 / 64).toNatClampNeg) - 1)), none, none, none, none, none]) C dc_Pa_makeBlock_55 (by decide) rfl ?_
  refine a_aload_n C dc_Pa_makeBlock_57 rfl rfl ?_
  refine c_getR C u 2 dc_Pa_makeBlock_58 hu rfl rfl (Nat.le_of_ble_eq_true rfl) f_Pa_31 rfl hp.1 ?_
  have hp := hp.2
  refine c_getRN C (S.2.2 u 2) 10 dc_Pa_makeBlock_61 hc11 rfl rfl (Nat.le_of_ble_eq_true rfl) f_Pa_133 rfl hp.1 ?_
  have hp := hp.2
  refine a_iload_n C dc_Pa_makeBlock_64 rfl rfl ?_
  have hc14 := hp.1
  have hp := hp.2
  refine c_iald C (S.2.2 (S.2.2 u 2) 10) dc_Pa_makeBlock_65 hc14 hp.1 ?_
  have hp := hp.2
  refine a_iconst (v := 1) C dc_Pa_makeBlock_66 (by decide) ?_
  refine a_isub C dc_Pa_makeBlock_67 ?_
  refine a_istore (lo' := [some (.ref (oa u)), some (.int x1), some (.ref (oa x2)), some (.int (x1 / 64)), some (.int (i_max 1 (S.1 (S.2.2 (S.2.2 u 2) 11) (x1 / 64).toNatClampNeg))), some (.int (((x1 - x1 / 64 * 64) - (x1 - x1 / 64 * 64) / (i_max 1 (S.1 (S.2.2 (S.2.2 u 2) 11) (x1 / 64).toNatClampNeg)) * (i_max 1 (S.1 (S.2.2 (S.2.2 u 2) 11) (x1 / 64).toNatClampNeg))) * 8)), some (.int (((x1 - x1 / 64 * 64) / (i_max 1 (S.1 (S.2.2 (S.2.2 u 2) 11) (x1 / 64).toNatClampNeg))) * 8)), some (.int ((S.1 (S.2.2 (S.2.2 u 2) 9) (x1 / 64).toNatClampNeg) - 1)), some (.int ((S.1 (S.2.2 (S.2.2 u 2) 10) (x1 / 64).toNatClampNeg) - 1)), none, none, none, none]) C dc_Pa_makeBlock_68 (by decide) rfl ?_
  refine a_iconst (v := 0) C dc_Pa_makeBlock_70 (by decide) ?_
  refine a_istore (lo' := [some (.ref (oa u)), some (.int x1), some (.ref (oa x2)), some (.int (x1 / 64)), some (.int (i_max 1 (S.1 (S.2.2 (S.2.2 u 2) 11) (x1 / 64).toNatClampNeg))), some (.int (((x1 - x1 / 64 * 64) - (x1 - x1 / 64 * 64) / (i_max 1 (S.1 (S.2.2 (S.2.2 u 2) 11) (x1 / 64).toNatClampNeg)) * (i_max 1 (S.1 (S.2.2 (S.2.2 u 2) 11) (x1 / 64).toNatClampNeg))) * 8)), some (.int (((x1 - x1 / 64 * 64) / (i_max 1 (S.1 (S.2.2 (S.2.2 u 2) 11) (x1 / 64).toNatClampNeg))) * 8)), some (.int ((S.1 (S.2.2 (S.2.2 u 2) 9) (x1 / 64).toNatClampNeg) - 1)), some (.int ((S.1 (S.2.2 (S.2.2 u 2) 10) (x1 / 64).toNatClampNeg) - 1)), some (.int 0), none, none, none]) C dc_Pa_makeBlock_71 (by decide) rfl ?_
  refine aw_lo (lo' := [some (.ref (oa u)), some (.int x1), some (.ref (oa x2)), some (.int (x1 / 64)), none, some (.int (((x1 - x1 / 64 * 64) - (x1 - x1 / 64 * 64) / (i_max 1 (S.1 (S.2.2 (S.2.2 u 2) 11) (x1 / 64).toNatClampNeg)) * (i_max 1 (S.1 (S.2.2 (S.2.2 u 2) 11) (x1 / 64).toNatClampNeg))) * 8)), some (.int (((x1 - x1 / 64 * 64) / (i_max 1 (S.1 (S.2.2 (S.2.2 u 2) 11) (x1 / 64).toNatClampNeg))) * 8)), some (.int ((S.1 (S.2.2 (S.2.2 u 2) 9) (x1 / 64).toNatClampNeg) - 1)), some (.int ((S.1 (S.2.2 (S.2.2 u 2) 10) (x1 / 64).toNatClampNeg) - 1)), some (.int 0), none, none, none]) ⟨.inr rfl, .inr rfl, .inr rfl, .inr rfl, .inl rfl, .inr rfl, .inr rfl, .inr rfl, .inr rfl, .inr rfl, .inr rfl, .inr rfl, .inr rfl, trivial⟩ ?_
  exact se_Pa_makeBlock_73 C hQ hA hR hu x1 x2 (x1 / 64) (((x1 - x1 / 64 * 64) - (x1 - x1 / 64 * 64) / (i_max 1 (S.1 (S.2.2 (S.2.2 u 2) 11) (x1 / 64).toNatClampNeg)) * (i_max 1 (S.1 (S.2.2 (S.2.2 u 2) 11) (x1 / 64).toNatClampNeg))) * 8) (((x1 - x1 / 64 * 64) / (i_max 1 (S.1 (S.2.2 (S.2.2 u 2) 11) (x1 / 64).toNatClampNeg))) * 8) ((S.1 (S.2.2 (S.2.2 u 2) 9) (x1 / 64).toNatClampNeg) - 1) ((S.1 (S.2.2 (S.2.2 u 2) 10) (x1 / 64).toNatClampNeg) - 1) 0 S  hp
end C_Pa_makeBlock
section C_Pa_makeBlockc
variable {D : va_G} {z : Nat → ClassId} {U : ut} {oa : Nat → Nat}
set_option maxRecDepth 100000 in
theorem ct_Pa_makeBlock {l : Launch} (u : Nat) (x1 : Int32) (x2 : Nat) (S : cs) {K : cs → Prop} (hu : c_cl U u = 6) (hp : p_Pa_makeBlock U u x1 x2 S K) : ct gG D z l n_C_Pa_makeBlock c_C_Pa_makeBlock 13 (none) 2 200 [.ref (oa u), .int x1, .ref (oa x2)] (cw lt_C U oa S) 0 0 (pC_v lt_C U oa K (fun _ _ => False)) := by
  refine ct_of (lo := [some (.ref (oa u)), some (.int x1), some (.ref (oa x2)), none, none, none, none, none, none, none, none, none, none]) (by decide) g_ok (Nat.le_of_ble_eq_true rfl) rfl ?_
  intro X A _ C hR hQ hA _
  exact s_Pa_makeBlock_0 C hQ hA hR hu x1 x2 S hp
end C_Pa_makeBlockc
