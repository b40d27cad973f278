def b_Wa_makeSamples_79 (U : ut) (u : Nat) (x1 : Int32) (x2 : Int32) (x3 : Int32) (x4 : Int64) (x6 : Int32) (S : cs) (R57 : Int32 → Int32 → cs → Prop) (R65 : Int32 → Int32 → Int32 → cs → Prop) (R79 : Int32 → Int32 → Int32 → Int64 → Int32 → cs → Prop) (K : cs → Prop) : Prop :=
  (x1 ≤ x6 → (¬ S.2.2 u 1 = NU ∧ (p_B_clamp (128 + ((x4 >>> ((17 : Int32).toInt64 &&& 63 : Int64) : Int64).toInt32)) 0 255 (fun v146 => c_cl U (S.2.2 u 1) = 902 ∧ (vp_in ((8 * x2) + x3) (c_ln U (S.2.2 u 1)) ∧ (R65 x1 x2 (x3 + 1) (va_up S.1 (S.2.2 u 1) (upd (S.1 (S.2.2 u 1)) ((8 * x2) + x3).toNatClampNeg v146), S.2.1, S.2.2))))))) ∧ (¬ (x1 ≤ x6) → (¬ S.2.2 u 0 = NU ∧ (c_cl U (S.2.2 u 0) = 902 ∧ (vp_in ((8 * x6) + x2) (c_ln U (S.2.2 u 0)) ∧ (¬ S.2.2 u 3 = NU ∧ (c_cl U (S.2.2 u 3) = 904 ∧ (vp_in ((8 * x6) + x3) (c_ln U (S.2.2 u 3)) ∧ (R79 x1 x2 x3 (x4 + (((S.1 (S.2.2 u 0) ((8 * x6) + x2).toNatClampNeg).toInt64) * (S.2.1 (S.2.2 u 3) ((8 * x6) + x3).toNatClampNeg))) (x6 + 1) S))))))))
def e_Wa_makeSamples_79 (U : ut) (u : Nat) (x1 : Int32) (x2 : Int32) (x3 : Int32) (x4 : Int64) (x6 : Int32) (S : cs) (R57 : Int32 → Int32 → cs → Prop) (R65 : Int32 → Int32 → Int32 → cs → Prop) (K : cs → Prop) : Prop :=
  ∃ (I : Int32 → Int32 → Int32 → Int64 → Int32 → cs → Prop) (μ : Int32 → Int32 → Int32 → Int64 → Int32 → cs → Nat), I x1 x2 x3 x4 x6 S ∧ ∀ yx1 yx2 yx3 yx4 yx6 yS, I yx1 yx2 yx3 yx4 yx6 yS → b_Wa_makeSamples_79 U u yx1 yx2 yx3 yx4 yx6 yS R57 R65 (fun zx1 zx2 zx3 zx4 zx6 zS => I zx1 zx2 zx3 zx4 zx6 zS ∧ μ zx1 zx2 zx3 zx4 zx6 zS < μ yx1 yx2 yx3 yx4 yx6 yS) K
def b_Wa_makeSamples_65 (U : ut) (u : Nat) (x1 : Int32) (x2 : Int32) (x3 : Int32) (S : cs) (R57 : Int32 → Int32 → cs → Prop) (R65 : Int32 → Int32 → Int32 → cs → Prop) (K : cs → Prop) : Prop :=
  (8 ≤ x3 → (R57 x1 (x2 + 1) S)) ∧ (¬ (8 ≤ x3) → (e_Wa_makeSamples_79 U u x1 x2 x3 65536 0 S R57 R65 K))
def e_Wa_makeSamples_65 (U : ut) (u : Nat) (x1 : Int32) (x2 : Int32) (x3 : Int32) (S : cs) (R57 : Int32 → Int32 → cs → Prop) (K : cs → Prop) : Prop :=
  ∃ (I : Int32 → Int32 → Int32 → cs → Prop) (μ : Int32 → Int32 → Int32 → cs → Nat), I x1 x2 x3 S ∧ ∀ yx1 yx2 yx3 yS, I yx1 yx2 yx3 yS → b_Wa_makeSamples_65 U u yx1 yx2 yx3 yS R57 (fun zx1 zx2 zx3 zS => I zx1 zx2 zx3 zS ∧ μ zx1 zx2 zx3 zS < μ yx1 yx2 yx3 yS) K
def b_Wa_makeSamples_57 (U : ut) (u : Nat) (x1 : Int32) (x2 : Int32) (S : cs) (R57 : Int32 → Int32 → cs → Prop) (K : cs → Prop) : Prop :=
  (8 ≤ x2 → (K S)) ∧ (¬ (8 ≤ x2) → (e_Wa_makeSamples_65 U u x1 x2 0 S R57 K))
def e_Wa_makeSamples_57 (U : ut) (u : Nat) (x1 : Int32) (x2 : Int32) (S : cs) (K : cs → Prop) : Prop :=
  ∃ (I : Int32 → Int32 → cs → Prop) (μ : Int32 → Int32 → cs → Nat), I x1 x2 S ∧ ∀ yx1 yx2 yS, I yx1 yx2 yS → b_Wa_makeSamples_57 U u yx1 yx2 yS (fun zx1 zx2 zS => I zx1 zx2 zS ∧ μ zx1 zx2 zS < μ yx1 yx2 yS) K
def b_Wa_makeSamples_49 (U : ut) (u : Nat) (x1 : Int32) (x2 : Int32) (S : cs) (R4 : Int32 → Int32 → cs → Prop) (K : cs → Prop) : Prop :=
  R4 x1 (x2 + 1) S
def b_Wa_makeSamples_4 (U : ut) (u : Nat) (x1 : Int32) (x2 : Int32) (S : cs) (R4 : Int32 → Int32 → cs → Prop) (K : cs → Prop) : Prop :=
  (8 ≤ x2 → (e_Wa_makeSamples_57 U u x1 0 S K)) ∧ (¬ (8 ≤ x2) → (p_Wa_hasWeights U u x2 S (fun v12 S12 => (v12 = 0 → (¬ S12.2.2 u 3 = NU ∧ (p_Ar_fillJ U (S12.2.2 u 3) (8 * x2) ((8 * x2) + 8) 0 S12 (fun S46 => b_Wa_makeSamples_49 U u x1 x2 S46 R4 K)))) ∧ (¬ (v12 = 0) → (p_Wa_makeRow U u x2 S12 (fun S20 => b_Wa_makeSamples_49 U u (x2 + 1) x2 S20 R4 K))))))
def e_Wa_makeSamples_4 (U : ut) (u : Nat) (x1 : Int32) (x2 : Int32) (S : cs) (K : cs → Prop) : Prop :=
  ∃ (I : Int32 → Int32 → cs → Prop) (μ : Int32 → Int32 → cs → Nat), I x1 x2 S ∧ ∀ yx1 yx2 yS, I yx1 yx2 yS → b_Wa_makeSamples_4 U u yx1 yx2 yS (fun zx1 zx2 zS => I zx1 zx2 zS ∧ μ zx1 zx2 zS < μ yx1 yx2 yS) K
def p_Wa_makeSamples (U : ut) (u : Nat)  (S : cs) (K : cs → Prop) : Prop :=
  e_Wa_makeSamples_4 U u 0 0 S K
section C_Wa_makeSamples
variable {D : va_G} {z : Nat → ClassId} {A : Nat → Prop} {X : cx} {L0 : fw} {U : ut} {oa : Nat → Nat} {u : Nat} {K : cs → Prop}
set_option maxRecDepth 100000 in
set_option maxHeartbeats 1000000 in
theorem s_Wa_makeSamples_79 (C : fcx gG D z A X R_Wa c_C_Wa_makeSamples 7 (none)) (hQ : X.2.2.2.2.2.2.2.2.2.2 = eQ gG D z X.2.2.2.2.2.2.2.1 X.2.2.2.2.1 L0 0 0 (pC_v lt_C U oa K (fun _ _ => False))) (hA : A = owA gG L0 X.2.2.2.2.1.heap.size) (hR : X.2.2.2.1 = { frames := 3, cells := 1, slots := 6, locals := 300 }) (hu : c_cl U u = 12) (x1 : Int32) (x2 : Int32) (x3 : Int32) (x4 : Int64) (x6 : Int32) (S : cs) (R57 : Int32 → Int32 → cs → Prop) (hR57 : ∀ yx1 yx2 yS, R57 yx1 yx2 yS → aw gG D z A X 7 57 [some (.ref (oa u)), some (.int yx1), some (.int yx2), none, none, none, none] [] (cw lt_C U oa yS) 0 0) (R65 : Int32 → Int32 → Int32 → cs → Prop) (hR65 : ∀ yx1 yx2 yx3 yS, R65 yx1 yx2 yx3 yS → aw gG D z A X 7 65 [some (.ref (oa u)), some (.int yx1), some (.int yx2), some (.int yx3), none, none, none] [] (cw lt_C U oa yS) 0 0) (R79 : Int32 → Int32 → Int32 → Int64 → Int32 → cs → Prop) (hR79 : ∀ yx1 yx2 yx3 yx4 yx6 yS, R79 yx1 yx2 yx3 yx4 yx6 yS → aw gG D z A X 7 79 [some (.ref (oa u)), some (.int yx1), some (.int yx2), some (.int yx3), some (.long yx4), none, some (.int yx6)] [] (cw lt_C U oa yS) 0 0) (hp : b_Wa_makeSamples_79 U u x1 x2 x3 x4 x6 S R57 R65 R79 K) : aw gG D z A X 7 79 [some (.ref (oa u)), some (.int x1), some (.int x2), some (.int x3), some (.long x4), none, some (.int x6)] [] (cw lt_C U oa S) 0 0 := by
  unfold b_Wa_makeSamples_79 at hp
  refine a_iload C dc_Wa_makeSamples_79 rfl ?_
  refine a_iload_n C dc_Wa_makeSamples_81 rfl rfl ?_
  refine a_icmp_ge (tgt := 122) C dc_Wa_makeSamples_82 (by decide) ⟨fun hc => ?_, fun hc => ?_⟩
  · have hp := hp.1 hc
    refine a_aload_n C dc_Wa_makeSamples_122 rfl rfl ?_
    refine c_getR C u 1 dc_Wa_makeSamples_123 hu rfl rfl (Nat.le_of_ble_eq_true rfl) f_Wa_15 rfl hp.1 ?_
    have hp := hp.2
    refine a_bipush (v := 8) C dc_Wa_makeSamples_126 (by decide) ?_
    refine a_iload_n C dc_Wa_makeSamples_128 rfl rfl ?_
    refine a_imul C dc_Wa_makeSamples_129 ?_
    refine a_iload_n C dc_Wa_makeSamples_130 rfl rfl ?_
    refine a_iadd C dc_Wa_makeSamples_131 ?_
    refine a_sipush (v := 128) C dc_Wa_makeSamples_132 (by decide) ?_
    refine a_lload C dc_Wa_makeSamples_135 rfl ?_
    refine a_bipush (v := 17) C dc_Wa_makeSamples_137 (by decide) ?_
    refine a_lshr C dc_Wa_makeSamples_139 ?_
    refine a_l2i C dc_Wa_makeSamples_140 ?_
    refine a_iadd C dc_Wa_makeSamples_141 ?_
    refine a_iconst (v := 0) C dc_Wa_makeSamples_142 (by decide) ?_
    refine a_sipush (v := 255) C dc_Wa_makeSamples_143 (by decide) ?_
    refine a_callP (rest := [.int ((8 * x2) + x3), .ref (oa (S.2.2 u 1))]) (av := [.int (128 + ((x4 >>> ((17 : Int32).toInt64 &&& 63 : Int64) : Int64).toInt32)), .int 0, .int 255]) C dc_Wa_makeSamples_146 (ct_B_clamp (128 + ((x4 >>> ((17 : Int32).toInt64 &&& 63 : Int64) : Int64).toInt32)) 0 255 hp) cd_C_B_clamp i_B (Nat.le_of_ble_eq_true rfl) (by rw [hR]; exact Nat.le_of_ble_eq_true rfl) (by rw [hR]; exact Nat.le_of_ble_eq_true rfl) (by rw [hR]; exact Nat.le_of_ble_eq_true rfl) (by rw [hR]; exact Nat.le_of_ble_eq_true rfl) (inv_SN C dc_Wa_makeSamples_146 l_Wa_48 st_C_B_clamp i_B cd_C_B_clamp ⟨by decide, by decide⟩ ln_C_B_clamp rfl) (fun v146 hp => ?_)
    refine aw_eq (lo' := _) (st' := [.int v146, .int ((8 * x2) + x3), .ref (oa (S.2.2 u 1))]) (L' := (cw lt_C U oa S)) rfl rfl rfl ?_
    have hc1 := hp.1
    have hp := hp.2
    refine c_iast C (S.2.2 u 1) dc_Wa_makeSamples_149 hc1 hp.1 ?_
    have hp := hp.2
    refine aw_eq (lo' := _) (st' := _) (L' := (cw lt_C U oa (va_up S.1 (S.2.2 u 1) (upd (S.1 (S.2.2 u 1)) ((8 * x2) + x3).toNatClampNeg v146), S.2.1, S.2.2))) rfl rfl rfl ?_
    refine a_iinc (v := x3 + 1) (lo' := [some (.ref (oa u)), some (.int x1), some (.int x2), some (.int (x3 + 1)), some (.long x4), none, some (.int x6)]) C dc_Wa_makeSamples_150 rfl rfl (by decide) rfl ?_
    refine a_goto (tgt := 65) C dc_Wa_makeSamples_153 (by decide) ?_
    refine aw_lo (lo' := [some (.ref (oa u)), some (.int x1), some (.int x2), some (.int (x3 + 1)), none, none, none]) ⟨.inr rfl, .inr rfl, .inr rfl, .inr rfl, .inl rfl, .inr rfl, .inl rfl, trivial⟩ ?_
    exact hR65 x1 x2 (x3 + 1) (va_up S.1 (S.2.2 u 1) (upd (S.1 (S.2.2 u 1)) ((8 * x2) + x3).toNatClampNeg v146), S.2.1, S.2.2) hp
  · have hp := hp.2 hc
    refine a_lload C dc_Wa_makeSamples_85 rfl ?_
    refine a_aload_n C dc_Wa_makeSamples_87 rfl rfl ?_
    refine c_getR C u 0 dc_Wa_makeSamples_88 hu rfl rfl (Nat.le_of_ble_eq_true rfl) f_Wa_9 rfl hp.1 ?_
    have hp := hp.2
    refine a_bipush (v := 8) C dc_Wa_makeSamples_91 (by decide) ?_
    refine a_iload C dc_Wa_makeSamples_93 rfl ?_
    refine a_imul C dc_Wa_makeSamples_95 ?_
    refine a_iload_n C dc_Wa_makeSamples_96 rfl rfl ?_
    refine a_iadd C dc_Wa_makeSamples_97 ?_
    have hc2 := hp.1
    have hp := hp.2
    refine c_iald C (S.2.2 u 0) dc_Wa_makeSamples_98 hc2 hp.1 ?_
    have hp := hp.2
    refine a_i2l C dc_Wa_makeSamples_99 ?_
    refine a_aload_n C dc_Wa_makeSamples_100 rfl rfl ?_
    refine c_getR C u 3 dc_Wa_makeSamples_101 hu rfl rfl (Nat.le_of_ble_eq_true rfl) f_Wa_21 rfl hp.1 ?_
    have hp := hp.2
    refine a_bipush (v := 8) C dc_Wa_makeSamples_104 (by decide) ?_
    refine a_iload C dc_Wa_makeSamples_106 rfl ?_
    refine a_imul C dc_Wa_makeSamples_108 ?_
    refine a_iload_n C dc_Wa_makeSamples_109 rfl rfl ?_
    refine a_iadd C dc_Wa_makeSamples_110 ?_
    have hc3 := hp.1
    have hp := hp.2
    refine c_lald C (S.2.2 u 3) dc_Wa_makeSamples_111 hc3 hp.1 ?_
    have hp := hp.2
    refine a_lmul C dc_Wa_makeSamples_112 ?_
    refine a_ladd C dc_Wa_makeSamples_113 ?_
    refine a_lstore (lo' := [some (.ref (oa u)), some (.int x1), some (.int x2), some (.int x3), some (.long (x4 + (((S.1 (S.2.2 u 0) ((8 * x6) + x2).toNatClampNeg).toInt64) * (S.2.1 (S.2.2 u 3) ((8 * x6) + x3).toNatClampNeg)))), none, some (.int x6)]) C dc_Wa_makeSamples_114 (by decide) rfl ?_
    refine a_iinc (v := x6 + 1) (lo' := [some (.ref (oa u)), some (.int x1), some (.int x2), some (.int x3), some (.long (x4 + (((S.1 (S.2.2 u 0) ((8 * x6) + x2).toNatClampNeg).toInt64) * (S.2.1 (S.2.2 u 3) ((8 * x6) + x3).toNatClampNeg)))), none, some (.int (x6 + 1))]) C dc_Wa_makeSamples_116 rfl rfl (by decide) rfl ?_
    refine a_goto (tgt := 79) C dc_Wa_makeSamples_119 (by decide) ?_
    refine aw_lo (lo' := [some (.ref (oa u)), some (.int x1), some (.int x2), some (.int x3), some (.long (x4 + (((S.1 (S.2.2 u 0) ((8 * x6) + x2).toNatClampNeg).toInt64) * (S.2.1 (S.2.2 u 3) ((8 * x6) + x3).toNatClampNeg)))), none, some (.int (x6 + 1))]) ⟨.inr rfl, .inr rfl, .inr rfl, .inr rfl, .inr rfl, .inr rfl, .inr rfl, trivial⟩ ?_
    exact hR79 x1 x2 x3 (x4 + (((S.1 (S.2.2 u 0) ((8 * x6) + x2).toNatClampNeg).toInt64) * (S.2.1 (S.2.2 u 3) ((8 * x6) + x3).toNatClampNeg))) (x6 + 1) S hp
set_option maxRecDepth 100000 in
set_option maxHeartbeats 1000000 in
theorem se_Wa_makeSamples_79 (C : fcx gG D z A X R_Wa c_C_Wa_makeSamples 7 (none)) (hQ : X.2.2.2.2.2.2.2.2.2.2 = eQ gG D z X.2.2.2.2.2.2.2.1 X.2.2.2.2.1 L0 0 0 (pC_v lt_C U oa K (fun _ _ => False))) (hA : A = owA gG L0 X.2.2.2.2.1.heap.size) (hR : X.2.2.2.1 = { frames := 3, cells := 1, slots := 6, locals := 300 }) (hu : c_cl U u = 12) (x1 : Int32) (x2 : Int32) (x3 : Int32) (x4 : Int64) (x6 : Int32) (S : cs) (R57 : Int32 → Int32 → cs → Prop) (hR57 : ∀ yx1 yx2 yS, R57 yx1 yx2 yS → aw gG D z A X 7 57 [some (.ref (oa u)), some (.int yx1), some (.int yx2), none, none, none, none] [] (cw lt_C U oa yS) 0 0) (R65 : Int32 → Int32 → Int32 → cs → Prop) (hR65 : ∀ yx1 yx2 yx3 yS, R65 yx1 yx2 yx3 yS → aw gG D z A X 7 65 [some (.ref (oa u)), some (.int yx1), some (.int yx2), some (.int yx3), none, none, none] [] (cw lt_C U oa yS) 0 0) (hp : e_Wa_makeSamples_79 U u x1 x2 x3 x4 x6 S R57 R65 K) : aw gG D z A X 7 79 [some (.ref (oa u)), some (.int x1), some (.int x2), some (.int x3), some (.long x4), none, some (.int x6)] [] (cw lt_C U oa S) 0 0 := by
  obtain ⟨I, μ, h0, hs⟩ := hp
  have key : ∀ (n : Nat) (yx1 : Int32) (yx2 : Int32) (yx3 : Int32) (yx4 : Int64) (yx6 : Int32) (yS : cs), μ yx1 yx2 yx3 yx4 yx6 yS < n → I yx1 yx2 yx3 yx4 yx6 yS → aw gG D z A X 7 79 [some (.ref (oa u)), some (.int yx1), some (.int yx2), some (.int yx3), some (.long yx4), none, some (.int yx6)] [] (cw lt_C U oa yS) 0 0 := by
    intro n
    induction n with
    | zero => intro yx1 yx2 yx3 yx4 yx6 yS h; omega
    | succ n ih =>
      intro yx1 yx2 yx3 yx4 yx6 yS hn hI
      exact s_Wa_makeSamples_79 C hQ hA hR hu yx1 yx2 yx3 yx4 yx6 yS R57 hR57 R65 hR65 _ (fun zx1 zx2 zx3 zx4 zx6 zS hw => ih zx1 zx2 zx3 zx4 zx6 zS (by omega) hw.1) (hs yx1 yx2 yx3 yx4 yx6 yS hI)
  exact key (μ x1 x2 x3 x4 x6 S + 1) x1 x2 x3 x4 x6 S (Nat.lt_succ_self _) h0
set_option maxRecDepth 100000 in
set_option maxHeartbeats 1000000 in
theorem s_Wa_makeSamples_65 (C : fcx gG D z A X R_Wa c_C_Wa_makeSamples 7 (none)) (hQ : X.2.2.2.2.2.2.2.2.2.2 = eQ gG D z X.2.2.2.2.2.2.2.1 X.2.2.2.2.1 L0 0 0 (pC_v lt_C U oa K (fun _ _ => False))) (hA : A = owA gG L0 X.2.2.2.2.1.heap.size) (hR : X.2.2.2.1 = { frames := 3, cells := 1, slots := 6, locals := 300 }) (hu : c_cl U u = 12) (x1 : Int32) (x2 : Int32) (x3 : Int32) (S : cs) (R57 : Int32 → Int32 → cs → Prop) (hR57 : ∀ yx1 yx2 yS, R57 yx1 yx2 yS → aw gG D z A X 7 57 [some (.ref (oa u)), some (.int yx1), some (.int yx2), none, none, none, none] [] (cw lt_C U oa yS) 0 0) (R65 : Int32 → Int32 → Int32 → cs → Prop) (hR65 : ∀ yx1 yx2 yx3 yS, R65 yx1 yx2 yx3 yS → aw gG D z A X 7 65 [some (.ref (oa u)), some (.int yx1), some (.int yx2), some (.int yx3), none, none, none] [] (cw lt_C U oa yS) 0 0) (hp : b_Wa_makeSamples_65 U u x1 x2 x3 S R57 R65 K) : aw gG D z A X 7 65 [some (.ref (oa u)), some (.int x1), some (.int x2), some (.int x3), none, none, none] [] (cw lt_C U oa S) 0 0 := by
  unfold b_Wa_makeSamples_65 at hp
  refine a_iload_n C dc_Wa_makeSamples_65 rfl rfl ?_
  refine a_bipush (v := 8) C dc_Wa_makeSamples_66 (by decide) ?_
  refine a_icmp_ge (tgt := 156) C dc_Wa_makeSamples_68 (by decide) ⟨fun hc => ?_, fun hc => ?_⟩
  · have hp := hp.1 hc
    refine a_iinc (v := x2 + 1) (lo' := [some (.ref (oa u)), some (.int x1), some (.int (x2 + 1)), some (.int x3), none, none, none]) C dc_Wa_makeSamples_156 rfl rfl (by decide) rfl ?_
    refine a_goto (tgt := 57) C dc_Wa_makeSamples_159 (by decide) ?_
    refine aw_lo (lo' := [some (.ref (oa u)), some (.int x1), some (.int (x2 + 1)), none, none, none, none]) ⟨.inr rfl, .inr rfl, .inr rfl, .inl rfl, .inr rfl, .inr rfl, .inr rfl, trivial⟩ ?_
    exact hR57 x1 (x2 + 1) S hp
  · have hp := hp.2 hc
    refine a_ldc2 (v := 65536) C dc_Wa_makeSamples_71 k_Wa_32 ?_
    refine a_lstore (lo' := [some (.ref (oa u)), some (.int x1), some (.int x2), some (.int x3), some (.long 65536), none, none]) C dc_Wa_makeSamples_74 (by decide) rfl ?_
    refine a_iconst (v := 0) C dc_Wa_makeSamples_76 (by decide) ?_
    refine a_istore (lo' := [some (.ref (oa u)), some (.int x1), some (.int x2), some (.int x3), some (.long 65536), none, some (.int 0)]) C dc_Wa_makeSamples_77 (by decide) rfl ?_
    refine aw_lo (lo' := [some (.ref (oa u)), some (.int x1), some (.int x2), some (.int x3), some (.long 65536), none, some (.int 0)]) ⟨.inr rfl, .inr rfl, .inr rfl, .inr rfl, .inr rfl, .inr rfl, .inr rfl, trivial⟩ ?_
    exact se_Wa_makeSamples_79 C hQ hA hR hu x1 x2 x3 65536 0 S R57 hR57 R65 hR65 hp
set_option maxRecDepth 100000 in
set_option maxHeartbeats 1000000 in
theorem se_Wa_makeSamples_65 (C : fcx gG D z A X R_Wa c_C_Wa_makeSamples 7 (none)) (hQ : X.2.2.2.2.2.2.2.2.2.2 = eQ gG D z X.2.2.2.2.2.2.2.1 X.2.2.2.2.1 L0 0 0 (pC_v lt_C U oa K (fun _ _ => False))) (hA : A = owA gG L0 X.2.2.2.2.1.heap.size) (hR : X.2.2.2.1 = { frames := 3, cells := 1, slots := 6, locals := 300 }) (hu : c_cl U u = 12) (x1 : Int32) (x2 : Int32) (x3 : Int32) (S : cs) (R57 : Int32 → Int32 → cs → Prop) (hR57 : ∀ yx1 yx2 yS, R57 yx1 yx2 yS → aw gG D z A X 7 57 [some (.ref (oa u)), some (.int yx1), some (.int yx2), none, none, none, none] [] (cw lt_C U oa yS) 0 0) (hp : e_Wa_makeSamples_65 U u x1 x2 x3 S R57 K) : aw gG D z A X 7 65 [some (.ref (oa u)), some (.int x1), some (.int x2), some (.int x3), none, none, none] [] (cw lt_C U oa S) 0 0 := by
  obtain ⟨I, μ, h0, hs⟩ := hp
  have key : ∀ (n : Nat) (yx1 : Int32) (yx2 : Int32) (yx3 : Int32) (yS : cs), μ yx1 yx2 yx3 yS < n → I yx1 yx2 yx3 yS → aw gG D z A X 7 65 [some (.ref (oa u)), some (.int yx1), some (.int yx2), some (.int yx3), none, none, none] [] (cw lt_C U oa yS) 0 0 := by
    intro n
    induction n with
    | zero => intro yx1 yx2 yx3 yS h; omega
    | succ n ih =>
      intro yx1 yx2 yx3 yS hn hI
      exact s_Wa_makeSamples_65 C hQ hA hR hu yx1 yx2 yx3 yS R57 hR57 _ (fun zx1 zx2 zx3 zS hw => ih zx1 zx2 zx3 zS (by omega) hw.1) (hs yx1 yx2 yx3 yS hI)
  exact key (μ x1 x2 x3 S + 1) x1 x2 x3 S (Nat.lt_succ_self _) h0
set_option maxRecDepth 100000 in
set_option maxHeartbeats 1000000 in
theorem s_Wa_makeSamples_57 (C : fcx gG D z A X R_Wa c_C_Wa_makeSamples 7 (none)) (hQ : X.2.2.2.2.2.2.2.2.2.2 = eQ gG D z X.2.2.2.2.2.2.2.1 X.2.2.2.2.1 L0 0 0 (pC_v lt_C U oa K (fun _ _ => False))) (hA : A = owA gG L0 X.2.2.2.2.1.heap.size) (hR : X.2.2.2.1 = { frames := 3, cells := 1, slots := 6, locals := 300 }) (hu : c_cl U u = 12) (x1 : Int32) (x2 : Int32) (S : cs) (R57 : Int32 → Int32 → cs → Prop) (hR57 : ∀ yx1 yx2 yS, R57 yx1 yx2 yS → aw gG D z A X 7 57 [some (.ref (oa u)), some (.int yx1), some (.int yx2), none, none, none, none] [] (cw lt_C U oa yS) 0 0) (hp : b_Wa_makeSamples_57 U u x1 x2 S R57 K) : aw gG D z A X 7 57 [some (.ref (oa u)), some (.int x1), some (.int x2), none, none, none, none] [] (cw lt_C U oa S) 0 0 := by
  unfold b_Wa_makeSamples_57 at hp
  refine a_iload_n C dc_Wa_makeSamples_57 rfl rfl ?_
  refine a_bipush (v := 8) C dc_Wa_makeSamples_58 (by decide) ?_
  refine a_icmp_ge (tgt := 162) C dc_Wa_makeSamples_60 (by decide) ⟨fun hc => ?_, fun hc => ?_⟩
  · have hp := hp.1 hc
    exact a_vret C hQ hA dc_Wa_makeSamples_162 rfl (Or.inl ⟨S, hp, rfl, rfl⟩)
  · have hp := hp.2 hc
    refine a_iconst (v := 0) C dc_Wa_makeSamples_63 (by decide) ?_
    refine a_istore_n (lo' := [some (.ref (oa u)), some (.int x1), some (.int x2), some (.int 0), none, none, none]) C dc_Wa_makeSamples_64 rfl (by decide) rfl ?_
    refine aw_lo (lo' := [some (.ref (oa u)), some (.int x1), some (.int x2), some (.int 0), none, none, none]) ⟨.inr rfl, .inr rfl, .inr rfl, .inr rfl, .inr rfl, .inr rfl, .inr rfl, trivial⟩ ?_
    exact se_Wa_makeSamples_65 C hQ hA hR hu x1 x2 0 S R57 hR57 hp
set_option maxRecDepth 100000 in
set_option maxHeartbeats 1000000 in
theorem se_Wa_makeSamples_57 (C : fcx gG D z A X R_Wa c_C_Wa_makeSamples 7 (none)) (hQ : X.2.2.2.2.2.2.2.2.2.2 = eQ gG D z X.2.2.2.2.2.2.2.1 X.2.2.2.2.1 L0 0 0 (pC_v lt_C U oa K (fun _ _ => False))) (hA : A = owA gG L0 X.2.2.2.2.1.heap.size) (hR : X.2.2.2.1 = { frames := 3, cells := 1, slots := 6, locals := 300 }) (hu : c_cl U u = 12) (x1 : Int32) (x2 : Int32) (S : cs) (hp : e_Wa_makeSamples_57 U u x1 x2 S K) : aw gG D z A X 7 57 [some (.ref (oa u)), some (.int x1), some (.int x2), none, none, none, none] [] (cw lt_C U oa S) 0 0 := by
  obtain ⟨I, μ, h0, hs⟩ := hp
  have key : ∀ (n : Nat) (yx1 : Int32) (yx2 : Int32) (yS : cs), μ yx1 yx2 yS < n → I yx1 yx2 yS → aw gG D z A X 7 57 [some (.ref (oa u)), some (.int yx1), some (.int yx2), none, none, none, none] [] (cw lt_C U oa yS) 0 0 := by
    intro n
    induction n with
    | zero => intro yx1 yx2 yS h; omega
    | succ n ih =>
      intro yx1 yx2 yS hn hI
      exact s_Wa_makeSamples_57 C hQ hA hR hu yx1 yx2 yS _ (fun zx1 zx2 zS hw => ih zx1 zx2 zS (by omega) hw.1) (hs yx1 yx2 yS hI)
  exact key (μ x1 x2 S + 1) x1 x2 S (Nat.lt_succ_self _) h0
set_option maxRecDepth 100000 in
set_option maxHeartbeats 1000000 in
theorem s_Wa_makeSamples_49 (C : fcx gG D z A X R_Wa c_C_Wa_makeSamples 7 (none)) (hQ : X.2.2.2.2.2.2.2.2.2.2 = eQ gG D z X.2.2.2.2.2.2.2.1 X.2.2.2.2.1 L0 0 0 (pC_v lt_C U oa K (fun _ _ => False))) (hA : A = owA gG L0 X.2.2.2.2.1.heap.size) (hR : X.2.2.2.1 = { frames := 3, cells := 1, slots := 6, locals := 300 }) (hu : c_cl U u = 12) (x1 : Int32) (x2 : Int32) (S : cs) (R4 : Int32 → Int32 → cs → Prop) (hR4 : ∀ yx1 yx2 yS, R4 yx1 yx2 yS → aw gG D z A X 7 4 [some (.ref (oa u)), some (.int yx1), some (.int yx2), none, none, none, none] [] (cw lt_C U oa yS) 0 0) (hp : b_Wa_makeSamples_49 U u x1 x2 S R4 K) : aw gG D z A X 7 49 [some (.ref (oa u)), some (.int x1), some (.int x2), none, none, none, none] [] (cw lt_C U oa S) 0 0 := by
  unfold b_Wa_makeSamples_49 at hp
  refine a_iinc (v := x2 + 1) (lo' := [some (.ref (oa u)), some (.int x1), some (.int (x2 + 1)), none, none, none, none]) C dc_Wa_makeSamples_49 rfl rfl (by decide) rfl ?_
  refine a_goto (tgt := 4) C dc_Wa_makeSamples_52 (by decide) ?_
  refine aw_lo (lo' := [some (.ref (oa u)), some (.int x1), some (.int (x2 + 1)), none, none, none, none]) ⟨.inr rfl, .inr rfl, .inr rfl, .inr rfl, .inr rfl, .inr rfl, .inr rfl, trivial⟩ ?_
  exact hR4 x1 (x2 + 1) S hp
set_option maxRecDepth 100000 in
set_option maxHeartbeats 1000000 in
theorem s_Wa_makeSamples_4 (C : fcx gG D z A X R_Wa c_C_Wa_makeSamples 7 (none)) (hQ : X.2.2.2.2.2.2.2.2.2.2 = eQ gG D z X.2.2.2.2.2.2.2.1 X.2.2.2.2.1 L0 0 0 (pC_v lt_C U oa K (fun _ _ => False))) (hA : A = owA gG L0 X.2.2.2.2.1.heap.size) (hR : X.2.2.2.1 = { frames := 3, cells := 1, slots := 6, locals := 300 }) (hu : c_cl U u = 12) (x1 : Int32) (x2 : Int32) (S : cs) (R4 : Int32 → Int32 → cs → Prop) (hR4 : ∀ yx1 yx2 yS, R4 yx1 yx2 yS → aw gG D z A X 7 4 [some (.ref (oa u)), some (.int yx1), some (.int yx2), none, none, none, none] [] (cw lt_C U oa yS) 0 0) (hp : b_Wa_makeSamples_4 U u x1 x2 S R4 K) : aw gG D z A X 7 4 [some (.ref (oa u)), some (.int x1), some (.int x2), none, none, none, none] [] (cw lt_C U oa S) 0 0 := by
  unfold b_Wa_makeSamples_4 at hp
  refine a_iload_n C dc_Wa_makeSamples_4 rfl rfl ?_
  refine a_bipush (v := 8) C dc_Wa_makeSamples_5 (by decide) ?_
  refine a_icmp_ge (tgt := 55) C dc_Wa_makeSamples_7 (by decide) ⟨fun hc => ?_, fun hc => ?_⟩
  · have hp := hp.1 hc
    refine a_iconst (v := 0) C dc_Wa_makeSamples_55 (by decide) ?_
    refine a_istore_n (lo' := [some (.ref (oa u)), some (.int x1), some (.int 0), none, none, none, none]) C dc_Wa_makeSamples_56 rfl (by decide) rfl ?_
    refine aw_lo (lo' := [some (.ref (oa u)), some (.int x1), some (.int 0), none, none, none, none]) ⟨.inr rfl, .inr rfl, .inr rfl, .inr rfl, .inr rfl, .inr rfl, .inr rfl, trivial⟩ ?_
    exact se_Wa_makeSamples_57 C hQ hA hR hu x1 0 S  hp
  · have hp := hp.2 hc
    refine a_aload_n C dc_Wa_makeSamples_10 rfl rfl ?_
    refine a_iload_n C dc_Wa_makeSamples_11 rfl rfl ?_
    refine c_call (rest := []) (av := .ref (oa u) :: [.int x2]) C dc_Wa_makeSamples_12 (ct_Wa_hasWeights u x2 S hu hp) cd_C_Wa_hasWeights i_Wa (Nat.le_of_ble_eq_true rfl) (by rw [hR]; exact Nat.le_of_ble_eq_true rfl) (by rw [hR]; exact Nat.le_of_ble_eq_true rfl) (by rw [hR]; exact Nat.le_of_ble_eq_true rfl) (by rw [hR]; exact Nat.le_of_ble_eq_true rfl) (inv_V C u dc_Wa_makeSamples_12 l_Wa_34 im_C_Wa_hasWeights se_C_Wa_hasWeights cd_C_Wa_hasWeights ⟨by decide, by decide⟩ ln_C_Wa_hasWeights rfl rfl (cw_obj hu rfl) rfl rfl) (fun oc L1 hL => ?_)
    obtain ⟨v12, S12, hp, rfl, rfl⟩ := hL.resolve_right pC_no
    refine ⟨_, rfl, ?_⟩
    refine aw_eq (lo' := _) (st' := [.int v12]) (L' := (cw lt_C U oa S12)) rfl rfl rfl ?_
    refine a_if_eq (tgt := 30) C dc_Wa_makeSamples_15 (by decide) ⟨fun hc => ?_, fun hc => ?_⟩
    · have hp := hp.1 hc
      refine a_aload_n C dc_Wa_makeSamples_30 rfl rfl ?_
      refine c_getR C u 3 dc_Wa_makeSamples_31 hu rfl rfl (Nat.le_of_ble_eq_true rfl) f_Wa_21 rfl hp.1 ?_
      have hp := hp.2
      refine a_bipush (v := 8) C dc_Wa_makeSamples_34 (by decide) ?_
      refine a_iload_n C dc_Wa_makeSamples_36 rfl rfl ?_
      refine a_imul C dc_Wa_makeSamples_37 ?_
      refine a_bipush (v := 8) C dc_Wa_makeSamples_38 (by decide) ?_
      refine a_iload_n C dc_Wa_makeSamples_40 rfl rfl ?_
      refine a_imul C dc_Wa_makeSamples_41 ?_
      refine a_bipush (v := 8) C dc_Wa_makeSamples_42 (by decide) ?_
      refine a_iadd C dc_Wa_makeSamples_44 ?_
      refine a_lconst (v := 0) C dc_Wa_makeSamples_45 (by decide) ?_
      refine c_call (rest := []) (av := [.ref (oa (S12.2.2 u 3)), .int (8 * x2), .int ((8 * x2) + 8), .long 0]) C dc_Wa_makeSamples_46 (ct_Ar_fillJ (S12.2.2 u 3) (8 * x2) ((8 * x2) + 8) 0 S12  hp) cd_C_Ar_fillJ i_Ar (Nat.le_of_ble_eq_true rfl) (by rw [hR]; exact Nat.le_of_ble_eq_true rfl) (by rw [hR]; exact Nat.le_of_ble_eq_true rfl) (by rw [hR]; exact Nat.le_of_ble_eq_true rfl) (by rw [hR]; exact Nat.le_of_ble_eq_true rfl) (inv_S C dc_Wa_makeSamples_46 l_Wa_42 st_C_Ar_fillJ i_Ar cd_C_Ar_fillJ ⟨by decide, by decide⟩ ln_C_Ar_fillJ rfl) (fun oc L1 hL => ?_)
      obtain ⟨S46, hp, rfl, rfl⟩ := hL.resolve_right pC_no
      refine ⟨_, rfl, ?_⟩
      refine aw_eq (lo' := _) (st' := []) (L' := (cw lt_C U oa S46)) rfl rfl rfl ?_
      refine aw_lo (lo' := [some (.ref (oa u)), some (.int x1), some (.int x2), none, none, none, none]) ⟨.inr rfl, .inr rfl, .inr rfl, .inr rfl, .inr rfl, .inr rfl, .inr rfl, trivial⟩ ?_
      exact s_Wa_makeSamples_49 C hQ hA hR hu x1 x2 S46 R4 hR4 hp
    · have hp := hp.2 hc
      refine a_aload_n C dc_Wa_makeSamples_18 rfl rfl ?_
      refine a_iload_n C dc_Wa_makeSamples_19 rfl rfl ?_
      refine c_call (rest := []) (av := .ref (oa u) :: [.int x2]) C dc_Wa_makeSamples_20 (ct_Wa_makeRow u x2 S12 hu hp) cd_C_Wa_makeRow i_Wa (Nat.le_of_ble_eq_true rfl) (by rw [hR]; exact Nat.le_of_ble_eq_true rfl) (by rw [hR]; exact Nat.le_of_ble_eq_true rfl) (by rw [hR]; exact Nat.le_of_ble_eq_true rfl) (by rw [hR]; exact Nat.le_of_ble_eq_true rfl) (inv_V C u dc_Wa_makeSamples_20 l_Wa_38 im_C_Wa_makeRow se_C_Wa_makeRow cd_C_Wa_makeRow ⟨by decide, by decide⟩ ln_C_Wa_makeRow rfl rfl (cw_obj hu rfl) rfl rfl) (fun oc L1 hL => ?_)
      obtain ⟨S20, hp, rfl, rfl⟩ := hL.resolve_right pC_no
      refine ⟨_, rfl, ?_⟩
      refine aw_eq (lo' := _) (st' := []) (L' := (cw lt_C U oa S20)) rfl rfl rfl ?_
      refine a_iload_n C dc_Wa_makeSamples_23 rfl rfl ?_
      refine a_iconst (v := 1) C dc_Wa_makeSamples_24 (by decide) ?_
      refine a_iadd C dc_Wa_makeSamples_25 ?_
      refine a_istore_n (lo' := [some (.ref (oa u)), some (.int (x2 + 1)), some (.int x2), none, none, none, none]) C dc_Wa_makeSamples_26 rfl (by decide) rfl ?_
      refine a_goto (tgt := 49) C dc_Wa_makeSamples_27 (by decide) ?_
      refine aw_lo (lo' := [some (.ref (oa u)), some (.int (x2 + 1)), some (.int x2), none, none, none, none]) ⟨.inr rfl, .inr rfl, .inr rfl, .inr rfl, .inr rfl, .inr rfl, .inr rfl, trivial⟩ ?_
      exact s_Wa_makeSamples_49 C hQ hA hR hu (x2 + 1) x2 S20 R4 hR4 hp
set_option maxRecDepth 100000 in
set_option maxHeartbeats 1000000 in
theorem se_Wa_makeSamples_4 (C : fcx gG D z A X R_Wa c_C_Wa_makeSamples 7 (none)) (hQ : X.2.2.2.2.2.2.2.2.2.2 = eQ gG D z X.2.2.2.2.2.2.2.1 X.2.2.2.2.1 L0 0 0 (pC_v lt_C U oa K (fun _ _ => False))) (hA : A = owA gG L0 X.2.2.2.2.1.heap.size) (hR : X.2.2.2.1 = { frames := 3, cells := 1, slots := 6, locals := 300 }) (hu : c_cl U u = 12) (x1 : Int32) (x2 : Int32) (S : cs) (hp : e_Wa_makeSamples_4 U u x1 x2 S K) : aw gG D z A X 7 4 [some (.ref (oa u)), some (.int x1), some (.int x2), none, none, none, none] [] (cw lt_C U oa S) 0 0 := by
  obtain ⟨I, μ, h0, hs⟩ := hp
  have key : ∀ (n : Nat) (yx1 : Int32) (yx2 : Int32) (yS : cs), μ yx1 yx2 yS < n → I yx1 yx2 yS → aw gG D z A X 7 4 [some (.ref (oa u)), some (.int yx1), some (.int yx2), none, none, none, none] [] (cw lt_C U oa yS) 0 0 := by
    intro n
    induction n with
    | zero => intro yx1 yx2 yS h; omega
    | succ n ih =>
      intro yx1 yx2 yS hn hI
      exact s_Wa_makeSamples_4 C hQ hA hR hu yx1 yx2 yS _ (fun zx1 zx2 zS hw => ih zx1 zx2 zS (by omega) hw.1) (hs yx1 yx2 yS hI)
  exact key (μ x1 x2 S + 1) x1 x2 S (Nat.lt_succ_self _) h0
set_option maxRecDepth 100000 in
set_option maxHeartbeats 1000000 in
theorem s_Wa_makeSamples_0 (C : fcx gG D z A X R_Wa c_C_Wa_makeSamples 7 (none)) (hQ : X.2.2.2.2.2.2.2.2.2.2 = eQ gG D z X.2.2.2.2.2.2.2.1 X.2.2.2.2.1 L0 0 0 (pC_v lt_C U oa K (fun _ _ => False))) (hA : A = owA gG L0 X.2.2.2.2.1.heap.size) (hR : X.2.2.2.1 = { frames := 3, cells := 1, slots := 6, locals := 300 }) (hu : c_cl U u = 12)  (S : cs) (hp : p_Wa_makeSamples U u S K) : aw gG D z A X 7 0 [some (.ref (oa u)), none, none, none, none, none, none] [] (cw lt_C U oa S) 0 0 := by
  unfold p_Wa_makeSamples at hp
  refine a_iconst (v := 0) C dc_Wa_makeSamples_0 (by decide) ?_
  refine a_istore_n (lo' := [some (.ref (oa u)), some (.int 0), none, none, none, none, none]) C dc_Wa_makeSamples_1 rfl (by decide) rfl ?_
  refine a_iconst (v := 0) C dc_Wa_makeSamples_2 (by decide) ?_
  refine a_istore_n (lo' := [some (.ref (oa u)), some (.int 0), some (.int 0), none, none, none, none]) C dc_Wa_makeSamples_3 rfl (by decide) rfl ?_
  refine aw_lo (lo' := [some (.ref (oa u)), some (.int 0), some (.int 0), none, none, none, none]) ⟨.inr rfl, .inr rfl, .inr rfl, .inr rfl, .inr rfl, .inr rfl, .inr rfl, trivial⟩ ?_
  exact se_Wa_makeSamples_4 C hQ hA hR hu 0 0 S  hp
end C_Wa_makeSamples
section C_Wa_makeSamplesc
variable {D : va_G} {z : Nat → ClassId} {U : ut} {oa : Nat → Nat}
set_option maxRecDepth 100000 in
theorem ct_Wa_makeSamples {l : Launch} (u : Nat)  (S : cs) {K : cs → Prop} (hu : c_cl U u = 12) (hp : p_Wa_makeSamples U u S K) : ct gG D z l n_C_Wa_makeSamples c_C_Wa_makeSamples 7 (none) 3 300 [.ref (oa u)] (cw lt_C U oa S) 0 0 (pC_v lt_C U oa K (fun _ _ => False)) := by
  refine ct_of (lo := [some (.ref (oa u)), none, none, none, none, none, none]) (by decide) g_ok (Nat.le_of_ble_eq_true rfl) rfl ?_
  intro X A _ C hR hQ hA _
  exact s_Wa_makeSamples_0 C hQ hA hR hu S hp
end C_Wa_makeSamplesc
def b_Pi_drawBlock_85 (U : ut) (u : Nat) (x1 : Nat) (x2 : Int32) (x3 : Int32) (x4 : Int32) (x6 : Int32) (S : cs) (R85 : Nat → Int32 → Int32 → Int32 → Int32 → cs → Prop) (K : cs → Prop) : Prop :=
  (64 ≤ x6 → (K S)) ∧ (¬ (64 ≤ x6) → (¬ S.2.2 u 15 = NU ∧ (p_B_spot x2 (x3 + (x6 - x6 / 8 * 8)) (x4 + (x6 / 8)) (fun v112 => c_cl U x1 = 12 ∧ (¬ S.2.2 x1 1 = NU ∧ (c_cl U (S.2.2 x1 1) = 902 ∧ (vp_in x6 (c_ln U (S.2.2 x1 1)) ∧ (c_cl U (S.2.2 u 15) = 902 ∧ (vp_in v112 (c_ln U (S.2.2 u 15)) ∧ (R85 x1 x2 x3 x4 (x6 + 1) (va_up S.1 (S.2.2 u 15) (upd (S.1 (S.2.2 u 15)) v112.toNatClampNeg (S.1 (S.2.2 x1 1) x6.toNatClampNeg)), S.2.1, S.2.2)))))))))))
def e_Pi_drawBlock_85 (U : ut) (u : Nat) (x1 : Nat) (x2 : Int32) (x3 : Int32) (x4 : Int32) (x6 : Int32) (S : cs) (K : cs → Prop) : Prop :=
  ∃ (I : Nat → Int32 → Int32 → Int32 → Int32 → cs → Prop) (μ : Nat → Int32 → Int32 → Int32 → Int32 → cs → Nat), I x1 x2 x3 x4 x6 S ∧ ∀ yx1 yx2 yx3 yx4 yx6 yS, I yx1 yx2 yx3 yx4 yx6 yS → b_Pi_drawBlock_85 U u yx1 yx2 yx3 yx4 yx6 yS (fun zx1 zx2 zx3 zx4 zx6 zS => I zx1 zx2 zx3 zx4 zx6 zS ∧ μ zx1 zx2 zx3 zx4 zx6 zS < μ yx1 yx2 yx3 yx4 yx6 yS) K
def b_Pi_drawBlock_31 (U : ut) (u : Nat) (x1 : Nat) (x2 : Int32) (x3 : Int32) (x4 : Int32) (x5 : Int32) (x6 : Int32) (S : cs) (R31 : Nat → Int32 → Int32 → Int32 → Int32 → Int32 → cs → Prop) (K : cs → Prop) : Prop :=
  (64 ≤ x6 → (c_cl U x1 = 12 ∧ (p_Wa_makeSamples U x1 S (fun S79 => e_Pi_drawBlock_85 U u x1 x2 x3 x4 0 S79 K)))) ∧ (¬ (64 ≤ x6) → (c_cl U x1 = 12 ∧ (¬ S.2.2 x1 2 = NU ∧ (vp_in x6 64 ∧ (¬ S.2.2 u 13 = NU ∧ (c_cl U (S.2.2 u 13) = 902 ∧ (vp_in (x5 + x6) (c_ln U (S.2.2 u 13)) ∧ (¬ S.2.2 u 14 = NU ∧ (c_cl U (S.2.2 u 14) = 902 ∧ (vp_in ((64 * x2) + x6) (c_ln U (S.2.2 u 14)) ∧ (c_cl U (S.2.2 x1 2) = 902 ∧ (vp_in (rw_at row_sl x6.toNatClampNeg) (c_ln U (S.2.2 x1 2)) ∧ (R31 x1 x2 x3 x4 x5 (x6 + 1) (va_up S.1 (S.2.2 x1 2) (upd (S.1 (S.2.2 x1 2)) (rw_at row_sl x6.toNatClampNeg).toNatClampNeg ((S.1 (S.2.2 u 13) (x5 + x6).toNatClampNeg) * (S.1 (S.2.2 u 14) ((64 * x2) + x6).toNatClampNeg))), S.2.1, S.2.2))))))))))))))
def e_Pi_drawBlock_31 (U : ut) (u : Nat) (x1 : Nat) (x2 : Int32) (x3 : Int32) (x4 : Int32) (x5 : Int32) (x6 : Int32) (S : cs) (K : cs → Prop) : Prop :=
  ∃ (I : Nat → Int32 → Int32 → Int32 → Int32 → Int32 → cs → Prop) (μ : Nat → Int32 → Int32 → Int32 → Int32 → Int32 → cs → Nat), I x1 x2 x3 x4 x5 x6 S ∧ ∀ yx1 yx2 yx3 yx4 yx5 yx6 yS, I yx1 yx2 yx3 yx4 yx5 yx6 yS → b_Pi_drawBlock_31 U u yx1 yx2 yx3 yx4 yx5 yx6 yS (fun zx1 zx2 zx3 zx4 zx5 zx6 zS => I zx1 zx2 zx3 zx4 zx5 zx6 zS ∧ μ zx1 zx2 zx3 zx4 zx5 zx6 zS < μ yx1 yx2 yx3 yx4 yx5 yx6 yS) K
def p_Pi_drawBlock (U : ut) (u : Nat) (x1 : Nat) (x2 : Int32) (x3 : Int32) (x4 : Int32) (S : cs) (K : cs → Prop) : Prop :=
  ¬ S.2.2 u 11 = NU ∧ (c_cl U (S.2.2 u 11) = 902 ∧ (vp_in x2 (c_ln U (S.2.2 u 11)) ∧ (e_Pi_drawBlock_31 U u x1 x2 x3 x4 ((4096 * x2) + (64 * (((x4 / 8) * (S.1 (S.2.2 u 11) x2.toNatClampNeg)) + (x3 / 8)))) 0 S K)))
section C_Pi_drawBlock
variable {D : va_G} {z : Nat → ClassId} {A : Nat → Prop} {X : cx} {L0 : fw} {U : ut} {oa : Nat → Nat} {u : Nat} {K : cs → Prop}
set_option maxRecDepth 100000 in
set_option maxHeartbeats 1000000 in
theorem s_Pi_drawBlock_85 (C : fcx gG D z A X R_Pi c_C_Pi_drawBlock 7 (none)) (hQ : X.2.2.2.2.2.2.2.2.2.2 = eQ gG D z X.2.2.2.2.2.2.2.1 X.2.2.2.2.1 L0 0 0 (pC_v lt_C U oa K (fun _ _ => False))) (hA : A = owA gG L0 X.2.2.2.2.1.heap.size) (hR : X.2.2.2.1 = { frames := 4, cells := 1, slots := 6, locals := 400 }) (hu : c_cl U u = 7) (x1 : Nat) (x2 : Int32) (x3 : Int32) (x4 : Int32) (x6 : Int32) (S : cs) (R85 : Nat → Int32 → Int32 → Int32 → Int32 → cs → Prop) (hR85 : ∀ yx1 yx2 yx3 yx4 yx6 yS, R85 yx1 yx2 yx3 yx4 yx6 yS → aw gG D z A X 7 85 [some (.ref (oa u)), some (.ref (oa yx1)), some (.int yx2), some (.int yx3), some (.int yx4), none, some (.int yx6)] [] (cw lt_C U oa yS) 0 0) (hp : b_Pi_drawBlock_85 U u x1 x2 x3 x4 x6 S R85 K) : aw gG D z A X 7 85 [some (.ref (oa u)), some (.ref (oa x1)), some (.int x2), some (.int x3), some (.int x4), none, some (.int x6)] [] (cw lt_C U oa S) 0 0 := by
  unfold b_Pi_drawBlock_85 at hp
  refine a_iload C dc_Pi_drawBlock_85 rfl ?_
  refine a_bipush (v := 64) C dc_Pi_drawBlock_87 (by decide) ?_
  refine a_icmp_ge (tgt := 129) C dc_Pi_drawBlock_89 (by decide) ⟨fun hc => ?_, fun hc => ?_⟩
  · have hp := hp.1 hc
    exact a_vret C hQ hA dc_Pi_drawBlock_129 rfl (Or.inl ⟨S, hp, rfl, rfl⟩)
  · have hp := hp.2 hc
    refine a_aload_n C dc_Pi_drawBlock_92 rfl rfl ?_
    refine c_getR C u 15 dc_Pi_drawBlock_93 hu rfl rfl (Nat.le_of_ble_eq_true rfl) f_Pi_58 rfl hp.1 ?_
    have hp := hp.2
    refine a_iload_n C dc_Pi_drawBlock_96 rfl rfl ?_
    refine a_iload_n C dc_Pi_drawBlock_97 rfl rfl ?_
    refine a_iload C dc_Pi_drawBlock_98 rfl ?_
    refine a_bipush (v := 8) C dc_Pi_drawBlock_100 (by decide) ?_
    refine a_irem C dc_Pi_drawBlock_102 (by decide) ?_
    refine a_iadd C dc_Pi_drawBlock_103 ?_
    refine a_iload C dc_Pi_drawBlock_104 rfl ?_
    refine a_iload C dc_Pi_drawBlock_106 rfl ?_
    refine a_bipush (v := 8) C dc_Pi_drawBlock_108 (by decide) ?_
    refine a_idiv C dc_Pi_drawBlock_110 (by decide) ?_
    refine a_iadd C dc_Pi_drawBlock_111 ?_
    refine a_callP (rest := [.ref (oa (S.2.2 u 15))]) (av := [.int x2, .int (x3 + (x6 - x6 / 8 * 8)), .int (x4 + (x6 / 8))]) C dc_Pi_drawBlock_112 (ct_B_spot x2 (x3 + (x6 - x6 / 8 * 8)) (x4 + (x6 / 8)) hp) cd_C_B_spot i_B (Nat.le_of_ble_eq_true rfl) (by rw [hR]; exact Nat.le_of_ble_eq_true rfl) (by rw [hR]; exact Nat.le_of_ble_eq_true rfl) (by rw [hR]; exact Nat.le_of_ble_eq_true rfl) (by rw [hR]; exact Nat.le_of_ble_eq_true rfl) (inv_SN C dc_Pi_drawBlock_112 l_Pi_99 st_C_B_spot i_B cd_C_B_spot ⟨by decide, by decide⟩ ln_C_B_spot rfl) (fun v112 hp => ?_)
    refine aw_eq (lo' := _) (st' := [.int v112, .ref (oa (S.2.2 u 15))]) (L' := (cw lt_C U oa S)) rfl rfl rfl ?_
    refine a_aload_n C dc_Pi_drawBlock_115 rfl rfl ?_
    have hc1 := hp.1
    have hp := hp.2
    refine c_getRN C x1 1 dc_Pi_drawBlock_116 hc1 rfl rfl (Nat.le_of_ble_eq_true rfl) f_Pi_103 rfl hp.1 ?_
    have hp := hp.2
    refine a_iload C dc_Pi_drawBlock_119 rfl ?_
    have hc2 := hp.1
    have hp := hp.2
    refine c_iald C (S.2.2 x1 1) dc_Pi_drawBlock_121 hc2 hp.1 ?_
    have hp := hp.2
    have hc3 := hp.1
    have hp := hp.2
    refine c_iast C (S.2.2 u 15) dc_Pi_drawBlock_122 hc3 hp.1 ?_
    have hp := hp.2
    refine aw_eq (lo' := _) (st' := _) (L' := (cw lt_C U oa (va_up S.1 (S.2.2 u 15) (upd (S.1 (S.2.2 u 15)) v112.toNatClampNeg (S.1 (S.2.2 x1 1) x6.toNatClampNeg)), S.2.1, S.2.2))) rfl rfl rfl ?_
    refine a_iinc (v := x6 + 1) (lo' := [some (.ref (oa u)), some (.ref (oa x1)), some (.int x2), some (.int x3), some (.int x4), none, some (.int (x6 + 1))]) C dc_Pi_drawBlock_123 rfl rfl (by decide) rfl ?_
    refine a_goto (tgt := 85) C dc_Pi_drawBlock_126 (by decide) ?_
    refine aw_lo (lo' := [some (.ref (oa u)), some (.ref (oa x1)), some (.int x2), some (.int x3), some (.int x4), none, some (.int (x6 + 1))]) ⟨.inr rfl, .inr rfl, .inr rfl, .inr rfl, .inr rfl, .inr rfl, .inr rfl, trivial⟩ ?_
    exact hR85 x1 x2 x3 x4 (x6 + 1) (va_up S.1 (S.2.2 u 15) (upd (S.1 (S.2.2 u 15)) v112.toNatClampNeg (S.1 (S.2.2 x1 1) x6.toNatClampNeg)), S.2.1, S.2.2) hp
set_option maxRecDepth 100000 in
set_option maxHeartbeats 1000000 in
theorem se_Pi_drawBlock_85 (C : fcx gG D z A X R_Pi c_C_Pi_drawBlock 7 (none)) (hQ : X.2.2.2.2.2.2.2.2.2.2 = eQ gG D z X.2.2.2.2.2.2.2.1 X.2.2.2.2.1 L0 0 0 (pC_v lt_C U oa K (fun _ _ => False))) (hA : A = owA gG L0 X.2.2.2.2.1.heap.size) (hR : X.2.2.2.1 = { frames := 4, cells := 1, slots := 6, locals := 400 }) (hu : c_cl U u = 7) (x1 : Nat) (x2 : Int32) (x3 : Int32) (x4 : Int32) (x6 : Int32) (S : cs) (hp : e_Pi_drawBlock_85 U u x1 x2 x3 x4 x6 S K) : aw gG D z A X 7 85 [some (.ref (oa u)), some (.ref (oa x1)), some (.int x2), some (.int x3), some (.int x4), none, some (.int x6)] [] (cw lt_C U oa S) 0 0 := by
  obtain ⟨I, μ, h0, hs⟩ := hp
  have key : ∀ (n : Nat) (yx1 : Nat) (yx2 : Int32) (yx3 : Int32) (yx4 : Int32) (yx6 : Int32) (yS : cs), μ yx1 yx2 yx3 yx4 yx6 yS < n → I yx1 yx2 yx3 yx4 yx6 yS → aw gG D z A X 7 85 [some (.ref (oa u)), some (.ref (oa yx1)), some (.int yx2), some (.int yx3), some (.int yx4), none, some (.int yx6)] [] (cw lt_C U oa yS) 0 0 := by
    intro n
    induction n with
    | zero => intro yx1 yx2 yx3 yx4 yx6 yS h; omega
    | succ n ih =>
      intro yx1 yx2 yx3 yx4 yx6 yS hn hI
      exact s_Pi_drawBlock_85 C hQ hA hR hu yx1 yx2 yx3 yx4 yx6 yS _ (fun zx1 zx2 zx3 zx4 zx6 zS hw => ih zx1 zx2 zx3 zx4 zx6 zS (by omega) hw.1) (hs yx1 yx2 yx3 yx4 yx6 yS hI)
  exact key (μ x1 x2 x3 x4 x6 S + 1) x1 x2 x3 x4 x6 S (Nat.lt_succ_self _) h0
set_option maxRecDepth 100000 in
set_option maxHeartbeats 1000000 in
theorem s_Pi_drawBlock_31 (C : fcx gG D z A X R_Pi c_C_Pi_drawBlock 7 (none)) (hQ : X.2.2.2.2.2.2.2.2.2.2 = eQ gG D z X.2.2.2.2.2.2.2.1 X.2.2.2.2.1 L0 0 0 (pC_v lt_C U oa K (fun _ _ => False))) (hA : A = owA gG L0 X.2.2.2.2.1.heap.size) (hR : X.2.2.2.1 = { frames := 4, cells := 1, slots := 6, locals := 400 }) (hu : c_cl U u = 7) (x1 : Nat) (x2 : Int32) (x3 : Int32) (x4 : Int32) (x5 : Int32) (x6 : Int32) (S : cs) (R31 : Nat → Int32 → Int32 → Int32 → Int32 → Int32 → cs → Prop) (hR31 : ∀ yx1 yx2 yx3 yx4 yx5 yx6 yS, R31 yx1 yx2 yx3 yx4 yx5 yx6 yS → aw gG D z A X 7 31 [some (.ref (oa u)), some (.ref (oa yx1)), some (.int yx2), some (.int yx3), some (.int yx4), some (.int yx5), some (.int yx6)] [] (cw lt_C U oa yS) 0 0) (hp : b_Pi_drawBlock_31 U u x1 x2 x3 x4 x5 x6 S R31 K) : aw gG D z A X 7 31 [some (.ref (oa u)), some (.ref (oa x1)), some (.int x2), some (.int x3), some (.int x4), some (.int x5), some (.int x6)] [] (cw lt_C U oa S) 0 0 := by
  unfold b_Pi_drawBlock_31 at hp
  refine a_iload C dc_Pi_drawBlock_31 rfl ?_
  refine a_bipush (v := 64) C dc_Pi_drawBlock_33 (by decide) ?_
  refine a_icmp_ge (tgt := 78) C dc_Pi_drawBlock_35 (by decide) ⟨fun hc => ?_, fun hc => ?_⟩
  · have hp := hp.1 hc
    refine a_aload_n C dc_Pi_drawBlock_78 rfl rfl ?_
    have hc4 := hp.1
    have hp := hp.2
    refine c_call (rest := []) (av := .ref (oa x1) :: []) C dc_Pi_drawBlock_79 (ct_Wa_makeSamples x1 S hc4 hp) cd_C_Wa_makeSamples i_Wa (Nat.le_of_ble_eq_true rfl) (by rw [hR]; exact Nat.le_of_ble_eq_true rfl) (by rw [hR]; exact Nat.le_of_ble_eq_true rfl) (by rw [hR]; exact Nat.le_of_ble_eq_true rfl) (by rw [hR]; exact Nat.le_of_ble_eq_true rfl) (inv_V C x1 dc_Pi_drawBlock_79 l_Pi_96 im_C_Wa_makeSamples se_C_Wa_makeSamples cd_C_Wa_makeSamples ⟨by decide, by decide⟩ ln_C_Wa_makeSamples rfl rfl (cw_obj hc4 rfl) rfl rfl) (fun oc L1 hL => ?_)
    obtain ⟨S79, hp, rfl, rfl⟩ := hL.resolve_right pC_no
    refine ⟨_, rfl, ?_⟩
    refine aw_eq (lo' := _) (st' := []) (L' := (cw lt_C U oa S79)) rfl rfl rfl ?_
    refine a_iconst (v := 0) C dc_Pi_drawBlock_82 (by decide) ?_
    refine a_istore (lo' := [some (.ref (oa u)), some (.ref (oa x1)), some (.int x2), some (.int x3), some (.int x4), some (.int x5), some (.int 0)]) C dc_Pi_drawBlock_83 (by decide) rfl ?_
    refine aw_lo (lo' := [some (.ref (oa u)), some (.ref (oa x1)), some (.int x2), some (.int x3), some (.int x4), none, some (.int 0)]) ⟨.inr rfl, .inr rfl, .inr rfl, .inr rfl, .inr rfl, .inl rfl, .inr rfl, trivial⟩ ?_
    exact se_Pi_drawBlock_85 C hQ hA hR hu x1 x2 x3 x4 0 S79  hp
  · have hp := hp.2 hc
    refine a_aload_n C dc_Pi_drawBlock_38 rfl rfl ?_
    have hc5 := hp.1
    have hp := hp.2
    refine c_getRN C x1 2 dc_Pi_drawBlock_39 hc5 rfl rfl (Nat.le_of_ble_eq_true rfl) f_Pi_88 rfl hp.1 ?_
    have hp := hp.2
    obtain ⟨t42, hZ42, hT42⟩ := C.sx.1
    refine a_getsN C dc_Pi_drawBlock_42 hZ42 f_Pi_93 ?_
    refine a_iload C dc_Pi_drawBlock_45 rfl ?_
    refine a_tld C dc_Pi_drawBlock_47 hT42 hp.1 ?_
    have hp := hp.2
    refine a_aload_n C dc_Pi_drawBlock_48 rfl rfl ?_
    refine c_getR C u 13 dc_Pi_drawBlock_49 hu rfl rfl (Nat.le_of_ble_eq_true rfl) f_Pi_52 rfl hp.1 ?_
    have hp := hp.2
    refine a_iload C dc_Pi_drawBlock_52 rfl ?_
    refine a_iload C dc_Pi_drawBlock_54 rfl ?_
    refine a_iadd C dc_Pi_drawBlock_56 ?_
    have hc6 := hp.1
    have hp := hp.2
    refine c_iald C (S.2.2 u 13) dc_Pi_drawBlock_57 hc6 hp.1 ?_
    have hp := hp.2
    refine a_aload_n C dc_Pi_drawBlock_58 rfl rfl ?_
    refine c_getR C u 14 dc_Pi_drawBlock_59 hu rfl rfl (Nat.le_of_ble_eq_true rfl) f_Pi_55 rfl hp.1 ?_
    have hp := hp.2
    refine a_bipush (v := 64) C dc_Pi_drawBlock_62 (by decide) ?_
    refine a_iload_n C dc_Pi_drawBlock_64 rfl rfl ?_
    refine a_imul C dc_Pi_drawBlock_65 ?_
    refine a_iload C dc_Pi_drawBlock_66 rfl ?_
    refine a_iadd C dc_Pi_drawBlock_68 ?_
    have hc7 := hp.1
    have hp := hp.2
    refine c_iald C (S.2.2 u 14) dc_Pi_drawBlock_69 hc7 hp.1 ?_
    have hp := hp.2
    refine a_imul C dc_Pi_drawBlock_70 ?_
    have hc8 := hp.1
    have hp := hp.2
    refine c_iast C (S.2.2 x1 2) dc_Pi_drawBlock_71 hc8 hp.1 ?_
    have hp := hp.2
    refine aw_eq (lo' := _) (st' := _) (L' := (cw lt_C U oa (va_up S.1 (S.2.2 x1 2) (upd (S.1 (S.2.2 x1 2)) (rw_at row_sl x6.toNatClampNeg).toNatClampNeg ((S.1 (S.2.2 u 13) (x5 + x6).toNatClampNeg) * (S.1 (S.2.2 u 14) ((64 * x2) + x6).toNatClampNeg))), S.2.1, S.2.2))) rfl rfl rfl ?_
    refine a_iinc (v := x6 + 1) (lo' := [some (.ref (oa u)), some (.ref (oa x1)), some (.int x2), some (.int x3), some (.int x4), some (.int x5), some (.int (x6 + 1))]) C dc_Pi_drawBlock_72 rfl rfl (by decide) rfl ?_
    refine a_goto (tgt := 31) C dc_Pi_drawBlock_75 (by decide) ?_
    refine aw_lo (lo' := [some (.ref (oa u)), some (.ref (oa x1)), some (.int x2), some (.int x3), some (.int x4), some (.int x5), some (.int (x6 + 1))]) ⟨.inr rfl, .inr rfl, .inr rfl, .inr rfl, .inr rfl, .inr rfl, .inr rfl, trivial⟩ ?_
    exact hR31 x1 x2 x3 x4 x5 (x6 + 1) (va_up S.1 (S.2.2 x1 2) (upd (S.1 (S.2.2 x1 2)) (rw_at row_sl x6.toNatClampNeg).toNatClampNeg ((S.1 (S.2.2 u 13) (x5 + x6).toNatClampNeg) * (S.1 (S.2.2 u 14) ((64 * x2) + x6).toNatClampNeg))), S.2.1, S.2.2) hp
set_option maxRecDepth 100000 in
set_option maxHeartbeats 1000000 in
theorem se_Pi_drawBlock_31 (C : fcx gG D z A X R_Pi c_C_Pi_drawBlock 7 (none)) (hQ : X.2.2.2.2.2.2.2.2.2.2 = eQ gG D z X.2.2.2.2.2.2.2.1 X.2.2.2.2.1 L0 0 0 (pC_v lt_C U oa K (fun _ _ => False))) (hA : A = owA gG L0 X.2.2.2.2.1.heap.size) (hR : X.2.2.2.1 = { frames := 4, cells := 1, slots := 6, locals := 400 }) (hu : c_cl U u = 7) (x1 : Nat) (x2 : Int32) (x3 : Int32) (x4 : Int32) (x5 : Int32) (x6 : Int32) (S : cs) (hp : e_Pi_drawBlock_31 U u x1 x2 x3 x4 x5 x6 S K) : aw gG D z A X 7 31 [some (.ref (oa u)), some (.ref (oa x1)), some (.int x2), some (.int x3), some (.int x4), some (.int x5), some (.int x6)] [] (cw lt_C U oa S) 0 0 := by
  obtain ⟨I, μ, h0, hs⟩ := hp
  have key : ∀ (n : Nat) (yx1 : Nat) (yx2 : Int32) (yx3 : Int32) (yx4 : Int32) (yx5 : Int32) (yx6 : Int32) (yS : cs), μ yx1 yx2 yx3 yx4 yx5 yx6 yS < n → I yx1 yx2 yx3 yx4 yx5 yx6 yS → aw gG D z A X 7 31 [some (.ref (oa u)), some (.ref (oa yx1)), some (.int yx2), some (.int yx3), some (.int yx4), some (.int yx5), some (.int yx6)] [] (cw lt_C U oa yS) 0 0 := by
    intro n
    induction n with
    | zero => intro yx1 yx2 yx3 yx4 yx5 yx6 yS h; omega
    | succ n ih =>
      intro yx1 yx2 yx3 yx4 yx5 yx6 yS hn hI
      exact s_Pi_drawBlock_31 C hQ hA hR hu yx1 yx2 yx3 yx4 yx5 yx6 yS _ (fun zx1 zx2 zx3 zx4 zx5 zx6 zS hw => ih zx1 zx2 zx3 zx4 zx5 zx6 zS (by omega) hw.1) (hs yx1 yx2 yx3 yx4 yx5 yx6 yS hI)
  exact key (μ x1 x2 x3 x4 x5 x6 S + 1) x1 x2 x3 x4 x5 x6 S (Nat.lt_succ_self _) h0
set_option maxRecDepth 100000 in
set_option maxHeartbeats 1000000 in
theorem s_Pi_drawBlock_0 (C : fcx gG D z A X R_Pi c_C_Pi_drawBlock 7 (none)) (hQ : X.2.2.2.2.2.2.2.2.2.2 = eQ gG D z X.2.2.2.2.2.2.2.1 X.2.2.2.2.1 L0 0 0 (pC_v lt_C U oa K (fun _ _ => False))) (hA : A = owA gG L0 X.2.2.2.2.1.heap.size) (hR : X.2.2.2.1 = { frames := 4, cells := 1, slots := 6, locals := 400 }) (hu : c_cl U u = 7) (x1 : Nat) (x2 : Int32) (x3 : Int32) (x4 : Int32) (S : cs) (hp : p_Pi_drawBlock U u x1 x2 x3 x4 S K) : aw gG D z A X 7 0 [some (.ref (oa u)), some (.ref (oa x1)), some (.int x2), some (.int x3), some (.int x4), none, none] [] (cw lt_C U oa S) 0 0 := by
  unfold p_Pi_drawBlock at hp
  refine a_sipush (v := 4096) C dc_Pi_drawBlock_0 (by decide) ?_
  refine a_iload_n C dc_Pi_drawBlock_3 rfl rfl ?_
  refine a_imul C dc_Pi_drawBlock_4 ?_
  refine a_bipush (v := 64) C dc_Pi_drawBlock_5 (by decide) ?_
  refine a_iload C dc_Pi_drawBlock_7 rfl ?_
  refine a_bipush (v := 8) C dc_Pi_drawBlock_9 (by decide) ?_
  refine a_idiv C dc_Pi_drawBlock_11 (by decide) ?_
  refine a_aload_n C dc_Pi_drawBlock_12 rfl rfl ?_
  refine c_getR C u 11 dc_Pi_drawBlock_13 hu rfl rfl (Nat.le_of_ble_eq_true rfl) f_Pi_46 rfl hp.1 ?_
  have hp := hp.2
  refine a_iload_n C dc_Pi_drawBlock_16 rfl rfl ?_
  have hc9 := hp.1
  have hp := hp.2
  refine c_iald C (S.2.2 u 11) dc_Pi_drawBlock_17 hc9 hp.1 ?_
  have hp := hp.2
  refine a_imul C dc_Pi_drawBlock_18 ?_
  refine a_iload_n C dc_Pi_drawBlock_19 rfl rfl ?_
  refine a_bipush (v := 8) C dc_Pi_drawBlock_20 (by decide) ?_
  refine a_idiv C dc_Pi_drawBlock_22 (by decide) ?_
  refine a_iadd C dc_Pi_drawBlock_23 ?_
  refine a_imul C dc_Pi_drawBlock_24 ?_
  refine a_iadd C dc_Pi_drawBlock_25 ?_
  refine a_istore (lo' := [some (.ref (oa u)), some (.ref (oa x1)), some (.int x2), some (.int x3), some (.int x4), some (.int ((4096 * x2) + (64 * (((x4 / 8) * (S.1 (S.2.2 u 11) x2.toNatClampNeg)) + (x3 / 8))))), none]) C dc_Pi_drawBlock_26 (by decide) rfl ?_
  refine a_iconst (v := 0) C dc_Pi_drawBlock_28 (by decide) ?_
  refine a_istore (lo' := [some (.ref (oa u)), some (.ref (oa x1)), some (.int x2), some (.int x3), some (.int x4), some (.int ((4096 * x2) + (64 * (((x4 / 8) * (S.1 (S.2.2 u 11) x2.toNatClampNeg)) + (x3 / 8))))), some (.int 0)]) C dc_Pi_drawBlock_29 (by decide) rfl ?_
  refine aw_lo (lo' := [some (.ref (oa u)), some (.ref (oa x1)), some (.int x2), some (.int x3), some (.int x4), some (.int ((4096 * x2) + (64 * (((x4 / 8) * (S.1 (S.2.2 u 11) x2.toNatClampNeg)) + (x3 / 8))))), some (.int 0)]) ⟨.inr rfl, .inr rfl, .inr rfl, .inr rfl, .inr rfl, .inr rfl, .inr rfl, trivial⟩ ?_
  exact se_Pi_drawBlock_31 C hQ hA hR hu x1 x2 x3 x4 ((4096 * x2) + (64 * (((x4 / 8) * (S.1 (S.2.2 u 11) x2.toNatClampNeg)) + (x3 / 8)))) 0 S  hp
end C_Pi_drawBlock
section C_Pi_drawBlockc
variable {D : va_G} {z : Nat → ClassId} {U : ut} {oa : Nat → Nat}
set_option maxRecDepth 100000 in
theorem ct_Pi_drawBlock {l : Launch} (u : Nat) (x1 : Nat) (x2 : Int32) (x3 : Int32) (x4 : Int32) (S : cs) {K : cs → Prop} (hu : c_cl U u = 7) (hp : p_Pi_drawBlock U u x1 x2 x3 x4 S K) : ct gG D z l n_C_Pi_drawBlock c_C_Pi_drawBlock 7 (none) 4 400 [.ref (oa u), .ref (oa x1), .int x2, .int x3, .int x4] (cw lt_C U oa S) 0 0 (pC_v lt_C U oa K (fun _ _ => False)) := by
  refine ct_of (lo := [some (.ref (oa u)), some (.ref (oa x1)), some (.int x2), some (.int x3), some (.int x4), none, none]) (by decide) g_ok (Nat.le_of_ble_eq_true rfl) rfl ?_
  intro X A _ C hR hQ hA _
  exact s_Pi_drawBlock_0 C hQ hA hR hu x1 x2 x3 x4 S hp
end C_Pi_drawBlockc
def b_Pi_draw_33 (U : ut) (u : Nat) (x1 : Nat) (x2 : Int32) (x3 : Int32) (x4 : Int32) (S : cs) (R10 : Nat → Int32 → cs → Prop) (R20 : Nat → Int32 → Int32 → cs → Prop) (R33 : Nat → Int32 → Int32 → Int32 → cs → Prop) (K : cs → Prop) : Prop :=
  ¬ S.2.2 u 9 = NU ∧ (c_cl U (S.2.2 u 9) = 902 ∧ (vp_in x2 (c_ln U (S.2.2 u 9)) ∧ (((S.1 (S.2.2 u 9) x2.toNatClampNeg) ≤ x4 → (R20 x1 x2 (x3 + 8) S)) ∧ (¬ ((S.1 (S.2.2 u 9) x2.toNatClampNeg) ≤ x4) → (p_Pi_drawBlock U u x1 x2 x4 x3 S (fun S50 => R33 x1 x2 x3 (x4 + 8) S50))))))
def e_Pi_draw_33 (U : ut) (u : Nat) (x1 : Nat) (x2 : Int32) (x3 : Int32) (x4 : Int32) (S : cs) (R10 : Nat → Int32 → cs → Prop) (R20 : Nat → Int32 → Int32 → cs → Prop) (K : cs → Prop) : Prop :=
  ∃ (I : Nat → Int32 → Int32 → Int32 → cs → Prop) (μ : Nat → Int32 → Int32 → Int32 → cs → Nat), I x1 x2 x3 x4 S ∧ ∀ yx1 yx2 yx3 yx4 yS, I yx1 yx2 yx3 yx4 yS → b_Pi_draw_33 U u yx1 yx2 yx3 yx4 yS R10 R20 (fun zx1 zx2 zx3 zx4 zS => I zx1 zx2 zx3 zx4 zS ∧ μ zx1 zx2 zx3 zx4 zS < μ yx1 yx2 yx3 yx4 yS) K
def b_Pi_draw_20 (U : ut) (u : Nat) (x1 : Nat) (x2 : Int32) (x3 : Int32) (S : cs) (R10 : Nat → Int32 → cs → Prop) (R20 : Nat → Int32 → Int32 → cs → Prop) (K : cs → Prop) : Prop :=
  ¬ S.2.2 u 10 = NU ∧ (c_cl U (S.2.2 u 10) = 902 ∧ (vp_in x2 (c_ln U (S.2.2 u 10)) ∧ (((S.1 (S.2.2 u 10) x2.toNatClampNeg) ≤ x3 → (R10 x1 (x2 + 1) S)) ∧ (¬ ((S.1 (S.2.2 u 10) x2.toNatClampNeg) ≤ x3) → (e_Pi_draw_33 U u x1 x2 x3 0 S R10 R20 K)))))
def e_Pi_draw_20 (U : ut) (u : Nat) (x1 : Nat) (x2 : Int32) (x3 : Int32) (S : cs) (R10 : Nat → Int32 → cs → Prop) (K : cs → Prop) : Prop :=
  ∃ (I : Nat → Int32 → Int32 → cs → Prop) (μ : Nat → Int32 → Int32 → cs → Nat), I x1 x2 x3 S ∧ ∀ yx1 yx2 yx3 yS, I yx1 yx2 yx3 yS → b_Pi_draw_20 U u yx1 yx2 yx3 yS R10 (fun zx1 zx2 zx3 zS => I zx1 zx2 zx3 zS ∧ μ zx1 zx2 zx3 zS < μ yx1 yx2 yx3 yS) K
def b_Pi_draw_10 (U : ut) (u : Nat) (x1 : Nat) (x2 : Int32) (S : cs) (R10 : Nat → Int32 → cs → Prop) (K : cs → Prop) : Prop :=
  ((S.1 u 2) ≤ x2 → (K (va_up S.1 u (upd (S.1 u) 16 1), S.2.1, S.2.2))) ∧ (¬ ((S.1 u 2) ≤ x2) → (e_Pi_draw_20 U u x1 x2 0 S R10 K))
def e_Pi_draw_10 (U : ut) (u : Nat) (x1 : Nat) (x2 : Int32) (S : cs) (K : cs → Prop) : Prop :=
  ∃ (I : Nat → Int32 → cs → Prop) (μ : Nat → Int32 → cs → Nat), I x1 x2 S ∧ ∀ yx1 yx2 yS, I yx1 yx2 yS → b_Pi_draw_10 U u yx1 yx2 yS (fun zx1 zx2 zS => I zx1 zx2 zS ∧ μ zx1 zx2 zS < μ yx1 yx2 yS) K
def p_Pi_draw (U : ut) (u : Nat) (x1 : Nat) (S : cs) (K : cs → Prop) : Prop :=
  ((S.1 u 16) = 0 → (e_Pi_draw_10 U u x1 0 S K)) ∧ (¬ ((S.1 u 16) = 0) → (K S))
section C_Pi_draw
variable {D : va_G} {z : Nat → ClassId} {A : Nat → Prop} {X : cx} {L0 : fw} {U : ut} {oa : Nat → Nat} {u : Nat} {K : cs → Prop}
set_option maxRecDepth 100000 in
set_option maxHeartbeats 1000000 in
theorem s_Pi_draw_33 (C : fcx gG D z A X R_Pi c_C_Pi_draw 5 (none)) (hQ : X.2.2.2.2.2.2.2.2.2.2 = eQ gG D z X.2.2.2.2.2.2.2.1 X.2.2.2.2.1 L0 0 0 (pC_v lt_C U oa K (fun _ _ => False))) (hA : A = owA gG L0 X.2.2.2.2.1.heap.size) (hR : X.2.2.2.1 = { frames := 5, cells := 1, slots := 6, locals := 500 }) (hu : c_cl U u = 7) (x1 : Nat) (x2 : Int32) (x3 : Int32) (x4 : Int32) (S : cs) (R10 : Nat → Int32 → cs → Prop) (hR10 : ∀ yx1 yx2 yS, R10 yx1 yx2 yS → aw gG D z A X 5 10 [some (.ref (oa u)), some (.ref (oa yx1)), some (.int yx2), none, none] [] (cw lt_C U oa yS) 0 0) (R20 : Nat → Int32 → Int32 → cs → Prop) (hR20 : ∀ yx1 yx2 yx3 yS, R20 yx1 yx2 yx3 yS → aw gG D z A X 5 20 [some (.ref (oa u)), some (.ref (oa yx1)), some (.int yx2), some (.int yx3), none] [] (cw lt_C U oa yS) 0 0) (R33 : Nat → Int32 → Int32 → Int32 → cs → Prop) (hR33 : ∀ yx1 yx2 yx3 yx4 yS, R33 yx1 yx2 yx3 yx4 yS → aw gG D z A X 5 33 [some (.ref (oa u)), some (.ref (oa yx1)), some (.int yx2), some (.int yx3), some (.int yx4)] [] (cw lt_C U oa yS) 0 0) (hp : b_Pi_draw_33 U u x1 x2 x3 x4 S R10 R20 R33 K) : aw gG D z A X 5 33 [some (.ref (oa u)), some (.ref (oa x1)), some (.int x2), some (.int x3), some (.int x4)] [] (cw lt_C U oa S) 0 0 := by
  unfold b_Pi_draw_33 at hp
  refine a_iload C dc_Pi_draw_33 rfl ?_
  refine a_aload_n C dc_Pi_draw_35 rfl rfl ?_
  refine c_getR C u 9 dc_Pi_draw_36 hu rfl rfl (Nat.le_of_ble_eq_true rfl) f_Pi_40 rfl hp.1 ?_
  have hp := hp.2
  refine a_iload_n C dc_Pi_draw_39 rfl rfl ?_
  have hc1 := hp.1
  have hp := hp.2
  refine c_iald C (S.2.2 u 9) dc_Pi_draw_40 hc1 hp.1 ?_
  have hp := hp.2
  refine a_icmp_ge (tgt := 59) C dc_Pi_draw_41 (by decide) ⟨fun hc => ?_, fun hc => ?_⟩
  · have hp := hp.1 hc
    refine a_iinc (v := x3 + 8) (lo' := [some (.ref (oa u)), some (.ref (oa x1)), some (.int x2), some (.int (x3 + 8)), some (.int x4)]) C dc_Pi_draw_59 rfl rfl (by decide) rfl ?_
    refine a_goto (tgt := 20) C dc_Pi_draw_62 (by decide) ?_
    refine aw_lo (lo' := [some (.ref (oa u)), some (.ref (oa x1)), some (.int x2), some (.int (x3 + 8)), none]) ⟨.inr rfl, .inr rfl, .inr rfl, .inr rfl, .inl rfl, trivial⟩ ?_
    exact hR20 x1 x2 (x3 + 8) S hp
  · have hp := hp.2 hc
    refine a_aload_n C dc_Pi_draw_44 rfl rfl ?_
    refine a_aload_n C dc_Pi_draw_45 rfl rfl ?_
    refine a_iload_n C dc_Pi_draw_46 rfl rfl ?_
    refine a_iload C dc_Pi_draw_47 rfl ?_
    refine a_iload_n C dc_Pi_draw_49 rfl rfl ?_
    refine c_call (rest := []) (av := .ref (oa u) :: [.ref (oa x1), .int x2, .int x4, .int x3]) C dc_Pi_draw_50 (ct_Pi_drawBlock u x1 x2 x4 x3 S hu hp) cd_C_Pi_drawBlock i_Pi (Nat.le_of_ble_eq_true rfl) (by rw [hR]; exact Nat.le_of_ble_eq_true rfl) (by rw [hR]; exact Nat.le_of_ble_eq_true rfl) (by rw [hR]; exact Nat.le_of_ble_eq_true rfl) (by rw [hR]; exact Nat.le_of_ble_eq_true rfl) (inv_V C u dc_Pi_draw_50 l_Pi_84 im_C_Pi_drawBlock se_C_Pi_drawBlock cd_C_Pi_drawBlock ⟨by decide, by decide⟩ ln_C_Pi_drawBlock rfl rfl (cw_obj hu rfl) rfl rfl) (fun oc L1 hL => ?_)
    obtain ⟨S50, hp, rfl, rfl⟩ := hL.resolve_right pC_no
    refine ⟨_, rfl, ?_⟩
    refine aw_eq (lo' := _) (st' := []) (L' := (cw lt_C U oa S50)) rfl rfl rfl ?_
    refine a_iinc (v := x4 + 8) (lo' := [some (.ref (oa u)), some (.ref (oa x1)), some (.int x2), some (.int x3), some (.int (x4 + 8))]) C dc_Pi_draw_53 rfl rfl (by decide) rfl ?_
    refine a_goto (tgt := 33) C dc_Pi_draw_56 (by decide) ?_
    refine aw_lo (lo' := [some (.ref (oa u)), some (.ref (oa x1)), some (.int x2), some (.int x3), some (.int (x4 + 8))]) ⟨.inr rfl, .inr rfl, .inr rfl, .inr rfl, .inr rfl, trivial⟩ ?_
    exact hR33 x1 x2 x3 (x4 + 8) S50 hp
set_option maxRecDepth 100000 in
set_option maxHeartbeats 1000000 in
theorem se_Pi_draw_33 (C : fcx gG D z A X R_Pi c_C_Pi_draw 5 (none)) (hQ : X.2.2.2.2.2.2.2.2.2.2 = eQ gG D z X.2.2.2.2.2.2.2.1 X.2.2.2.2.1 L0 0 0 (pC_v lt_C U oa K (fun _ _ => False))) (hA : A = owA gG L0 X.2.2.2.2.1.heap.size) (hR : X.2.2.2.1 = { frames := 5, cells := 1, slots := 6, locals := 500 }) (hu : c_cl U u = 7) (x1 : Nat) (x2 : Int32) (x3 : Int32) (x4 : Int32) (S : cs) (R10 : Nat → Int32 → cs → Prop) (hR10 : ∀ yx1 yx2 yS, R10 yx1 yx2 yS → aw gG D z A X 5 10 [some (.ref (oa u)), some (.ref (oa yx1)), some (.int yx2), none, none] [] (cw lt_C U oa yS) 0 0) (R20 : Nat → Int32 → Int32 → cs → Prop) (hR20 : ∀ yx1 yx2 yx3 yS, R20 yx1 yx2 yx3 yS → aw gG D z A X 5 20 [some (.ref (oa u)), some (.ref (oa yx1)), some (.int yx2), some (.int yx3), none] [] (cw lt_C U oa yS) 0 0) (hp : e_Pi_draw_33 U u x1 x2 x3 x4 S R10 R20 K) : aw gG D z A X 5 33 [some (.ref (oa u)), some (.ref (oa x1)), some (.int x2), some (.int x3), some (.int x4)] [] (cw lt_C U oa S) 0 0 := by
  obtain ⟨I, μ, h0, hs⟩ := hp
  have key : ∀ (n : Nat) (yx1 : Nat) (yx2 : Int32) (yx3 : Int32) (yx4 : Int32) (yS : cs), μ yx1 yx2 yx3 yx4 yS < n → I yx1 yx2 yx3 yx4 yS → aw gG D z A X 5 33 [some (.ref (oa u)), some (.ref (oa yx1)), some (.int yx2), some (.int yx3), some (.int yx4)] [] (cw lt_C U oa yS) 0 0 := by
    intro n
    induction n with
    | zero => intro yx1 yx2 yx3 yx4 yS h; omega
    | succ n ih =>
      intro yx1 yx2 yx3 yx4 yS hn hI
      exact s_Pi_draw_33 C hQ hA hR hu yx1 yx2 yx3 yx4 yS R10 hR10 R20 hR20 _ (fun zx1 zx2 zx3 zx4 zS hw => ih zx1 zx2 zx3 zx4 zS (by omega) hw.1) (hs yx1 yx2 yx3 yx4 yS hI)
  exact key (μ x1 x2 x3 x4 S + 1) x1 x2 x3 x4 S (Nat.lt_succ_self _) h0
set_option maxRecDepth 100000 in
set_option maxHeartbeats 1000000 in
theorem s_Pi_draw_20 (C : fcx gG D z A X R_Pi c_C_Pi_draw 5 (none)) (hQ : X.2.2.2.2.2.2.2.2.2.2 = eQ gG D z X.2.2.2.2.2.2.2.1 X.2.2.2.2.1 L0 0 0 (pC_v lt_C U oa K (fun _ _ => False))) (hA : A = owA gG L0 X.2.2.2.2.1.heap.size) (hR : X.2.2.2.1 = { frames := 5, cells := 1, slots := 6, locals := 500 }) (hu : c_cl U u = 7) (x1 : Nat) (x2 : Int32) (x3 : Int32) (S : cs) (R10 : Nat → Int32 → cs → Prop) (hR10 : ∀ yx1 yx2 yS, R10 yx1 yx2 yS → aw gG D z A X 5 10 [some (.ref (oa u)), some (.ref (oa yx1)), some (.int yx2), none, none] [] (cw lt_C U oa yS) 0 0) (R20 : Nat → Int32 → Int32 → cs → Prop) (hR20 : ∀ yx1 yx2 yx3 yS, R20 yx1 yx2 yx3 yS → aw gG D z A X 5 20 [some (.ref (oa u)), some (.ref (oa yx1)), some (.int yx2), some (.int yx3), none] [] (cw lt_C U oa yS) 0 0) (hp : b_Pi_draw_20 U u x1 x2 x3 S R10 R20 K) : aw gG D z A X 5 20 [some (.ref (oa u)), some (.ref (oa x1)), some (.int x2), some (.int x3), none] [] (cw lt_C U oa S) 0 0 := by
  unfold b_Pi_draw_20 at hp
  refine a_iload_n C dc_Pi_draw_20 rfl rfl ?_
  refine a_aload_n C dc_Pi_draw_21 rfl rfl ?_
  refine c_getR C u 10 dc_Pi_draw_22 hu rfl rfl (Nat.le_of_ble_eq_true rfl) f_Pi_43 rfl hp.1 ?_
  have hp := hp.2
  refine a_iload_n C dc_Pi_draw_25 rfl rfl ?_
  have hc2 := hp.1
  have hp := hp.2
  refine c_iald C (S.2.2 u 10) dc_Pi_draw_26 hc2 hp.1 ?_
  have hp := hp.2
  refine a_icmp_ge (tgt := 65) C dc_Pi_draw_27 (by decide) ⟨fun hc => ?_, fun hc => ?_⟩
  · have hp := hp.1 hc
    refine a_iinc (v := x2 + 1) (lo' := [some (.ref (oa u)), some (.ref (oa x1)), some (.int (x2 + 1)), some (.int x3), none]) C dc_Pi_draw_65 rfl rfl (by decide) rfl ?_
    refine a_goto (tgt := 10) C dc_Pi_draw_68 (by decide) ?_
    refine aw_lo (lo' := [some (.ref (oa u)), some (.ref (oa x1)), some (.int (x2 + 1)), none, none]) ⟨.inr rfl, .inr rfl, .inr rfl, .inl rfl, .inr rfl, trivial⟩ ?_
    exact hR10 x1 (x2 + 1) S hp
  · have hp := hp.2 hc
    refine a_iconst (v := 0) C dc_Pi_draw_30 (by decide) ?_
    refine a_istore (lo' := [some (.ref (oa u)), some (.ref (oa x1)), some (.int x2), some (.int x3), some (.int 0)]) C dc_Pi_draw_31 (by decide) rfl ?_
    refine aw_lo (lo' := [some (.ref (oa u)), some (.ref (oa x1)), some (.int x2), some (.int x3), some (.int 0)]) ⟨.inr rfl, .inr rfl, .inr rfl, .inr rfl, .inr rfl, trivial⟩ ?_
    exact se_Pi_draw_33 C hQ hA hR hu x1 x2 x3 0 S R10 hR10 R20 hR20 hp
set_option maxRecDepth 100000 in
set_option maxHeartbeats 1000000 in
theorem se_Pi_draw_20 (C : fcx gG D z A X R_Pi c_C_Pi_draw 5 (none)) (hQ : X.2.2.2.2.2.2.2.2.2.2 = eQ gG D z X.2.2.2.2.2.2.2.1 X.2.2.2.2.1 L0 0 0 (pC_v lt_C U oa K (fun _ _ => False))) (hA : A = owA gG L0 X.2.2.2.2.1.heap.size) (hR : X.2.2.2.1 = { frames := 5, cells := 1, slots := 6, locals := 500 }) (hu : c_cl U u = 7) (x1 : Nat) (x2 : Int32) (x3 : Int32) (S : cs) (R10 : Nat → Int32 → cs → Prop) (hR10 : ∀ yx1 yx2 yS, R10 yx1 yx2 yS → aw gG D z A X 5 10 [some (.ref (oa u)), some (.ref (oa yx1)), some (.int yx2), none, none] [] (cw lt_C U oa yS) 0 0) (hp : e_Pi_draw_20 U u x1 x2 x3 S R10 K) : aw gG D z A X 5 20 [some (.ref (oa u)), some (.ref (oa x1)), some (.int x2), some (.int x3), none] [] (cw lt_C U oa S) 0 0 := by
  obtain ⟨I, μ, h0, hs⟩ := hp
  have key : ∀ (n : Nat) (yx1 : Nat) (yx2 : Int32) (yx3 : Int32) (yS : cs), μ yx1 yx2 yx3 yS < n → I yx1 yx2 yx3 yS → aw gG D z A X 5 20 [some (.ref (oa u)), some (.ref (oa yx1)), some (.int yx2), some (.int yx3), none] [] (cw lt_C U oa yS) 0 0 := by
    intro n
    induction n with
    | zero => intro yx1 yx2 yx3 yS h; omega
    | succ n ih =>
      intro yx1 yx2 yx3 yS hn hI
      exact s_Pi_draw_20 C hQ hA hR hu yx1 yx2 yx3 yS R10 hR10 _ (fun zx1 zx2 zx3 zS hw => ih zx1 zx2 zx3 zS (by omega) hw.1) (hs yx1 yx2 yx3 yS hI)
  exact key (μ x1 x2 x3 S + 1) x1 x2 x3 S (Nat.lt_succ_self _) h0
set_option maxRecDepth 100000 in
set_option maxHeartbeats 1000000 in
theorem s_Pi_draw_10 (C : fcx gG D z A X R_Pi c_C_Pi_draw 5 (none)) (hQ : X.2.2.2.2.2.2.2.2.2.2 = eQ gG D z X.2.2.2.2.2.2.2.1 X.2.2.2.2.1 L0 0 0 (pC_v lt_C U oa K (fun _ _ => False))) (hA : A = owA gG L0 X.2.2.2.2.1.heap.size) (hR : X.2.2.2.1 = { frames := 5, cells := 1, slots := 6, locals := 500 }) (hu : c_cl U u = 7) (x1 : Nat) (x2 : Int32) (S : cs) (R10 : Nat → Int32 → cs → Prop) (hR10 : ∀ yx1 yx2 yS, R10 yx1 yx2 yS → aw gG D z A X 5 10 [some (.ref (oa u)), some (.ref (oa yx1)), some (.int yx2), none, none] [] (cw lt_C U oa yS) 0 0) (hp : b_Pi_draw_10 U u x1 x2 S R10 K) : aw gG D z A X 5 10 [some (.ref (oa u)), some (.ref (oa x1)), some (.int x2), none, none] [] (cw lt_C U oa S) 0 0 := by
  unfold b_Pi_draw_10 at hp
  refine a_iload_n C dc_Pi_draw_10 rfl rfl ?_
  refine a_aload_n C dc_Pi_draw_11 rfl rfl ?_
  refine c_getI C u 2 dc_Pi_draw_12 hu rfl rfl (Nat.le_of_ble_eq_true rfl) f_Pi_18 (Nat.le_of_ble_eq_true rfl) ?_
  refine a_icmp_ge (tgt := 71) C dc_Pi_draw_15 (by decide) ⟨fun hc => ?_, fun hc => ?_⟩
  · have hp := hp.1 hc
    refine a_aload_n C dc_Pi_draw_71 rfl rfl ?_
    refine a_iconst (v := 1) C dc_Pi_draw_72 (by decide) ?_
    refine c_putI (ty := .boolean) C u 16 dc_Pi_draw_73 hu rfl rfl (Nat.le_of_ble_eq_true rfl) f_Pi_61 (Nat.le_of_ble_eq_true rfl) rfl rfl rfl rfl ?_
    refine aw_eq (lo' := _) (st' := _) (L' := (cw lt_C U oa (va_up S.1 u (upd (S.1 u) 16 1), S.2.1, S.2.2))) rfl rfl rfl ?_
    exact a_vret C hQ hA dc_Pi_draw_76 rfl (Or.inl ⟨(va_up S.1 u (upd (S.1 u) 16 1), S.2.1, S.2.2), hp, rfl, rfl⟩)
  · have hp := hp.2 hc
    refine a_iconst (v := 0) C dc_Pi_draw_18 (by decide) ?_
    refine a_istore_n (lo' := [some (.ref (oa u)), some (.ref (oa x1)), some (.int x2), some (.int 0), none]) C dc_Pi_draw_19 rfl (by decide) rfl ?_
    refine aw_lo (lo' := [some (.ref (oa u)), some (.ref (oa x1)), some (.int x2), some (.int 0), none]) ⟨.inr rfl, .inr rfl, .inr rfl, .inr rfl, .inr rfl, trivial⟩ ?_
    exact se_Pi_draw_20 C hQ hA hR hu x1 x2 0 S R10 hR10 hp
set_option maxRecDepth 100000 in
set_option maxHeartbeats 1000000 in
theorem se_Pi_draw_10 (C : fcx gG D z A X R_Pi c_C_Pi_draw 5 (none)) (hQ : X.2.2.2.2.2.2.2.2.2.2 = eQ gG D z X.2.2.2.2.2.2.2.1 X.2.2.2.2.1 L0 0 0 (pC_v lt_C U oa K (fun _ _ => False))) (hA : A = owA gG L0 X.2.2.2.2.1.heap.size) (hR : X.2.2.2.1 = { frames := 5, cells := 1, slots := 6, locals := 500 }) (hu : c_cl U u = 7) (x1 : Nat) (x2 : Int32) (S : cs) (hp : e_Pi_draw_10 U u x1 x2 S K) : aw gG D z A X 5 10 [some (.ref (oa u)), some (.ref (oa x1)), some (.int x2), none, none] [] (cw lt_C U oa S) 0 0 := by
  obtain ⟨I, μ, h0, hs⟩ := hp
  have key : ∀ (n : Nat) (yx1 : Nat) (yx2 : Int32) (yS : cs), μ yx1 yx2 yS < n → I yx1 yx2 yS → aw gG D z A X 5 10 [some (.ref (oa u)), some (.ref (oa yx1)), some (.int yx2), none, none] [] (cw lt_C U oa yS) 0 0 := by
    intro n
    induction n with
    | zero => intro yx1 yx2 yS h; omega
    | succ n ih =>
      intro yx1 yx2 yS hn hI
      exact s_Pi_draw_10 C hQ hA hR hu yx1 yx2 yS _ (fun zx1 zx2 zS hw => ih zx1 zx2 zS (by omega) hw.1) (hs yx1 yx2 yS hI)
  exact key (μ x1 x2 S + 1) x1 x2 S (Nat.lt_succ_self _) h0
set_option maxRecDepth 100000 in
set_option maxHeartbeats 1000000 in
theorem s_Pi_draw_0 (C : fcx gG D z A X R_Pi c_C_Pi_draw 5 (none)) (hQ : X.2.2.2.2.2.2.2.2.2.2 = eQ gG D z X.2.2.2.2.2.2.2.1 X.2.2.2.2.1 L0 0 0 (pC_v lt_C U oa K (fun _ _ => False))) (hA : A = owA gG L0 X.2.2.2.2.1.heap.size) (hR : X.2.2.2.1 = { frames := 5, cells := 1, slots := 6, locals := 500 }) (hu : c_cl U u = 7) (x1 : Nat) (S : cs) (hp : p_Pi_draw U u x1 S K) : aw gG D z A X 5 0 [some (.ref (oa u)), some (.ref (oa x1)), none, none, none] [] (cw lt_C U oa S) 0 0 := by
  unfold p_Pi_draw at hp
  refine a_aload_n C dc_Pi_draw_0 rfl rfl ?_
  refine c_getI C u 16 dc_Pi_draw_1 hu rfl rfl (Nat.le_of_ble_eq_true rfl) f_Pi_61 (Nat.le_of_ble_eq_true rfl) ?_
  refine a_if_eq (tgt := 8) C dc_Pi_draw_4 (by decide) ⟨fun hc => ?_, fun hc => ?_⟩
  · have hp := hp.1 hc
    refine a_iconst (v := 0) C dc_Pi_draw_8 (by decide) ?_
    refine a_istore_n (lo' := [some (.ref (oa u)), some (.ref (oa x1)), some (.int 0), none, none]) C dc_Pi_draw_9 rfl (by decide) rfl ?_
    refine aw_lo (lo' := [some (.ref (oa u)), some (.ref (oa x1)), some (.int 0), none, none]) ⟨.inr rfl, .inr rfl, .inr rfl, .inr rfl, .inr rfl, trivial⟩ ?_
    exact se_Pi_draw_10 C hQ hA hR hu x1 0 S  hp
  · have hp := hp.2 hc
    exact a_vret C hQ hA dc_Pi_draw_7 rfl (Or.inl ⟨S, hp, rfl, rfl⟩)
end C_Pi_draw
section C_Pi_drawc
variable {D : va_G} {z : Nat → ClassId} {U : ut} {oa : Nat → Nat}
set_option maxRecDepth 100000 in
theorem ct_Pi_draw {l : Launch} (u : Nat) (x1 : Nat) (S : cs) {K : cs → Prop} (hu : c_cl U u = 7) (hp : p_Pi_draw U u x1 S K) : ct gG D z l n_C_Pi_draw c_C_Pi_draw 5 (none) 5 500 [.ref (oa u), .ref (oa x1)] (cw lt_C U oa S) 0 0 (pC_v lt_C U oa K (fun _ _ => False)) := by
  refine ct_of (lo := [some (.ref (oa u)), some (.ref (oa x1)), none, none, none]) (by decide) g_ok (Nat.le_of_ble_eq_true rfl) rfl ?_
  intro X A _ C hR hQ hA _
  exact s_Pi_draw_0 C hQ hA hR hu x1 S hp
end C_Pi_drawc
def b_Pi_layerSample_42 (U : ut) (u : Nat) (x1 : Int32) (x4 : Int32) (s0 : Int32) (S : cs) (K : Int32 → cs → Prop) : Prop :=
  ¬ S.2.2 u 15 = NU ∧ (p_B_spot x1 x4 s0 (fun v53 => c_cl U (S.2.2 u 15) = 902 ∧ (vp_in v53 (c_ln U (S.2.2 u 15)) ∧ (K (S.1 (S.2.2 u 15) v53.toNatClampNeg) S))))
def b_Pi_layerSample_20 (U : ut) (u : Nat) (x1 : Int32) (x3 : Int32) (s0 : Int32) (S : cs) (K : Int32 → cs → Prop) : Prop :=
  ¬ S.2.2 u 4 = NU ∧ (c_cl U (S.2.2 u 4) = 902 ∧ (vp_in x1 (c_ln U (S.2.2 u 4)) ∧ (((S.1 u 6) ≤ (S.1 (S.2.2 u 4) x1.toNatClampNeg) → (b_Pi_layerSample_42 U u x1 s0 x3 S K)) ∧ (¬ ((S.1 u 6) ≤ (S.1 (S.2.2 u 4) x1.toNatClampNeg)) → (b_Pi_layerSample_42 U u x1 s0 (x3 / 2) S K)))))
def p_Pi_layerSample (U : ut) (u : Nat) (x1 : Int32) (x2 : Int32) (x3 : Int32) (S : cs) (K : Int32 → cs → Prop) : Prop :=
  ¬ S.2.2 u 3 = NU ∧ (c_cl U (S.2.2 u 3) = 902 ∧ (vp_in x1 (c_ln U (S.2.2 u 3)) ∧ (((S.1 u 5) ≤ (S.1 (S.2.2 u 3) x1.toNatClampNeg) → (b_Pi_layerSample_20 U u x1 x3 x2 S K)) ∧ (¬ ((S.1 u 5) ≤ (S.1 (S.2.2 u 3) x1.toNatClampNeg)) → (b_Pi_layerSample_20 U u x1 x3 (x2 / 2) S K)))))
section C_Pi_layerSample
variable {D : va_G} {z : Nat → ClassId} {A : Nat → Prop} {X : cx} {L0 : fw} {U : ut} {oa : Nat → Nat} {u : Nat} {K : Int32 → cs → Prop}
set_option maxRecDepth 100000 in
set_option maxHeartbeats 1000000 in
theorem s_Pi_layerSample_42 (C : fcx gG D z A X R_Pi c_C_Pi_layerSample 6 (some .int)) (hQ : X.2.2.2.2.2.2.2.2.2.2 = eQ gG D z X.2.2.2.2.2.2.2.1 X.2.2.2.2.1 L0 0 0 (pC_i lt_C U oa K (fun _ _ => False))) (hA : A = owA gG L0 X.2.2.2.2.1.heap.size) (hR : X.2.2.2.1 = { frames := 2, cells := 1, slots := 6, locals := 200 }) (hu : c_cl U u = 7) (x1 : Int32) (x4 : Int32) (s0 : Int32) (S : cs) (hp : b_Pi_layerSample_42 U u x1 x4 s0 S K) : aw gG D z A X 6 42 [some (.ref (oa u)), some (.int x1), none, none, some (.int x4), none] [.int s0] (cw lt_C U oa S) 0 0 := by
  unfold b_Pi_layerSample_42 at hp
  refine a_istore (lo' := [some (.ref (oa u)), some (.int x1), none, none, some (.int x4), some (.int s0)]) C dc_Pi_layerSample_42 (by decide) rfl ?_
  refine a_aload_n C dc_Pi_layerSample_44 rfl rfl ?_
  refine c_getR C u 15 dc_Pi_layerSample_45 hu rfl rfl (Nat.le_of_ble_eq_true rfl) f_Pi_58 rfl hp.1 ?_
  have hp := hp.2
  refine a_iload_n C dc_Pi_layerSample_48 rfl rfl ?_
  refine a_iload C dc_Pi_layerSample_49 rfl ?_
  refine a_iload C dc_Pi_layerSample_51 rfl ?_
  refine a_callP (rest := [.ref (oa (S.2.2 u 15))]) (av := [.int x1, .int x4, .int s0]) C dc_Pi_layerSample_53 (ct_B_spot x1 x4 s0 hp) cd_C_B_spot i_B (Nat.le_of_ble_eq_true rfl) (by rw [hR]; exact Nat.le_of_ble_eq_true rfl) (by rw [hR]; exact Nat.le_of_ble_eq_true rfl) (by rw [hR]; exact Nat.le_of_ble_eq_true rfl) (by rw [hR]; exact Nat.le_of_ble_eq_true rfl) (inv_SN C dc_Pi_layerSample_53 l_Pi_99 st_C_B_spot i_B cd_C_B_spot ⟨by decide, by decide⟩ ln_C_B_spot rfl) (fun v53 hp => ?_)
  refine aw_eq (lo' := _) (st' := [.int v53, .ref (oa (S.2.2 u 15))]) (L' := (cw lt_C U oa S)) rfl rfl rfl ?_
  have hc1 := hp.1
  have hp := hp.2
  refine c_iald C (S.2.2 u 15) dc_Pi_layerSample_56 hc1 hp.1 ?_
  have hp := hp.2
  exact a_iret (ty := .int) C hQ hA dc_Pi_layerSample_57 rfl rfl (Or.inl ⟨_, S, hp, rfl, rfl⟩)
set_option maxRecDepth 100000 in
set_option maxHeartbeats 1000000 in
theorem s_Pi_layerSample_20 (C : fcx gG D z A X R_Pi c_C_Pi_layerSample 6 (some .int)) (hQ : X.2.2.2.2.2.2.2.2.2.2 = eQ gG D z X.2.2.2.2.2.2.2.1 X.2.2.2.2.1 L0 0 0 (pC_i lt_C U oa K (fun _ _ => False))) (hA : A = owA gG L0 X.2.2.2.2.1.heap.size) (hR : X.2.2.2.1 = { frames := 2, cells := 1, slots := 6, locals := 200 }) (hu : c_cl U u = 7) (x1 : Int32) (x3 : Int32) (s0 : Int32) (S : cs) (hp : b_Pi_layerSample_20 U u x1 x3 s0 S K) : aw gG D z A X 6 20 [some (.ref (oa u)), some (.int x1), none, some (.int x3), none, none] [.int s0] (cw lt_C U oa S) 0 0 := by
  unfold b_Pi_layerSample_20 at hp
  refine a_istore (lo' := [some (.ref (oa u)), some (.int x1), none, some (.int x3), some (.int s0), none]) C dc_Pi_layerSample_20 (by decide) rfl ?_
  refine a_aload_n C dc_Pi_layerSample_22 rfl rfl ?_
  refine c_getR C u 4 dc_Pi_layerSample_23 hu rfl rfl (Nat.le_of_ble_eq_true rfl) f_Pi_25 rfl hp.1 ?_
  have hp := hp.2
  refine a_iload_n C dc_Pi_layerSample_26 rfl rfl ?_
  have hc2 := hp.1
  have hp := hp.2
  refine c_iald C (S.2.2 u 4) dc_Pi_layerSample_27 hc2 hp.1 ?_
  have hp := hp.2
  refine a_aload_n C dc_Pi_layerSample_28 rfl rfl ?_
  refine c_getI C u 6 dc_Pi_layerSample_29 hu rfl rfl (Nat.le_of_ble_eq_true rfl) f_Pi_31 (Nat.le_of_ble_eq_true rfl) ?_
  refine a_icmp_ge (tgt := 41) C dc_Pi_layerSample_32 (by decide) ⟨fun hc => ?_, fun hc => ?_⟩
  · have hp := hp.1 hc
    refine a_iload_n C dc_Pi_layerSample_41 rfl rfl ?_
    refine aw_lo (lo' := [some (.ref (oa u)), some (.int x1), none, none, some (.int s0), none]) ⟨.inr rfl, .inr rfl, .inr rfl, .inl rfl, .inr rfl, .inr rfl, trivial⟩ ?_
    exact s_Pi_layerSample_42 C hQ hA hR hu x1 s0 x3 S  hp
  · have hp := hp.2 hc
    refine a_iload_n C dc_Pi_layerSample_35 rfl rfl ?_
    refine a_iconst (v := 2) C dc_Pi_layerSample_36 (by decide) ?_
    refine a_idiv C dc_Pi_layerSample_37 (by decide) ?_
    refine a_goto (tgt := 42) C dc_Pi_layerSample_38 (by decide) ?_
    refine aw_lo (lo' := [some (.ref (oa u)), some (.int x1), none, none, some (.int s0), none]) ⟨.inr rfl, .inr rfl, .inr rfl, .inl rfl, .inr rfl, .inr rfl, trivial⟩ ?_
    exact s_Pi_layerSample_42 C hQ hA hR hu x1 s0 (x3 / 2) S  hp
set_option maxRecDepth 100000 in
set_option maxHeartbeats 1000000 in
theorem s_Pi_layerSample_0 (C : fcx gG D z A X R_Pi c_C_Pi_layerSample 6 (some .int)) (hQ : X.2.2.2.2.2.2.2.2.2.2 = eQ gG D z X.2.2.2.2.2.2.2.1 X.2.2.2.2.1 L0 0 0 (pC_i lt_C U oa K (fun _ _ => False))) (hA : A = owA gG L0 X.2.2.2.2.1.heap.size) (hR : X.2.2.2.1 = { frames := 2, cells := 1, slots := 6, locals := 200 }) (hu : c_cl U u = 7) (x1 : Int32) (x2 : Int32) (x3 : Int32) (S : cs) (hp : p_Pi_layerSample U u x1 x2 x3 S K) : aw gG D z A X 6 0 [some (.ref (oa u)), some (.int x1), some (.int x2), some (.int x3), none, none] [] (cw lt_C U oa S) 0 0 := by
  unfold p_Pi_layerSample at hp
  refine a_aload_n C dc_Pi_layerSample_0 rfl rfl ?_
  refine c_getR C u 3 dc_Pi_layerSample_1 hu rfl rfl (Nat.le_of_ble_eq_true rfl) f_Pi_21 rfl hp.1 ?_
  have hp := hp.2
  refine a_iload_n C dc_Pi_layerSample_4 rfl rfl ?_
  have hc3 := hp.1
  have hp := hp.2
  refine c_iald C (S.2.2 u 3) dc_Pi_layerSample_5 hc3 hp.1 ?_
  have hp := hp.2
  refine a_aload_n C dc_Pi_layerSample_6 rfl rfl ?_
  refine c_getI C u 5 dc_Pi_layerSample_7 hu rfl rfl (Nat.le_of_ble_eq_true rfl) f_Pi_28 (Nat.le_of_ble_eq_true rfl) ?_
  refine a_icmp_ge (tgt := 19) C dc_Pi_layerSample_10 (by decide) ⟨fun hc => ?_, fun hc => ?_⟩
  · have hp := hp.1 hc
    refine a_iload_n C dc_Pi_layerSample_19 rfl rfl ?_
    refine aw_lo (lo' := [some (.ref (oa u)), some (.int x1), none, some (.int x3), none, none]) ⟨.inr rfl, .inr rfl, .inl rfl, .inr rfl, .inr rfl, .inr rfl, trivial⟩ ?_
    exact s_Pi_layerSample_20 C hQ hA hR hu x1 x3 x2 S  hp
  · have hp := hp.2 hc
    refine a_iload_n C dc_Pi_layerSample_13 rfl rfl ?_
    refine a_iconst (v := 2) C dc_Pi_layerSample_14 (by decide) ?_
    refine a_idiv C dc_Pi_layerSample_15 (by decide) ?_
    refine a_goto (tgt := 20) C dc_Pi_layerSample_16 (by decide) ?_
    refine aw_lo (lo' := [some (.ref (oa u)), some (.int x1), none, some (.int x3), none, none]) ⟨.inr rfl, .inr rfl, .inl rfl, .inr rfl, .inr rfl, .inr rfl, trivial⟩ ?_
    exact s_Pi_layerSample_20 C hQ hA hR hu x1 x3 (x2 / 2) S  hp
end C_Pi_layerSample
section C_Pi_layerSamplec
variable {D : va_G} {z : Nat → ClassId} {U : ut} {oa : Nat → Nat}
set_option maxRecDepth 100000 in
theorem ct_Pi_layerSample {l : Launch} (u : Nat) (x1 : Int32) (x2 : Int32) (x3 : Int32) (S : cs) {K : Int32 → cs → Prop} (hu : c_cl U u = 7) (hp : p_Pi_layerSample U u x1 x2 x3 S K) : ct gG D z l n_C_Pi_layerSample c_C_Pi_layerSample 6 (some .int) 2 200 [.ref (oa u), .int x1, .int x2, .int x3] (cw lt_C U oa S) 0 0 (pC_i lt_C U oa K (fun _ _ => False)) := by
  refine ct_of (lo := [some (.ref (oa u)), some (.int x1), some (.int x2), some (.int x3), none, none]) (by decide) g_ok (Nat.le_of_ble_eq_true rfl) rfl ?_
  intro X A _ C hR hQ hA _
  exact s_Pi_layerSample_0 C hQ hA hR hu x1 x2 x3 S hp
end C_Pi_layerSamplec
def b_Pi_colour_97 (U : ut) (u : Nat) (x4 : Int32) (s0 : Int32) (S : cs) (K : Int32 → cs → Prop) : Prop :=
  p_B_clamp (x4 + ((s0 + 32768) >>> (16 &&& 31 : Int32) : Int32)) 0 255 (fun v114 => K v114 S)
def p_Pi_colour (U : ut) (u : Nat) (x1 : Int32) (x2 : Int32) (x3 : Int32) (S : cs) (K : Int32 → cs → Prop) : Prop :=
  p_Pi_layerSample U u 0 x1 x2 S (fun v4 S4 => (¬ (S4.1 u 2) = 1 → (p_Pi_layerSample U u 1 x1 x2 S4 (fun v24 S24 => p_Pi_layerSample U u 2 x1 x2 S24 (fun v37 S37 => (¬ x3 = 1 → ((¬ x3 = 0 → (b_Pi_colour_97 U u v4 (116130 * (v24 - 128)) S37 K)) ∧ (x3 = 0 → (b_Pi_colour_97 U u v4 (91881 * (v37 - 128)) S37 K)))) ∧ (x3 = 1 → (p_B_clamp (v4 - ((((22554 * (v24 - 128)) + (46802 * (v37 - 128))) + 32768) >>> (16 &&& 31 : Int32) : Int32)) 0 255 (fun v76 => K v76 S37))))))) ∧ ((S4.1 u 2) = 1 → (K v4 S4)))
section C_Pi_colour
variable {D : va_G} {z : Nat → ClassId} {A : Nat → Prop} {X : cx} {L0 : fw} {U : ut} {oa : Nat → Nat} {u : Nat} {K : Int32 → cs → Prop}
set_option maxRecDepth 100000 in
set_option maxHeartbeats 1000000 in
theorem s_Pi_colour_97 (C : fcx gG D z A X R_Pi c_C_Pi_colour 8 (some .int)) (hQ : X.2.2.2.2.2.2.2.2.2.2 = eQ gG D z X.2.2.2.2.2.2.2.1 X.2.2.2.2.1 L0 0 0 (pC_i lt_C U oa K (fun _ _ => False))) (hA : A = owA gG L0 X.2.2.2.2.1.heap.size) (hR : X.2.2.2.1 = { frames := 3, cells := 1, slots := 6, locals := 300 }) (hu : c_cl U u = 7) (x4 : Int32) (s0 : Int32) (S : cs) (hp : b_Pi_colour_97 U u x4 s0 S K) : aw gG D z A X 8 97 [some (.ref (oa u)), none, none, none, some (.int x4), none, none, none] [.int s0] (cw lt_C U oa S) 0 0 := by
  unfold b_Pi_colour_97 at hp
  refine a_istore (lo' := [some (.ref (oa u)), none, none, none, some (.int x4), none, none, some (.int s0)]) C dc_Pi_colour_97 (by decide) rfl ?_
  refine a_iload C dc_Pi_colour_99 rfl ?_
  refine a_iload C dc_Pi_colour_101 rfl ?_
  refine a_ldc (v := 32768) C dc_Pi_colour_103 k_Pi_108 ?_
  refine a_iadd C dc_Pi_colour_105 ?_
  refine a_bipush (v := 16) C dc_Pi_colour_106 (by decide) ?_
  refine a_ishr C dc_Pi_colour_108 ?_
  refine a_iadd C dc_Pi_colour_109 ?_
  refine a_iconst (v := 0) C dc_Pi_colour_110 (by decide) ?_
  refine a_sipush (v := 255) C dc_Pi_colour_111 (by decide) ?_
  refine a_callP (rest := []) (av := [.int (x4 + ((s0 + 32768) >>> (16 &&& 31 : Int32) : Int32)), .int 0, .int 255]) C dc_Pi_colour_114 (ct_B_clamp (x4 + ((s0 + 32768) >>> (16 &&& 31 : Int32) : Int32)) 0 255 hp) cd_C_B_clamp i_B (Nat.le_of_ble_eq_true rfl) (by rw [hR]; exact Nat.le_of_ble_eq_true rfl) (by rw [hR]; exact Nat.le_of_ble_eq_true rfl) (by rw [hR]; exact Nat.le_of_ble_eq_true rfl) (by rw [hR]; exact Nat.le_of_ble_eq_true rfl) (inv_SN C dc_Pi_colour_114 l_Pi_109 st_C_B_clamp i_B cd_C_B_clamp ⟨by decide, by decide⟩ ln_C_B_clamp rfl) (fun v114 hp => ?_)
  refine aw_eq (lo' := _) (st' := [.int v114]) (L' := (cw lt_C U oa S)) rfl rfl rfl ?_
  exact a_iret (ty := .int) C hQ hA dc_Pi_colour_117 rfl rfl (Or.inl ⟨_, S, hp, rfl, rfl⟩)
set_option maxRecDepth 100000 in
set_option maxHeartbeats 1000000 in
theorem s_Pi_colour_0 (C : fcx gG D z A X R_Pi c_C_Pi_colour 8 (some .int)) (hQ : X.2.2.2.2.2.2.2.2.2.2 = eQ gG D z X.2.2.2.2.2.2.2.1 X.2.2.2.2.1 L0 0 0 (pC_i lt_C U oa K (fun _ _ => False))) (hA : A = owA gG L0 X.2.2.2.2.1.heap.size) (hR : X.2.2.2.1 = { frames := 3, cells := 1, slots := 6, locals := 300 }) (hu : c_cl U u = 7) (x1 : Int32) (x2 : Int32) (x3 : Int32) (S : cs) (hp : p_Pi_colour U u x1 x2 x3 S K) : aw gG D z A X 8 0 [some (.ref (oa u)), some (.int x1), some (.int x2), some (.int x3), none, none, none, none] [] (cw lt_C U oa S) 0 0 := by
  unfold p_Pi_colour at hp
  refine a_aload_n C dc_Pi_colour_0 rfl rfl ?_
  refine a_iconst (v := 0) C dc_Pi_colour_1 (by decide) ?_
  refine a_iload_n C dc_Pi_colour_2 rfl rfl ?_
  refine a_iload_n C dc_Pi_colour_3 rfl rfl ?_
  refine c_call (rest := []) (av := .ref (oa u) :: [.int 0, .int x1, .int x2]) C dc_Pi_colour_4 (ct_Pi_layerSample u 0 x1 x2 S hu hp) cd_C_Pi_layerSample i_Pi (Nat.le_of_ble_eq_true rfl) (by rw [hR]; exact Nat.le_of_ble_eq_true rfl) (by rw [hR]; exact Nat.le_of_ble_eq_true rfl) (by rw [hR]; exact Nat.le_of_ble_eq_true rfl) (by rw [hR]; exact Nat.le_of_ble_eq_true rfl) (inv_V C u dc_Pi_colour_4 l_Pi_104 im_C_Pi_layerSample se_C_Pi_layerSample cd_C_Pi_layerSample ⟨by decide, by decide⟩ ln_C_Pi_layerSample rfl rfl (cw_obj hu rfl) rfl rfl) (fun oc L1 hL => ?_)
  obtain ⟨v4, S4, hp, rfl, rfl⟩ := hL.resolve_right pC_no
  refine ⟨_, rfl, ?_⟩
  refine aw_eq (lo' := _) (st' := [.int v4]) (L' := (cw lt_C U oa S4)) rfl rfl rfl ?_
  refine a_istore (lo' := [some (.ref (oa u)), some (.int x1), some (.int x2), some (.int x3), some (.int v4), none, none, none]) C dc_Pi_colour_7 (by decide) rfl ?_
  refine a_aload_n C dc_Pi_colour_9 rfl rfl ?_
  refine c_getI C u 2 dc_Pi_colour_10 hu rfl rfl (Nat.le_of_ble_eq_true rfl) f_Pi_18 (Nat.le_of_ble_eq_true rfl) ?_
  refine a_iconst (v := 1) C dc_Pi_colour_13 (by decide) ?_
  refine a_icmp_ne (tgt := 20) C dc_Pi_colour_14 (by decide) ⟨fun hc => ?_, fun hc => ?_⟩
  · have hp := hp.1 hc
    refine a_aload_n C dc_Pi_colour_20 rfl rfl ?_
    refine a_iconst (v := 1) C dc_Pi_colour_21 (by decide) ?_
    refine a_iload_n C dc_Pi_colour_22 rfl rfl ?_
    refine a_iload_n C dc_Pi_colour_23 rfl rfl ?_
    refine c_call (rest := []) (av := .ref (oa u) :: [.int 1, .int x1, .int x2]) C dc_Pi_colour_24 (ct_Pi_layerSample u 1 x1 x2 S4 hu hp) cd_C_Pi_layerSample i_Pi (Nat.le_of_ble_eq_true rfl) (by rw [hR]; exact Nat.le_of_ble_eq_true rfl) (by rw [hR]; exact Nat.le_of_ble_eq_true rfl) (by rw [hR]; exact Nat.le_of_ble_eq_true rfl) (by rw [hR]; exact Nat.le_of_ble_eq_true rfl) (inv_V C u dc_Pi_colour_24 l_Pi_104 im_C_Pi_layerSample se_C_Pi_layerSample cd_C_Pi_layerSample ⟨by decide, by decide⟩ ln_C_Pi_layerSample rfl rfl (cw_obj hu rfl) rfl rfl) (fun oc L1 hL => ?_)
    obtain ⟨v24, S24, hp, rfl, rfl⟩ := hL.resolve_right pC_no
    refine ⟨_, rfl, ?_⟩
    refine aw_eq (lo' := _) (st' := [.int v24]) (L' := (cw lt_C U oa S24)) rfl rfl rfl ?_
    refine a_sipush (v := 128) C dc_Pi_colour_27 (by decide) ?_
    refine a_isub C dc_Pi_colour_30 ?_
    refine a_istore (lo' := [some (.ref (oa u)), some (.int x1), some (.int x2), some (.int x3), some (.int v4), some (.int (v24 - 128)), none, none]) C dc_Pi_colour_31 (by decide) rfl ?_
    refine a_aload_n C dc_Pi_colour_33 rfl rfl ?_
    refine a_iconst (v := 2) C dc_Pi_colour_34 (by decide) ?_
    refine a_iload_n C dc_Pi_colour_35 rfl rfl ?_
    refine a_iload_n C dc_Pi_colour_36 rfl rfl ?_
    refine c_call (rest := []) (av := .ref (oa u) :: [.int 2, .int x1, .int x2]) C dc_Pi_colour_37 (ct_Pi_layerSample u 2 x1 x2 S24 hu hp) cd_C_Pi_layerSample i_Pi (Nat.le_of_ble_eq_true rfl) (by rw [hR]; exact Nat.le_of_ble_eq_true rfl) (by rw [hR]; exact Nat.le_of_ble_eq_true rfl) (by rw [hR]; exact Nat.le_of_ble_eq_true rfl) (by rw [hR]; exact Nat.le_of_ble_eq_true rfl) (inv_V C u dc_Pi_colour_37 l_Pi_104 im_C_Pi_layerSample se_C_Pi_layerSample cd_C_Pi_layerSample ⟨by decide, by decide⟩ ln_C_Pi_layerSample rfl rfl (cw_obj hu rfl) rfl rfl) (fun oc L1 hL => ?_)
    obtain ⟨v37, S37, hp, rfl, rfl⟩ := hL.resolve_right pC_no
    refine ⟨_, rfl, ?_⟩
    refine aw_eq (lo' := _) (st' := [.int v37]) (L' := (cw lt_C U oa S37)) rfl rfl rfl ?_
    refine a_sipush (v := 128) C dc_Pi_colour_40 (by decide) ?_
    refine a_isub C dc_Pi_colour_43 ?_
    refine a_istore (lo' := [some (.ref (oa u)), some (.int x1), some (.int x2), some (.int x3), some (.int v4), some (.int (v24 - 128)), some (.int (v37 - 128)), none]) C dc_Pi_colour_44 (by decide) rfl ?_
    refine a_iload_n C dc_Pi_colour_46 rfl rfl ?_
    refine a_iconst (v := 1) C dc_Pi_colour_47 (by decide) ?_
    refine a_icmp_ne (tgt := 80) C dc_Pi_colour_48 (by decide) ⟨fun hc => ?_, fun hc => ?_⟩
    · have hp := hp.1 hc
      refine a_iload_n C dc_Pi_colour_80 rfl rfl ?_
      refine a_if_ne (tgt := 92) C dc_Pi_colour_81 (by decide) ⟨fun hc => ?_, fun hc => ?_⟩
      · have hp := hp.1 hc
        refine a_ldc (v := 116130) C dc_Pi_colour_92 k_Pi_113 ?_
        refine a_iload C dc_Pi_colour_94 rfl ?_
        refine a_imul C dc_Pi_colour_96 ?_
        refine aw_lo (lo' := [some (.ref (oa u)), none, none, none, some (.int v4), none, none, none]) ⟨.inr rfl, .inl rfl, .inl rfl, .inl rfl, .inr rfl, .inl rfl, .inl rfl, .inr rfl, trivial⟩ ?_
        exact s_Pi_colour_97 C hQ hA hR hu v4 (116130 * (v24 - 128)) S37  hp
      · have hp := hp.2 hc
        refine a_ldc (v := 91881) C dc_Pi_colour_84 k_Pi_112 ?_
        refine a_iload C dc_Pi_colour_86 rfl ?_
        refine a_imul C dc_Pi_colour_88 ?_
        refine a_goto (tgt := 97) C dc_Pi_colour_89 (by decide) ?_
        refine aw_lo (lo' := [some (.ref (oa u)), none, none, none, some (.int v4), none, none, none]) ⟨.inr rfl, .inl rfl, .inl rfl, .inl rfl, .inr rfl, .inl rfl, .inl rfl, .inr rfl, trivial⟩ ?_
        exact s_Pi_colour_97 C hQ hA hR hu v4 (91881 * (v37 - 128)) S37  hp
    · have hp := hp.2 hc
      refine a_iload C dc_Pi_colour_51 rfl ?_
      refine a_sipush (v := 22554) C dc_Pi_colour_53 (by decide) ?_
      refine a_iload C dc_Pi_colour_56 rfl ?_
      refine a_imul C dc_Pi_colour_58 ?_
      refine a_ldc (v := 46802) C dc_Pi_colour_59 k_Pi_107 ?_
      refine a_iload C dc_Pi_colour_61 rfl ?_
      refine a_imul C dc_Pi_colour_63 ?_
      refine a_iadd C dc_Pi_colour_64 ?_
      refine a_ldc (v := 32768) C dc_Pi_colour_65 k_Pi_108 ?_
      refine a_iadd C dc_Pi_colour_67 ?_
      refine a_bipush (v := 16) C dc_Pi_colour_68 (by decide) ?_
      refine a_ishr C dc_Pi_colour_70 ?_
      refine a_isub C dc_Pi_colour_71 ?_
      refine a_iconst (v := 0) C dc_Pi_colour_72 (by decide) ?_
      refine a_sipush (v := 255) C dc_Pi_colour_73 (by decide) ?_
      refine a_callP (rest := []) (av := [.int (v4 - ((((22554 * (v24 - 128)) + (46802 * (v37 - 128))) + 32768) >>> (16 &&& 31 : Int32) : Int32)), .int 0, .int 255]) C dc_Pi_colour_76 (ct_B_clamp (v4 - ((((22554 * (v24 - 128)) + (46802 * (v37 - 128))) + 32768) >>> (16 &&& 31 : Int32) : Int32)) 0 255 hp) cd_C_B_clamp i_B (Nat.le_of_ble_eq_true rfl) (by rw [hR]; exact Nat.le_of_ble_eq_true rfl) (by rw [hR]; exact Nat.le_of_ble_eq_true rfl) (by rw [hR]; exact Nat.le_of_ble_eq_true rfl) (by rw [hR]; exact Nat.le_of_ble_eq_true rfl) (inv_SN C dc_Pi_colour_76 l_Pi_109 st_C_B_clamp i_B cd_C_B_clamp ⟨by decide, by decide⟩ ln_C_B_clamp rfl) (fun v76 hp => ?_)
      refine aw_eq (lo' := _) (st' := [.int v76]) (L' := (cw lt_C U oa S37)) rfl rfl rfl ?_
      exact a_iret (ty := .int) C hQ hA dc_Pi_colour_79 rfl rfl (Or.inl ⟨_, S37, hp, rfl, rfl⟩)
  · have hp := hp.2 hc
    refine a_iload C dc_Pi_colour_17 rfl ?_
    exact a_iret (ty := .int) C hQ hA dc_Pi_colour_19 rfl rfl (Or.inl ⟨_, S4, hp, rfl, rfl⟩)
end C_Pi_colour
section C_Pi_colourc
variable {D : va_G} {z : Nat → ClassId} {U : ut} {oa : Nat → Nat}
set_option maxRecDepth 100000 in
theorem ct_Pi_colour {l : Launch} (u : Nat) (x1 : Int32) (x2 : Int32) (x3 : Int32) (S : cs) {K : Int32 → cs → Prop} (hu : c_cl U u = 7) (hp : p_Pi_colour U u x1 x2 x3 S K) : ct gG D z l n_C_Pi_colour c_C_Pi_colour 8 (some .int) 3 300 [.ref (oa u), .int x1, .int x2, .int x3] (cw lt_C U oa S) 0 0 (pC_i lt_C U oa K (fun _ _ => False)) := by
  refine ct_of (lo := [some (.ref (oa u)), some (.int x1), some (.int x2), some (.int x3), none, none, none, none]) (by decide) g_ok (Nat.le_of_ble_eq_true rfl) rfl ?_
  intro X A _ C hR hQ hA _
  exact s_Pi_colour_0 C hQ hA hR hu x1 x2 x3 S hp
end C_Pi_colourc
def b_B_sample_71 (U : ut) (u : Nat)  (S : cs) (K : Int32 → cs → Prop) (T : Nat → cs → Prop) : Prop :=
  T 15 S
def p_B_sample (U : ut) (u : Nat) (x1 : Int32) (x2 : Int32) (x3 : Int32) (S : cs) (K : Int32 → cs → Prop) (T : Nat → cs → Prop) : Prop :=
  ¬ S.2.2 u 7 = NU ∧ (c_cl U (S.2.2 u 7) = 7 ∧ ((¬ (S.1 (S.2.2 u 7) 17) = 0 → (¬ S.2.2 u 7 = NU ∧ (p_B_isWithin x1 0 ((S.1 (S.2.2 u 7) 0) - 1) (fun v31 => (v31 = 0 → (b_B_sample_71 U u S K T)) ∧ (¬ (v31 = 0) → (¬ S.2.2 u 7 = NU ∧ (p_B_isWithin x2 0 ((S.1 (S.2.2 u 7) 1) - 1) (fun v48 => (v48 = 0 → (b_B_sample_71 U u S K T)) ∧ (¬ (v48 = 0) → (¬ S.2.2 u 7 = NU ∧ (p_B_isWithin x3 0 ((S.1 (S.2.2 u 7) 2) - 1) (fun v65 => (¬ v65 = 0 → (¬ S.2.2 u 7 = NU ∧ (¬ S.2.2 u 5 = NU ∧ (p_Pi_draw U (S.2.2 u 7) (S.2.2 u 5) S (fun S89 => ¬ S89.2.2 u 7 = NU ∧ (c_cl U (S89.2.2 u 7) = 7 ∧ (p_Pi_colour U (S89.2.2 u 7) x1 x2 x3 S89 (fun v99 S99 => K v99 S99)))))))) ∧ (v65 = 0 → (b_B_sample_71 U u S K T)))))))))))))) ∧ ((S.1 (S.2.2 u 7) 17) = 0 → (T 13 S))))
section C_B_sample
variable {D : va_G} {z : Nat → ClassId} {A : Nat → Prop} {X : cx} {L0 : fw} {U : ut} {oa : Nat → Nat} {u : Nat} {K : Int32 → cs → Prop} {T : Nat → cs → Prop}
set_option maxRecDepth 100000 in
set_option maxHeartbeats 1000000 in
theorem s_B_sample_71 (C : fcx gG D z A X R_B c_C_B_sample 4 (some .int)) (hQ : X.2.2.2.2.2.2.2.2.2.2 = eQ gG D z X.2.2.2.2.2.2.2.1 X.2.2.2.2.1 L0 0 0 (pC_i lt_C U oa K T)) (hA : A = owA gG L0 X.2.2.2.2.1.heap.size) (hR : X.2.2.2.1 = { frames := 9, cells := 1, slots := 6, locals := 900 }) (hno : ∀ x ∈ X.2.2.2.2.2.2.2.2.2.1.exceptionTable.toList, False) (hfl : X.2.1.flags = pinnedFlags ++ [noTraceFlag]) (hu : c_cl U u = 1)  (S : cs) (hp : b_B_sample_71 U u S K T) : aw gG D z A X 4 71 [some (.ref (oa u)), none, none, none] [] (cw lt_C U oa S) 0 0 := by
  unfold b_B_sample_71 at hp
  exact a_throw (ci := 15) C hQ hA hno hfl dc_B_sample_71 dc_B_sample_74 dc_B_sample_75 dc_B_sample_77 dc_B_sample_80 x_B_90 rfl rfl y_B_196 i_E15 j_E15 (by decide) z_B_94 (at_E15 _ _) (Nat.le_of_ble_eq_true rfl) (by rw [hR]; exact Nat.le_of_ble_eq_true rfl) (by rw [hR]; exact Nat.le_of_ble_eq_true rfl) (Nat.le_refl _) (Nat.le_refl _) (by rw [hR]; exact Nat.le_of_ble_eq_true rfl) (by rw [hR]; exact Nat.le_of_ble_eq_true rfl) (fun q => Or.inr ⟨15, q, S, hp, rfl, rfl⟩)
set_option maxRecDepth 100000 in
set_option maxHeartbeats 1000000 in
theorem s_B_sample_0 (C : fcx gG D z A X R_B c_C_B_sample 4 (some .int)) (hQ : X.2.2.2.2.2.2.2.2.2.2 = eQ gG D z X.2.2.2.2.2.2.2.1 X.2.2.2.2.1 L0 0 0 (pC_i lt_C U oa K T)) (hA : A = owA gG L0 X.2.2.2.2.1.heap.size) (hR : X.2.2.2.1 = { frames := 9, cells := 1, slots := 6, locals := 900 }) (hno : ∀ x ∈ X.2.2.2.2.2.2.2.2.2.1.exceptionTable.toList, False) (hfl : X.2.1.flags = pinnedFlags ++ [noTraceFlag]) (hu : c_cl U u = 1) (x1 : Int32) (x2 : Int32) (x3 : Int32) (S : cs) (hp : p_B_sample U u x1 x2 x3 S K T) : aw gG D z A X 4 0 [some (.ref (oa u)), some (.int x1), some (.int x2), some (.int x3)] [] (cw lt_C U oa S) 0 0 := by
  unfold p_B_sample at hp
  refine a_aload_n C dc_B_sample_0 rfl rfl ?_
  refine c_getR C u 7 dc_B_sample_1 hu rfl rfl (Nat.le_of_ble_eq_true rfl) f_B_57 rfl hp.1 ?_
  have hp := hp.2
  have hc1 := hp.1
  have hp := hp.2
  refine c_getIN C (S.2.2 u 7) 17 dc_B_sample_4 hc1 rfl rfl (Nat.le_of_ble_eq_true rfl) f_B_181 (Nat.le_of_ble_eq_true rfl) ?_
  refine a_if_ne (tgt := 20) C dc_B_sample_7 (by decide) ⟨fun hc => ?_, fun hc => ?_⟩
  · have hp := hp.1 hc
    refine a_iload_n C dc_B_sample_20 rfl rfl ?_
    refine a_iconst (v := 0) C dc_B_sample_21 (by decide) ?_
    refine a_aload_n C dc_B_sample_22 rfl rfl ?_
    refine c_getR C u 7 dc_B_sample_23 hu rfl rfl (Nat.le_of_ble_eq_true rfl) f_B_57 rfl hp.1 ?_
    have hp := hp.2
    refine c_getIN C (S.2.2 u 7) 0 dc_B_sample_26 hc1 rfl rfl (Nat.le_of_ble_eq_true rfl) f_B_187 (Nat.le_of_ble_eq_true rfl) ?_
    refine a_iconst (v := 1) C dc_B_sample_29 (by decide) ?_
    refine a_isub C dc_B_sample_30 ?_
    refine a_callP (rest := []) (av := [.int x1, .int 0, .int ((S.1 (S.2.2 u 7) 0) - 1)]) C dc_B_sample_31 (ct_B_isWithin x1 0 ((S.1 (S.2.2 u 7) 0) - 1) hp) cd_C_B_isWithin i_B (Nat.le_of_ble_eq_true rfl) (by rw [hR]; exact Nat.le_of_ble_eq_true rfl) (by rw [hR]; exact Nat.le_of_ble_eq_true rfl) (by rw [hR]; exact Nat.le_of_ble_eq_true rfl) (by rw [hR]; exact Nat.le_of_ble_eq_true rfl) (inv_S C dc_B_sample_31 l_B_71 st_C_B_isWithin i_B cd_C_B_isWithin ⟨by decide, by decide⟩ ln_C_B_isWithin rfl) (fun v31 hp => ?_)
    refine aw_eq (lo' := _) (st' := [.int v31]) (L' := (cw lt_C U oa S)) rfl rfl rfl ?_
    refine a_if_eq (tgt := 71) C dc_B_sample_34 (by decide) ⟨fun hc => ?_, fun hc => ?_⟩
    · have hp := hp.1 hc
      refine aw_lo (lo' := [some (.ref (oa u)), none, none, none]) ⟨.inr rfl, .inl rfl, .inl rfl, .inl rfl, trivial⟩ ?_
      exact s_B_sample_71 C hQ hA hR hno hfl hu S  hp
    · have hp := hp.2 hc
      refine a_iload_n C dc_B_sample_37 rfl rfl ?_
      refine a_iconst (v := 0) C dc_B_sample_38 (by decide) ?_
      refine a_aload_n C dc_B_sample_39 rfl rfl ?_
      refine c_getR C u 7 dc_B_sample_40 hu rfl rfl (Nat.le_of_ble_eq_true rfl) f_B_57 rfl hp.1 ?_
      have hp := hp.2
      refine c_getIN C (S.2.2 u 7) 1 dc_B_sample_43 hc1 rfl rfl (Nat.le_of_ble_eq_true rfl) f_B_190 (Nat.le_of_ble_eq_true rfl) ?_
      refine a_iconst (v := 1) C dc_B_sample_46 (by decide) ?_
      refine a_isub C dc_B_sample_47 ?_
      refine a_callP (rest := []) (av := [.int x2, .int 0, .int ((S.1 (S.2.2 u 7) 1) - 1)]) C dc_B_sample_48 (ct_B_isWithin x2 0 ((S.1 (S.2.2 u 7) 1) - 1) hp) cd_C_B_isWithin i_B (Nat.le_of_ble_eq_true rfl) (by rw [hR]; exact Nat.le_of_ble_eq_true rfl) (by rw [hR]; exact Nat.le_of_ble_eq_true rfl) (by rw [hR]; exact Nat.le_of_ble_eq_true rfl) (by rw [hR]; exact Nat.le_of_ble_eq_true rfl) (inv_S C dc_B_sample_48 l_B_71 st_C_B_isWithin i_B cd_C_B_isWithin ⟨by decide, by decide⟩ ln_C_B_isWithin rfl) (fun v48 hp => ?_)
      refine aw_eq (lo' := _) (st' := [.int v48]) (L' := (cw lt_C U oa S)) rfl rfl rfl ?_
      refine a_if_eq (tgt := 71) C dc_B_sample_51 (by decide) ⟨fun hc => ?_, fun hc => ?_⟩
      · have hp := hp.1 hc
        refine aw_lo (lo' := [some (.ref (oa u)), none, none, none]) ⟨.inr rfl, .inl rfl, .inl rfl, .inl rfl, trivial⟩ ?_
        exact s_B_sample_71 C hQ hA hR hno hfl hu S  hp
      · have hp := hp.2 hc
        refine a_iload_n C dc_B_sample_54 rfl rfl ?_
        refine a_iconst (v := 0) C dc_B_sample_55 (by decide) ?_
        refine a_aload_n C dc_B_sample_56 rfl rfl ?_
        refine c_getR C u 7 dc_B_sample_57 hu rfl rfl (Nat.le_of_ble_eq_true rfl) f_B_57 rfl hp.1 ?_
        have hp := hp.2
        refine c_getIN C (S.2.2 u 7) 2 dc_B_sample_60 hc1 rfl rfl (Nat.le_of_ble_eq_true rfl) f_B_193 (Nat.le_of_ble_eq_true rfl) ?_
        refine a_iconst (v := 1) C dc_B_sample_63 (by decide) ?_
        refine a_isub C dc_B_sample_64 ?_
        refine a_callP (rest := []) (av := [.int x3, .int 0, .int ((S.1 (S.2.2 u 7) 2) - 1)]) C dc_B_sample_65 (ct_B_isWithin x3 0 ((S.1 (S.2.2 u 7) 2) - 1) hp) cd_C_B_isWithin i_B (Nat.le_of_ble_eq_true rfl) (by rw [hR]; exact Nat.le_of_ble_eq_true rfl) (by rw [hR]; exact Nat.le_of_ble_eq_true rfl) (by rw [hR]; exact Nat.le_of_ble_eq_true rfl) (by rw [hR]; exact Nat.le_of_ble_eq_true rfl) (inv_S C dc_B_sample_65 l_B_71 st_C_B_isWithin i_B cd_C_B_isWithin ⟨by decide, by decide⟩ ln_C_B_isWithin rfl) (fun v65 hp => ?_)
        refine aw_eq (lo' := _) (st' := [.int v65]) (L' := (cw lt_C U oa S)) rfl rfl rfl ?_
        refine a_if_ne (tgt := 81) C dc_B_sample_68 (by decide) ⟨fun hc => ?_, fun hc => ?_⟩
        · have hp := hp.1 hc
          refine a_aload_n C dc_B_sample_81 rfl rfl ?_
          refine c_getR C u 7 dc_B_sample_82 hu rfl rfl (Nat.le_of_ble_eq_true rfl) f_B_57 rfl hp.1 ?_
          have hp := hp.2
          refine a_aload_n C dc_B_sample_85 rfl rfl ?_
          refine c_getR C u 5 dc_B_sample_86 hu rfl rfl (Nat.le_of_ble_eq_true rfl) f_B_43 rfl hp.1 ?_
          have hp := hp.2
          refine c_call (rest := []) (av := .ref (oa (S.2.2 u 7)) :: [.ref (oa (S.2.2 u 5))]) C dc_B_sample_89 (ct_Pi_draw (S.2.2 u 7) (S.2.2 u 5) S hc1 hp) cd_C_Pi_draw i_Pi (Nat.le_of_ble_eq_true rfl) (by rw [hR]; exact Nat.le_of_ble_eq_true rfl) (by rw [hR]; exact Nat.le_of_ble_eq_true rfl) (by rw [hR]; exact Nat.le_of_ble_eq_true rfl) (by rw [hR]; exact Nat.le_of_ble_eq_true rfl) (inv_V C (S.2.2 u 7) dc_B_sample_89 l_B_198 im_C_Pi_draw se_C_Pi_draw cd_C_Pi_draw ⟨by decide, by decide⟩ ln_C_Pi_draw rfl rfl (cw_obj hc1 rfl) rfl rfl) (fun oc L1 hL => ?_)
          obtain ⟨S89, hp, rfl, rfl⟩ := hL.resolve_right pC_no
          refine ⟨_, rfl, ?_⟩
          refine aw_eq (lo' := _) (st' := []) (L' := (cw lt_C U oa S89)) rfl rfl rfl ?_
          refine a_aload_n C dc_B_sample_92 rfl rfl ?_
          refine c_getR C u 7 dc_B_sample_93 hu rfl rfl (Nat.le_of_ble_eq_true rfl) f_B_57 rfl hp.1 ?_
          have hp := hp.2
          refine a_iload_n C dc_B_sample_96 rfl rfl ?_
          refine a_iload_n C dc_B_sample_97 rfl rfl ?_
          refine a_iload_n C dc_B_sample_98 rfl rfl ?_
          have hc2 := hp.1
          have hp := hp.2
          refine c_call (rest := []) (av := .ref (oa (S89.2.2 u 7)) :: [.int x1, .int x2, .int x3]) C dc_B_sample_99 (ct_Pi_colour (S89.2.2 u 7) x1 x2 x3 S89 hc2 hp) cd_C_Pi_colour i_Pi (Nat.le_of_ble_eq_true rfl) (by rw [hR]; exact Nat.le_of_ble_eq_true rfl) (by rw [hR]; exact Nat.le_of_ble_eq_true rfl) (by rw [hR]; exact Nat.le_of_ble_eq_true rfl) (by rw [hR]; exact Nat.le_of_ble_eq_true rfl) (inv_V C (S89.2.2 u 7) dc_B_sample_99 l_B_202 im_C_Pi_colour se_C_Pi_colour cd_C_Pi_colour ⟨by decide, by decide⟩ ln_C_Pi_colour rfl rfl (cw_obj hc2 rfl) rfl rfl) (fun oc L1 hL => ?_)
          obtain ⟨v99, S99, hp, rfl, rfl⟩ := hL.resolve_right pC_no
          refine ⟨_, rfl, ?_⟩
          refine aw_eq (lo' := _) (st' := [.int v99]) (L' := (cw lt_C U oa S99)) rfl rfl rfl ?_
          exact a_iret (ty := .int) C hQ hA dc_B_sample_102 rfl rfl (Or.inl ⟨_, S99, hp, rfl, rfl⟩)
        · have hp := hp.2 hc
          refine aw_lo (lo' := [some (.ref (oa u)), none, none, none]) ⟨.inr rfl, .inl rfl, .inl rfl, .inl rfl, trivial⟩ ?_
          exact s_B_sample_71 C hQ hA hR hno hfl hu S  hp
  · have hp := hp.2 hc
    exact a_throw (ci := 13) C hQ hA hno hfl dc_B_sample_10 dc_B_sample_13 dc_B_sample_14 dc_B_sample_16 dc_B_sample_19 x_B_149 rfl rfl y_B_185 i_E13 j_E13 (by decide) z_B_153 (at_E13 _ _) (Nat.le_of_ble_eq_true rfl) (by rw [hR]; exact Nat.le_of_ble_eq_true rfl) (by rw [hR]; exact Nat.le_of_ble_eq_true rfl) (Nat.le_refl _) (Nat.le_refl _) (by rw [hR]; exact Nat.le_of_ble_eq_true rfl) (by rw [hR]; exact Nat.le_of_ble_eq_true rfl) (fun q => Or.inr ⟨13, q, S, hp, rfl, rfl⟩)
end C_B_sample
section C_B_samplec
variable {D : va_G} {z : Nat → ClassId} {U : ut} {oa : Nat → Nat}
set_option maxRecDepth 100000 in
theorem ct_B_sample {l : Launch} (u : Nat) (x1 : Int32) (x2 : Int32) (x3 : Int32) (S : cs) {K : Int32 → cs → Prop} {T : Nat → cs → Prop} (hfl : l.flags = pinnedFlags ++ [noTraceFlag]) (hu : c_cl U u = 1) (hp : p_B_sample U u x1 x2 x3 S K T) : ct gG D z l n_C_B_sample c_C_B_sample 4 (some .int) 9 900 [.ref (oa u), .int x1, .int x2, .int x3] (cw lt_C U oa S) 0 0 (pC_i lt_C U oa K T) := by
  refine ct_of (lo := [some (.ref (oa u)), some (.int x1), some (.int x2), some (.int x3)]) (by decide) g_ok (Nat.le_of_ble_eq_true rfl) rfl ?_
  intro X A hl C hR hQ hA hno
  exact s_B_sample_0 C hQ hA hR hno (by rw [hl]; exact hfl) hu x1 x2 x3 S hp
end C_B_samplec
def b_Pi_hasBlock_35 (U : ut) (u : Nat) (s0 : Int32) (S : cs) (K : Int32 → cs → Prop) : Prop :=
  narrow .boolean (.int s0) = .int s0 ∧ K s0 S
def b_Pi_hasBlock_34 (U : ut) (u : Nat)  (S : cs) (K : Int32 → cs → Prop) : Prop :=
  b_Pi_hasBlock_35 U u 0 S K
def p_Pi_hasBlock (U : ut) (u : Nat) (x1 : Int32) (x2 : Int32) (S : cs) (K : Int32 → cs → Prop) : Prop :=
  p_B_isWithin x1 0 ((S.1 u 2) - 1) (fun v8 => (v8 = 0 → (b_Pi_hasBlock_34 U u S K)) ∧ (¬ (v8 = 0) → (¬ S.2.2 u 12 = NU ∧ (c_cl U (S.2.2 u 12) = 902 ∧ (vp_in x1 (c_ln U (S.2.2 u 12)) ∧ (p_B_isWithin x2 0 ((S.1 (S.2.2 u 12) x1.toNatClampNeg) - 1) (fun v24 => (v24 = 0 → (b_Pi_hasBlock_34 U u S K)) ∧ (¬ (v24 = 0) → (b_Pi_hasBlock_35 U u 1 S K)))))))))
section C_Pi_hasBlock
variable {D : va_G} {z : Nat → ClassId} {A : Nat → Prop} {X : cx} {L0 : fw} {U : ut} {oa : Nat → Nat} {u : Nat} {K : Int32 → cs → Prop}
set_option maxRecDepth 100000 in
set_option maxHeartbeats 1000000 in
theorem s_Pi_hasBlock_35 (C : fcx gG D z A X R_Pi c_C_Pi_hasBlock 3 (some .boolean)) (hQ : X.2.2.2.2.2.2.2.2.2.2 = eQ gG D z X.2.2.2.2.2.2.2.1 X.2.2.2.2.1 L0 0 0 (pC_i lt_C U oa K (fun _ _ => False))) (hA : A = owA gG L0 X.2.2.2.2.1.heap.size) (hR : X.2.2.2.1 = { frames := 2, cells := 1, slots := 6, locals := 200 }) (hu : c_cl U u = 7) (s0 : Int32) (S : cs) (hp : b_Pi_hasBlock_35 U u s0 S K) : aw gG D z A X 3 35 [some (.ref (oa u)), none, none] [.int s0] (cw lt_C U oa S) 0 0 := by
  unfold b_Pi_hasBlock_35 at hp
  exact a_iret (ty := .boolean) C hQ hA dc_Pi_hasBlock_35 rfl hp.1 (Or.inl ⟨_, S, hp.2, rfl, rfl⟩)
set_option maxRecDepth 100000 in
set_option maxHeartbeats 1000000 in
theorem s_Pi_hasBlock_34 (C : fcx gG D z A X R_Pi c_C_Pi_hasBlock 3 (some .boolean)) (hQ : X.2.2.2.2.2.2.2.2.2.2 = eQ gG D z X.2.2.2.2.2.2.2.1 X.2.2.2.2.1 L0 0 0 (pC_i lt_C U oa K (fun _ _ => False))) (hA : A = owA gG L0 X.2.2.2.2.1.heap.size) (hR : X.2.2.2.1 = { frames := 2, cells := 1, slots := 6, locals := 200 }) (hu : c_cl U u = 7)  (S : cs) (hp : b_Pi_hasBlock_34 U u S K) : aw gG D z A X 3 34 [some (.ref (oa u)), none, none] [] (cw lt_C U oa S) 0 0 := by
  unfold b_Pi_hasBlock_34 at hp
  refine a_iconst (v := 0) C dc_Pi_hasBlock_34 (by decide) ?_
  refine aw_lo (lo' := [some (.ref (oa u)), none, none]) ⟨.inr rfl, .inr rfl, .inr rfl, trivial⟩ ?_
  exact s_Pi_hasBlock_35 C hQ hA hR hu 0 S  hp
set_option maxRecDepth 100000 in
set_option maxHeartbeats 1000000 in
theorem s_Pi_hasBlock_0 (C : fcx gG D z A X R_Pi c_C_Pi_hasBlock 3 (some .boolean)) (hQ : X.2.2.2.2.2.2.2.2.2.2 = eQ gG D z X.2.2.2.2.2.2.2.1 X.2.2.2.2.1 L0 0 0 (pC_i lt_C U oa K (fun _ _ => False))) (hA : A = owA gG L0 X.2.2.2.2.1.heap.size) (hR : X.2.2.2.1 = { frames := 2, cells := 1, slots := 6, locals := 200 }) (hu : c_cl U u = 7) (x1 : Int32) (x2 : Int32) (S : cs) (hp : p_Pi_hasBlock U u x1 x2 S K) : aw gG D z A X 3 0 [some (.ref (oa u)), some (.int x1), some (.int x2)] [] (cw lt_C U oa S) 0 0 := by
  unfold p_Pi_hasBlock at hp
  refine a_iload_n C dc_Pi_hasBlock_0 rfl rfl ?_
  refine a_iconst (v := 0) C dc_Pi_hasBlock_1 (by decide) ?_
  refine a_aload_n C dc_Pi_hasBlock_2 rfl rfl ?_
  refine c_getI C u 2 dc_Pi_hasBlock_3 hu rfl rfl (Nat.le_of_ble_eq_true rfl) f_Pi_18 (Nat.le_of_ble_eq_true rfl) ?_
  refine a_iconst (v := 1) C dc_Pi_hasBlock_6 (by decide) ?_
  refine a_isub C dc_Pi_hasBlock_7 ?_
  refine a_callP (rest := []) (av := [.int x1, .int 0, .int ((S.1 u 2) - 1)]) C dc_Pi_hasBlock_8 (ct_B_isWithin x1 0 ((S.1 u 2) - 1) hp) cd_C_B_isWithin i_B (Nat.le_of_ble_eq_true rfl) (by rw [hR]; exact Nat.le_of_ble_eq_true rfl) (by rw [hR]; exact Nat.le_of_ble_eq_true rfl) (by rw [hR]; exact Nat.le_of_ble_eq_true rfl) (by rw [hR]; exact Nat.le_of_ble_eq_true rfl) (inv_SN C dc_Pi_hasBlock_8 l_Pi_80 st_C_B_isWithin i_B cd_C_B_isWithin ⟨by decide, by decide⟩ ln_C_B_isWithin rfl) (fun v8 hp => ?_)
  refine aw_eq (lo' := _) (st' := [.int v8]) (L' := (cw lt_C U oa S)) rfl rfl rfl ?_
  refine a_if_eq (tgt := 34) C dc_Pi_hasBlock_11 (by decide) ⟨fun hc => ?_, fun hc => ?_⟩
  · have hp := hp.1 hc
    refine aw_lo (lo' := [some (.ref (oa u)), none, none]) ⟨.inr rfl, .inl rfl, .inl rfl, trivial⟩ ?_
    exact s_Pi_hasBlock_34 C hQ hA hR hu S  hp
  · have hp := hp.2 hc
    refine a_iload_n C dc_Pi_hasBlock_14 rfl rfl ?_
    refine a_iconst (v := 0) C dc_Pi_hasBlock_15 (by decide) ?_
    refine a_aload_n C dc_Pi_hasBlock_16 rfl rfl ?_
    refine c_getR C u 12 dc_Pi_hasBlock_17 hu rfl rfl (Nat.le_of_ble_eq_true rfl) f_Pi_49 rfl hp.1 ?_
    have hp := hp.2
    refine a_iload_n C dc_Pi_hasBlock_20 rfl rfl ?_
    have hc1 := hp.1
    have hp := hp.2
    refine c_iald C (S.2.2 u 12) dc_Pi_hasBlock_21 hc1 hp.1 ?_
    have hp := hp.2
    refine a_iconst (v := 1) C dc_Pi_hasBlock_22 (by decide) ?_
    refine a_isub C dc_Pi_hasBlock_23 ?_
    refine a_callP (rest := []) (av := [.int x2, .int 0, .int ((S.1 (S.2.2 u 12) x1.toNatClampNeg) - 1)]) C dc_Pi_hasBlock_24 (ct_B_isWithin x2 0 ((S.1 (S.2.2 u 12) x1.toNatClampNeg) - 1) hp) cd_C_B_isWithin i_B (Nat.le_of_ble_eq_true rfl) (by rw [hR]; exact Nat.le_of_ble_eq_true rfl) (by rw [hR]; exact Nat.le_of_ble_eq_true rfl) (by rw [hR]; exact Nat.le_of_ble_eq_true rfl) (by rw [hR]; exact Nat.le_of_ble_eq_true rfl) (inv_SN C dc_Pi_hasBlock_24 l_Pi_80 st_C_B_isWithin i_B cd_C_B_isWithin ⟨by decide, by decide⟩ ln_C_B_isWithin rfl) (fun v24 hp => ?_)
    refine aw_eq (lo' := _) (st' := [.int v24]) (L' := (cw lt_C U oa S)) rfl rfl rfl ?_
    refine a_if_eq (tgt := 34) C dc_Pi_hasBlock_27 (by decide) ⟨fun hc => ?_, fun hc => ?_⟩
    · have hp := hp.1 hc
      refine aw_lo (lo' := [some (.ref (oa u)), none, none]) ⟨.inr rfl, .inl rfl, .inl rfl, trivial⟩ ?_
      exact s_Pi_hasBlock_34 C hQ hA hR hu S  hp
    · have hp := hp.2 hc
      refine a_iconst (v := 1) C dc_Pi_hasBlock_30 (by decide) ?_
      refine a_goto (tgt := 35) C dc_Pi_hasBlock_31 (by decide) ?_
      refine aw_lo (lo' := [some (.ref (oa u)), none, none]) ⟨.inr rfl, .inl rfl, .inl rfl, trivial⟩ ?_
      exact s_Pi_hasBlock_35 C hQ hA hR hu 1 S  hp
end C_Pi_hasBlock
section C_Pi_hasBlockc
variable {D : va_G} {z : Nat → ClassId} {U : ut} {oa : Nat → Nat}
set_option maxRecDepth 100000 in
theorem ct_Pi_hasBlock {l : Launch} (u : Nat) (x1 : Int32) (x2 : Int32) (S : cs) {K : Int32 → cs → Prop} (hu : c_cl U u = 7) (hp : p_Pi_hasBlock U u x1 x2 S K) : ct gG D z l n_C_Pi_hasBlock c_C_Pi_hasBlock 3 (some .boolean) 2 200 [.ref (oa u), .int x1, .int x2] (cw lt_C U oa S) 0 0 (pC_i lt_C U oa K (fun _ _ => False)) := by
  refine ct_of (lo := [some (.ref (oa u)), some (.int x1), some (.int x2)]) (by decide) g_ok (Nat.le_of_ble_eq_true rfl) rfl ?_
  intro X A _ C hR hQ hA _
  exact s_Pi_hasBlock_0 C hQ hA hR hu x1 x2 S hp
end C_Pi_hasBlockc
def b_B_level_79 (U : ut) (u : Nat)  (S : cs) (K : Int32 → cs → Prop) (T : Nat → cs → Prop) : Prop :=
  T 15 S
def b_B_level_38 (U : ut) (u : Nat) (x2 : Int32) (x3 : Int32) (x4 : Int32) (s0 : Nat) (S : cs) (K : Int32 → cs → Prop) (T : Nat → cs → Prop) : Prop :=
  c_cl U s0 = 7 ∧ ((¬ (S.1 s0 17) = 0 → (p_Pi_hasBlock U s0 x2 x3 S (fun v62 S62 => (v62 = 0 → (b_B_level_79 U u S62 K T)) ∧ (¬ (v62 = 0) → (p_B_isWithin x4 0 63 (fun v73 => (¬ v73 = 0 → (¬ S62.2.2 s0 13 = NU ∧ (c_cl U (S62.2.2 s0 13) = 902 ∧ (vp_in (((4096 * x2) + (64 * x3)) + x4) (c_ln U (S62.2.2 s0 13)) ∧ (K (S62.1 (S62.2.2 s0 13) (((4096 * x2) + (64 * x3)) + x4).toNatClampNeg) S62))))) ∧ (v73 = 0 → (b_B_level_79 U u S62 K T)))))))) ∧ ((S.1 s0 17) = 0 → (T 13 S)))
def p_B_level (U : ut) (u : Nat) (x1 : Int32) (x2 : Int32) (x3 : Int32) (x4 : Int32) (S : cs) (K : Int32 → cs → Prop) (T : Nat → cs → Prop) : Prop :=
  p_B_isWithin x1 0 1 (fun v3 => (¬ v3 = 0 → ((¬ x1 = 1 → (¬ S.2.2 u 2 = NU ∧ (c_cl U (S.2.2 u 2) = 6 ∧ (¬ S.2.2 (S.2.2 u 2) 2 = NU ∧ (b_B_level_38 U u x2 x3 x4 (S.2.2 (S.2.2 u 2) 2) S K T))))) ∧ (x1 = 1 → (¬ S.2.2 u 7 = NU ∧ (b_B_level_38 U u x2 x3 x4 (S.2.2 u 7) S K T))))) ∧ (v3 = 0 → (T 14 S)))
section C_B_level
variable {D : va_G} {z : Nat → ClassId} {A : Nat → Prop} {X : cx} {L0 : fw} {U : ut} {oa : Nat → Nat} {u : Nat} {K : Int32 → cs → Prop} {T : Nat → cs → Prop}
set_option maxRecDepth 100000 in
set_option maxHeartbeats 1000000 in
theorem s_B_level_79 (C : fcx gG D z A X R_B c_C_B_level 6 (some .int)) (hQ : X.2.2.2.2.2.2.2.2.2.2 = eQ gG D z X.2.2.2.2.2.2.2.1 X.2.2.2.2.1 L0 0 0 (pC_i lt_C U oa K T)) (hA : A = owA gG L0 X.2.2.2.2.1.heap.size) (hR : X.2.2.2.1 = { frames := 9, cells := 1, slots := 6, locals := 900 }) (hno : ∀ x ∈ X.2.2.2.2.2.2.2.2.2.1.exceptionTable.toList, False) (hfl : X.2.1.flags = pinnedFlags ++ [noTraceFlag]) (hu : c_cl U u = 1)  (S : cs) (hp : b_B_level_79 U u S K T) : aw gG D z A X 6 79 [some (.ref (oa u)), none, none, none, none, none] [] (cw lt_C U oa S) 0 0 := by
  unfold b_B_level_79 at hp
  exact a_throw (ci := 15) C hQ hA hno hfl dc_B_level_79 dc_B_level_82 dc_B_level_83 dc_B_level_85 dc_B_level_88 x_B_90 rfl rfl y_B_216 i_E15 j_E15 (by decide) z_B_94 (at_E15 _ _) (Nat.le_of_ble_eq_true rfl) (by rw [hR]; exact Nat.le_of_ble_eq_true rfl) (by rw [hR]; exact Nat.le_of_ble_eq_true rfl) (Nat.le_refl _) (Nat.le_refl _) (by rw [hR]; exact Nat.le_of_ble_eq_true rfl) (by rw [hR]; exact Nat.le_of_ble_eq_true rfl) (fun q => Or.inr ⟨15, q, S, hp, rfl, rfl⟩)
set_option maxRecDepth 100000 in
set_option maxHeartbeats 1000000 in
theorem s_B_level_38 (C : fcx gG D z A X R_B c_C_B_level 6 (some .int)) (hQ : X.2.2.2.2.2.2.2.2.2.2 = eQ gG D z X.2.2.2.2.2.2.2.1 X.2.2.2.2.1 L0 0 0 (pC_i lt_C U oa K T)) (hA : A = owA gG L0 X.2.2.2.2.1.heap.size) (hR : X.2.2.2.1 = { frames := 9, cells := 1, slots := 6, locals := 900 }) (hno : ∀ x ∈ X.2.2.2.2.2.2.2.2.2.1.exceptionTable.toList, False) (hfl : X.2.1.flags = pinnedFlags ++ [noTraceFlag]) (hu : c_cl U u = 1) (x2 : Int32) (x3 : Int32) (x4 : Int32) (s0 : Nat) (S : cs) (hp : b_B_level_38 U u x2 x3 x4 s0 S K T) : aw gG D z A X 6 38 [some (.ref (oa u)), none, some (.int x2), some (.int x3), some (.int x4), none] [.ref (oa s0)] (cw lt_C U oa S) 0 0 := by
  unfold b_B_level_38 at hp
  refine a_astore (lo' := [some (.ref (oa u)), none, some (.int x2), some (.int x3), some (.int x4), some (.ref (oa s0))]) C dc_B_level_38 (by decide) rfl ?_
  refine a_aload C dc_B_level_40 rfl ?_
  have hc1 := hp.1
  have hp := hp.2
  refine c_getIN C s0 17 dc_B_level_42 hc1 rfl rfl (Nat.le_of_ble_eq_true rfl) f_B_181 (Nat.le_of_ble_eq_true rfl) ?_
  refine a_if_ne (tgt := 58) C dc_B_level_45 (by decide) ⟨fun hc => ?_, fun hc => ?_⟩
  · have hp := hp.1 hc
    refine a_aload C dc_B_level_58 rfl ?_
    refine a_iload_n C dc_B_level_60 rfl rfl ?_
    refine a_iload_n C dc_B_level_61 rfl rfl ?_
    refine c_call (rest := []) (av := .ref (oa s0) :: [.int x2, .int x3]) C dc_B_level_62 (ct_Pi_hasBlock s0 x2 x3 S hc1 hp) cd_C_Pi_hasBlock i_Pi (Nat.le_of_ble_eq_true rfl) (by rw [hR]; exact Nat.le_of_ble_eq_true rfl) (by rw [hR]; exact Nat.le_of_ble_eq_true rfl) (by rw [hR]; exact Nat.le_of_ble_eq_true rfl) (by rw [hR]; exact Nat.le_of_ble_eq_true rfl) (inv_V C s0 dc_B_level_62 l_B_212 im_C_Pi_hasBlock se_C_Pi_hasBlock cd_C_Pi_hasBlock ⟨by decide, by decide⟩ ln_C_Pi_hasBlock rfl rfl (cw_obj hc1 rfl) rfl rfl) (fun oc L1 hL => ?_)
    obtain ⟨v62, S62, hp, rfl, rfl⟩ := hL.resolve_right pC_no
    refine ⟨_, rfl, ?_⟩
    refine aw_eq (lo' := _) (st' := [.int v62]) (L' := (cw lt_C U oa S62)) rfl rfl rfl ?_
    refine a_if_eq (tgt := 79) C dc_B_level_65 (by decide) ⟨fun hc => ?_, fun hc => ?_⟩
    · have hp := hp.1 hc
      refine aw_lo (lo' := [some (.ref (oa u)), none, none, none, none, none]) ⟨.inr rfl, .inr rfl, .inl rfl, .inl rfl, .inl rfl, .inl rfl, trivial⟩ ?_
      exact s_B_level_79 C hQ hA hR hno hfl hu S62  hp
    · have hp := hp.2 hc
      refine a_iload C dc_B_level_68 rfl ?_
      refine a_iconst (v := 0) C dc_B_level_70 (by decide) ?_
      refine a_bipush (v := 63) C dc_B_level_71 (by decide) ?_
      refine a_callP (rest := []) (av := [.int x4, .int 0, .int 63]) C dc_B_level_73 (ct_B_isWithin x4 0 63 hp) cd_C_B_isWithin i_B (Nat.le_of_ble_eq_true rfl) (by rw [hR]; exact Nat.le_of_ble_eq_true rfl) (by rw [hR]; exact Nat.le_of_ble_eq_true rfl) (by rw [hR]; exact Nat.le_of_ble_eq_true rfl) (by rw [hR]; exact Nat.le_of_ble_eq_true rfl) (inv_S C dc_B_level_73 l_B_71 st_C_B_isWithin i_B cd_C_B_isWithin ⟨by decide, by decide⟩ ln_C_B_isWithin rfl) (fun v73 hp => ?_)
      refine aw_eq (lo' := _) (st' := [.int v73]) (L' := (cw lt_C U oa S62)) rfl rfl rfl ?_
      refine a_if_ne (tgt := 89) C dc_B_level_76 (by decide) ⟨fun hc => ?_, fun hc => ?_⟩
      · have hp := hp.1 hc
        refine a_aload C dc_B_level_89 rfl ?_
        refine c_getRN C s0 13 dc_B_level_91 hc1 rfl rfl (Nat.le_of_ble_eq_true rfl) f_B_218 rfl hp.1 ?_
        have hp := hp.2
        refine a_sipush (v := 4096) C dc_B_level_94 (by decide) ?_
        refine a_iload_n C dc_B_level_97 rfl rfl ?_
        refine a_imul C dc_B_level_98 ?_
        refine a_bipush (v := 64) C dc_B_level_99 (by decide) ?_
        refine a_iload_n C dc_B_level_101 rfl rfl ?_
        refine a_imul C dc_B_level_102 ?_
        refine a_iadd C dc_B_level_103 ?_
        refine a_iload C dc_B_level_104 rfl ?_
        refine a_iadd C dc_B_level_106 ?_
        have hc2 := hp.1
        have hp := hp.2
        refine c_iald C (S62.2.2 s0 13) dc_B_level_107 hc2 hp.1 ?_
        have hp := hp.2
        exact a_iret (ty := .int) C hQ hA dc_B_level_108 rfl rfl (Or.inl ⟨_, S62, hp, rfl, rfl⟩)
      · have hp := hp.2 hc
        refine aw_lo (lo' := [some (.ref (oa u)), none, none, none, none, none]) ⟨.inr rfl, .inr rfl, .inl rfl, .inl rfl, .inl rfl, .inl rfl, trivial⟩ ?_
        exact s_B_level_79 C hQ hA hR hno hfl hu S62  hp
  · have hp := hp.2 hc
    exact a_throw (ci := 13) C hQ hA hno hfl dc_B_level_48 dc_B_level_51 dc_B_level_52 dc_B_level_54 dc_B_level_57 x_B_149 rfl rfl y_B_210 i_E13 j_E13 (by decide) z_B_153 (at_E13 _ _) (Nat.le_of_ble_eq_true rfl) (by rw [hR]; exact Nat.le_of_ble_eq_true rfl) (by rw [hR]; exact Nat.le_of_ble_eq_true rfl) (Nat.le_refl _) (Nat.le_refl _) (by rw [hR]; exact Nat.le_of_ble_eq_true rfl) (by rw [hR]; exact Nat.le_of_ble_eq_true rfl) (fun q => Or.inr ⟨13, q, S, hp, rfl, rfl⟩)
set_option maxRecDepth 100000 in
set_option maxHeartbeats 1000000 in
theorem s_B_level_0 (C : fcx gG D z A X R_B c_C_B_level 6 (some .int)) (hQ : X.2.2.2.2.2.2.2.2.2.2 = eQ gG D z X.2.2.2.2.2.2.2.1 X.2.2.2.2.1 L0 0 0 (pC_i lt_C U oa K T)) (hA : A = owA gG L0 X.2.2.2.2.1.heap.size) (hR : X.2.2.2.1 = { frames := 9, cells := 1, slots := 6, locals := 900 }) (hno : ∀ x ∈ X.2.2.2.2.2.2.2.2.2.1.exceptionTable.toList, False) (hfl : X.2.1.flags = pinnedFlags ++ [noTraceFlag]) (hu : c_cl U u = 1) (x1 : Int32) (x2 : Int32) (x3 : Int32) (x4 : Int32) (S : cs) (hp : p_B_level U u x1 x2 x3 x4 S K T) : aw gG D z A X 6 0 [some (.ref (oa u)), some (.int x1), some (.int x2), some (.int x3), some (.int x4), none] [] (cw lt_C U oa S) 0 0 := by
  unfold p_B_level at hp
  refine a_iload_n C dc_B_level_0 rfl rfl ?_
  refine a_iconst (v := 0) C dc_B_level_1 (by decide) ?_
  refine a_iconst (v := 1) C dc_B_level_2 (by decide) ?_
  refine a_callP (rest := []) (av := [.int x1, .int 0, .int 1]) C dc_B_level_3 (ct_B_isWithin x1 0 1 hp) cd_C_B_isWithin i_B (Nat.le_of_ble_eq_true rfl) (by rw [hR]; exact Nat.le_of_ble_eq_true rfl) (by rw [hR]; exact Nat.le_of_ble_eq_true rfl) (by rw [hR]; exact Nat.le_of_ble_eq_true rfl) (by rw [hR]; exact Nat.le_of_ble_eq_true rfl) (inv_S C dc_B_level_3 l_B_71 st_C_B_isWithin i_B cd_C_B_isWithin ⟨by decide, by decide⟩ ln_C_B_isWithin rfl) (fun v3 hp => ?_)
  refine aw_eq (lo' := _) (st' := [.int v3]) (L' := (cw lt_C U oa S)) rfl rfl rfl ?_
  refine a_if_ne (tgt := 19) C dc_B_level_6 (by decide) ⟨fun hc => ?_, fun hc => ?_⟩
  · have hp := hp.1 hc
    refine a_iload_n C dc_B_level_19 rfl rfl ?_
    refine a_iconst (v := 1) C dc_B_level_20 (by decide) ?_
    refine a_icmp_ne (tgt := 31) C dc_B_level_21 (by decide) ⟨fun hc => ?_, fun hc => ?_⟩
    · have hp := hp.1 hc
      refine a_aload_n C dc_B_level_31 rfl rfl ?_
      refine c_getR C u 2 dc_B_level_32 hu rfl rfl (Nat.le_of_ble_eq_true rfl) f_B_23 rfl hp.1 ?_
      have hp := hp.2
      have hc3 := hp.1
      have hp := hp.2
      refine c_getRN C (S.2.2 u 2) 2 dc_B_level_35 hc3 rfl rfl (Nat.le_of_ble_eq_true rfl) f_B_207 rfl hp.1 ?_
      have hp := hp.2
      refine aw_lo (lo' := [some (.ref (oa u)), none, some (.int x2), some (.int x3), some (.int x4), none]) ⟨.inr rfl, .inl rfl, .inr rfl, .inr rfl, .inr rfl, .inr rfl, trivial⟩ ?_
      exact s_B_level_38 C hQ hA hR hno hfl hu x2 x3 x4 (S.2.2 (S.2.2 u 2) 2) S  hp
    · have hp := hp.2 hc
      refine a_aload_n C dc_B_level_24 rfl rfl ?_
      refine c_getR C u 7 dc_B_level_25 hu rfl rfl (Nat.le_of_ble_eq_true rfl) f_B_57 rfl hp.1 ?_
      have hp := hp.2
      refine a_goto (tgt := 38) C dc_B_level_28 (by decide) ?_
      refine aw_lo (lo' := [some (.ref (oa u)), none, some (.int x2), some (.int x3), some (.int x4), none]) ⟨.inr rfl, .inl rfl, .inr rfl, .inr rfl, .inr rfl, .inr rfl, trivial⟩ ?_
      exact s_B_level_38 C hQ hA hR hno hfl hu x2 x3 x4 (S.2.2 u 7) S  hp
  · have hp := hp.2 hc
    exact a_throw (ci := 14) C hQ hA hno hfl dc_B_level_9 dc_B_level_12 dc_B_level_13 dc_B_level_15 dc_B_level_18 x_B_75 rfl rfl y_B_205 i_E14 j_E14 (by decide) z_B_79 (at_E14 _ _) (Nat.le_of_ble_eq_true rfl) (by rw [hR]; exact Nat.le_of_ble_eq_true rfl) (by rw [hR]; exact Nat.le_of_ble_eq_true rfl) (Nat.le_refl _) (Nat.le_refl _) (by rw [hR]; exact Nat.le_of_ble_eq_true rfl) (by rw [hR]; exact Nat.le_of_ble_eq_true rfl) (fun q => Or.inr ⟨14, q, S, hp, rfl, rfl⟩)
end C_B_level
section C_B_levelc
variable {D : va_G} {z : Nat → ClassId} {U : ut} {oa : Nat → Nat}
set_option maxRecDepth 100000 in
theorem ct_B_level {l : Launch} (u : Nat) (x1 : Int32) (x2 : Int32) (x3 : Int32) (x4 : Int32) (S : cs) {K : Int32 → cs → Prop} {T : Nat → cs → Prop} (hfl : l.flags = pinnedFlags ++ [noTraceFlag]) (hu : c_cl U u = 1) (hp : p_B_level U u x1 x2 x3 x4 S K T) : ct gG D z l n_C_B_level c_C_B_level 6 (some .int) 9 900 [.ref (oa u), .int x1, .int x2, .int x3, .int x4] (cw lt_C U oa S) 0 0 (pC_i lt_C U oa K T) := by
  refine ct_of (lo := [some (.ref (oa u)), some (.int x1), some (.int x2), some (.int x3), some (.int x4), none]) (by decide) g_ok (Nat.le_of_ble_eq_true rfl) rfl ?_
  intro X A hl C hR hQ hA hno
  exact s_B_level_0 C hQ hA hR hno (by rw [hl]; exact hfl) hu x1 x2 x3 x4 S hp
end C_B_levelc
def b_B_take_87 (U : ut) (u : Nat) (x1 : Int32) (x2 : Int32) (x3 : Int32) (S : cs) (R61 : Int32 → cs → Prop) (R74 : Int32 → Int32 → cs → Prop) (R87 : Int32 → Int32 → Int32 → cs → Prop) (K : cs → Prop) (T : Nat → cs → Prop) : Prop :=
  ¬ S.2.2 u 7 = NU ∧ (c_cl U (S.2.2 u 7) = 7 ∧ (((S.1 (S.2.2 u 7) 0) ≤ x3 → (R74 x1 (x2 + 1) S)) ∧ (¬ ((S.1 (S.2.2 u 7) 0) ≤ x3) → (¬ S.2.2 u 0 = NU ∧ (c_cl U (S.2.2 u 0) = 2 ∧ (¬ S.2.2 (S.2.2 u 0) 3 = NU ∧ (p_B_spot x1 x3 x2 (fun v108 => ¬ S.2.2 u 7 = NU ∧ (p_Pi_colour U (S.2.2 u 7) x3 x2 x1 S (fun v118 S118 => c_cl U (S.2.2 (S.2.2 u 0) 3) = 902 ∧ (vp_in v108 (c_ln U (S.2.2 (S.2.2 u 0) 3)) ∧ (R87 x1 x2 (x3 + 1) (va_up S118.1 (S.2.2 (S.2.2 u 0) 3) (upd (S118.1 (S.2.2 (S.2.2 u 0) 3)) v108.toNatClampNeg v118), S118.2.1, S118.2.2)))))))))))))
def e_B_take_87 (U : ut) (u : Nat) (x1 : Int32) (x2 : Int32) (x3 : Int32) (S : cs) (R61 : Int32 → cs → Prop) (R74 : Int32 → Int32 → cs → Prop) (K : cs → Prop) (T : Nat → cs → Prop) : Prop :=
  ∃ (I : Int32 → Int32 → Int32 → cs → Prop) (μ : Int32 → Int32 → Int32 → cs → Nat), I x1 x2 x3 S ∧ ∀ yx1 yx2 yx3 yS, I yx1 yx2 yx3 yS → b_B_take_87 U u yx1 yx2 yx3 yS R61 R74 (fun zx1 zx2 zx3 zS => I zx1 zx2 zx3 zS ∧ μ zx1 zx2 zx3 zS < μ yx1 yx2 yx3 yS) K T
def b_B_take_74 (U : ut) (u : Nat) (x1 : Int32) (x2 : Int32) (S : cs) (R61 : Int32 → cs → Prop) (R74 : Int32 → Int32 → cs → Prop) (K : cs → Prop) (T : Nat → cs → Prop) : Prop :=
  ¬ S.2.2 u 7 = NU ∧ (c_cl U (S.2.2 u 7) = 7 ∧ (((S.1 (S.2.2 u 7) 1) ≤ x2 → (R61 (x1 + 1) S)) ∧ (¬ ((S.1 (S.2.2 u 7) 1) ≤ x2) → (e_B_take_87 U u x1 x2 0 S R61 R74 K T))))
def e_B_take_74 (U : ut) (u : Nat) (x1 : Int32) (x2 : Int32) (S : cs) (R61 : Int32 → cs → Prop) (K : cs → Prop) (T : Nat → cs → Prop) : Prop :=
  ∃ (I : Int32 → Int32 → cs → Prop) (μ : Int32 → Int32 → cs → Nat), I x1 x2 S ∧ ∀ yx1 yx2 yS, I yx1 yx2 yS → b_B_take_74 U u yx1 yx2 yS R61 (fun zx1 zx2 zS => I zx1 zx2 zS ∧ μ zx1 zx2 zS < μ yx1 yx2 yS) K T
def b_B_take_61 (U : ut) (u : Nat) (x1 : Int32) (S : cs) (R61 : Int32 → cs → Prop) (K : cs → Prop) (T : Nat → cs → Prop) : Prop :=
  ¬ S.2.2 u 7 = NU ∧ (c_cl U (S.2.2 u 7) = 7 ∧ (((S.1 (S.2.2 u 7) 2) ≤ x1 → (K S)) ∧ (¬ ((S.1 (S.2.2 u 7) 2) ≤ x1) → (e_B_take_74 U u x1 0 S R61 K T))))
def e_B_take_61 (U : ut) (u : Nat) (x1 : Int32) (S : cs) (K : cs → Prop) (T : Nat → cs → Prop) : Prop :=
  ∃ (I : Int32 → cs → Prop) (μ : Int32 → cs → Nat), I x1 S ∧ ∀ yx1 yS, I yx1 yS → b_B_take_61 U u yx1 yS (fun zx1 zS => I zx1 zS ∧ μ zx1 zS < μ yx1 yS) K T
def p_B_take (U : ut) (u : Nat)  (S : cs) (K : cs → Prop) (T : Nat → cs → Prop) : Prop :=
  ¬ S.2.2 u 7 = NU ∧ (c_cl U (S.2.2 u 7) = 7 ∧ ((¬ (S.1 (S.2.2 u 7) 17) = 0 → (¬ S.2.2 u 7 = NU ∧ (¬ S.2.2 u 5 = NU ∧ (p_Pi_draw U (S.2.2 u 7) (S.2.2 u 5) S (fun S28 => ¬ S28.2.2 u 0 = NU ∧ (¬ S28.2.2 u 7 = NU ∧ (c_cl U (S28.2.2 u 7) = 7 ∧ (¬ S28.2.2 u 7 = NU ∧ (¬ S28.2.2 u 7 = NU ∧ (c_cl U (S28.2.2 u 0) = 2 ∧ (p_Ca_begin U (S28.2.2 u 0) (S28.1 (S28.2.2 u 7) 0) (S28.1 (S28.2.2 u 7) 1) (S28.1 (S28.2.2 u 7) 2) S28 (fun S56 => e_B_take_61 U u 0 S56 K T)))))))))))) ∧ ((S.1 (S.2.2 u 7) 17) = 0 → (T 13 S))))
section C_B_take
variable {D : va_G} {z : Nat → ClassId} {A : Nat → Prop} {X : cx} {L0 : fw} {U : ut} {oa : Nat → Nat} {u : Nat} {K : cs → Prop} {T : Nat → cs → Prop}
set_option maxRecDepth 100000 in
set_option maxHeartbeats 1000000 in
theorem s_B_take_87 (C : fcx gG D z A X R_B c_C_B_take 4 (none)) (hQ : X.2.2.2.2.2.2.2.2.2.2 = eQ gG D z X.2.2.2.2.2.2.2.1 X.2.2.2.2.1 L0 0 0 (pC_v lt_C U oa K T)) (hA : A = owA gG L0 X.2.2.2.2.1.heap.size) (hR : X.2.2.2.1 = { frames := 9, cells := 1, slots := 6, locals := 900 }) (hno : ∀ x ∈ X.2.2.2.2.2.2.2.2.2.1.exceptionTable.toList, False) (hfl : X.2.1.flags = pinnedFlags ++ [noTraceFlag]) (hu : c_cl U u = 1) (x1 : Int32) (x2 : Int32) (x3 : Int32) (S : cs) (R61 : Int32 → cs → Prop) (hR61 : ∀ yx1 yS, R61 yx1 yS → aw gG D z A X 4 61 [some (.ref (oa u)), some (.int yx1), none, none] [] (cw lt_C U oa yS) 0 0) (R74 : Int32 → Int32 → cs → Prop) (hR74 : ∀ yx1 yx2 yS, R74 yx1 yx2 yS → aw gG D z A X 4 74 [some (.ref (oa u)), some (.int yx1), some (.int yx2), none] [] (cw lt_C U oa yS) 0 0) (R87 : Int32 → Int32 → Int32 → cs → Prop) (hR87 : ∀ yx1 yx2 yx3 yS, R87 yx1 yx2 yx3 yS → aw gG D z A X 4 87 [some (.ref (oa u)), some (.int yx1), some (.int yx2), some (.int yx3)] [] (cw lt_C U oa yS) 0 0) (hp : b_B_take_87 U u x1 x2 x3 S R61 R74 R87 K T) : aw gG D z A X 4 87 [some (.ref (oa u)), some (.int x1), some (.int x2), some (.int x3)] [] (cw lt_C U oa S) 0 0 := by
  unfold b_B_take_87 at hp
  refine a_iload_n C dc_B_take_87 rfl rfl ?_
  refine a_aload_n C dc_B_take_88 rfl rfl ?_
  refine c_getR C u 7 dc_B_take_89 hu rfl rfl (Nat.le_of_ble_eq_true rfl) f_B_57 rfl hp.1 ?_
  have hp := hp.2
  have hc1 := hp.1
  have hp := hp.2
  refine c_getIN C (S.2.2 u 7) 0 dc_B_take_92 hc1 rfl rfl (Nat.le_of_ble_eq_true rfl) f_B_187 (Nat.le_of_ble_eq_true rfl) ?_
  refine a_icmp_ge (tgt := 128) C dc_B_take_95 (by decide) ⟨fun hc => ?_, fun hc => ?_⟩
  · have hp := hp.1 hc
    refine a_iinc (v := x2 + 1) (lo' := [some (.ref (oa u)), some (.int x1), some (.int (x2 + 1)), some (.int x3)]) C dc_B_take_128 rfl rfl (by decide) rfl ?_
    refine a_goto (tgt := 74) C dc_B_take_131 (by decide) ?_
    refine aw_lo (lo' := [some (.ref (oa u)), some (.int x1), some (.int (x2 + 1)), none]) ⟨.inr rfl, .inr rfl, .inr rfl, .inl rfl, trivial⟩ ?_
    exact hR74 x1 (x2 + 1) S hp
  · have hp := hp.2 hc
    refine a_aload_n C dc_B_take_98 rfl rfl ?_
    refine c_getR C u 0 dc_B_take_99 hu rfl rfl (Nat.le_of_ble_eq_true rfl) f_B_12 rfl hp.1 ?_
    have hp := hp.2
    have hc2 := hp.1
    have hp := hp.2
    refine c_getRN C (S.2.2 u 0) 3 dc_B_take_102 hc2 rfl rfl (Nat.le_of_ble_eq_true rfl) f_B_104 rfl hp.1 ?_
    have hp := hp.2
    refine a_iload_n C dc_B_take_105 rfl rfl ?_
    refine a_iload_n C dc_B_take_106 rfl rfl ?_
    refine a_iload_n C dc_B_take_107 rfl rfl ?_
    refine a_callP (rest := [.ref (oa (S.2.2 (S.2.2 u 0) 3))]) (av := [.int x1, .int x3, .int x2]) C dc_B_take_108 (ct_B_spot x1 x3 x2 hp) cd_C_B_spot i_B (Nat.le_of_ble_eq_true rfl) (by rw [hR]; exact Nat.le_of_ble_eq_true rfl) (by rw [hR]; exact Nat.le_of_ble_eq_true rfl) (by rw [hR]; exact Nat.le_of_ble_eq_true rfl) (by rw [hR]; exact Nat.le_of_ble_eq_true rfl) (inv_S C dc_B_take_108 l_B_107 st_C_B_spot i_B cd_C_B_spot ⟨by decide, by decide⟩ ln_C_B_spot rfl) (fun v108 hp => ?_)
    refine aw_eq (lo' := _) (st' := [.int v108, .ref (oa (S.2.2 (S.2.2 u 0) 3))]) (L' := (cw lt_C U oa S)) rfl rfl rfl ?_
    refine a_aload_n C dc_B_take_111 rfl rfl ?_
    refine c_getR C u 7 dc_B_take_112 hu rfl rfl (Nat.le_of_ble_eq_true rfl) f_B_57 rfl hp.1 ?_
    have hp := hp.2
    refine a_iload_n C dc_B_take_115 rfl rfl ?_
    refine a_iload_n C dc_B_take_116 rfl rfl ?_
    refine a_iload_n C dc_B_take_117 rfl rfl ?_
    refine c_call (rest := [.int v108, .ref (oa (S.2.2 (S.2.2 u 0) 3))]) (av := .ref (oa (S.2.2 u 7)) :: [.int x3, .int x2, .int x1]) C dc_B_take_118 (ct_Pi_colour (S.2.2 u 7) x3 x2 x1 S hc1 hp) cd_C_Pi_colour i_Pi (Nat.le_of_ble_eq_true rfl) (by rw [hR]; exact Nat.le_of_ble_eq_true rfl) (by rw [hR]; exact Nat.le_of_ble_eq_true rfl) (by rw [hR]; exact Nat.le_of_ble_eq_true rfl) (by rw [hR]; exact Nat.le_of_ble_eq_true rfl) (inv_V C (S.2.2 u 7) dc_B_take_118 l_B_202 im_C_Pi_colour se_C_Pi_colour cd_C_Pi_colour ⟨by decide, by decide⟩ ln_C_Pi_colour rfl rfl (cw_obj hc1 rfl) rfl rfl) (fun oc L1 hL => ?_)
    obtain ⟨v118, S118, hp, rfl, rfl⟩ := hL.resolve_right pC_no
    refine ⟨_, rfl, ?_⟩
    refine aw_eq (lo' := _) (st' := [.int v118, .int v108, .ref (oa (S.2.2 (S.2.2 u 0) 3))]) (L' := (cw lt_C U oa S118)) rfl rfl rfl ?_
    have hc3 := hp.1
    have hp := hp.2
    refine c_iast C (S.2.2 (S.2.2 u 0) 3) dc_B_take_121 hc3 hp.1 ?_
    have hp := hp.2
    refine aw_eq (lo' := _) (st' := _) (L' := (cw lt_C U oa (va_up S118.1 (S.2.2 (S.2.2 u 0) 3) (upd (S118.1 (S.2.2 (S.2.2 u 0) 3)) v108.toNatClampNeg v118), S118.2.1, S118.2.2))) rfl rfl rfl ?_
    refine a_iinc (v := x3 + 1) (lo' := [some (.ref (oa u)), some (.int x1), some (.int x2), some (.int (x3 + 1))]) C dc_B_take_122 rfl rfl (by decide) rfl ?_
    refine a_goto (tgt := 87) C dc_B_take_125 (by decide) ?_
    refine aw_lo (lo' := [some (.ref (oa u)), some (.int x1), some (.int x2), some (.int (x3 + 1))]) ⟨.inr rfl, .inr rfl, .inr rfl, .inr rfl, trivial⟩ ?_
    exact hR87 x1 x2 (x3 + 1) (va_up S118.1 (S.2.2 (S.2.2 u 0) 3) (upd (S118.1 (S.2.2 (S.2.2 u 0) 3)) v108.toNatClampNeg v118), S118.2.1, S118.2.2) hp
set_option maxRecDepth 100000 in
set_option maxHeartbeats 1000000 in
theorem se_B_take_87 (C : fcx gG D z A X R_B c_C_B_take 4 (none)) (hQ : X.2.2.2.2.2.2.2.2.2.2 = eQ gG D z X.2.2.2.2.2.2.2.1 X.2.2.2.2.1 L0 0 0 (pC_v lt_C U oa K T)) (hA : A = owA gG L0 X.2.2.2.2.1.heap.size) (hR : X.2.2.2.1 = { frames := 9, cells := 1, slots := 6, locals := 900 }) (hno : ∀ x ∈ X.2.2.2.2.2.2.2.2.2.1.exceptionTable.toList, False) (hfl : X.2.1.flags = pinnedFlags ++ [noTraceFlag]) (hu : c_cl U u = 1) (x1 : Int32) (x2 : Int32) (x3 : Int32) (S : cs) (R61 : Int32 → cs → Prop) (hR61 : ∀ yx1 yS, R61 yx1 yS → aw gG D z A X 4 61 [some (.ref (oa u)), some (.int yx1), none, none] [] (cw lt_C U oa yS) 0 0) (R74 : Int32 → Int32 → cs → Prop) (hR74 : ∀ yx1 yx2 yS, R74 yx1 yx2 yS → aw gG D z A X 4 74 [some (.ref (oa u)), some (.int yx1), some (.int yx2), none] [] (cw lt_C U oa yS) 0 0) (hp : e_B_take_87 U u x1 x2 x3 S R61 R74 K T) : aw gG D z A X 4 87 [some (.ref (oa u)), some (.int x1), some (.int x2), some (.int x3)] [] (cw lt_C U oa S) 0 0 := by
  obtain ⟨I, μ, h0, hs⟩ := hp
  have key : ∀ (n : Nat) (yx1 : Int32) (yx2 : Int32) (yx3 : Int32) (yS : cs), μ yx1 yx2 yx3 yS < n → I yx1 yx2 yx3 yS → aw gG D z A X 4 87 [some (.ref (oa u)), some (.int yx1), some (.int yx2), some (.int yx3)] [] (cw lt_C U oa yS) 0 0 := by
    intro n
    induction n with
    | zero => intro yx1 yx2 yx3 yS h; omega
    | succ n ih =>
      intro yx1 yx2 yx3 yS hn hI
      exact s_B_take_87 C hQ hA hR hno hfl hu yx1 yx2 yx3 yS R61 hR61 R74 hR74 _ (fun zx1 zx2 zx3 zS hw => ih zx1 zx2 zx3 zS (by omega) hw.1) (hs yx1 yx2 yx3 yS hI)
  exact key (μ x1 x2 x3 S + 1) x1 x2 x3 S (Nat.lt_succ_self _) h0
set_option maxRecDepth 100000 in
set_option maxHeartbeats 1000000 in
theorem s_B_take_74 (C : fcx gG D z A X R_B c_C_B_take 4 (none)) (hQ : X.2.2.2.2.2.2.2.2.2.2 = eQ gG D z X.2.2.2.2.2.2.2.1 X.2.2.2.2.1 L0 0 0 (pC_v lt_C U oa K T)) (hA : A = owA gG L0 X.2.2.2.2.1.heap.size) (hR : X.2.2.2.1 = { frames := 9, cells := 1, slots := 6, locals := 900 }) (hno : ∀ x ∈ X.2.2.2.2.2.2.2.2.2.1.exceptionTable.toList, False) (hfl : X.2.1.flags = pinnedFlags ++ [noTraceFlag]) (hu : c_cl U u = 1) (x1 : Int32) (x2 : Int32) (S : cs) (R61 : Int32 → cs → Prop) (hR61 : ∀ yx1 yS, R61 yx1 yS → aw gG D z A X 4 61 [some (.ref (oa u)), some (.int yx1), none, none] [] (cw lt_C U oa yS) 0 0) (R74 : Int32 → Int32 → cs → Prop) (hR74 : ∀ yx1 yx2 yS, R74 yx1 yx2 yS → aw gG D z A X 4 74 [some (.ref (oa u)), some (.int yx1), some (.int yx2), none] [] (cw lt_C U oa yS) 0 0) (hp : b_B_take_74 U u x1 x2 S R61 R74 K T) : aw gG D z A X 4 74 [some (.ref (oa u)), some (.int x1), some (.int x2), none] [] (cw lt_C U oa S) 0 0 := by
  unfold b_B_take_74 at hp
  refine a_iload_n C dc_B_take_74 rfl rfl ?_
  refine a_aload_n C dc_B_take_75 rfl rfl ?_
  refine c_getR C u 7 dc_B_take_76 hu rfl rfl (Nat.le_of_ble_eq_true rfl) f_B_57 rfl hp.1 ?_
  have hp := hp.2
  have hc4 := hp.1
  have hp := hp.2
  refine c_getIN C (S.2.2 u 7) 1 dc_B_take_79 hc4 rfl rfl (Nat.le_of_ble_eq_true rfl) f_B_190 (Nat.le_of_ble_eq_true rfl) ?_
  refine a_icmp_ge (tgt := 134) C dc_B_take_82 (by decide) ⟨fun hc => ?_, fun hc => ?_⟩
  · have hp := hp.1 hc
    refine a_iinc (v := x1 + 1) (lo' := [some (.ref (oa u)), some (.int (x1 + 1)), some (.int x2), none]) C dc_B_take_134 rfl rfl (by decide) rfl ?_
    refine a_goto (tgt := 61) C dc_B_take_137 (by decide) ?_
    refine aw_lo (lo' := [some (.ref (oa u)), some (.int (x1 + 1)), none, none]) ⟨.inr rfl, .inr rfl, .inl rfl, .inr rfl, trivial⟩ ?_
    exact hR61 (x1 + 1) S hp
  · have hp := hp.2 hc
    refine a_iconst (v := 0) C dc_B_take_85 (by decide) ?_
    refine a_istore_n (lo' := [some (.ref (oa u)), some (.int x1), some (.int x2), some (.int 0)]) C dc_B_take_86 rfl (by decide) rfl ?_
    refine aw_lo (lo' := [some (.ref (oa u)), some (.int x1), some (.int x2), some (.int 0)]) ⟨.inr rfl, .inr rfl, .inr rfl, .inr rfl, trivial⟩ ?_
    exact se_B_take_87 C hQ hA hR hno hfl hu x1 x2 0 S R61 hR61 R74 hR74 hp
set_option maxRecDepth 100000 in
set_option maxHeartbeats 1000000 in
theorem se_B_take_74 (C : fcx gG D z A X R_B c_C_B_take 4 (none)) (hQ : X.2.2.2.2.2.2.2.2.2.2 = eQ gG D z X.2.2.2.2.2.2.2.1 X.2.2.2.2.1 L0 0 0 (pC_v lt_C U oa K T)) (hA : A = owA gG L0 X.2.2.2.2.1.heap.size) (hR : X.2.2.2.1 = { frames := 9, cells := 1, slots := 6, locals := 900 }) (hno : ∀ x ∈ X.2.2.2.2.2.2.2.2.2.1.exceptionTable.toList, False) (hfl : X.2.1.flags = pinnedFlags ++ [noTraceFlag]) (hu : c_cl U u = 1) (x1 : Int32) (x2 : Int32) (S : cs) (R61 : Int32 → cs → Prop) (hR61 : ∀ yx1 yS, R61 yx1 yS → aw gG D z A X 4 61 [some (.ref (oa u)), some (.int yx1), none, none] [] (cw lt_C U oa yS) 0 0) (hp : e_B_take_74 U u x1 x2 S R61 K T) : aw gG D z A X 4 74 [some (.ref (oa u)), some (.int x1), some (.int x2), none] [] (cw lt_C U oa S) 0 0 := by
  obtain ⟨I, μ, h0, hs⟩ := hp
  have key : ∀ (n : Nat) (yx1 : Int32) (yx2 : Int32) (yS : cs), μ yx1 yx2 yS < n → I yx1 yx2 yS → aw gG D z A X 4 74 [some (.ref (oa u)), some (.int yx1), some (.int yx2), none] [] (cw lt_C U oa yS) 0 0 := by
    intro n
    induction n with
    | zero => intro yx1 yx2 yS h; omega
    | succ n ih =>
      intro yx1 yx2 yS hn hI
      exact s_B_take_74 C hQ hA hR hno hfl hu yx1 yx2 yS R61 hR61 _ (fun zx1 zx2 zS hw => ih zx1 zx2 zS (by omega) hw.1) (hs yx1 yx2 yS hI)
  exact key (μ x1 x2 S + 1) x1 x2 S (Nat.lt_succ_self _) h0
set_option maxRecDepth 100000 in
set_option maxHeartbeats 1000000 in
theorem s_B_take_61 (C : fcx gG D z A X R_B c_C_B_take 4 (none)) (hQ : X.2.2.2.2.2.2.2.2.2.2 = eQ gG D z X.2.2.2.2.2.2.2.1 X.2.2.2.2.1 L0 0 0 (pC_v lt_C U oa K T)) (hA : A = owA gG L0 X.2.2.2.2.1.heap.size) (hR : X.2.2.2.1 = { frames := 9, cells := 1, slots := 6, locals := 900 }) (hno : ∀ x ∈ X.2.2.2.2.2.2.2.2.2.1.exceptionTable.toList, False) (hfl : X.2.1.flags = pinnedFlags ++ [noTraceFlag]) (hu : c_cl U u = 1) (x1 : Int32) (S : cs) (R61 : Int32 → cs → Prop) (hR61 : ∀ yx1 yS, R61 yx1 yS → aw gG D z A X 4 61 [some (.ref (oa u)), some (.int yx1), none, none] [] (cw lt_C U oa yS) 0 0) (hp : b_B_take_61 U u x1 S R61 K T) : aw gG D z A X 4 61 [some (.ref (oa u)), some (.int x1), none, none] [] (cw lt_C U oa S) 0 0 := by
  unfold b_B_take_61 at hp
  refine a_iload_n C dc_B_take_61 rfl rfl ?_
  refine a_aload_n C dc_B_take_62 rfl rfl ?_
  refine c_getR C u 7 dc_B_take_63 hu rfl rfl (Nat.le_of_ble_eq_true rfl) f_B_57 rfl hp.1 ?_
  have hp := hp.2
  have hc5 := hp.1
  have hp := hp.2
  refine c_getIN C (S.2.2 u 7) 2 dc_B_take_66 hc5 rfl rfl (Nat.le_of_ble_eq_true rfl) f_B_193 (Nat.le_of_ble_eq_true rfl) ?_
  refine a_icmp_ge (tgt := 140) C dc_B_take_69 (by decide) ⟨fun hc => ?_, fun hc => ?_⟩
  · have hp := hp.1 hc
    exact a_vret C hQ hA dc_B_take_140 rfl (Or.inl ⟨S, hp, rfl, rfl⟩)
  · have hp := hp.2 hc
    refine a_iconst (v := 0) C dc_B_take_72 (by decide) ?_
    refine a_istore_n (lo' := [some (.ref (oa u)), some (.int x1), some (.int 0), none]) C dc_B_take_73 rfl (by decide) rfl ?_
    refine aw_lo (lo' := [some (.ref (oa u)), some (.int x1), some (.int 0), none]) ⟨.inr rfl, .inr rfl, .inr rfl, .inr rfl, trivial⟩ ?_
    exact se_B_take_74 C hQ hA hR hno hfl hu x1 0 S R61 hR61 hp
set_option maxRecDepth 100000 in
set_option maxHeartbeats 1000000 in
theorem se_B_take_61 (C : fcx gG D z A X R_B c_C_B_take 4 (none)) (hQ : X.2.2.2.2.2.2.2.2.2.2 = eQ gG D z X.2.2.2.2.2.2.2.1 X.2.2.2.2.1 L0 0 0 (pC_v lt_C U oa K T)) (hA : A = owA gG L0 X.2.2.2.2.1.heap.size) (hR : X.2.2.2.1 = { frames := 9, cells := 1, slots := 6, locals := 900 }) (hno : ∀ x ∈ X.2.2.2.2.2.2.2.2.2.1.exceptionTable.toList, False) (hfl : X.2.1.flags = pinnedFlags ++ [noTraceFlag]) (hu : c_cl U u = 1) (x1 : Int32) (S : cs) (hp : e_B_take_61 U u x1 S K T) : aw gG D z A X 4 61 [some (.ref (oa u)), some (.int x1), none, none] [] (cw lt_C U oa S) 0 0 := by
  obtain ⟨I, μ, h0, hs⟩ := hp
  have key : ∀ (n : Nat) (yx1 : Int32) (yS : cs), μ yx1 yS < n → I yx1 yS → aw gG D z A X 4 61 [some (.ref (oa u)), some (.int yx1), none, none] [] (cw lt_C U oa yS) 0 0 := by
    intro n
    induction n with
    | zero => intro yx1 yS h; omega
    | succ n ih =>
      intro yx1 yS hn hI
      exact s_B_take_61 C hQ hA hR hno hfl hu yx1 yS _ (fun zx1 zS hw => ih zx1 zS (by omega) hw.1) (hs yx1 yS hI)
  exact key (μ x1 S + 1) x1 S (Nat.lt_succ_self _) h0
set_option maxRecDepth 100000 in
set_option maxHeartbeats 1000000 in
theorem s_B_take_0 (C : fcx gG D z A X R_B c_C_B_take 4 (none)) (hQ : X.2.2.2.2.2.2.2.2.2.2 = eQ gG D z X.2.2.2.2.2.2.2.1 X.2.2.2.2.1 L0 0 0 (pC_v lt_C U oa K T)) (hA : A = owA gG L0 X.2.2.2.2.1.heap.size) (hR : X.2.2.2.1 = { frames := 9, cells := 1, slots := 6, locals := 900 }) (hno : ∀ x ∈ X.2.2.2.2.2.2.2.2.2.1.exceptionTable.toList, False) (hfl : X.2.1.flags = pinnedFlags ++ [noTraceFlag]) (hu : c_cl U u = 1)  (S : cs) (hp : p_B_take U u S K T) : aw gG D z A X 4 0 [some (.ref (oa u)), none, none, none] [] (cw lt_C U oa S) 0 0 := by
  unfold p_B_take at hp
  refine a_aload_n C dc_B_take_0 rfl rfl ?_
  refine c_getR C u 7 dc_B_take_1 hu rfl rfl (Nat.le_of_ble_eq_true rfl) f_B_57 rfl hp.1 ?_
  have hp := hp.2
  have hc6 := hp.1
  have hp := hp.2
  refine c_getIN C (S.2.2 u 7) 17 dc_B_take_4 hc6 rfl rfl (Nat.le_of_ble_eq_true rfl) f_B_181 (Nat.le_of_ble_eq_true rfl) ?_
  refine a_if_ne (tgt := 20) C dc_B_take_7 (by decide) ⟨fun hc => ?_, fun hc => ?_⟩
  · have hp := hp.1 hc
    refine a_aload_n C dc_B_take_20 rfl rfl ?_
    refine c_getR C u 7 dc_B_take_21 hu rfl rfl (Nat.le_of_ble_eq_true rfl) f_B_57 rfl hp.1 ?_
    have hp := hp.2
    refine a_aload_n C dc_B_take_24 rfl rfl ?_
    refine c_getR C u 5 dc_B_take_25 hu rfl rfl (Nat.le_of_ble_eq_true rfl) f_B_43 rfl hp.1 ?_
    have hp := hp.2
    refine c_call (rest := []) (av := .ref (oa (S.2.2 u 7)) :: [.ref (oa (S.2.2 u 5))]) C dc_B_take_28 (ct_Pi_draw (S.2.2 u 7) (S.2.2 u 5) S hc6 hp) cd_C_Pi_draw i_Pi (Nat.le_of_ble_eq_true rfl) (by rw [hR]; exact Nat.le_of_ble_eq_true rfl) (by rw [hR]; exact Nat.le_of_ble_eq_true rfl) (by rw [hR]; exact Nat.le_of_ble_eq_true rfl) (by rw [hR]; exact Nat.le_of_ble_eq_true rfl) (inv_V C (S.2.2 u 7) dc_B_take_28 l_B_198 im_C_Pi_draw se_C_Pi_draw cd_C_Pi_draw ⟨by decide, by decide⟩ ln_C_Pi_draw rfl rfl (cw_obj hc6 rfl) rfl rfl) (fun oc L1 hL => ?_)
    obtain ⟨S28, hp, rfl, rfl⟩ := hL.resolve_right pC_no
    refine ⟨_, rfl, ?_⟩
    refine aw_eq (lo' := _) (st' := []) (L' := (cw lt_C U oa S28)) rfl rfl rfl ?_
    refine a_aload_n C dc_B_take_31 rfl rfl ?_
    refine c_getR C u 0 dc_B_take_32 hu rfl rfl (Nat.le_of_ble_eq_true rfl) f_B_12 rfl hp.1 ?_
    have hp := hp.2
    refine a_aload_n C dc_B_take_35 rfl rfl ?_
    refine c_getR C u 7 dc_B_take_36 hu rfl rfl (Nat.le_of_ble_eq_true rfl) f_B_57 rfl hp.1 ?_
    have hp := hp.2
    have hc7 := hp.1
    have hp := hp.2
    refine c_getIN C (S28.2.2 u 7) 0 dc_B_take_39 hc7 rfl rfl (Nat.le_of_ble_eq_true rfl) f_B_187 (Nat.le_of_ble_eq_true rfl) ?_
    refine a_aload_n C dc_B_take_42 rfl rfl ?_
    refine c_getR C u 7 dc_B_take_43 hu rfl rfl (Nat.le_of_ble_eq_true rfl) f_B_57 rfl hp.1 ?_
    have hp := hp.2
    refine c_getIN C (S28.2.2 u 7) 1 dc_B_take_46 hc7 rfl rfl (Nat.le_of_ble_eq_true rfl) f_B_190 (Nat.le_of_ble_eq_true rfl) ?_
    refine a_aload_n C dc_B_take_49 rfl rfl ?_
    refine c_getR C u 7 dc_B_take_50 hu rfl rfl (Nat.le_of_ble_eq_true rfl) f_B_57 rfl hp.1 ?_
    have hp := hp.2
    refine c_getIN C (S28.2.2 u 7) 2 dc_B_take_53 hc7 rfl rfl (Nat.le_of_ble_eq_true rfl) f_B_193 (Nat.le_of_ble_eq_true rfl) ?_
    have hc8 := hp.1
    have hp := hp.2
    refine c_call (rest := []) (av := .ref (oa (S28.2.2 u 0)) :: [.int (S28.1 (S28.2.2 u 7) 0), .int (S28.1 (S28.2.2 u 7) 1), .int (S28.1 (S28.2.2 u 7) 2)]) C dc_B_take_56 (ct_Ca_begin (S28.2.2 u 0) (S28.1 (S28.2.2 u 7) 0) (S28.1 (S28.2.2 u 7) 1) (S28.1 (S28.2.2 u 7) 2) S28 hc8 hp) cd_C_Ca_begin i_Ca (Nat.le_of_ble_eq_true rfl) (by rw [hR]; exact Nat.le_of_ble_eq_true rfl) (by rw [hR]; exact Nat.le_of_ble_eq_true rfl) (by rw [hR]; exact Nat.le_of_ble_eq_true rfl) (by rw [hR]; exact Nat.le_of_ble_eq_true rfl) (inv_V C (S28.2.2 u 0) dc_B_take_56 l_B_82 im_C_Ca_begin se_C_Ca_begin cd_C_Ca_begin ⟨by decide, by decide⟩ ln_C_Ca_begin rfl rfl (cw_obj hc8 rfl) rfl rfl) (fun oc L1 hL => ?_)
    obtain ⟨S56, hp, rfl, rfl⟩ := hL.resolve_right pC_no
    refine ⟨_, rfl, ?_⟩
    refine aw_eq (lo' := _) (st' := []) (L' := (cw lt_C U oa S56)) rfl rfl rfl ?_
    refine a_iconst (v := 0) C dc_B_take_59 (by decide) ?_
    refine a_istore_n (lo' := [some (.ref (oa u)), some (.int 0), none, none]) C dc_B_take_60 rfl (by decide) rfl ?_
    refine aw_lo (lo' := [some (.ref (oa u)), some (.int 0), none, none]) ⟨.inr rfl, .inr rfl, .inr rfl, .inr rfl, trivial⟩ ?_
    exact se_B_take_61 C hQ hA hR hno hfl hu 0 S56  hp
  · have hp := hp.2 hc
    exact a_throw (ci := 13) C hQ hA hno hfl dc_B_take_10 dc_B_take_13 dc_B_take_14 dc_B_take_16 dc_B_take_19 x_B_149 rfl rfl y_B_185 i_E13 j_E13 (by decide) z_B_153 (at_E13 _ _) (Nat.le_of_ble_eq_true rfl) (by rw [hR]; exact Nat.le_of_ble_eq_true rfl) (by rw [hR]; exact Nat.le_of_ble_eq_true rfl) (Nat.le_refl _) (Nat.le_refl _) (by rw [hR]; exact Nat.le_of_ble_eq_true rfl) (by rw [hR]; exact Nat.le_of_ble_eq_true rfl) (fun q => Or.inr ⟨13, q, S, hp, rfl, rfl⟩)
end C_B_take
section C_B_takec
variable {D : va_G} {z : Nat → ClassId} {U : ut} {oa : Nat → Nat}
set_option maxRecDepth 100000 in
theorem ct_B_take {l : Launch} (u : Nat)  (S : cs) {K : cs → Prop} {T : Nat → cs → Prop} (hfl : l.flags = pinnedFlags ++ [noTraceFlag]) (hu : c_cl U u = 1) (hp : p_B_take U u S K T) : ct gG D z l n_C_B_take c_C_B_take 4 (none) 9 900 [.ref (oa u)] (cw lt_C U oa S) 0 0 (pC_v lt_C U oa K T) := by
  refine ct_of (lo := [some (.ref (oa u)), none, none, none]) (by decide) g_ok (Nat.le_of_ble_eq_true rfl) rfl ?_
  intro X A hl C hR hQ hA hno
  exact s_B_take_0 C hQ hA hR hno (by rw [hl]; exact hfl) hu S hp
end C_B_takec
def b_Wa_wave_38 (s0 : Int32) (K : Int32 → Prop) : Prop :=
  K s0
def b_Wa_wave_14 (s0 : Int32) (K : Int32 → Prop) : Prop :=
  (s0 ≤ 8 → (vp_in s0 9 ∧ (b_Wa_wave_38 (rw_at row_qu s0.toNatClampNeg) K))) ∧ (¬ (s0 ≤ 8) → (vp_in (16 - s0) 9 ∧ (b_Wa_wave_38 (-(rw_at row_qu (16 - s0).toNatClampNeg)) K)))
def p_Wa_wave (x0 : Int32) (K : Int32 → Prop) : Prop :=
  (x0 ≤ 16 → (b_Wa_wave_14 x0 K)) ∧ (¬ (x0 ≤ 16) → (b_Wa_wave_14 (32 - x0) K))
section C_Wa_wave
variable {D : va_G} {z : Nat → ClassId} {A : Nat → Prop} {X : cx} {L0 : fw} {K : Int32 → Prop}
set_option maxRecDepth 100000 in
set_option maxHeartbeats 1000000 in
theorem s_Wa_wave_38 (C : fcx gG D z A X R_Wa c_C_Wa_wave 2 (some .int)) (hQ : X.2.2.2.2.2.2.2.2.2.2 = eQ gG D z X.2.2.2.2.2.2.2.1 X.2.2.2.2.1 L0 0 0 (pS_i K)) (hA : A = owA gG L0 X.2.2.2.2.1.heap.size) (hR : X.2.2.2.1 = { frames := 1, cells := 1, slots := 6, locals := 100 }) (s0 : Int32) (hp : b_Wa_wave_38 s0 K) : aw gG D z A X 2 38 [none, none] [.int s0] ([] : fw) 0 0 := by
  unfold b_Wa_wave_38 at hp
  exact a_iret (ty := .int) C hQ hA dc_Wa_wave_38 rfl rfl ⟨_, hp, rfl, rfl⟩
set_option maxRecDepth 100000 in
set_option maxHeartbeats 1000000 in
theorem s_Wa_wave_14 (C : fcx gG D z A X R_Wa c_C_Wa_wave 2 (some .int)) (hQ : X.2.2.2.2.2.2.2.2.2.2 = eQ gG D z X.2.2.2.2.2.2.2.1 X.2.2.2.2.1 L0 0 0 (pS_i K)) (hA : A = owA gG L0 X.2.2.2.2.1.heap.size) (hR : X.2.2.2.1 = { frames := 1, cells := 1, slots := 6, locals := 100 }) (s0 : Int32) (hp : b_Wa_wave_14 s0 K) : aw gG D z A X 2 14 [none, none] [.int s0] ([] : fw) 0 0 := by
  unfold b_Wa_wave_14 at hp
  refine a_istore_n (lo' := [none, some (.int s0)]) C dc_Wa_wave_14 rfl (by decide) rfl ?_
  refine a_iload_n C dc_Wa_wave_15 rfl rfl ?_
  refine a_bipush (v := 8) C dc_Wa_wave_16 (by decide) ?_
  refine a_icmp_le (tgt := 33) C dc_Wa_wave_18 (by decide) ⟨fun hc => ?_, fun hc => ?_⟩
  · have hp := hp.1 hc
    obtain ⟨t33, hZ33, hT33⟩ := C.sx.2.1
    refine a_gets C dc_Wa_wave_33 hZ33 f_Wa_25 ?_
    refine a_iload_n C dc_Wa_wave_36 rfl rfl ?_
    refine a_tld C dc_Wa_wave_37 hT33 hp.1 ?_
    have hp := hp.2
    refine aw_lo (lo' := [none, none]) ⟨.inr rfl, .inl rfl, trivial⟩ ?_
    exact s_Wa_wave_38 C hQ hA hR (rw_at row_qu s0.toNatClampNeg)  hp
  · have hp := hp.2 hc
    obtain ⟨t21, hZ21, hT21⟩ := C.sx.2.1
    refine a_gets C dc_Wa_wave_21 hZ21 f_Wa_25 ?_
    refine a_bipush (v := 16) C dc_Wa_wave_24 (by decide) ?_
    refine a_iload_n C dc_Wa_wave_26 rfl rfl ?_
    refine a_isub C dc_Wa_wave_27 ?_
    refine a_tld C dc_Wa_wave_28 hT21 hp.1 ?_
    have hp := hp.2
    refine a_ineg C dc_Wa_wave_29 ?_
    refine a_goto (tgt := 38) C dc_Wa_wave_30 (by decide) ?_
    refine aw_lo (lo' := [none, none]) ⟨.inr rfl, .inl rfl, trivial⟩ ?_
    exact s_Wa_wave_38 C hQ hA hR (-(rw_at row_qu (16 - s0).toNatClampNeg))  hp
set_option maxRecDepth 100000 in
set_option maxHeartbeats 1000000 in
theorem s_Wa_wave_0 (C : fcx gG D z A X R_Wa c_C_Wa_wave 2 (some .int)) (hQ : X.2.2.2.2.2.2.2.2.2.2 = eQ gG D z X.2.2.2.2.2.2.2.1 X.2.2.2.2.1 L0 0 0 (pS_i K)) (hA : A = owA gG L0 X.2.2.2.2.1.heap.size) (hR : X.2.2.2.1 = { frames := 1, cells := 1, slots := 6, locals := 100 }) (x0 : Int32) (hp : p_Wa_wave x0 K) : aw gG D z A X 2 0 [some (.int x0), none] [] ([] : fw) 0 0 := by
  unfold p_Wa_wave at hp
  refine a_iload_n C dc_Wa_wave_0 rfl rfl ?_
  refine a_bipush (v := 16) C dc_Wa_wave_1 (by decide) ?_
  refine a_icmp_le (tgt := 13) C dc_Wa_wave_3 (by decide) ⟨fun hc => ?_, fun hc => ?_⟩
  · have hp := hp.1 hc
    refine a_iload_n C dc_Wa_wave_13 rfl rfl ?_
    refine aw_lo (lo' := [none, none]) ⟨.inl rfl, .inr rfl, trivial⟩ ?_
    exact s_Wa_wave_14 C hQ hA hR x0  hp
  · have hp := hp.2 hc
    refine a_bipush (v := 32) C dc_Wa_wave_6 (by decide) ?_
    refine a_iload_n C dc_Wa_wave_8 rfl rfl ?_
    refine a_isub C dc_Wa_wave_9 ?_
    refine a_goto (tgt := 14) C dc_Wa_wave_10 (by decide) ?_
    refine aw_lo (lo' := [none, none]) ⟨.inl rfl, .inr rfl, trivial⟩ ?_
    exact s_Wa_wave_14 C hQ hA hR (32 - x0)  hp
end C_Wa_wave
section C_Wa_wavec
variable {D : va_G} {z : Nat → ClassId}
set_option maxRecDepth 100000 in
theorem ct_Wa_wave {l : Launch} (x0 : Int32) {K : Int32 → Prop} (hp : p_Wa_wave x0 K) : ct gG D z l n_C_Wa_wave c_C_Wa_wave 2 (some .int) 1 100 [.int x0] ([] : fw) 0 0 (pS_i K) := by
  refine ct_of (lo := [some (.int x0), none]) (by decide) g_ok (Nat.le_of_ble_eq_true rfl) rfl ?_
  intro X A _ C hR hQ hA _
  exact s_Wa_wave_0 C hQ hA hR x0 hp
end C_Wa_wavec
