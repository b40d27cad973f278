def b_readSymbol_39 (x1 : Int32) (x2 : Int32) (x3 : Int32) (x4 : Int32) (x5 : Int32) (S : ms) (R10 : Int32 → Int32 → Int32 → Int32 → Int32 → ms → Prop) (K : Int32 → ms → Prop) : Prop :=
  ((S.1 35) ≤ 0 → (vp_in ((16 * x1) + x5) 64 ∧ ((((2 * x3) + (S.2.1 40 ((16 * x1) + x5).toNatClampNeg)) ≤ x2 → (R10 x1 x2 ((2 * x3) + (S.2.1 40 ((16 * x1) + x5).toNatClampNeg)) (x4 + (S.2.1 40 ((16 * x1) + x5).toNatClampNeg)) (x5 + 1) S)) ∧ (¬ (((2 * x3) + (S.2.1 40 ((16 * x1) + x5).toNatClampNeg)) ≤ x2) → (vp_in ((((256 * x1) + x4) + x2) - (2 * x3)) 1024 ∧ (K (S.2.1 41 ((((256 * x1) + x4) + x2) - (2 * x3)).toNatClampNeg) S)))))) ∧ (¬ ((S.1 35) ≤ 0) → (K 0 S))
def b_readSymbol_10 (x1 : Int32) (x2 : Int32) (x3 : Int32) (x4 : Int32) (x5 : Int32) (S : ms) (R10 : Int32 → Int32 → Int32 → Int32 → Int32 → ms → Prop) (K : Int32 → ms → Prop) : Prop :=
  (16 ≤ x5 → (p_fail 7 (S.1 57) S (fun v117 S117 => K 0 (S117.1, S117.2.1, S117.2.2)))) ∧ (¬ (16 ≤ x5) → (p_readBit S (fun v21 S21 => (¬ x5 = 0 → (b_readSymbol_39 x1 ((2 * x2) + v21) x3 x4 x5 (S21.1, S21.2.1, S21.2.2) R10 K)) ∧ (x5 = 0 → (b_readSymbol_39 x1 ((2 * x2) + v21) x3 x4 x5 (upd S21.1 57 (S21.1 56), S21.2.1, S21.2.2) R10 K)))))
def e_readSymbol_10 (x1 : Int32) (x2 : Int32) (x3 : Int32) (x4 : Int32) (x5 : Int32) (S : ms) (K : Int32 → ms → Prop) : Prop :=
  ∃ (I : Int32 → Int32 → Int32 → Int32 → Int32 → ms → Prop) (μ : Int32 → Int32 → Int32 → Int32 → Int32 → ms → Nat), I x1 x2 x3 x4 x5 S ∧ ∀ yx1 yx2 yx3 yx4 yx5 yS, I yx1 yx2 yx3 yx4 yx5 yS → b_readSymbol_10 yx1 yx2 yx3 yx4 yx5 yS (fun zx1 zx2 zx3 zx4 zx5 zS => I zx1 zx2 zx3 zx4 zx5 zS ∧ μ zx1 zx2 zx3 zx4 zx5 zS < μ yx1 yx2 yx3 yx4 yx5 yS) K
def p_readSymbol (x1 : Int32) (S : ms) (K : Int32 → ms → Prop) : Prop :=
  e_readSymbol_10 x1 0 0 0 0 S K
section M_readSymbol
variable {D : va_G} {z : Nat → ClassId} {A : Nat → Prop} {X : cx} {L0 : fw} {K : Int32 → ms → Prop} {o : Nat} {ad : Nat → Nat}
set_option maxRecDepth 100000 in
set_option maxHeartbeats 1000000 in
theorem s_readSymbol_39 (C : fcx gG D z A X R_M c_M_readSymbol 7 (some .int)) (hQ : X.2.2.2.2.2.2.2.2.2.2 = eQ gG D z X.2.2.2.2.2.2.2.1 X.2.2.2.2.1 L0 0 0 (pM_i K o ad)) (hA : A = owA gG L0 X.2.2.2.2.1.heap.size) (hR : X.2.2.2.1 = { frames := 4, cells := 1, slots := 6, locals := 400 }) (x1 : Int32) (x2 : Int32) (x3 : Int32) (x4 : Int32) (x5 : Int32) (S : ms) (R10 : Int32 → Int32 → Int32 → Int32 → Int32 → ms → Prop) (hR10 : ∀ yx1 yx2 yx3 yx4 yx5 yS, R10 yx1 yx2 yx3 yx4 yx5 yS → aw gG D z A X 7 10 [some (.ref o), some (.int yx1), some (.int yx2), some (.int yx3), some (.int yx4), some (.int yx5), none] [] [(0, ly_M, (o, ad, yS.1, yS.2.1, yS.2.2))] 0 0) (hp : b_readSymbol_39 x1 x2 x3 x4 x5 S R10 K) : aw gG D z A X 7 39 [some (.ref o), some (.int x1), some (.int x2), some (.int x3), some (.int x4), some (.int x5), none] [] [(0, ly_M, (o, ad, S.1, S.2.1, S.2.2))] 0 0 := by
  unfold b_readSymbol_39 at hp
  refine a_aload_n C d_readSymbol_39 rfl rfl ?_
  refine a_getI C 0 35 d_readSymbol_40 rfl rfl rfl (Nat.le_of_ble_eq_true rfl) f_M_265 (Nat.le_of_ble_eq_true rfl) ?_
  refine a_if_le (tgt := 48) C d_readSymbol_43 (by decide) ⟨fun hc => ?_, fun hc => ?_⟩
  · have hp := hp.1 hc
    refine a_iconst (v := 2) C d_readSymbol_48 (by decide) ?_
    refine a_iload_n C d_readSymbol_49 rfl rfl ?_
    refine a_imul C d_readSymbol_50 ?_
    refine a_istore_n (lo' := [some (.ref o), some (.int x1), some (.int x2), some (.int (2 * x3)), some (.int x4), some (.int x5), none]) C d_readSymbol_51 rfl (by decide) rfl ?_
    refine a_aload_n C d_readSymbol_52 rfl rfl ?_
    refine a_getR C 0 40 d_readSymbol_53 rfl rfl rfl (Nat.le_of_ble_eq_true rfl) f_M_109 ⟨Nat.le_of_ble_eq_true rfl, Nat.le_of_ble_eq_true rfl⟩ ?_
    refine a_bipush (v := 16) C d_readSymbol_56 (by decide) ?_
    refine a_iload_n C d_readSymbol_58 rfl rfl ?_
    refine a_imul C d_readSymbol_59 ?_
    refine a_iload C d_readSymbol_60 rfl ?_
    refine a_iadd C d_readSymbol_62 ?_
    refine a_iald C 0 40 d_readSymbol_63 rfl rfl rfl hp.1 ?_
    have hp := hp.2
    refine a_istore (lo' := [some (.ref o), some (.int x1), some (.int x2), some (.int (2 * x3)), some (.int x4), some (.int x5), some (.int (S.2.1 40 ((16 * x1) + x5).toNatClampNeg))]) C d_readSymbol_64 (by decide) rfl ?_
    refine a_iload_n C d_readSymbol_66 rfl rfl ?_
    refine a_iload_n C d_readSymbol_67 rfl rfl ?_
    refine a_iload C d_readSymbol_68 rfl ?_
    refine a_iadd C d_readSymbol_70 ?_
    refine a_icmp_ge (tgt := 92) C d_readSymbol_71 (by decide) ⟨fun hc => ?_, fun hc => ?_⟩
    · have hp := hp.1 hc
      refine a_iload_n C d_readSymbol_92 rfl rfl ?_
      refine a_iload C d_readSymbol_93 rfl ?_
      refine a_iadd C d_readSymbol_95 ?_
      refine a_istore_n (lo' := [some (.ref o), some (.int x1), some (.int x2), some (.int ((2 * x3) + (S.2.1 40 ((16 * x1) + x5).toNatClampNeg))), some (.int x4), some (.int x5), some (.int (S.2.1 40 ((16 * x1) + x5).toNatClampNeg))]) C d_readSymbol_96 rfl (by decide) rfl ?_
      refine a_iload C d_readSymbol_97 rfl ?_
      refine a_iload C d_readSymbol_99 rfl ?_
      refine a_iadd C d_readSymbol_101 ?_
      refine a_istore (lo' := [some (.ref o), some (.int x1), some (.int x2), some (.int ((2 * x3) + (S.2.1 40 ((16 * x1) + x5).toNatClampNeg))), some (.int (x4 + (S.2.1 40 ((16 * x1) + x5).toNatClampNeg))), some (.int x5), some (.int (S.2.1 40 ((16 * x1) + x5).toNatClampNeg))]) C d_readSymbol_102 (by decide) rfl ?_
      refine a_iinc (v := x5 + 1) (lo' := [some (.ref o), some (.int x1), some (.int x2), some (.int ((2 * x3) + (S.2.1 40 ((16 * x1) + x5).toNatClampNeg))), some (.int (x4 + (S.2.1 40 ((16 * x1) + x5).toNatClampNeg))), some (.int (x5 + 1)), some (.int (S.2.1 40 ((16 * x1) + x5).toNatClampNeg))]) C d_readSymbol_104 rfl rfl (by decide) rfl ?_
      refine a_goto (tgt := 10) C d_readSymbol_107 (by decide) ?_
      refine aw_lo (lo' := [some (.ref o), some (.int x1), some (.int x2), some (.int ((2 * x3) + (S.2.1 40 ((16 * x1) + x5).toNatClampNeg))), some (.int (x4 + (S.2.1 40 ((16 * x1) + x5).toNatClampNeg))), some (.int (x5 + 1)), none]) ⟨.inr rfl, .inr rfl, .inr rfl, .inr rfl, .inr rfl, .inr rfl, .inl rfl, trivial⟩ ?_
      exact hR10 x1 x2 ((2 * x3) + (S.2.1 40 ((16 * x1) + x5).toNatClampNeg)) (x4 + (S.2.1 40 ((16 * x1) + x5).toNatClampNeg)) (x5 + 1) S hp
    · have hp := hp.2 hc
      refine a_aload_n C d_readSymbol_74 rfl rfl ?_
      refine a_getR C 0 41 d_readSymbol_75 rfl rfl rfl (Nat.le_of_ble_eq_true rfl) f_M_112 ⟨Nat.le_of_ble_eq_true rfl, Nat.le_of_ble_eq_true rfl⟩ ?_
      refine a_sipush (v := 256) C d_readSymbol_78 (by decide) ?_
      refine a_iload_n C d_readSymbol_81 rfl rfl ?_
      refine a_imul C d_readSymbol_82 ?_
      refine a_iload C d_readSymbol_83 rfl ?_
      refine a_iadd C d_readSymbol_85 ?_
      refine a_iload_n C d_readSymbol_86 rfl rfl ?_
      refine a_iadd C d_readSymbol_87 ?_
      refine a_iload_n C d_readSymbol_88 rfl rfl ?_
      refine a_isub C d_readSymbol_89 ?_
      refine a_iald C 0 41 d_readSymbol_90 rfl rfl rfl hp.1 ?_
      have hp := hp.2
      exact a_iret (ty := .int) C hQ hA d_readSymbol_91 rfl rfl ⟨_, S, hp, rfl, rfl⟩
  · have hp := hp.2 hc
    refine a_iconst (v := 0) C d_readSymbol_46 (by decide) ?_
    exact a_iret (ty := .int) C hQ hA d_readSymbol_47 rfl rfl ⟨_, S, hp, rfl, rfl⟩
set_option maxRecDepth 100000 in
set_option maxHeartbeats 1000000 in
theorem s_readSymbol_10 (C : fcx gG D z A X R_M c_M_readSymbol 7 (some .int)) (hQ : X.2.2.2.2.2.2.2.2.2.2 = eQ gG D z X.2.2.2.2.2.2.2.1 X.2.2.2.2.1 L0 0 0 (pM_i K o ad)) (hA : A = owA gG L0 X.2.2.2.2.1.heap.size) (hR : X.2.2.2.1 = { frames := 4, cells := 1, slots := 6, locals := 400 }) (x1 : Int32) (x2 : Int32) (x3 : Int32) (x4 : Int32) (x5 : Int32) (S : ms) (R10 : Int32 → Int32 → Int32 → Int32 → Int32 → ms → Prop) (hR10 : ∀ yx1 yx2 yx3 yx4 yx5 yS, R10 yx1 yx2 yx3 yx4 yx5 yS → aw gG D z A X 7 10 [some (.ref o), some (.int yx1), some (.int yx2), some (.int yx3), some (.int yx4), some (.int yx5), none] [] [(0, ly_M, (o, ad, yS.1, yS.2.1, yS.2.2))] 0 0) (hp : b_readSymbol_10 x1 x2 x3 x4 x5 S R10 K) : aw gG D z A X 7 10 [some (.ref o), some (.int x1), some (.int x2), some (.int x3), some (.int x4), some (.int x5), none] [] [(0, ly_M, (o, ad, S.1, S.2.1, S.2.2))] 0 0 := by
  unfold b_readSymbol_10 at hp
  refine a_iload C d_readSymbol_10 rfl ?_
  refine a_bipush (v := 16) C d_readSymbol_12 (by decide) ?_
  refine a_icmp_ge (tgt := 110) C d_readSymbol_14 (by decide) ⟨fun hc => ?_, fun hc => ?_⟩
  · have hp := hp.1 hc
    refine a_aload_n C d_readSymbol_110 rfl rfl ?_
    refine a_bipush (v := 7) C d_readSymbol_111 (by decide) ?_
    refine a_aload_n C d_readSymbol_113 rfl rfl ?_
    refine a_getI C 0 57 d_readSymbol_114 rfl rfl rfl (Nat.le_of_ble_eq_true rfl) f_M_317 (Nat.le_of_ble_eq_true rfl) ?_
    refine a_call (Lr := []) (rest := []) (av := .ref o :: [.int 7, .int (S.1 57)]) C [0] [] d_readSymbol_117 (ct_fail 7 (S.1 57) S hp) cd_M_fail i_M (Nat.le_of_ble_eq_true rfl) (by rw [hR]; exact Nat.le_of_ble_eq_true rfl) (by rw [hR]; exact Nat.le_of_ble_eq_true rfl) (by rw [hR]; exact Nat.le_of_ble_eq_true rfl) (by rw [hR]; exact Nat.le_of_ble_eq_true rfl) rfl rfl (by decide) (by decide) (by decide) (inv_V C 0 d_readSymbol_117 l_M_271 im_M_fail se_M_fail cd_M_fail ⟨by decide, by decide⟩ ln_M_fail rfl rfl rfl rfl rfl) (fun oc L1 hL => ?_)
    obtain ⟨v117, S117, hp, rfl, rfl⟩ := hL
    refine ⟨_, rfl, ?_⟩
    refine aw_eq (lo' := _) (st' := [.int v117]) (L' := [(0, ly_M, (o, ad, S117.1, S117.2.1, S117.2.2))]) rfl rfl rfl ?_
    refine a_istore (lo' := [some (.ref o), some (.int x1), some (.int x2), some (.int x3), some (.int x4), some (.int v117), none]) C d_readSymbol_120 (by decide) rfl ?_
    refine a_iconst (v := 0) C d_readSymbol_122 (by decide) ?_
    exact a_iret (ty := .int) C hQ hA d_readSymbol_123 rfl rfl ⟨_, (S117.1, S117.2.1, S117.2.2), hp, rfl, rfl⟩
  · have hp := hp.2 hc
    refine a_iconst (v := 2) C d_readSymbol_17 (by decide) ?_
    refine a_iload_n C d_readSymbol_18 rfl rfl ?_
    refine a_imul C d_readSymbol_19 ?_
    refine a_aload_n C d_readSymbol_20 rfl rfl ?_
    refine a_call (Lr := []) (rest := [.int (2 * x2)]) (av := .ref o :: []) C [0] [] d_readSymbol_21 (ct_readBit S hp) cd_M_readBit i_M (Nat.le_of_ble_eq_true rfl) (by rw [hR]; exact Nat.le_of_ble_eq_true rfl) (by rw [hR]; exact Nat.le_of_ble_eq_true rfl) (by rw [hR]; exact Nat.le_of_ble_eq_true rfl) (by rw [hR]; exact Nat.le_of_ble_eq_true rfl) rfl rfl (by decide) (by decide) (by decide) (inv_V C 0 d_readSymbol_21 l_M_314 im_M_readBit se_M_readBit cd_M_readBit ⟨by decide, by decide⟩ ln_M_readBit rfl rfl rfl rfl rfl) (fun oc L1 hL => ?_)
    obtain ⟨v21, S21, hp, rfl, rfl⟩ := hL
    refine ⟨_, rfl, ?_⟩
    refine aw_eq (lo' := _) (st' := [.int v21, .int (2 * x2)]) (L' := [(0, ly_M, (o, ad, S21.1, S21.2.1, S21.2.2))]) rfl rfl rfl ?_
    refine a_iadd C d_readSymbol_24 ?_
    refine a_istore_n (lo' := [some (.ref o), some (.int x1), some (.int ((2 * x2) + v21)), some (.int x3), some (.int x4), some (.int x5), none]) C d_readSymbol_25 rfl (by decide) rfl ?_
    refine a_iload C d_readSymbol_26 rfl ?_
    refine a_if_ne (tgt := 39) C d_readSymbol_28 (by decide) ⟨fun hc => ?_, fun hc => ?_⟩
    · have hp := hp.1 hc
      refine aw_lo (lo' := [some (.ref o), some (.int x1), some (.int ((2 * x2) + v21)), some (.int x3), some (.int x4), some (.int x5), none]) ⟨.inr rfl, .inr rfl, .inr rfl, .inr rfl, .inr rfl, .inr rfl, .inr rfl, trivial⟩ ?_
      exact s_readSymbol_39 C hQ hA hR x1 ((2 * x2) + v21) x3 x4 x5 (S21.1, S21.2.1, S21.2.2) R10 hR10 hp
    · have hp := hp.2 hc
      refine a_aload_n C d_readSymbol_31 rfl rfl ?_
      refine a_aload_n C d_readSymbol_32 rfl rfl ?_
      refine a_getI C 0 56 d_readSymbol_33 rfl rfl rfl (Nat.le_of_ble_eq_true rfl) f_M_308 (Nat.le_of_ble_eq_true rfl) ?_
      refine a_putI (ty := .int) C 0 57 d_readSymbol_36 rfl rfl rfl (Nat.le_of_ble_eq_true rfl) f_M_317 (Nat.le_of_ble_eq_true rfl) rfl rfl rfl rfl ?_
      refine aw_eq (lo' := _) (st' := _) (L' := [(0, ly_M, (o, ad, upd S21.1 57 (S21.1 56), S21.2.1, S21.2.2))]) rfl rfl rfl ?_
      refine aw_lo (lo' := [some (.ref o), some (.int x1), some (.int ((2 * x2) + v21)), some (.int x3), some (.int x4), some (.int x5), none]) ⟨.inr rfl, .inr rfl, .inr rfl, .inr rfl, .inr rfl, .inr rfl, .inr rfl, trivial⟩ ?_
      exact s_readSymbol_39 C hQ hA hR x1 ((2 * x2) + v21) x3 x4 x5 (upd S21.1 57 (S21.1 56), S21.2.1, S21.2.2) R10 hR10 hp
set_option maxRecDepth 100000 in
set_option maxHeartbeats 1000000 in
theorem se_readSymbol_10 (C : fcx gG D z A X R_M c_M_readSymbol 7 (some .int)) (hQ : X.2.2.2.2.2.2.2.2.2.2 = eQ gG D z X.2.2.2.2.2.2.2.1 X.2.2.2.2.1 L0 0 0 (pM_i K o ad)) (hA : A = owA gG L0 X.2.2.2.2.1.heap.size) (hR : X.2.2.2.1 = { frames := 4, cells := 1, slots := 6, locals := 400 }) (x1 : Int32) (x2 : Int32) (x3 : Int32) (x4 : Int32) (x5 : Int32) (S : ms) (hp : e_readSymbol_10 x1 x2 x3 x4 x5 S K) : aw gG D z A X 7 10 [some (.ref o), some (.int x1), some (.int x2), some (.int x3), some (.int x4), some (.int x5), none] [] [(0, ly_M, (o, ad, S.1, S.2.1, S.2.2))] 0 0 := by
  obtain ⟨I, μ, h0, hs⟩ := hp
  have key : ∀ (n : Nat) (yx1 : Int32) (yx2 : Int32) (yx3 : Int32) (yx4 : Int32) (yx5 : Int32) (yS : ms), μ yx1 yx2 yx3 yx4 yx5 yS < n → I yx1 yx2 yx3 yx4 yx5 yS → aw gG D z A X 7 10 [some (.ref o), some (.int yx1), some (.int yx2), some (.int yx3), some (.int yx4), some (.int yx5), none] [] [(0, ly_M, (o, ad, yS.1, yS.2.1, yS.2.2))] 0 0 := by
    intro n
    induction n with
    | zero => intro yx1 yx2 yx3 yx4 yx5 yS h; omega
    | succ n ih =>
      intro yx1 yx2 yx3 yx4 yx5 yS hn hI
      exact s_readSymbol_10 C hQ hA hR yx1 yx2 yx3 yx4 yx5 yS _ (fun zx1 zx2 zx3 zx4 zx5 zS hw => ih zx1 zx2 zx3 zx4 zx5 zS (by omega) hw.1) (hs yx1 yx2 yx3 yx4 yx5 yS hI)
  exact key (μ x1 x2 x3 x4 x5 S + 1) x1 x2 x3 x4 x5 S (Nat.lt_succ_self _) h0
set_option maxRecDepth 100000 in
set_option maxHeartbeats 1000000 in
theorem s_readSymbol_0 (C : fcx gG D z A X R_M c_M_readSymbol 7 (some .int)) (hQ : X.2.2.2.2.2.2.2.2.2.2 = eQ gG D z X.2.2.2.2.2.2.2.1 X.2.2.2.2.1 L0 0 0 (pM_i K o ad)) (hA : A = owA gG L0 X.2.2.2.2.1.heap.size) (hR : X.2.2.2.1 = { frames := 4, cells := 1, slots := 6, locals := 400 }) (x1 : Int32) (S : ms) (hp : p_readSymbol x1 S K) : aw gG D z A X 7 0 [some (.ref o), some (.int x1), none, none, none, none, none] [] [(0, ly_M, (o, ad, S.1, S.2.1, S.2.2))] 0 0 := by
  unfold p_readSymbol at hp
  refine a_iconst (v := 0) C d_readSymbol_0 (by decide) ?_
  refine a_istore_n (lo' := [some (.ref o), some (.int x1), some (.int 0), none, none, none, none]) C d_readSymbol_1 rfl (by decide) rfl ?_
  refine a_iconst (v := 0) C d_readSymbol_2 (by decide) ?_
  refine a_istore_n (lo' := [some (.ref o), some (.int x1), some (.int 0), some (.int 0), none, none, none]) C d_readSymbol_3 rfl (by decide) rfl ?_
  refine a_iconst (v := 0) C d_readSymbol_4 (by decide) ?_
  refine a_istore (lo' := [some (.ref o), some (.int x1), some (.int 0), some (.int 0), some (.int 0), none, none]) C d_readSymbol_5 (by decide) rfl ?_
  refine a_iconst (v := 0) C d_readSymbol_7 (by decide) ?_
  refine a_istore (lo' := [some (.ref o), some (.int x1), some (.int 0), some (.int 0), some (.int 0), some (.int 0), none]) C d_readSymbol_8 (by decide) rfl ?_
  refine aw_lo (lo' := [some (.ref o), some (.int x1), some (.int 0), some (.int 0), some (.int 0), some (.int 0), none]) ⟨.inr rfl, .inr rfl, .inr rfl, .inr rfl, .inr rfl, .inr rfl, .inr rfl, trivial⟩ ?_
  exact se_readSymbol_10 C hQ hA hR x1 0 0 0 0 S  hp
end M_readSymbol
section M_readSymbolc
variable {D : va_G} {z : Nat → ClassId} {o : Nat} {ad : Nat → Nat}
set_option maxRecDepth 100000 in
theorem ct_readSymbol {l : Launch} (x1 : Int32) (S : ms) {K : Int32 → ms → Prop} (hp : p_readSymbol x1 S K) : ct gG D z l n_M_readSymbol c_M_readSymbol 7 (some .int) 4 400 [.ref o, .int x1] [(0, ly_M, (o, ad, S.1, S.2.1, S.2.2))] 0 0 (pM_i K o ad) := by
  refine ct_of (lo := [some (.ref o), some (.int x1), none, none, none, none, none]) (by decide) g_ok (Nat.le_of_ble_eq_true rfl) rfl ?_
  intro X A _ C hR hQ hA _
  exact s_readSymbol_0 C hQ hA hR x1 S hp
end M_readSymbolc
def b_readNumber_48 (s0 : Int32) (S : ms) (K : Int32 → ms → Prop) : Prop :=
  K s0 S
def b_readNumber_47 (x2 : Int32) (S : ms) (K : Int32 → ms → Prop) : Prop :=
  b_readNumber_48 x2 S K
def b_readNumber_4 (x1 : Int32) (x2 : Int32) (x3 : Int32) (S : ms) (R4 : Int32 → Int32 → Int32 → ms → Prop) (K : Int32 → ms → Prop) : Prop :=
  (x1 ≤ x3 → ((x1 ≤ 0 → (b_readNumber_47 x2 S K)) ∧ (¬ (x1 ≤ 0) → ((((1 : Int32) <<< ((x1 - 1) &&& 31 : Int32) : Int32) ≤ x2 → (b_readNumber_47 x2 S K)) ∧ (¬ (((1 : Int32) <<< ((x1 - 1) &&& 31 : Int32) : Int32) ≤ x2) → (b_readNumber_48 ((x2 - ((1 : Int32) <<< (x1 &&& 31 : Int32) : Int32)) + 1) S K)))))) ∧ (¬ (x1 ≤ x3) → (p_readBit S (fun v13 S13 => R4 x1 ((2 * x2) + v13) (x3 + 1) (S13.1, S13.2.1, S13.2.2))))
def e_readNumber_4 (x1 : Int32) (x2 : Int32) (x3 : Int32) (S : ms) (K : Int32 → ms → Prop) : Prop :=
  ∃ (I : Int32 → Int32 → Int32 → ms → Prop) (μ : Int32 → Int32 → Int32 → ms → Nat), I x1 x2 x3 S ∧ ∀ yx1 yx2 yx3 yS, I yx1 yx2 yx3 yS → b_readNumber_4 yx1 yx2 yx3 yS (fun zx1 zx2 zx3 zS => I zx1 zx2 zx3 zS ∧ μ zx1 zx2 zx3 zS < μ yx1 yx2 yx3 yS) K
def p_readNumber (x1 : Int32) (S : ms) (K : Int32 → ms → Prop) : Prop :=
  e_readNumber_4 x1 0 0 S K
section M_readNumber
variable {D : va_G} {z : Nat → ClassId} {A : Nat → Prop} {X : cx} {L0 : fw} {K : Int32 → ms → Prop} {o : Nat} {ad : Nat → Nat}
set_option maxRecDepth 100000 in
set_option maxHeartbeats 1000000 in
theorem s_readNumber_48 (C : fcx gG D z A X R_M c_M_readNumber 4 (some .int)) (hQ : X.2.2.2.2.2.2.2.2.2.2 = eQ gG D z X.2.2.2.2.2.2.2.1 X.2.2.2.2.1 L0 0 0 (pM_i K o ad)) (hA : A = owA gG L0 X.2.2.2.2.1.heap.size) (hR : X.2.2.2.1 = { frames := 4, cells := 1, slots := 6, locals := 400 }) (s0 : Int32) (S : ms) (hp : b_readNumber_48 s0 S K) : aw gG D z A X 4 48 [some (.ref o), none, none, none] [.int s0] [(0, ly_M, (o, ad, S.1, S.2.1, S.2.2))] 0 0 := by
  unfold b_readNumber_48 at hp
  exact a_iret (ty := .int) C hQ hA d_readNumber_48 rfl rfl ⟨_, S, hp, rfl, rfl⟩
set_option maxRecDepth 100000 in
set_option maxHeartbeats 1000000 in
theorem s_readNumber_47 (C : fcx gG D z A X R_M c_M_readNumber 4 (some .int)) (hQ : X.2.2.2.2.2.2.2.2.2.2 = eQ gG D z X.2.2.2.2.2.2.2.1 X.2.2.2.2.1 L0 0 0 (pM_i K o ad)) (hA : A = owA gG L0 X.2.2.2.2.1.heap.size) (hR : X.2.2.2.1 = { frames := 4, cells := 1, slots := 6, locals := 400 }) (x2 : Int32) (S : ms) (hp : b_readNumber_47 x2 S K) : aw gG D z A X 4 47 [some (.ref o), none, some (.int x2), none] [] [(0, ly_M, (o, ad, S.1, S.2.1, S.2.2))] 0 0 := by
  unfold b_readNumber_47 at hp
  refine a_iload_n C d_readNumber_47 rfl rfl ?_
  refine aw_lo (lo' := [some (.ref o), none, none, none]) ⟨.inr rfl, .inr rfl, .inl rfl, .inr rfl, trivial⟩ ?_
  exact s_readNumber_48 C hQ hA hR x2 S  hp
set_option maxRecDepth 100000 in
set_option maxHeartbeats 1000000 in
theorem s_readNumber_4 (C : fcx gG D z A X R_M c_M_readNumber 4 (some .int)) (hQ : X.2.2.2.2.2.2.2.2.2.2 = eQ gG D z X.2.2.2.2.2.2.2.1 X.2.2.2.2.1 L0 0 0 (pM_i K o ad)) (hA : A = owA gG L0 X.2.2.2.2.1.heap.size) (hR : X.2.2.2.1 = { frames := 4, cells := 1, slots := 6, locals := 400 }) (x1 : Int32) (x2 : Int32) (x3 : Int32) (S : ms) (R4 : Int32 → Int32 → Int32 → ms → Prop) (hR4 : ∀ yx1 yx2 yx3 yS, R4 yx1 yx2 yx3 yS → aw gG D z A X 4 4 [some (.ref o), some (.int yx1), some (.int yx2), some (.int yx3)] [] [(0, ly_M, (o, ad, yS.1, yS.2.1, yS.2.2))] 0 0) (hp : b_readNumber_4 x1 x2 x3 S R4 K) : aw gG D z A X 4 4 [some (.ref o), some (.int x1), some (.int x2), some (.int x3)] [] [(0, ly_M, (o, ad, S.1, S.2.1, S.2.2))] 0 0 := by
  unfold b_readNumber_4 at hp
  refine a_iload_n C d_readNumber_4 rfl rfl ?_
  refine a_iload_n C d_readNumber_5 rfl rfl ?_
  refine a_icmp_ge (tgt := 24) C d_readNumber_6 (by decide) ⟨fun hc => ?_, fun hc => ?_⟩
  · have hp := hp.1 hc
    refine a_iload_n C d_readNumber_24 rfl rfl ?_
    refine a_if_le (tgt := 47) C d_readNumber_25 (by decide) ⟨fun hc => ?_, fun hc => ?_⟩
    · have hp := hp.1 hc
      refine aw_lo (lo' := [some (.ref o), none, some (.int x2), none]) ⟨.inr rfl, .inl rfl, .inr rfl, .inl rfl, trivial⟩ ?_
      exact s_readNumber_47 C hQ hA hR x2 S  hp
    · have hp := hp.2 hc
      refine a_iload_n C d_readNumber_28 rfl rfl ?_
      refine a_iconst (v := 1) C d_readNumber_29 (by decide) ?_
      refine a_iload_n C d_readNumber_30 rfl rfl ?_
      refine a_iconst (v := 1) C d_readNumber_31 (by decide) ?_
      refine a_isub C d_readNumber_32 ?_
      refine a_ishl C d_readNumber_33 ?_
      refine a_icmp_ge (tgt := 47) C d_readNumber_34 (by decide) ⟨fun hc => ?_, fun hc => ?_⟩
      · have hp := hp.1 hc
        refine aw_lo (lo' := [some (.ref o), none, some (.int x2), none]) ⟨.inr rfl, .inl rfl, .inr rfl, .inl rfl, trivial⟩ ?_
        exact s_readNumber_47 C hQ hA hR x2 S  hp
      · have hp := hp.2 hc
        refine a_iload_n C d_readNumber_37 rfl rfl ?_
        refine a_iconst (v := 1) C d_readNumber_38 (by decide) ?_
        refine a_iload_n C d_readNumber_39 rfl rfl ?_
        refine a_ishl C d_readNumber_40 ?_
        refine a_isub C d_readNumber_41 ?_
        refine a_iconst (v := 1) C d_readNumber_42 (by decide) ?_
        refine a_iadd C d_readNumber_43 ?_
        refine a_goto (tgt := 48) C d_readNumber_44 (by decide) ?_
        refine aw_lo (lo' := [some (.ref o), none, none, none]) ⟨.inr rfl, .inl rfl, .inl rfl, .inl rfl, trivial⟩ ?_
        exact s_readNumber_48 C hQ hA hR ((x2 - ((1 : Int32) <<< (x1 &&& 31 : Int32) : Int32)) + 1) S  hp
  · have hp := hp.2 hc
    refine a_iconst (v := 2) C d_readNumber_9 (by decide) ?_
    refine a_iload_n C d_readNumber_10 rfl rfl ?_
    refine a_imul C d_readNumber_11 ?_
    refine a_aload_n C d_readNumber_12 rfl rfl ?_
    refine a_call (Lr := []) (rest := [.int (2 * x2)]) (av := .ref o :: []) C [0] [] d_readNumber_13 (ct_readBit S hp) cd_M_readBit i_M (Nat.le_of_ble_eq_true rfl) (by rw [hR]; exact Nat.le_of_ble_eq_true rfl) (by rw [hR]; exact Nat.le_of_ble_eq_true rfl) (by rw [hR]; exact Nat.le_of_ble_eq_true rfl) (by rw [hR]; exact Nat.le_of_ble_eq_true rfl) rfl rfl (by decide) (by decide) (by decide) (inv_V C 0 d_readNumber_13 l_M_314 im_M_readBit se_M_readBit cd_M_readBit ⟨by decide, by decide⟩ ln_M_readBit rfl rfl rfl rfl rfl) (fun oc L1 hL => ?_)
    obtain ⟨v13, S13, hp, rfl, rfl⟩ := hL
    refine ⟨_, rfl, ?_⟩
    refine aw_eq (lo' := _) (st' := [.int v13, .int (2 * x2)]) (L' := [(0, ly_M, (o, ad, S13.1, S13.2.1, S13.2.2))]) rfl rfl rfl ?_
    refine a_iadd C d_readNumber_16 ?_
    refine a_istore_n (lo' := [some (.ref o), some (.int x1), some (.int ((2 * x2) + v13)), some (.int x3)]) C d_readNumber_17 rfl (by decide) rfl ?_
    refine a_iinc (v := x3 + 1) (lo' := [some (.ref o), some (.int x1), some (.int ((2 * x2) + v13)), some (.int (x3 + 1))]) C d_readNumber_18 rfl rfl (by decide) rfl ?_
    refine a_goto (tgt := 4) C d_readNumber_21 (by decide) ?_
    refine aw_lo (lo' := [some (.ref o), some (.int x1), some (.int ((2 * x2) + v13)), some (.int (x3 + 1))]) ⟨.inr rfl, .inr rfl, .inr rfl, .inr rfl, trivial⟩ ?_
    exact hR4 x1 ((2 * x2) + v13) (x3 + 1) (S13.1, S13.2.1, S13.2.2) hp
set_option maxRecDepth 100000 in
set_option maxHeartbeats 1000000 in
theorem se_readNumber_4 (C : fcx gG D z A X R_M c_M_readNumber 4 (some .int)) (hQ : X.2.2.2.2.2.2.2.2.2.2 = eQ gG D z X.2.2.2.2.2.2.2.1 X.2.2.2.2.1 L0 0 0 (pM_i K o ad)) (hA : A = owA gG L0 X.2.2.2.2.1.heap.size) (hR : X.2.2.2.1 = { frames := 4, cells := 1, slots := 6, locals := 400 }) (x1 : Int32) (x2 : Int32) (x3 : Int32) (S : ms) (hp : e_readNumber_4 x1 x2 x3 S K) : aw gG D z A X 4 4 [some (.ref o), some (.int x1), some (.int x2), some (.int x3)] [] [(0, ly_M, (o, ad, S.1, S.2.1, S.2.2))] 0 0 := by
  obtain ⟨I, μ, h0, hs⟩ := hp
  have key : ∀ (n : Nat) (yx1 : Int32) (yx2 : Int32) (yx3 : Int32) (yS : ms), μ yx1 yx2 yx3 yS < n → I yx1 yx2 yx3 yS → aw gG D z A X 4 4 [some (.ref o), some (.int yx1), some (.int yx2), some (.int yx3)] [] [(0, ly_M, (o, ad, yS.1, yS.2.1, yS.2.2))] 0 0 := by
    intro n
    induction n with
    | zero => intro yx1 yx2 yx3 yS h; omega
    | succ n ih =>
      intro yx1 yx2 yx3 yS hn hI
      exact s_readNumber_4 C hQ hA hR yx1 yx2 yx3 yS _ (fun zx1 zx2 zx3 zS hw => ih zx1 zx2 zx3 zS (by omega) hw.1) (hs yx1 yx2 yx3 yS hI)
  exact key (μ x1 x2 x3 S + 1) x1 x2 x3 S (Nat.lt_succ_self _) h0
set_option maxRecDepth 100000 in
set_option maxHeartbeats 1000000 in
theorem s_readNumber_0 (C : fcx gG D z A X R_M c_M_readNumber 4 (some .int)) (hQ : X.2.2.2.2.2.2.2.2.2.2 = eQ gG D z X.2.2.2.2.2.2.2.1 X.2.2.2.2.1 L0 0 0 (pM_i K o ad)) (hA : A = owA gG L0 X.2.2.2.2.1.heap.size) (hR : X.2.2.2.1 = { frames := 4, cells := 1, slots := 6, locals := 400 }) (x1 : Int32) (S : ms) (hp : p_readNumber x1 S K) : aw gG D z A X 4 0 [some (.ref o), some (.int x1), none, none] [] [(0, ly_M, (o, ad, S.1, S.2.1, S.2.2))] 0 0 := by
  unfold p_readNumber at hp
  refine a_iconst (v := 0) C d_readNumber_0 (by decide) ?_
  refine a_istore_n (lo' := [some (.ref o), some (.int x1), some (.int 0), none]) C d_readNumber_1 rfl (by decide) rfl ?_
  refine a_iconst (v := 0) C d_readNumber_2 (by decide) ?_
  refine a_istore_n (lo' := [some (.ref o), some (.int x1), some (.int 0), some (.int 0)]) C d_readNumber_3 rfl (by decide) rfl ?_
  refine aw_lo (lo' := [some (.ref o), some (.int x1), some (.int 0), some (.int 0)]) ⟨.inr rfl, .inr rfl, .inr rfl, .inr rfl, trivial⟩ ?_
  exact se_readNumber_4 C hQ hA hR x1 0 0 S  hp
end M_readNumber
section M_readNumberc
variable {D : va_G} {z : Nat → ClassId} {o : Nat} {ad : Nat → Nat}
set_option maxRecDepth 100000 in
theorem ct_readNumber {l : Launch} (x1 : Int32) (S : ms) {K : Int32 → ms → Prop} (hp : p_readNumber x1 S K) : ct gG D z l n_M_readNumber c_M_readNumber 4 (some .int) 4 400 [.ref o, .int x1] [(0, ly_M, (o, ad, S.1, S.2.1, S.2.2))] 0 0 (pM_i K o ad) := by
  refine ct_of (lo := [some (.ref o), some (.int x1), none, none]) (by decide) g_ok (Nat.le_of_ble_eq_true rfl) rfl ?_
  intro X A _ C hR hQ hA _
  exact s_readNumber_0 C hQ hA hR x1 S hp
end M_readNumberc
def b_readBlock_248  (S : ms) (K : ms → Prop) : Prop :=
  K S
def b_readBlock_245 (x1 : Int32) (x2 : Int32) (x3 : Int32) (x7 : Int32) (S : ms) (R102 : Int32 → Int32 → Int32 → Int32 → ms → Prop) (K : ms → Prop) : Prop :=
  R102 x1 x2 x3 x7 S
def b_readBlock_208 (x1 : Int32) (x2 : Int32) (x3 : Int32) (x7 : Int32) (x8 : Int32) (S : ms) (R102 : Int32 → Int32 → Int32 → Int32 → ms → Prop) (K : ms → Prop) : Prop :=
  (x8 = 240 → (b_readBlock_245 x1 x2 x3 x7 S R102 K)) ∧ (¬ (x8 = 240) → (p_readNumber (x8 &&& 15) S (fun v222 S222 => p_levelCell 2 x2 x3 x7 (fun v236 => vp_in v236 36864 ∧ (b_readBlock_245 x1 x2 x3 (x7 + 1) (S222.1, va_up S222.2.1 19 (upd (S222.2.1 19) v236.toNatClampNeg v222), S222.2.2) R102 K)))))
def b_readBlock_195 (x1 : Int32) (x2 : Int32) (x3 : Int32) (x5 : Int32) (x7 : Int32) (S : ms) (R102 : Int32 → Int32 → Int32 → Int32 → ms → Prop) (K : ms → Prop) : Prop :=
  p_fail 7 x5 S (fun v200 S200 => b_readBlock_245 x1 x2 x3 x7 (S200.1, S200.2.1, S200.2.2) R102 K)
def b_readBlock_167 (x1 : Int32) (x2 : Int32) (x3 : Int32) (x5 : Int32) (x8 : Int32) (s0 : Int32) (s1 : Int32) (S : ms) (R102 : Int32 → Int32 → Int32 → Int32 → ms → Prop) (K : ms → Prop) : Prop :=
  (¬ x8 = 240 → (((s0 + s1) ≤ 63 → (b_readBlock_208 x1 x2 x3 (s0 + s1) x8 S R102 K)) ∧ (¬ ((s0 + s1) ≤ 63) → (b_readBlock_195 x1 x2 x3 x5 (s0 + s1) S R102 K)))) ∧ (x8 = 240 → (((s0 + s1) ≤ 64 → (b_readBlock_208 x1 x2 x3 (s0 + s1) x8 S R102 K)) ∧ (¬ ((s0 + s1) ≤ 64) → (b_readBlock_195 x1 x2 x3 x5 (s0 + s1) S R102 K))))
def b_readBlock_146  (S : ms) (K : ms → Prop) : Prop :=
  K S
def b_readBlock_102 (x1 : Int32) (x2 : Int32) (x3 : Int32) (x7 : Int32) (S : ms) (R102 : Int32 → Int32 → Int32 → Int32 → ms → Prop) (K : ms → Prop) : Prop :=
  (64 ≤ x7 → (b_readBlock_248 S K)) ∧ (¬ (64 ≤ x7) → ((¬ (S.1 35) = 0 → (b_readBlock_248 S K)) ∧ ((S.1 35) = 0 → (vp_in x1 3 ∧ (p_readSymbol (S.2.1 52 x1.toNatClampNeg) S (fun v123 S123 => (0 < (S123.1 35) → (b_readBlock_146 (S123.1, S123.2.1, S123.2.2) K)) ∧ (¬ (0 < (S123.1 35)) → ((¬ v123 = 0 → ((¬ v123 = 240 → (b_readBlock_167 x1 x2 x3 (S123.1 57) v123 (x7 + (v123 >>> (4 &&& 31 : Int32) : Int32)) 0 (S123.1, S123.2.1, S123.2.2) R102 K)) ∧ (v123 = 240 → (b_readBlock_167 x1 x2 x3 (S123.1 57) v123 (x7 + (v123 >>> (4 &&& 31 : Int32) : Int32)) 1 (S123.1, S123.2.1, S123.2.2) R102 K)))) ∧ (v123 = 0 → (b_readBlock_146 (S123.1, S123.2.1, S123.2.2) K))))))))))
def e_readBlock_102 (x1 : Int32) (x2 : Int32) (x3 : Int32) (x7 : Int32) (S : ms) (K : ms → Prop) : Prop :=
  ∃ (I : Int32 → Int32 → Int32 → Int32 → ms → Prop) (μ : Int32 → Int32 → Int32 → Int32 → ms → Nat), I x1 x2 x3 x7 S ∧ ∀ yx1 yx2 yx3 yx7 yS, I yx1 yx2 yx3 yx7 yS → b_readBlock_102 yx1 yx2 yx3 yx7 yS (fun zx1 zx2 zx3 zx7 zS => I zx1 zx2 zx3 zx7 zS ∧ μ zx1 zx2 zx3 zx7 zS < μ yx1 yx2 yx3 yx7 yS) K
def b_readBlock_77 (x1 : Int32) (x2 : Int32) (x3 : Int32) (x6 : Int32) (S : ms) (K : ms → Prop) : Prop :=
  vp_in x2 3 ∧ (p_levelCell 2 x2 x3 0 (fun v93 => vp_in v93 36864 ∧ (e_readBlock_102 x1 x2 x3 1 (S.1, va_up (va_up S.2.1 53 (upd (S.2.1 53) x2.toNatClampNeg x6)) 19 (upd ((va_up S.2.1 53 (upd (S.2.1 53) x2.toNatClampNeg x6)) 19) v93.toNatClampNeg x6), S.2.2) K)))
def b_readBlock_67 (x1 : Int32) (x2 : Int32) (x3 : Int32) (x5 : Int32) (x6 : Int32) (S : ms) (K : ms → Prop) : Prop :=
  p_fail 7 x5 S (fun v72 S72 => b_readBlock_77 x1 x2 x3 x6 (S72.1, S72.2.1, S72.2.2) K)
def b_readBlock_42 (x1 : Int32) (x2 : Int32) (x3 : Int32) (x5 : Int32) (s0 : Int32) (S : ms) (K : ms → Prop) : Prop :=
  (¬ (S.1 35) = 0 → (b_readBlock_77 x1 x2 x3 s0 S K)) ∧ ((S.1 35) = 0 → ((s0 < (-2047) → (b_readBlock_67 x1 x2 x3 x5 s0 S K)) ∧ (¬ (s0 < (-2047)) → ((s0 ≤ 2047 → (b_readBlock_77 x1 x2 x3 s0 S K)) ∧ (¬ (s0 ≤ 2047) → (b_readBlock_67 x1 x2 x3 x5 s0 S K))))))
def p_readBlock (x1 : Int32) (x2 : Int32) (x3 : Int32) (S : ms) (K : ms → Prop) : Prop :=
  vp_in x1 3 ∧ (p_readSymbol (S.2.1 51 x1.toNatClampNeg) S (fun v7 S7 => (¬ (S7.1 35) = 0 → (b_readBlock_42 x1 x2 x3 (S7.1 57) 0 (S7.1, S7.2.1, S7.2.2) K)) ∧ ((S7.1 35) = 0 → (vp_in x2 3 ∧ (p_readNumber v7 (S7.1, S7.2.1, S7.2.2) (fun v34 S34 => b_readBlock_42 x1 x2 x3 (S7.1 57) ((S7.2.1 53 x2.toNatClampNeg) + v34) (S34.1, S34.2.1, S34.2.2) K))))))
section M_readBlock
variable {D : va_G} {z : Nat → ClassId} {A : Nat → Prop} {X : cx} {L0 : fw} {K : ms → Prop} {o : Nat} {ad : Nat → Nat}
set_option maxRecDepth 100000 in
set_option maxHeartbeats 1000000 in
theorem s_readBlock_248 (C : fcx gG D z A X R_M c_M_readBlock 10 (none)) (hQ : X.2.2.2.2.2.2.2.2.2.2 = eQ gG D z X.2.2.2.2.2.2.2.1 X.2.2.2.2.1 L0 0 0 (pM_v K o ad)) (hA : A = owA gG L0 X.2.2.2.2.1.heap.size) (hR : X.2.2.2.1 = { frames := 5, cells := 1, slots := 6, locals := 500 })  (S : ms) (hp : b_readBlock_248  S K) : aw gG D z A X 10 248 [some (.ref o), none, none, none, none, none, none, none, none, none] [] [(0, ly_M, (o, ad, S.1, S.2.1, S.2.2))] 0 0 := by
  unfold b_readBlock_248 at hp
  exact a_vret C hQ hA d_readBlock_248 rfl ⟨S, hp, rfl, rfl⟩
set_option maxRecDepth 100000 in
set_option maxHeartbeats 1000000 in
theorem s_readBlock_245 (C : fcx gG D z A X R_M c_M_readBlock 10 (none)) (hQ : X.2.2.2.2.2.2.2.2.2.2 = eQ gG D z X.2.2.2.2.2.2.2.1 X.2.2.2.2.1 L0 0 0 (pM_v K o ad)) (hA : A = owA gG L0 X.2.2.2.2.1.heap.size) (hR : X.2.2.2.1 = { frames := 5, cells := 1, slots := 6, locals := 500 }) (x1 : Int32) (x2 : Int32) (x3 : Int32) (x7 : Int32) (S : ms) (R102 : Int32 → Int32 → Int32 → Int32 → ms → Prop) (hR102 : ∀ yx1 yx2 yx3 yx7 yS, R102 yx1 yx2 yx3 yx7 yS → aw gG D z A X 10 102 [some (.ref o), some (.int yx1), some (.int yx2), some (.int yx3), none, none, none, some (.int yx7), none, none] [] [(0, ly_M, (o, ad, yS.1, yS.2.1, yS.2.2))] 0 0) (hp : b_readBlock_245 x1 x2 x3 x7 S R102 K) : aw gG D z A X 10 245 [some (.ref o), some (.int x1), some (.int x2), some (.int x3), none, none, none, some (.int x7), none, none] [] [(0, ly_M, (o, ad, S.1, S.2.1, S.2.2))] 0 0 := by
  unfold b_readBlock_245 at hp
  refine a_goto (tgt := 102) C d_readBlock_245 (by decide) ?_
  refine aw_lo (lo' := [some (.ref o), some (.int x1), some (.int x2), some (.int x3), none, none, none, some (.int x7), none, none]) ⟨.inr rfl, .inr rfl, .inr rfl, .inr rfl, .inr rfl, .inr rfl, .inr rfl, .inr rfl, .inr rfl, .inr rfl, trivial⟩ ?_
  exact hR102 x1 x2 x3 x7 S hp
set_option maxRecDepth 100000 in
set_option maxHeartbeats 1000000 in
theorem s_readBlock_208 (C : fcx gG D z A X R_M c_M_readBlock 10 (none)) (hQ : X.2.2.2.2.2.2.2.2.2.2 = eQ gG D z X.2.2.2.2.2.2.2.1 X.2.2.2.2.1 L0 0 0 (pM_v K o ad)) (hA : A = owA gG L0 X.2.2.2.2.1.heap.size) (hR : X.2.2.2.1 = { frames := 5, cells := 1, slots := 6, locals := 500 }) (x1 : Int32) (x2 : Int32) (x3 : Int32) (x7 : Int32) (x8 : Int32) (S : ms) (R102 : Int32 → Int32 → Int32 → Int32 → ms → Prop) (hR102 : ∀ yx1 yx2 yx3 yx7 yS, R102 yx1 yx2 yx3 yx7 yS → aw gG D z A X 10 102 [some (.ref o), some (.int yx1), some (.int yx2), some (.int yx3), none, none, none, some (.int yx7), none, none] [] [(0, ly_M, (o, ad, yS.1, yS.2.1, yS.2.2))] 0 0) (hp : b_readBlock_208 x1 x2 x3 x7 x8 S R102 K) : aw gG D z A X 10 208 [some (.ref o), some (.int x1), some (.int x2), some (.int x3), none, none, none, some (.int x7), some (.int x8), none] [] [(0, ly_M, (o, ad, S.1, S.2.1, S.2.2))] 0 0 := by
  unfold b_readBlock_208 at hp
  refine a_iload C d_readBlock_208 rfl ?_
  refine a_sipush (v := 240) C d_readBlock_210 (by decide) ?_
  refine a_icmp_eq (tgt := 245) C d_readBlock_213 (by decide) ⟨fun hc => ?_, fun hc => ?_⟩
  · have hp := hp.1 hc
    refine aw_lo (lo' := [some (.ref o), some (.int x1), some (.int x2), some (.int x3), none, none, none, some (.int x7), none, none]) ⟨.inr rfl, .inr rfl, .inr rfl, .inr rfl, .inr rfl, .inr rfl, .inr rfl, .inr rfl, .inl rfl, .inr rfl, trivial⟩ ?_
    exact s_readBlock_245 C hQ hA hR x1 x2 x3 x7 S R102 hR102 hp
  · have hp := hp.2 hc
    refine a_aload_n C d_readBlock_216 rfl rfl ?_
    refine a_iload C d_readBlock_217 rfl ?_
    refine a_bipush (v := 15) C d_readBlock_219 (by decide) ?_
    refine a_iand C d_readBlock_221 ?_
    refine a_call (Lr := []) (rest := []) (av := .ref o :: [.int (x8 &&& 15)]) C [0] [] d_readBlock_222 (ct_readNumber (x8 &&& 15) S hp) cd_M_readNumber i_M (Nat.le_of_ble_eq_true rfl) (by rw [hR]; exact Nat.le_of_ble_eq_true rfl) (by rw [hR]; exact Nat.le_of_ble_eq_true rfl) (by rw [hR]; exact Nat.le_of_ble_eq_true rfl) (by rw [hR]; exact Nat.le_of_ble_eq_true rfl) rfl rfl (by decide) (by decide) (by decide) (inv_V C 0 d_readBlock_222 l_M_323 im_M_readNumber se_M_readNumber cd_M_readNumber ⟨by decide, by decide⟩ ln_M_readNumber rfl rfl rfl rfl rfl) (fun oc L1 hL => ?_)
    obtain ⟨v222, S222, hp, rfl, rfl⟩ := hL
    refine ⟨_, rfl, ?_⟩
    refine aw_eq (lo' := _) (st' := [.int v222]) (L' := [(0, ly_M, (o, ad, S222.1, S222.2.1, S222.2.2))]) rfl rfl rfl ?_
    refine a_istore (lo' := [some (.ref o), some (.int x1), some (.int x2), some (.int x3), none, none, none, some (.int x7), some (.int x8), some (.int v222)]) C d_readBlock_225 (by decide) rfl ?_
    refine a_aload_n C d_readBlock_227 rfl rfl ?_
    refine a_getR C 0 19 d_readBlock_228 rfl rfl rfl (Nat.le_of_ble_eq_true rfl) f_M_63 ⟨Nat.le_of_ble_eq_true rfl, Nat.le_of_ble_eq_true rfl⟩ ?_
    refine a_iconst (v := 2) C d_readBlock_231 (by decide) ?_
    refine a_iload_n C d_readBlock_232 rfl rfl ?_
    refine a_iload_n C d_readBlock_233 rfl rfl ?_
    refine a_iload C d_readBlock_234 rfl ?_
    refine a_call (Lr := [(0, ly_M, (o, ad, S222.1, S222.2.1, S222.2.2))]) (rest := [.ref (ad 19)]) (av := [.int 2, .int x2, .int x3, .int x7]) C [] [0] d_readBlock_236 (ct_levelCell 2 x2 x3 x7 hp) cd_M_levelCell i_M (Nat.le_of_ble_eq_true rfl) (by rw [hR]; exact Nat.le_of_ble_eq_true rfl) (by rw [hR]; exact Nat.le_of_ble_eq_true rfl) (by rw [hR]; exact Nat.le_of_ble_eq_true rfl) (by rw [hR]; exact Nat.le_of_ble_eq_true rfl) rfl rfl (by decide) (by decide) (by decide) (inv_S C d_readBlock_236 l_M_193 st_M_levelCell i_M cd_M_levelCell ⟨by decide, by decide⟩ ln_M_levelCell rfl) (fun oc L1 hL => ?_)
    obtain ⟨v236, hp, rfl, rfl⟩ := hL
    refine ⟨_, rfl, ?_⟩
    refine aw_eq (lo' := _) (st' := [.int v236, .ref (ad 19)]) (L' := [(0, ly_M, (o, ad, S222.1, S222.2.1, S222.2.2))]) rfl rfl rfl ?_
    refine a_iload C d_readBlock_239 rfl ?_
    refine a_iast C 0 19 d_readBlock_241 rfl rfl rfl hp.1 ?_
    have hp := hp.2
    refine aw_eq (lo' := _) (st' := _) (L' := [(0, ly_M, (o, ad, S222.1, va_up S222.2.1 19 (upd (S222.2.1 19) v236.toNatClampNeg v222), S222.2.2))]) rfl rfl rfl ?_
    refine a_iinc (v := x7 + 1) (lo' := [some (.ref o), some (.int x1), some (.int x2), some (.int x3), none, none, none, some (.int (x7 + 1)), some (.int x8), some (.int v222)]) C d_readBlock_242 rfl rfl (by decide) rfl ?_
    refine aw_lo (lo' := [some (.ref o), some (.int x1), some (.int x2), some (.int x3), none, none, none, some (.int (x7 + 1)), none, none]) ⟨.inr rfl, .inr rfl, .inr rfl, .inr rfl, .inr rfl, .inr rfl, .inr rfl, .inr rfl, .inl rfl, .inl rfl, trivial⟩ ?_
    exact s_readBlock_245 C hQ hA hR x1 x2 x3 (x7 + 1) (S222.1, va_up S222.2.1 19 (upd (S222.2.1 19) v236.toNatClampNeg v222), S222.2.2) R102 hR102 hp
set_option maxRecDepth 100000 in
set_option maxHeartbeats 1000000 in
theorem s_readBlock_195 (C : fcx gG D z A X R_M c_M_readBlock 10 (none)) (hQ : X.2.2.2.2.2.2.2.2.2.2 = eQ gG D z X.2.2.2.2.2.2.2.1 X.2.2.2.2.1 L0 0 0 (pM_v K o ad)) (hA : A = owA gG L0 X.2.2.2.2.1.heap.size) (hR : X.2.2.2.1 = { frames := 5, cells := 1, slots := 6, locals := 500 }) (x1 : Int32) (x2 : Int32) (x3 : Int32) (x5 : Int32) (x7 : Int32) (S : ms) (R102 : Int32 → Int32 → Int32 → Int32 → ms → Prop) (hR102 : ∀ yx1 yx2 yx3 yx7 yS, R102 yx1 yx2 yx3 yx7 yS → aw gG D z A X 10 102 [some (.ref o), some (.int yx1), some (.int yx2), some (.int yx3), none, none, none, some (.int yx7), none, none] [] [(0, ly_M, (o, ad, yS.1, yS.2.1, yS.2.2))] 0 0) (hp : b_readBlock_195 x1 x2 x3 x5 x7 S R102 K) : aw gG D z A X 10 195 [some (.ref o), some (.int x1), some (.int x2), some (.int x3), none, some (.int x5), none, some (.int x7), none, none] [] [(0, ly_M, (o, ad, S.1, S.2.1, S.2.2))] 0 0 := by
  unfold b_readBlock_195 at hp
  refine a_aload_n C d_readBlock_195 rfl rfl ?_
  refine a_bipush (v := 7) C d_readBlock_196 (by decide) ?_
  refine a_iload C d_readBlock_198 rfl ?_
  refine a_call (Lr := []) (rest := []) (av := .ref o :: [.int 7, .int x5]) C [0] [] d_readBlock_200 (ct_fail 7 x5 S hp) cd_M_fail i_M (Nat.le_of_ble_eq_true rfl) (by rw [hR]; exact Nat.le_of_ble_eq_true rfl) (by rw [hR]; exact Nat.le_of_ble_eq_true rfl) (by rw [hR]; exact Nat.le_of_ble_eq_true rfl) (by rw [hR]; exact Nat.le_of_ble_eq_true rfl) rfl rfl (by decide) (by decide) (by decide) (inv_V C 0 d_readBlock_200 l_M_271 im_M_fail se_M_fail cd_M_fail ⟨by decide, by decide⟩ ln_M_fail rfl rfl rfl rfl rfl) (fun oc L1 hL => ?_)
  obtain ⟨v200, S200, hp, rfl, rfl⟩ := hL
  refine ⟨_, rfl, ?_⟩
  refine aw_eq (lo' := _) (st' := [.int v200]) (L' := [(0, ly_M, (o, ad, S200.1, S200.2.1, S200.2.2))]) rfl rfl rfl ?_
  refine a_istore (lo' := [some (.ref o), some (.int x1), some (.int x2), some (.int x3), none, some (.int x5), none, some (.int x7), none, some (.int v200)]) C d_readBlock_203 (by decide) rfl ?_
  refine a_goto (tgt := 245) C d_readBlock_205 (by decide) ?_
  refine aw_lo (lo' := [some (.ref o), some (.int x1), some (.int x2), some (.int x3), none, none, none, some (.int x7), none, none]) ⟨.inr rfl, .inr rfl, .inr rfl, .inr rfl, .inr rfl, .inl rfl, .inr rfl, .inr rfl, .inr rfl, .inl rfl, trivial⟩ ?_
  exact s_readBlock_245 C hQ hA hR x1 x2 x3 x7 (S200.1, S200.2.1, S200.2.2) R102 hR102 hp
set_option maxRecDepth 100000 in
set_option maxHeartbeats 1000000 in
theorem s_readBlock_167 (C : fcx gG D z A X R_M c_M_readBlock 10 (none)) (hQ : X.2.2.2.2.2.2.2.2.2.2 = eQ gG D z X.2.2.2.2.2.2.2.1 X.2.2.2.2.1 L0 0 0 (pM_v K o ad)) (hA : A = owA gG L0 X.2.2.2.2.1.heap.size) (hR : X.2.2.2.1 = { frames := 5, cells := 1, slots := 6, locals := 500 }) (x1 : Int32) (x2 : Int32) (x3 : Int32) (x5 : Int32) (x8 : Int32) (s0 : Int32) (s1 : Int32) (S : ms) (R102 : Int32 → Int32 → Int32 → Int32 → ms → Prop) (hR102 : ∀ yx1 yx2 yx3 yx7 yS, R102 yx1 yx2 yx3 yx7 yS → aw gG D z A X 10 102 [some (.ref o), some (.int yx1), some (.int yx2), some (.int yx3), none, none, none, some (.int yx7), none, none] [] [(0, ly_M, (o, ad, yS.1, yS.2.1, yS.2.2))] 0 0) (hp : b_readBlock_167 x1 x2 x3 x5 x8 s0 s1 S R102 K) : aw gG D z A X 10 167 [some (.ref o), some (.int x1), some (.int x2), some (.int x3), none, some (.int x5), none, none, some (.int x8), none] [.int s1, .int s0] [(0, ly_M, (o, ad, S.1, S.2.1, S.2.2))] 0 0 := by
  unfold b_readBlock_167 at hp
  refine a_iadd C d_readBlock_167 ?_
  refine a_istore (lo' := [some (.ref o), some (.int x1), some (.int x2), some (.int x3), none, some (.int x5), none, some (.int (s0 + s1)), some (.int x8), none]) C d_readBlock_168 (by decide) rfl ?_
  refine a_iload C d_readBlock_170 rfl ?_
  refine a_sipush (v := 240) C d_readBlock_172 (by decide) ?_
  refine a_icmp_ne (tgt := 188) C d_readBlock_175 (by decide) ⟨fun hc => ?_, fun hc => ?_⟩
  · have hp := hp.1 hc
    refine a_iload C d_readBlock_188 rfl ?_
    refine a_bipush (v := 63) C d_readBlock_190 (by decide) ?_
    refine a_icmp_le (tgt := 208) C d_readBlock_192 (by decide) ⟨fun hc => ?_, fun hc => ?_⟩
    · have hp := hp.1 hc
      refine aw_lo (lo' := [some (.ref o), some (.int x1), some (.int x2), some (.int x3), none, none, none, some (.int (s0 + s1)), some (.int x8), none]) ⟨.inr rfl, .inr rfl, .inr rfl, .inr rfl, .inr rfl, .inl rfl, .inr rfl, .inr rfl, .inr rfl, .inr rfl, trivial⟩ ?_
      exact s_readBlock_208 C hQ hA hR x1 x2 x3 (s0 + s1) x8 S R102 hR102 hp
    · have hp := hp.2 hc
      refine aw_lo (lo' := [some (.ref o), some (.int x1), some (.int x2), some (.int x3), none, some (.int x5), none, some (.int (s0 + s1)), none, none]) ⟨.inr rfl, .inr rfl, .inr rfl, .inr rfl, .inr rfl, .inr rfl, .inr rfl, .inr rfl, .inl rfl, .inr rfl, trivial⟩ ?_
      exact s_readBlock_195 C hQ hA hR x1 x2 x3 x5 (s0 + s1) S R102 hR102 hp
  · have hp := hp.2 hc
    refine a_iload C d_readBlock_178 rfl ?_
    refine a_bipush (v := 64) C d_readBlock_180 (by decide) ?_
    refine a_icmp_le (tgt := 208) C d_readBlock_182 (by decide) ⟨fun hc => ?_, fun hc => ?_⟩
    · have hp := hp.1 hc
      refine aw_lo (lo' := [some (.ref o), some (.int x1), some (.int x2), some (.int x3), none, none, none, some (.int (s0 + s1)), some (.int x8), none]) ⟨.inr rfl, .inr rfl, .inr rfl, .inr rfl, .inr rfl, .inl rfl, .inr rfl, .inr rfl, .inr rfl, .inr rfl, trivial⟩ ?_
      exact s_readBlock_208 C hQ hA hR x1 x2 x3 (s0 + s1) x8 S R102 hR102 hp
    · have hp := hp.2 hc
      refine a_goto (tgt := 195) C d_readBlock_185 (by decide) ?_
      refine aw_lo (lo' := [some (.ref o), some (.int x1), some (.int x2), some (.int x3), none, some (.int x5), none, some (.int (s0 + s1)), none, none]) ⟨.inr rfl, .inr rfl, .inr rfl, .inr rfl, .inr rfl, .inr rfl, .inr rfl, .inr rfl, .inl rfl, .inr rfl, trivial⟩ ?_
      exact s_readBlock_195 C hQ hA hR x1 x2 x3 x5 (s0 + s1) S R102 hR102 hp
set_option maxRecDepth 100000 in
set_option maxHeartbeats 1000000 in
theorem s_readBlock_146 (C : fcx gG D z A X R_M c_M_readBlock 10 (none)) (hQ : X.2.2.2.2.2.2.2.2.2.2 = eQ gG D z X.2.2.2.2.2.2.2.1 X.2.2.2.2.1 L0 0 0 (pM_v K o ad)) (hA : A = owA gG L0 X.2.2.2.2.1.heap.size) (hR : X.2.2.2.1 = { frames := 5, cells := 1, slots := 6, locals := 500 })  (S : ms) (hp : b_readBlock_146  S K) : aw gG D z A X 10 146 [some (.ref o), none, none, none, none, none, none, none, none, none] [] [(0, ly_M, (o, ad, S.1, S.2.1, S.2.2))] 0 0 := by
  unfold b_readBlock_146 at hp
  exact a_vret C hQ hA d_readBlock_146 rfl ⟨S, hp, rfl, rfl⟩
set_option maxRecDepth 100000 in
set_option maxHeartbeats 1000000 in
theorem s_readBlock_102 (C : fcx gG D z A X R_M c_M_readBlock 10 (none)) (hQ : X.2.2.2.2.2.2.2.2.2.2 = eQ gG D z X.2.2.2.2.2.2.2.1 X.2.2.2.2.1 L0 0 0 (pM_v K o ad)) (hA : A = owA gG L0 X.2.2.2.2.1.heap.size) (hR : X.2.2.2.1 = { frames := 5, cells := 1, slots := 6, locals := 500 }) (x1 : Int32) (x2 : Int32) (x3 : Int32) (x7 : Int32) (S : ms) (R102 : Int32 → Int32 → Int32 → Int32 → ms → Prop) (hR102 : ∀ yx1 yx2 yx3 yx7 yS, R102 yx1 yx2 yx3 yx7 yS → aw gG D z A X 10 102 [some (.ref o), some (.int yx1), some (.int yx2), some (.int yx3), none, none, none, some (.int yx7), none, none] [] [(0, ly_M, (o, ad, yS.1, yS.2.1, yS.2.2))] 0 0) (hp : b_readBlock_102 x1 x2 x3 x7 S R102 K) : aw gG D z A X 10 102 [some (.ref o), some (.int x1), some (.int x2), some (.int x3), none, none, none, some (.int x7), none, none] [] [(0, ly_M, (o, ad, S.1, S.2.1, S.2.2))] 0 0 := by
  unfold b_readBlock_102 at hp
  refine a_iload C d_readBlock_102 rfl ?_
  refine a_bipush (v := 64) C d_readBlock_104 (by decide) ?_
  refine a_icmp_ge (tgt := 248) C d_readBlock_106 (by decide) ⟨fun hc => ?_, fun hc => ?_⟩
  · have hp := hp.1 hc
    refine aw_lo (lo' := [some (.ref o), none, none, none, none, none, none, none, none, none]) ⟨.inr rfl, .inl rfl, .inl rfl, .inl rfl, .inr rfl, .inr rfl, .inr rfl, .inl rfl, .inr rfl, .inr rfl, trivial⟩ ?_
    exact s_readBlock_248 C hQ hA hR S  hp
  · have hp := hp.2 hc
    refine a_aload_n C d_readBlock_109 rfl rfl ?_
    refine a_getI C 0 35 d_readBlock_110 rfl rfl rfl (Nat.le_of_ble_eq_true rfl) f_M_265 (Nat.le_of_ble_eq_true rfl) ?_
    refine a_if_ne (tgt := 248) C d_readBlock_113 (by decide) ⟨fun hc => ?_, fun hc => ?_⟩
    · have hp := hp.1 hc
      refine aw_lo (lo' := [some (.ref o), none, none, none, none, none, none, none, none, none]) ⟨.inr rfl, .inl rfl, .inl rfl, .inl rfl, .inr rfl, .inr rfl, .inr rfl, .inl rfl, .inr rfl, .inr rfl, trivial⟩ ?_
      exact s_readBlock_248 C hQ hA hR S  hp
    · have hp := hp.2 hc
      refine a_aload_n C d_readBlock_116 rfl rfl ?_
      refine a_aload_n C d_readBlock_117 rfl rfl ?_
      refine a_getR C 0 52 d_readBlock_118 rfl rfl rfl (Nat.le_of_ble_eq_true rfl) f_M_136 ⟨Nat.le_of_ble_eq_true rfl, Nat.le_of_ble_eq_true rfl⟩ ?_
      refine a_iload_n C d_readBlock_121 rfl rfl ?_
      refine a_iald C 0 52 d_readBlock_122 rfl rfl rfl hp.1 ?_
      have hp := hp.2
      refine a_call (Lr := []) (rest := []) (av := .ref o :: [.int (S.2.1 52 x1.toNatClampNeg)]) C [0] [] d_readBlock_123 (ct_readSymbol (S.2.1 52 x1.toNatClampNeg) S hp) cd_M_readSymbol i_M (Nat.le_of_ble_eq_true rfl) (by rw [hR]; exact Nat.le_of_ble_eq_true rfl) (by rw [hR]; exact Nat.le_of_ble_eq_true rfl) (by rw [hR]; exact Nat.le_of_ble_eq_true rfl) (by rw [hR]; exact Nat.le_of_ble_eq_true rfl) rfl rfl (by decide) (by decide) (by decide) (inv_V C 0 d_readBlock_123 l_M_320 im_M_readSymbol se_M_readSymbol cd_M_readSymbol ⟨by decide, by decide⟩ ln_M_readSymbol rfl rfl rfl rfl rfl) (fun oc L1 hL => ?_)
      obtain ⟨v123, S123, hp, rfl, rfl⟩ := hL
      refine ⟨_, rfl, ?_⟩
      refine aw_eq (lo' := _) (st' := [.int v123]) (L' := [(0, ly_M, (o, ad, S123.1, S123.2.1, S123.2.2))]) rfl rfl rfl ?_
      refine a_istore (lo' := [some (.ref o), some (.int x1), some (.int x2), some (.int x3), none, none, none, some (.int x7), some (.int v123), none]) C d_readBlock_126 (by decide) rfl ?_
      refine a_aload_n C d_readBlock_128 rfl rfl ?_
      refine a_getI C 0 57 d_readBlock_129 rfl rfl rfl (Nat.le_of_ble_eq_true rfl) f_M_317 (Nat.le_of_ble_eq_true rfl) ?_
      refine a_istore (lo' := [some (.ref o), some (.int x1), some (.int x2), some (.int x3), none, some (.int (S123.1 57)), none, some (.int x7), some (.int v123), none]) C d_readBlock_132 (by decide) rfl ?_
      refine a_aload_n C d_readBlock_134 rfl rfl ?_
      refine a_getI C 0 35 d_readBlock_135 rfl rfl rfl (Nat.le_of_ble_eq_true rfl) f_M_265 (Nat.le_of_ble_eq_true rfl) ?_
      refine a_if_gt (tgt := 146) C d_readBlock_138 (by decide) ⟨fun hc => ?_, fun hc => ?_⟩
      · have hp := hp.1 hc
        refine aw_lo (lo' := [some (.ref o), none, none, none, none, none, none, none, none, none]) ⟨.inr rfl, .inl rfl, .inl rfl, .inl rfl, .inr rfl, .inl rfl, .inr rfl, .inl rfl, .inl rfl, .inr rfl, trivial⟩ ?_
        exact s_readBlock_146 C hQ hA hR (S123.1, S123.2.1, S123.2.2)  hp
      · have hp := hp.2 hc
        refine a_iload C d_readBlock_141 rfl ?_
        refine a_if_ne (tgt := 147) C d_readBlock_143 (by decide) ⟨fun hc => ?_, fun hc => ?_⟩
        · have hp := hp.1 hc
          refine a_iload C d_readBlock_147 rfl ?_
          refine a_iload C d_readBlock_149 rfl ?_
          refine a_iconst (v := 4) C d_readBlock_151 (by decide) ?_
          refine a_ishr C d_readBlock_152 ?_
          refine a_iadd C d_readBlock_153 ?_
          refine a_iload C d_readBlock_154 rfl ?_
          refine a_sipush (v := 240) C d_readBlock_156 (by decide) ?_
          refine a_icmp_ne (tgt := 166) C d_readBlock_159 (by decide) ⟨fun hc => ?_, fun hc => ?_⟩
          · have hp := hp.1 hc
            refine a_iconst (v := 0) C d_readBlock_166 (by decide) ?_
            refine aw_lo (lo' := [some (.ref o), some (.int x1), some (.int x2), some (.int x3), none, some (.int (S123.1 57)), none, none, some (.int v123), none]) ⟨.inr rfl, .inr rfl, .inr rfl, .inr rfl, .inr rfl, .inr rfl, .inr rfl, .inl rfl, .inr rfl, .inr rfl, trivial⟩ ?_
            exact s_readBlock_167 C hQ hA hR x1 x2 x3 (S123.1 57) v123 (x7 + (v123 >>> (4 &&& 31 : Int32) : Int32)) 0 (S123.1, S123.2.1, S123.2.2) R102 hR102 hp
          · have hp := hp.2 hc
            refine a_iconst (v := 1) C d_readBlock_162 (by decide) ?_
            refine a_goto (tgt := 167) C d_readBlock_163 (by decide) ?_
            refine aw_lo (lo' := [some (.ref o), some (.int x1), some (.int x2), some (.int x3), none, some (.int (S123.1 57)), none, none, some (.int v123), none]) ⟨.inr rfl, .inr rfl, .inr rfl, .inr rfl, .inr rfl, .inr rfl, .inr rfl, .inl rfl, .inr rfl, .inr rfl, trivial⟩ ?_
            exact s_readBlock_167 C hQ hA hR x1 x2 x3 (S123.1 57) v123 (x7 + (v123 >>> (4 &&& 31 : Int32) : Int32)) 1 (S123.1, S123.2.1, S123.2.2) R102 hR102 hp
        · have hp := hp.2 hc
          refine aw_lo (lo' := [some (.ref o), none, none, none, none, none, none, none, none, none]) ⟨.inr rfl, .inl rfl, .inl rfl, .inl rfl, .inr rfl, .inl rfl, .inr rfl, .inl rfl, .inl rfl, .inr rfl, trivial⟩ ?_
          exact s_readBlock_146 C hQ hA hR (S123.1, S123.2.1, S123.2.2)  hp
set_option maxRecDepth 100000 in
set_option maxHeartbeats 1000000 in
theorem se_readBlock_102 (C : fcx gG D z A X R_M c_M_readBlock 10 (none)) (hQ : X.2.2.2.2.2.2.2.2.2.2 = eQ gG D z X.2.2.2.2.2.2.2.1 X.2.2.2.2.1 L0 0 0 (pM_v K o ad)) (hA : A = owA gG L0 X.2.2.2.2.1.heap.size) (hR : X.2.2.2.1 = { frames := 5, cells := 1, slots := 6, locals := 500 }) (x1 : Int32) (x2 : Int32) (x3 : Int32) (x7 : Int32) (S : ms) (hp : e_readBlock_102 x1 x2 x3 x7 S K) : aw gG D z A X 10 102 [some (.ref o), some (.int x1), some (.int x2), some (.int x3), none, none, none, some (.int x7), none, none] [] [(0, ly_M, (o, ad, S.1, S.2.1, S.2.2))] 0 0 := by
  obtain ⟨I, μ, h0, hs⟩ := hp
  have key : ∀ (n : Nat) (yx1 : Int32) (yx2 : Int32) (yx3 : Int32) (yx7 : Int32) (yS : ms), μ yx1 yx2 yx3 yx7 yS < n → I yx1 yx2 yx3 yx7 yS → aw gG D z A X 10 102 [some (.ref o), some (.int yx1), some (.int yx2), some (.int yx3), none, none, none, some (.int yx7), none, none] [] [(0, ly_M, (o, ad, yS.1, yS.2.1, yS.2.2))] 0 0 := by
    intro n
    induction n with
    | zero => intro yx1 yx2 yx3 yx7 yS h; omega
    | succ n ih =>
      intro yx1 yx2 yx3 yx7 yS hn hI
      exact s_readBlock_102 C hQ hA hR yx1 yx2 yx3 yx7 yS _ (fun zx1 zx2 zx3 zx7 zS hw => ih zx1 zx2 zx3 zx7 zS (by omega) hw.1) (hs yx1 yx2 yx3 yx7 yS hI)
  exact key (μ x1 x2 x3 x7 S + 1) x1 x2 x3 x7 S (Nat.lt_succ_self _) h0
set_option maxRecDepth 100000 in
set_option maxHeartbeats 1000000 in
theorem s_readBlock_77 (C : fcx gG D z A X R_M c_M_readBlock 10 (none)) (hQ : X.2.2.2.2.2.2.2.2.2.2 = eQ gG D z X.2.2.2.2.2.2.2.1 X.2.2.2.2.1 L0 0 0 (pM_v K o ad)) (hA : A = owA gG L0 X.2.2.2.2.1.heap.size) (hR : X.2.2.2.1 = { frames := 5, cells := 1, slots := 6, locals := 500 }) (x1 : Int32) (x2 : Int32) (x3 : Int32) (x6 : Int32) (S : ms) (hp : b_readBlock_77 x1 x2 x3 x6 S K) : aw gG D z A X 10 77 [some (.ref o), some (.int x1), some (.int x2), some (.int x3), none, none, some (.int x6), none, none, none] [] [(0, ly_M, (o, ad, S.1, S.2.1, S.2.2))] 0 0 := by
  unfold b_readBlock_77 at hp
  refine a_aload_n C d_readBlock_77 rfl rfl ?_
  refine a_getR C 0 53 d_readBlock_78 rfl rfl rfl (Nat.le_of_ble_eq_true rfl) f_M_139 ⟨Nat.le_of_ble_eq_true rfl, Nat.le_of_ble_eq_true rfl⟩ ?_
  refine a_iload_n C d_readBlock_81 rfl rfl ?_
  refine a_iload C d_readBlock_82 rfl ?_
  refine a_iast C 0 53 d_readBlock_84 rfl rfl rfl hp.1 ?_
  have hp := hp.2
  refine aw_eq (lo' := _) (st' := _) (L' := [(0, ly_M, (o, ad, S.1, va_up S.2.1 53 (upd (S.2.1 53) x2.toNatClampNeg x6), S.2.2))]) rfl rfl rfl ?_
  refine a_aload_n C d_readBlock_85 rfl rfl ?_
  refine a_getR C 0 19 d_readBlock_86 rfl rfl rfl (Nat.le_of_ble_eq_true rfl) f_M_63 ⟨Nat.le_of_ble_eq_true rfl, Nat.le_of_ble_eq_true rfl⟩ ?_
  refine a_iconst (v := 2) C d_readBlock_89 (by decide) ?_
  refine a_iload_n C d_readBlock_90 rfl rfl ?_
  refine a_iload_n C d_readBlock_91 rfl rfl ?_
  refine a_iconst (v := 0) C d_readBlock_92 (by decide) ?_
  refine a_call (Lr := [(0, ly_M, (o, ad, S.1, va_up S.2.1 53 (upd (S.2.1 53) x2.toNatClampNeg x6), S.2.2))]) (rest := [.ref (ad 19)]) (av := [.int 2, .int x2, .int x3, .int 0]) C [] [0] d_readBlock_93 (ct_levelCell 2 x2 x3 0 hp) cd_M_levelCell i_M (Nat.le_of_ble_eq_true rfl) (by rw [hR]; exact Nat.le_of_ble_eq_true rfl) (by rw [hR]; exact Nat.le_of_ble_eq_true rfl) (by rw [hR]; exact Nat.le_of_ble_eq_true rfl) (by rw [hR]; exact Nat.le_of_ble_eq_true rfl) rfl rfl (by decide) (by decide) (by decide) (inv_S C d_readBlock_93 l_M_193 st_M_levelCell i_M cd_M_levelCell ⟨by decide, by decide⟩ ln_M_levelCell rfl) (fun oc L1 hL => ?_)
  obtain ⟨v93, hp, rfl, rfl⟩ := hL
  refine ⟨_, rfl, ?_⟩
  refine aw_eq (lo' := _) (st' := [.int v93, .ref (ad 19)]) (L' := [(0, ly_M, (o, ad, S.1, va_up S.2.1 53 (upd (S.2.1 53) x2.toNatClampNeg x6), S.2.2))]) rfl rfl rfl ?_
  refine a_iload C d_readBlock_96 rfl ?_
  refine a_iast C 0 19 d_readBlock_98 rfl rfl rfl hp.1 ?_
  have hp := hp.2
  refine aw_eq (lo' := _) (st' := _) (L' := [(0, ly_M, (o, ad, S.1, va_up (va_up S.2.1 53 (upd (S.2.1 53) x2.toNatClampNeg x6)) 19 (upd ((va_up S.2.1 53 (upd (S.2.1 53) x2.toNatClampNeg x6)) 19) v93.toNatClampNeg x6), S.2.2))]) rfl rfl rfl ?_
  refine a_iconst (v := 1) C d_readBlock_99 (by decide) ?_
  refine a_istore (lo' := [some (.ref o), some (.int x1), some (.int x2), some (.int x3), none, none, some (.int x6), some (.int 1), none, none]) C d_readBlock_100 (by decide) rfl ?_
  refine aw_lo (lo' := [some (.ref o), some (.int x1), some (.int x2), some (.int x3), none, none, none, some (.int 1), none, none]) ⟨.inr rfl, .inr rfl, .inr rfl, .inr rfl, .inr rfl, .inr rfl, .inl rfl, .inr rfl, .inr rfl, .inr rfl, trivial⟩ ?_
  exact se_readBlock_102 C hQ hA hR x1 x2 x3 1 (S.1, va_up (va_up S.2.1 53 (upd (S.2.1 53) x2.toNatClampNeg x6)) 19 (upd ((va_up S.2.1 53 (upd (S.2.1 53) x2.toNatClampNeg x6)) 19) v93.toNatClampNeg x6), S.2.2)  hp
set_option maxRecDepth 100000 in
set_option maxHeartbeats 1000000 in
theorem s_readBlock_67 (C : fcx gG D z A X R_M c_M_readBlock 10 (none)) (hQ : X.2.2.2.2.2.2.2.2.2.2 = eQ gG D z X.2.2.2.2.2.2.2.1 X.2.2.2.2.1 L0 0 0 (pM_v K o ad)) (hA : A = owA gG L0 X.2.2.2.2.1.heap.size) (hR : X.2.2.2.1 = { frames := 5, cells := 1, slots := 6, locals := 500 }) (x1 : Int32) (x2 : Int32) (x3 : Int32) (x5 : Int32) (x6 : Int32) (S : ms) (hp : b_readBlock_67 x1 x2 x3 x5 x6 S K) : aw gG D z A X 10 67 [some (.ref o), some (.int x1), some (.int x2), some (.int x3), none, some (.int x5), some (.int x6), none, none, none] [] [(0, ly_M, (o, ad, S.1, S.2.1, S.2.2))] 0 0 := by
  unfold b_readBlock_67 at hp
  refine a_aload_n C d_readBlock_67 rfl rfl ?_
  refine a_bipush (v := 7) C d_readBlock_68 (by decide) ?_
  refine a_iload C d_readBlock_70 rfl ?_
  refine a_call (Lr := []) (rest := []) (av := .ref o :: [.int 7, .int x5]) C [0] [] d_readBlock_72 (ct_fail 7 x5 S hp) cd_M_fail i_M (Nat.le_of_ble_eq_true rfl) (by rw [hR]; exact Nat.le_of_ble_eq_true rfl) (by rw [hR]; exact Nat.le_of_ble_eq_true rfl) (by rw [hR]; exact Nat.le_of_ble_eq_true rfl) (by rw [hR]; exact Nat.le_of_ble_eq_true rfl) rfl rfl (by decide) (by decide) (by decide) (inv_V C 0 d_readBlock_72 l_M_271 im_M_fail se_M_fail cd_M_fail ⟨by decide, by decide⟩ ln_M_fail rfl rfl rfl rfl rfl) (fun oc L1 hL => ?_)
  obtain ⟨v72, S72, hp, rfl, rfl⟩ := hL
  refine ⟨_, rfl, ?_⟩
  refine aw_eq (lo' := _) (st' := [.int v72]) (L' := [(0, ly_M, (o, ad, S72.1, S72.2.1, S72.2.2))]) rfl rfl rfl ?_
  refine a_istore (lo' := [some (.ref o), some (.int x1), some (.int x2), some (.int x3), none, some (.int x5), some (.int x6), some (.int v72), none, none]) C d_readBlock_75 (by decide) rfl ?_
  refine aw_lo (lo' := [some (.ref o), some (.int x1), some (.int x2), some (.int x3), none, none, some (.int x6), none, none, none]) ⟨.inr rfl, .inr rfl, .inr rfl, .inr rfl, .inr rfl, .inl rfl, .inr rfl, .inl rfl, .inr rfl, .inr rfl, trivial⟩ ?_
  exact s_readBlock_77 C hQ hA hR x1 x2 x3 x6 (S72.1, S72.2.1, S72.2.2)  hp
set_option maxRecDepth 100000 in
set_option maxHeartbeats 1000000 in
theorem s_readBlock_42 (C : fcx gG D z A X R_M c_M_readBlock 10 (none)) (hQ : X.2.2.2.2.2.2.2.2.2.2 = eQ gG D z X.2.2.2.2.2.2.2.1 X.2.2.2.2.1 L0 0 0 (pM_v K o ad)) (hA : A = owA gG L0 X.2.2.2.2.1.heap.size) (hR : X.2.2.2.1 = { frames := 5, cells := 1, slots := 6, locals := 500 }) (x1 : Int32) (x2 : Int32) (x3 : Int32) (x5 : Int32) (s0 : Int32) (S : ms) (hp : b_readBlock_42 x1 x2 x3 x5 s0 S K) : aw gG D z A X 10 42 [some (.ref o), some (.int x1), some (.int x2), some (.int x3), none, some (.int x5), none, none, none, none] [.int s0] [(0, ly_M, (o, ad, S.1, S.2.1, S.2.2))] 0 0 := by
  unfold b_readBlock_42 at hp
  refine a_istore (lo' := [some (.ref o), some (.int x1), some (.int x2), some (.int x3), none, some (.int x5), some (.int s0), none, none, none]) C d_readBlock_42 (by decide) rfl ?_
  refine a_aload_n C d_readBlock_44 rfl rfl ?_
  refine a_getI C 0 35 d_readBlock_45 rfl rfl rfl (Nat.le_of_ble_eq_true rfl) f_M_265 (Nat.le_of_ble_eq_true rfl) ?_
  refine a_if_ne (tgt := 77) C d_readBlock_48 (by decide) ⟨fun hc => ?_, fun hc => ?_⟩
  · have hp := hp.1 hc
    refine aw_lo (lo' := [some (.ref o), some (.int x1), some (.int x2), some (.int x3), none, none, some (.int s0), none, none, none]) ⟨.inr rfl, .inr rfl, .inr rfl, .inr rfl, .inr rfl, .inl rfl, .inr rfl, .inr rfl, .inr rfl, .inr rfl, trivial⟩ ?_
    exact s_readBlock_77 C hQ hA hR x1 x2 x3 s0 S  hp
  · have hp := hp.2 hc
    refine a_iload C d_readBlock_51 rfl ?_
    refine a_sipush (v := (-2047)) C d_readBlock_53 (by decide) ?_
    refine a_icmp_lt (tgt := 67) C d_readBlock_56 (by decide) ⟨fun hc => ?_, fun hc => ?_⟩
    · have hp := hp.1 hc
      refine aw_lo (lo' := [some (.ref o), some (.int x1), some (.int x2), some (.int x3), none, some (.int x5), some (.int s0), none, none, none]) ⟨.inr rfl, .inr rfl, .inr rfl, .inr rfl, .inr rfl, .inr rfl, .inr rfl, .inr rfl, .inr rfl, .inr rfl, trivial⟩ ?_
      exact s_readBlock_67 C hQ hA hR x1 x2 x3 x5 s0 S  hp
    · have hp := hp.2 hc
      refine a_iload C d_readBlock_59 rfl ?_
      refine a_sipush (v := 2047) C d_readBlock_61 (by decide) ?_
      refine a_icmp_le (tgt := 77) C d_readBlock_64 (by decide) ⟨fun hc => ?_, fun hc => ?_⟩
      · have hp := hp.1 hc
        refine aw_lo (lo' := [some (.ref o), some (.int x1), some (.int x2), some (.int x3), none, none, some (.int s0), none, none, none]) ⟨.inr rfl, .inr rfl, .inr rfl, .inr rfl, .inr rfl, .inl rfl, .inr rfl, .inr rfl, .inr rfl, .inr rfl, trivial⟩ ?_
        exact s_readBlock_77 C hQ hA hR x1 x2 x3 s0 S  hp
      · have hp := hp.2 hc
        refine aw_lo (lo' := [some (.ref o), some (.int x1), some (.int x2), some (.int x3), none, some (.int x5), some (.int s0), none, none, none]) ⟨.inr rfl, .inr rfl, .inr rfl, .inr rfl, .inr rfl, .inr rfl, .inr rfl, .inr rfl, .inr rfl, .inr rfl, trivial⟩ ?_
        exact s_readBlock_67 C hQ hA hR x1 x2 x3 x5 s0 S  hp
set_option maxRecDepth 100000 in
set_option maxHeartbeats 1000000 in
theorem s_readBlock_0 (C : fcx gG D z A X R_M c_M_readBlock 10 (none)) (hQ : X.2.2.2.2.2.2.2.2.2.2 = eQ gG D z X.2.2.2.2.2.2.2.1 X.2.2.2.2.1 L0 0 0 (pM_v K o ad)) (hA : A = owA gG L0 X.2.2.2.2.1.heap.size) (hR : X.2.2.2.1 = { frames := 5, cells := 1, slots := 6, locals := 500 }) (x1 : Int32) (x2 : Int32) (x3 : Int32) (S : ms) (hp : p_readBlock x1 x2 x3 S K) : aw gG D z A X 10 0 [some (.ref o), some (.int x1), some (.int x2), some (.int x3), none, none, none, none, none, none] [] [(0, ly_M, (o, ad, S.1, S.2.1, S.2.2))] 0 0 := by
  unfold p_readBlock at hp
  refine a_aload_n C d_readBlock_0 rfl rfl ?_
  refine a_aload_n C d_readBlock_1 rfl rfl ?_
  refine a_getR C 0 51 d_readBlock_2 rfl rfl rfl (Nat.le_of_ble_eq_true rfl) f_M_133 ⟨Nat.le_of_ble_eq_true rfl, Nat.le_of_ble_eq_true rfl⟩ ?_
  refine a_iload_n C d_readBlock_5 rfl rfl ?_
  refine a_iald C 0 51 d_readBlock_6 rfl rfl rfl hp.1 ?_
  have hp := hp.2
  refine a_call (Lr := []) (rest := []) (av := .ref o :: [.int (S.2.1 51 x1.toNatClampNeg)]) C [0] [] d_readBlock_7 (ct_readSymbol (S.2.1 51 x1.toNatClampNeg) S hp) cd_M_readSymbol i_M (Nat.le_of_ble_eq_true rfl) (by rw [hR]; exact Nat.le_of_ble_eq_true rfl) (by rw [hR]; exact Nat.le_of_ble_eq_true rfl) (by rw [hR]; exact Nat.le_of_ble_eq_true rfl) (by rw [hR]; exact Nat.le_of_ble_eq_true rfl) rfl rfl (by decide) (by decide) (by decide) (inv_V C 0 d_readBlock_7 l_M_320 im_M_readSymbol se_M_readSymbol cd_M_readSymbol ⟨by decide, by decide⟩ ln_M_readSymbol rfl rfl rfl rfl rfl) (fun oc L1 hL => ?_)
  obtain ⟨v7, S7, hp, rfl, rfl⟩ := hL
  refine ⟨_, rfl, ?_⟩
  refine aw_eq (lo' := _) (st' := [.int v7]) (L' := [(0, ly_M, (o, ad, S7.1, S7.2.1, S7.2.2))]) rfl rfl rfl ?_
  refine a_istore (lo' := [some (.ref o), some (.int x1), some (.int x2), some (.int x3), some (.int v7), none, none, none, none, none]) C d_readBlock_10 (by decide) rfl ?_
  refine a_aload_n C d_readBlock_12 rfl rfl ?_
  refine a_getI C 0 57 d_readBlock_13 rfl rfl rfl (Nat.le_of_ble_eq_true rfl) f_M_317 (Nat.le_of_ble_eq_true rfl) ?_
  refine a_istore (lo' := [some (.ref o), some (.int x1), some (.int x2), some (.int x3), some (.int v7), some (.int (S7.1 57)), none, none, none, none]) C d_readBlock_16 (by decide) rfl ?_
  refine a_aload_n C d_readBlock_18 rfl rfl ?_
  refine a_getI C 0 35 d_readBlock_19 rfl rfl rfl (Nat.le_of_ble_eq_true rfl) f_M_265 (Nat.le_of_ble_eq_true rfl) ?_
  refine a_if_ne (tgt := 41) C d_readBlock_22 (by decide) ⟨fun hc => ?_, fun hc => ?_⟩
  · have hp := hp.1 hc
    refine a_iconst (v := 0) C d_readBlock_41 (by decide) ?_
    refine aw_lo (lo' := [some (.ref o), some (.int x1), some (.int x2), some (.int x3), none, some (.int (S7.1 57)), none, none, none, none]) ⟨.inr rfl, .inr rfl, .inr rfl, .inr rfl, .inl rfl, .inr rfl, .inr rfl, .inr rfl, .inr rfl, .inr rfl, trivial⟩ ?_
    exact s_readBlock_42 C hQ hA hR x1 x2 x3 (S7.1 57) 0 (S7.1, S7.2.1, S7.2.2)  hp
  · have hp := hp.2 hc
    refine a_aload_n C d_readBlock_25 rfl rfl ?_
    refine a_getR C 0 53 d_readBlock_26 rfl rfl rfl (Nat.le_of_ble_eq_true rfl) f_M_139 ⟨Nat.le_of_ble_eq_true rfl, Nat.le_of_ble_eq_true rfl⟩ ?_
    refine a_iload_n C d_readBlock_29 rfl rfl ?_
    refine a_iald C 0 53 d_readBlock_30 rfl rfl rfl hp.1 ?_
    have hp := hp.2
    refine a_aload_n C d_readBlock_31 rfl rfl ?_
    refine a_iload C d_readBlock_32 rfl ?_
    refine a_call (Lr := []) (rest := [.int (S7.2.1 53 x2.toNatClampNeg)]) (av := .ref o :: [.int v7]) C [0] [] d_readBlock_34 (ct_readNumber v7 (S7.1, S7.2.1, S7.2.2) hp) cd_M_readNumber i_M (Nat.le_of_ble_eq_true rfl) (by rw [hR]; exact Nat.le_of_ble_eq_true rfl) (by rw [hR]; exact Nat.le_of_ble_eq_true rfl) (by rw [hR]; exact Nat.le_of_ble_eq_true rfl) (by rw [hR]; exact Nat.le_of_ble_eq_true rfl) rfl rfl (by decide) (by decide) (by decide) (inv_V C 0 d_readBlock_34 l_M_323 im_M_readNumber se_M_readNumber cd_M_readNumber ⟨by decide, by decide⟩ ln_M_readNumber rfl rfl rfl rfl rfl) (fun oc L1 hL => ?_)
    obtain ⟨v34, S34, hp, rfl, rfl⟩ := hL
    refine ⟨_, rfl, ?_⟩
    refine aw_eq (lo' := _) (st' := [.int v34, .int (S7.2.1 53 x2.toNatClampNeg)]) (L' := [(0, ly_M, (o, ad, S34.1, S34.2.1, S34.2.2))]) rfl rfl rfl ?_
    refine a_iadd C d_readBlock_37 ?_
    refine a_goto (tgt := 42) C d_readBlock_38 (by decide) ?_
    refine aw_lo (lo' := [some (.ref o), some (.int x1), some (.int x2), some (.int x3), none, some (.int (S7.1 57)), none, none, none, none]) ⟨.inr rfl, .inr rfl, .inr rfl, .inr rfl, .inl rfl, .inr rfl, .inr rfl, .inr rfl, .inr rfl, .inr rfl, trivial⟩ ?_
    exact s_readBlock_42 C hQ hA hR x1 x2 x3 (S7.1 57) ((S7.2.1 53 x2.toNatClampNeg) + v34) (S34.1, S34.2.1, S34.2.2)  hp
end M_readBlock
section M_readBlockc
variable {D : va_G} {z : Nat → ClassId} {o : Nat} {ad : Nat → Nat}
set_option maxRecDepth 100000 in
theorem ct_readBlock {l : Launch} (x1 : Int32) (x2 : Int32) (x3 : Int32) (S : ms) {K : ms → Prop} (hp : p_readBlock x1 x2 x3 S K) : ct gG D z l n_M_readBlock c_M_readBlock 10 (none) 5 500 [.ref o, .int x1, .int x2, .int x3] [(0, ly_M, (o, ad, S.1, S.2.1, S.2.2))] 0 0 (pM_v K o ad) := by
  refine ct_of (lo := [some (.ref o), some (.int x1), some (.int x2), some (.int x3), none, none, none, none, none, none]) (by decide) g_ok (Nat.le_of_ble_eq_true rfl) rfl ?_
  intro X A _ C hR hQ hA _
  exact s_readBlock_0 C hQ hA hR x1 x2 x3 S hp
end M_readBlockc
def b_readUnit_166  (S : ms) (K : ms → Prop) : Prop :=
  K S
def b_readUnit_160 (x3 : Int32) (x4 : Int32) (x5 : Int32) (S : ms) (R12 : Int32 → Int32 → Int32 → ms → Prop) (K : ms → Prop) : Prop :=
  R12 x3 x4 (x5 + 1) S
def b_readUnit_88 (x3 : Int32) (x4 : Int32) (x5 : Int32) (x6 : Int32) (x7 : Int32) (x8 : Int32) (x9 : Int32) (S : ms) (R12 : Int32 → Int32 → Int32 → ms → Prop) (R88 : Int32 → Int32 → Int32 → Int32 → Int32 → Int32 → Int32 → ms → Prop) (K : ms → Prop) : Prop :=
  ((x7 * x8) ≤ x9 → (b_readUnit_160 x3 x4 x5 S R12 K)) ∧ (¬ ((x7 * x8) ≤ x9) → ((¬ (S.1 35) = 0 → (b_readUnit_160 x3 x4 x5 S R12 K)) ∧ ((S.1 35) = 0 → (¬ x7 = 0 ∧ (¬ x7 = 0 ∧ (vp_in (6 + x6) 9 ∧ (p_readBlock x5 x6 ((((x4 * x8) + (x9 / x7)) * (S.2.1 17 (6 + x6).toNatClampNeg)) + ((x3 * x7) + (x9 - x9 / x7 * x7))) S (fun S151 => R88 x3 x4 x5 x6 x7 x8 (x9 + 1) (S151.1, S151.2.1, S151.2.2)))))))))
def e_readUnit_88 (x3 : Int32) (x4 : Int32) (x5 : Int32) (x6 : Int32) (x7 : Int32) (x8 : Int32) (x9 : Int32) (S : ms) (R12 : Int32 → Int32 → Int32 → ms → Prop) (K : ms → Prop) : Prop :=
  ∃ (I : Int32 → Int32 → Int32 → Int32 → Int32 → Int32 → Int32 → ms → Prop) (μ : Int32 → Int32 → Int32 → Int32 → Int32 → Int32 → Int32 → ms → Nat), I x3 x4 x5 x6 x7 x8 x9 S ∧ ∀ yx3 yx4 yx5 yx6 yx7 yx8 yx9 yS, I yx3 yx4 yx5 yx6 yx7 yx8 yx9 yS → b_readUnit_88 yx3 yx4 yx5 yx6 yx7 yx8 yx9 yS R12 (fun zx3 zx4 zx5 zx6 zx7 zx8 zx9 zS => I zx3 zx4 zx5 zx6 zx7 zx8 zx9 zS ∧ μ zx3 zx4 zx5 zx6 zx7 zx8 zx9 zS < μ yx3 yx4 yx5 yx6 yx7 yx8 yx9 yS) K
def b_readUnit_83 (x3 : Int32) (x4 : Int32) (x5 : Int32) (x6 : Int32) (x7 : Int32) (s0 : Int32) (S : ms) (R12 : Int32 → Int32 → Int32 → ms → Prop) (K : ms → Prop) : Prop :=
  e_readUnit_88 x3 x4 x5 x6 x7 s0 0 S R12 K
def b_readUnit_59 (x3 : Int32) (x4 : Int32) (x5 : Int32) (x6 : Int32) (s0 : Int32) (S : ms) (R12 : Int32 → Int32 → Int32 → ms → Prop) (K : ms → Prop) : Prop :=
  (¬ (S.1 49) = 1 → (vp_in (6 + x6) 9 ∧ (b_readUnit_83 x3 x4 x5 x6 s0 (S.2.1 16 (6 + x6).toNatClampNeg) S R12 K))) ∧ ((S.1 49) = 1 → (b_readUnit_83 x3 x4 x5 x6 s0 1 S R12 K))
def b_readUnit_12 (x3 : Int32) (x4 : Int32) (x5 : Int32) (S : ms) (R12 : Int32 → Int32 → Int32 → ms → Prop) (K : ms → Prop) : Prop :=
  ((S.1 49) ≤ x5 → (b_readUnit_166 S K)) ∧ (¬ ((S.1 49) ≤ x5) → ((¬ (S.1 35) = 0 → (b_readUnit_166 S K)) ∧ ((S.1 35) = 0 → (vp_in x5 3 ∧ ((¬ (S.1 49) = 1 → (vp_in (6 + (S.2.1 50 x5.toNatClampNeg)) 9 ∧ (b_readUnit_59 x3 x4 x5 (S.2.1 50 x5.toNatClampNeg) (S.2.1 15 (6 + (S.2.1 50 x5.toNatClampNeg)).toNatClampNeg) S R12 K))) ∧ ((S.1 49) = 1 → (b_readUnit_59 x3 x4 x5 (S.2.1 50 x5.toNatClampNeg) 1 S R12 K)))))))
def e_readUnit_12 (x3 : Int32) (x4 : Int32) (x5 : Int32) (S : ms) (K : ms → Prop) : Prop :=
  ∃ (I : Int32 → Int32 → Int32 → ms → Prop) (μ : Int32 → Int32 → Int32 → ms → Nat), I x3 x4 x5 S ∧ ∀ yx3 yx4 yx5 yS, I yx3 yx4 yx5 yS → b_readUnit_12 yx3 yx4 yx5 yS (fun zx3 zx4 zx5 zS => I zx3 zx4 zx5 zS ∧ μ zx3 zx4 zx5 zS < μ yx3 yx4 yx5 yS) K
def p_readUnit (x1 : Int32) (x2 : Int32) (S : ms) (K : ms → Prop) : Prop :=
  ¬ x2 = 0 ∧ (¬ x2 = 0 ∧ (e_readUnit_12 (x1 - x1 / x2 * x2) (x1 / x2) 0 S K))
section M_readUnit
variable {D : va_G} {z : Nat → ClassId} {A : Nat → Prop} {X : cx} {L0 : fw} {K : ms → Prop} {o : Nat} {ad : Nat → Nat}
set_option maxRecDepth 100000 in
set_option maxHeartbeats 1000000 in
theorem s_readUnit_166 (C : fcx gG D z A X R_M c_M_readUnit 12 (none)) (hQ : X.2.2.2.2.2.2.2.2.2.2 = eQ gG D z X.2.2.2.2.2.2.2.1 X.2.2.2.2.1 L0 0 0 (pM_v K o ad)) (hA : A = owA gG L0 X.2.2.2.2.1.heap.size) (hR : X.2.2.2.1 = { frames := 6, cells := 1, slots := 6, locals := 600 })  (S : ms) (hp : b_readUnit_166  S K) : aw gG D z A X 12 166 [some (.ref o), none, none, none, none, none, none, none, none, none, none, none] [] [(0, ly_M, (o, ad, S.1, S.2.1, S.2.2))] 0 0 := by
  unfold b_readUnit_166 at hp
  exact a_vret C hQ hA d_readUnit_166 rfl ⟨S, hp, rfl, rfl⟩
set_option maxRecDepth 100000 in
set_option maxHeartbeats 1000000 in
theorem s_readUnit_160 (C : fcx gG D z A X R_M c_M_readUnit 12 (none)) (hQ : X.2.2.2.2.2.2.2.2.2.2 = eQ gG D z X.2.2.2.2.2.2.2.1 X.2.2.2.2.1 L0 0 0 (pM_v K o ad)) (hA : A = owA gG L0 X.2.2.2.2.1.heap.size) (hR : X.2.2.2.1 = { frames := 6, cells := 1, slots := 6, locals := 600 }) (x3 : Int32) (x4 : Int32) (x5 : Int32) (S : ms) (R12 : Int32 → Int32 → Int32 → ms → Prop) (hR12 : ∀ yx3 yx4 yx5 yS, R12 yx3 yx4 yx5 yS → aw gG D z A X 12 12 [some (.ref o), none, none, some (.int yx3), some (.int yx4), some (.int yx5), none, none, none, none, none, none] [] [(0, ly_M, (o, ad, yS.1, yS.2.1, yS.2.2))] 0 0) (hp : b_readUnit_160 x3 x4 x5 S R12 K) : aw gG D z A X 12 160 [some (.ref o), none, none, some (.int x3), some (.int x4), some (.int x5), none, none, none, none, none, none] [] [(0, ly_M, (o, ad, S.1, S.2.1, S.2.2))] 0 0 := by
  unfold b_readUnit_160 at hp
  refine a_iinc (v := x5 + 1) (lo' := [some (.ref o), none, none, some (.int x3), some (.int x4), some (.int (x5 + 1)), none, none, none, none, none, none]) C d_readUnit_160 rfl rfl (by decide) rfl ?_
  refine a_goto (tgt := 12) C d_readUnit_163 (by decide) ?_
  refine aw_lo (lo' := [some (.ref o), none, none, some (.int x3), some (.int x4), some (.int (x5 + 1)), none, none, none, none, none, none]) ⟨.inr rfl, .inr rfl, .inr rfl, .inr rfl, .inr rfl, .inr rfl, .inr rfl, .inr rfl, .inr rfl, .inr rfl, .inr rfl, .inr rfl, trivial⟩ ?_
  exact hR12 x3 x4 (x5 + 1) S hp
set_option maxRecDepth 100000 in
set_option maxHeartbeats 1000000 in
theorem s_readUnit_88 (C : fcx gG D z A X R_M c_M_readUnit 12 (none)) (hQ : X.2.2.2.2.2.2.2.2.2.2 = eQ gG D z X.2.2.2.2.2.2.2.1 X.2.2.2.2.1 L0 0 0 (pM_v K o ad)) (hA : A = owA gG L0 X.2.2.2.2.1.heap.size) (hR : X.2.2.2.1 = { frames := 6, cells := 1, slots := 6, locals := 600 }) (x3 : Int32) (x4 : Int32) (x5 : Int32) (x6 : Int32) (x7 : Int32) (x8 : Int32) (x9 : Int32) (S : ms) (R12 : Int32 → Int32 → Int32 → ms → Prop) (hR12 : ∀ yx3 yx4 yx5 yS, R12 yx3 yx4 yx5 yS → aw gG D z A X 12 12 [some (.ref o), none, none, some (.int yx3), some (.int yx4), some (.int yx5), none, none, none, none, none, none] [] [(0, ly_M, (o, ad, yS.1, yS.2.1, yS.2.2))] 0 0) (R88 : Int32 → Int32 → Int32 → Int32 → Int32 → Int32 → Int32 → ms → Prop) (hR88 : ∀ yx3 yx4 yx5 yx6 yx7 yx8 yx9 yS, R88 yx3 yx4 yx5 yx6 yx7 yx8 yx9 yS → aw gG D z A X 12 88 [some (.ref o), none, none, some (.int yx3), some (.int yx4), some (.int yx5), some (.int yx6), some (.int yx7), some (.int yx8), some (.int yx9), none, none] [] [(0, ly_M, (o, ad, yS.1, yS.2.1, yS.2.2))] 0 0) (hp : b_readUnit_88 x3 x4 x5 x6 x7 x8 x9 S R12 R88 K) : aw gG D z A X 12 88 [some (.ref o), none, none, some (.int x3), some (.int x4), some (.int x5), some (.int x6), some (.int x7), some (.int x8), some (.int x9), none, none] [] [(0, ly_M, (o, ad, S.1, S.2.1, S.2.2))] 0 0 := by
  unfold b_readUnit_88 at hp
  refine a_iload C d_readUnit_88 rfl ?_
  refine a_iload C d_readUnit_90 rfl ?_
  refine a_iload C d_readUnit_92 rfl ?_
  refine a_imul C d_readUnit_94 ?_
  refine a_icmp_ge (tgt := 160) C d_readUnit_95 (by decide) ⟨fun hc => ?_, fun hc => ?_⟩
  · have hp := hp.1 hc
    refine aw_lo (lo' := [some (.ref o), none, none, some (.int x3), some (.int x4), some (.int x5), none, none, none, none, none, none]) ⟨.inr rfl, .inr rfl, .inr rfl, .inr rfl, .inr rfl, .inr rfl, .inl rfl, .inl rfl, .inl rfl, .inl rfl, .inr rfl, .inr rfl, trivial⟩ ?_
    exact s_readUnit_160 C hQ hA hR x3 x4 x5 S R12 hR12 hp
  · have hp := hp.2 hc
    refine a_aload_n C d_readUnit_98 rfl rfl ?_
    refine a_getI C 0 35 d_readUnit_99 rfl rfl rfl (Nat.le_of_ble_eq_true rfl) f_M_265 (Nat.le_of_ble_eq_true rfl) ?_
    refine a_if_ne (tgt := 160) C d_readUnit_102 (by decide) ⟨fun hc => ?_, fun hc => ?_⟩
    · have hp := hp.1 hc
      refine aw_lo (lo' := [some (.ref o), none, none, some (.int x3), some (.int x4), some (.int x5), none, none, none, none, none, none]) ⟨.inr rfl, .inr rfl, .inr rfl, .inr rfl, .inr rfl, .inr rfl, .inl rfl, .inl rfl, .inl rfl, .inl rfl, .inr rfl, .inr rfl, trivial⟩ ?_
      exact s_readUnit_160 C hQ hA hR x3 x4 x5 S R12 hR12 hp
    · have hp := hp.2 hc
      refine a_iload_n C d_readUnit_105 rfl rfl ?_
      refine a_iload C d_readUnit_106 rfl ?_
      refine a_imul C d_readUnit_108 ?_
      refine a_iload C d_readUnit_109 rfl ?_
      refine a_iload C d_readUnit_111 rfl ?_
      refine a_irem C d_readUnit_113 hp.1 ?_
      have hp := hp.2
      refine a_iadd C d_readUnit_114 ?_
      refine a_istore (lo' := [some (.ref o), none, none, some (.int x3), some (.int x4), some (.int x5), some (.int x6), some (.int x7), some (.int x8), some (.int x9), some (.int ((x3 * x7) + (x9 - x9 / x7 * x7))), none]) C d_readUnit_115 (by decide) rfl ?_
      refine a_iload C d_readUnit_117 rfl ?_
      refine a_iload C d_readUnit_119 rfl ?_
      refine a_imul C d_readUnit_121 ?_
      refine a_iload C d_readUnit_122 rfl ?_
      refine a_iload C d_readUnit_124 rfl ?_
      refine a_idiv C d_readUnit_126 hp.1 ?_
      have hp := hp.2
      refine a_iadd C d_readUnit_127 ?_
      refine a_istore (lo' := [some (.ref o), none, none, some (.int x3), some (.int x4), some (.int x5), some (.int x6), some (.int x7), some (.int x8), some (.int x9), some (.int ((x3 * x7) + (x9 - x9 / x7 * x7))), some (.int ((x4 * x8) + (x9 / x7)))]) C d_readUnit_128 (by decide) rfl ?_
      refine a_aload_n C d_readUnit_130 rfl rfl ?_
      refine a_iload C d_readUnit_131 rfl ?_
      refine a_iload C d_readUnit_133 rfl ?_
      refine a_iload C d_readUnit_135 rfl ?_
      refine a_aload_n C d_readUnit_137 rfl rfl ?_
      refine a_getR C 0 17 d_readUnit_138 rfl rfl rfl (Nat.le_of_ble_eq_true rfl) f_M_56 ⟨Nat.le_of_ble_eq_true rfl, Nat.le_of_ble_eq_true rfl⟩ ?_
      refine a_bipush (v := 6) C d_readUnit_141 (by decide) ?_
      refine a_iload C d_readUnit_143 rfl ?_
      refine a_iadd C d_readUnit_145 ?_
      refine a_iald C 0 17 d_readUnit_146 rfl rfl rfl hp.1 ?_
      have hp := hp.2
      refine a_imul C d_readUnit_147 ?_
      refine a_iload C d_readUnit_148 rfl ?_
      refine a_iadd C d_readUnit_150 ?_
      refine a_call (Lr := []) (rest := []) (av := .ref o :: [.int x5, .int x6, .int ((((x4 * x8) + (x9 / x7)) * (S.2.1 17 (6 + x6).toNatClampNeg)) + ((x3 * x7) + (x9 - x9 / x7 * x7)))]) C [0] [] d_readUnit_151 (ct_readBlock x5 x6 ((((x4 * x8) + (x9 / x7)) * (S.2.1 17 (6 + x6).toNatClampNeg)) + ((x3 * x7) + (x9 - x9 / x7 * x7))) S hp) cd_M_readBlock i_M (Nat.le_of_ble_eq_true rfl) (by rw [hR]; exact Nat.le_of_ble_eq_true rfl) (by rw [hR]; exact Nat.le_of_ble_eq_true rfl) (by rw [hR]; exact Nat.le_of_ble_eq_true rfl) (by rw [hR]; exact Nat.le_of_ble_eq_true rfl) rfl rfl (by decide) (by decide) (by decide) (inv_V C 0 d_readUnit_151 l_M_326 im_M_readBlock se_M_readBlock cd_M_readBlock ⟨by decide, by decide⟩ ln_M_readBlock rfl rfl rfl rfl rfl) (fun oc L1 hL => ?_)
      obtain ⟨S151, hp, rfl, rfl⟩ := hL
      refine ⟨_, rfl, ?_⟩
      refine aw_eq (lo' := _) (st' := []) (L' := [(0, ly_M, (o, ad, S151.1, S151.2.1, S151.2.2))]) rfl rfl rfl ?_
      refine a_iinc (v := x9 + 1) (lo' := [some (.ref o), none, none, some (.int x3), some (.int x4), some (.int x5), some (.int x6), some (.int x7), some (.int x8), some (.int (x9 + 1)), some (.int ((x3 * x7) + (x9 - x9 / x7 * x7))), some (.int ((x4 * x8) + (x9 / x7)))]) C d_readUnit_154 rfl rfl (by decide) rfl ?_
      refine a_goto (tgt := 88) C d_readUnit_157 (by decide) ?_
      refine aw_lo (lo' := [some (.ref o), none, none, some (.int x3), some (.int x4), some (.int x5), some (.int x6), some (.int x7), some (.int x8), some (.int (x9 + 1)), none, none]) ⟨.inr rfl, .inr rfl, .inr rfl, .inr rfl, .inr rfl, .inr rfl, .inr rfl, .inr rfl, .inr rfl, .inr rfl, .inl rfl, .inl rfl, trivial⟩ ?_
      exact hR88 x3 x4 x5 x6 x7 x8 (x9 + 1) (S151.1, S151.2.1, S151.2.2) hp
set_option maxRecDepth 100000 in
set_option maxHeartbeats 1000000 in
theorem se_readUnit_88 (C : fcx gG D z A X R_M c_M_readUnit 12 (none)) (hQ : X.2.2.2.2.2.2.2.2.2.2 = eQ gG D z X.2.2.2.2.2.2.2.1 X.2.2.2.2.1 L0 0 0 (pM_v K o ad)) (hA : A = owA gG L0 X.2.2.2.2.1.heap.size) (hR : X.2.2.2.1 = { frames := 6, cells := 1, slots := 6, locals := 600 }) (x3 : Int32) (x4 : Int32) (x5 : Int32) (x6 : Int32) (x7 : Int32) (x8 : Int32) (x9 : Int32) (S : ms) (R12 : Int32 → Int32 → Int32 → ms → Prop) (hR12 : ∀ yx3 yx4 yx5 yS, R12 yx3 yx4 yx5 yS → aw gG D z A X 12 12 [some (.ref o), none, none, some (.int yx3), some (.int yx4), some (.int yx5), none, none, none, none, none, none] [] [(0, ly_M, (o, ad, yS.1, yS.2.1, yS.2.2))] 0 0) (hp : e_readUnit_88 x3 x4 x5 x6 x7 x8 x9 S R12 K) : aw gG D z A X 12 88 [some (.ref o), none, none, some (.int x3), some (.int x4), some (.int x5), some (.int x6), some (.int x7), some (.int x8), some (.int x9), none, none] [] [(0, ly_M, (o, ad, S.1, S.2.1, S.2.2))] 0 0 := by
  obtain ⟨I, μ, h0, hs⟩ := hp
  have key : ∀ (n : Nat) (yx3 : Int32) (yx4 : Int32) (yx5 : Int32) (yx6 : Int32) (yx7 : Int32) (yx8 : Int32) (yx9 : Int32) (yS : ms), μ yx3 yx4 yx5 yx6 yx7 yx8 yx9 yS < n → I yx3 yx4 yx5 yx6 yx7 yx8 yx9 yS → aw gG D z A X 12 88 [some (.ref o), none, none, some (.int yx3), some (.int yx4), some (.int yx5), some (.int yx6), some (.int yx7), some (.int yx8), some (.int yx9), none, none] [] [(0, ly_M, (o, ad, yS.1, yS.2.1, yS.2.2))] 0 0 := by
    intro n
    induction n with
    | zero => intro yx3 yx4 yx5 yx6 yx7 yx8 yx9 yS h; omega
    | succ n ih =>
      intro yx3 yx4 yx5 yx6 yx7 yx8 yx9 yS hn hI
      exact s_readUnit_88 C hQ hA hR yx3 yx4 yx5 yx6 yx7 yx8 yx9 yS R12 hR12 _ (fun zx3 zx4 zx5 zx6 zx7 zx8 zx9 zS hw => ih zx3 zx4 zx5 zx6 zx7 zx8 zx9 zS (by omega) hw.1) (hs yx3 yx4 yx5 yx6 yx7 yx8 yx9 yS hI)
  exact key (μ x3 x4 x5 x6 x7 x8 x9 S + 1) x3 x4 x5 x6 x7 x8 x9 S (Nat.lt_succ_self _) h0
set_option maxRecDepth 100000 in
set_option maxHeartbeats 1000000 in
theorem s_readUnit_83 (C : fcx gG D z A X R_M c_M_readUnit 12 (none)) (hQ : X.2.2.2.2.2.2.2.2.2.2 = eQ gG D z X.2.2.2.2.2.2.2.1 X.2.2.2.2.1 L0 0 0 (pM_v K o ad)) (hA : A = owA gG L0 X.2.2.2.2.1.heap.size) (hR : X.2.2.2.1 = { frames := 6, cells := 1, slots := 6, locals := 600 }) (x3 : Int32) (x4 : Int32) (x5 : Int32) (x6 : Int32) (x7 : Int32) (s0 : Int32) (S : ms) (R12 : Int32 → Int32 → Int32 → ms → Prop) (hR12 : ∀ yx3 yx4 yx5 yS, R12 yx3 yx4 yx5 yS → aw gG D z A X 12 12 [some (.ref o), none, none, some (.int yx3), some (.int yx4), some (.int yx5), none, none, none, none, none, none] [] [(0, ly_M, (o, ad, yS.1, yS.2.1, yS.2.2))] 0 0) (hp : b_readUnit_83 x3 x4 x5 x6 x7 s0 S R12 K) : aw gG D z A X 12 83 [some (.ref o), none, none, some (.int x3), some (.int x4), some (.int x5), some (.int x6), some (.int x7), none, none, none, none] [.int s0] [(0, ly_M, (o, ad, S.1, S.2.1, S.2.2))] 0 0 := by
  unfold b_readUnit_83 at hp
  refine a_istore (lo' := [some (.ref o), none, none, some (.int x3), some (.int x4), some (.int x5), some (.int x6), some (.int x7), some (.int s0), none, none, none]) C d_readUnit_83 (by decide) rfl ?_
  refine a_iconst (v := 0) C d_readUnit_85 (by decide) ?_
  refine a_istore (lo' := [some (.ref o), none, none, some (.int x3), some (.int x4), some (.int x5), some (.int x6), some (.int x7), some (.int s0), some (.int 0), none, none]) C d_readUnit_86 (by decide) rfl ?_
  refine aw_lo (lo' := [some (.ref o), none, none, some (.int x3), some (.int x4), some (.int x5), some (.int x6), some (.int x7), some (.int s0), some (.int 0), none, none]) ⟨.inr rfl, .inr rfl, .inr rfl, .inr rfl, .inr rfl, .inr rfl, .inr rfl, .inr rfl, .inr rfl, .inr rfl, .inr rfl, .inr rfl, trivial⟩ ?_
  exact se_readUnit_88 C hQ hA hR x3 x4 x5 x6 x7 s0 0 S R12 hR12 hp
set_option maxRecDepth 100000 in
set_option maxHeartbeats 1000000 in
theorem s_readUnit_59 (C : fcx gG D z A X R_M c_M_readUnit 12 (none)) (hQ : X.2.2.2.2.2.2.2.2.2.2 = eQ gG D z X.2.2.2.2.2.2.2.1 X.2.2.2.2.1 L0 0 0 (pM_v K o ad)) (hA : A = owA gG L0 X.2.2.2.2.1.heap.size) (hR : X.2.2.2.1 = { frames := 6, cells := 1, slots := 6, locals := 600 }) (x3 : Int32) (x4 : Int32) (x5 : Int32) (x6 : Int32) (s0 : Int32) (S : ms) (R12 : Int32 → Int32 → Int32 → ms → Prop) (hR12 : ∀ yx3 yx4 yx5 yS, R12 yx3 yx4 yx5 yS → aw gG D z A X 12 12 [some (.ref o), none, none, some (.int yx3), some (.int yx4), some (.int yx5), none, none, none, none, none, none] [] [(0, ly_M, (o, ad, yS.1, yS.2.1, yS.2.2))] 0 0) (hp : b_readUnit_59 x3 x4 x5 x6 s0 S R12 K) : aw gG D z A X 12 59 [some (.ref o), none, none, some (.int x3), some (.int x4), some (.int x5), some (.int x6), none, none, none, none, none] [.int s0] [(0, ly_M, (o, ad, S.1, S.2.1, S.2.2))] 0 0 := by
  unfold b_readUnit_59 at hp
  refine a_istore (lo' := [some (.ref o), none, none, some (.int x3), some (.int x4), some (.int x5), some (.int x6), some (.int s0), none, none, none, none]) C d_readUnit_59 (by decide) rfl ?_
  refine a_aload_n C d_readUnit_61 rfl rfl ?_
  refine a_getI C 0 49 d_readUnit_62 rfl rfl rfl (Nat.le_of_ble_eq_true rfl) f_M_302 (Nat.le_of_ble_eq_true rfl) ?_
  refine a_iconst (v := 1) C d_readUnit_65 (by decide) ?_
  refine a_icmp_ne (tgt := 73) C d_readUnit_66 (by decide) ⟨fun hc => ?_, fun hc => ?_⟩
  · have hp := hp.1 hc
    refine a_aload_n C d_readUnit_73 rfl rfl ?_
    refine a_getR C 0 16 d_readUnit_74 rfl rfl rfl (Nat.le_of_ble_eq_true rfl) f_M_53 ⟨Nat.le_of_ble_eq_true rfl, Nat.le_of_ble_eq_true rfl⟩ ?_
    refine a_bipush (v := 6) C d_readUnit_77 (by decide) ?_
    refine a_iload C d_readUnit_79 rfl ?_
    refine a_iadd C d_readUnit_81 ?_
    refine a_iald C 0 16 d_readUnit_82 rfl rfl rfl hp.1 ?_
    have hp := hp.2
    refine aw_lo (lo' := [some (.ref o), none, none, some (.int x3), some (.int x4), some (.int x5), some (.int x6), some (.int s0), none, none, none, none]) ⟨.inr rfl, .inr rfl, .inr rfl, .inr rfl, .inr rfl, .inr rfl, .inr rfl, .inr rfl, .inr rfl, .inr rfl, .inr rfl, .inr rfl, trivial⟩ ?_
    exact s_readUnit_83 C hQ hA hR x3 x4 x5 x6 s0 (S.2.1 16 (6 + x6).toNatClampNeg) S R12 hR12 hp
  · have hp := hp.2 hc
    refine a_iconst (v := 1) C d_readUnit_69 (by decide) ?_
    refine a_goto (tgt := 83) C d_readUnit_70 (by decide) ?_
    refine aw_lo (lo' := [some (.ref o), none, none, some (.int x3), some (.int x4), some (.int x5), some (.int x6), some (.int s0), none, none, none, none]) ⟨.inr rfl, .inr rfl, .inr rfl, .inr rfl, .inr rfl, .inr rfl, .inr rfl, .inr rfl, .inr rfl, .inr rfl, .inr rfl, .inr rfl, trivial⟩ ?_
    exact s_readUnit_83 C hQ hA hR x3 x4 x5 x6 s0 1 S R12 hR12 hp
set_option maxRecDepth 100000 in
set_option maxHeartbeats 1000000 in
theorem s_readUnit_12 (C : fcx gG D z A X R_M c_M_readUnit 12 (none)) (hQ : X.2.2.2.2.2.2.2.2.2.2 = eQ gG D z X.2.2.2.2.2.2.2.1 X.2.2.2.2.1 L0 0 0 (pM_v K o ad)) (hA : A = owA gG L0 X.2.2.2.2.1.heap.size) (hR : X.2.2.2.1 = { frames := 6, cells := 1, slots := 6, locals := 600 }) (x3 : Int32) (x4 : Int32) (x5 : Int32) (S : ms) (R12 : Int32 → Int32 → Int32 → ms → Prop) (hR12 : ∀ yx3 yx4 yx5 yS, R12 yx3 yx4 yx5 yS → aw gG D z A X 12 12 [some (.ref o), none, none, some (.int yx3), some (.int yx4), some (.int yx5), none, none, none, none, none, none] [] [(0, ly_M, (o, ad, yS.1, yS.2.1, yS.2.2))] 0 0) (hp : b_readUnit_12 x3 x4 x5 S R12 K) : aw gG D z A X 12 12 [some (.ref o), none, none, some (.int x3), some (.int x4), some (.int x5), none, none, none, none, none, none] [] [(0, ly_M, (o, ad, S.1, S.2.1, S.2.2))] 0 0 := by
  unfold b_readUnit_12 at hp
  refine a_iload C d_readUnit_12 rfl ?_
  refine a_aload_n C d_readUnit_14 rfl rfl ?_
  refine a_getI C 0 49 d_readUnit_15 rfl rfl rfl (Nat.le_of_ble_eq_true rfl) f_M_302 (Nat.le_of_ble_eq_true rfl) ?_
  refine a_icmp_ge (tgt := 166) C d_readUnit_18 (by decide) ⟨fun hc => ?_, fun hc => ?_⟩
  · have hp := hp.1 hc
    refine aw_lo (lo' := [some (.ref o), none, none, none, none, none, none, none, none, none, none, none]) ⟨.inr rfl, .inr rfl, .inr rfl, .inl rfl, .inl rfl, .inl rfl, .inr rfl, .inr rfl, .inr rfl, .inr rfl, .inr rfl, .inr rfl, trivial⟩ ?_
    exact s_readUnit_166 C hQ hA hR S  hp
  · have hp := hp.2 hc
    refine a_aload_n C d_readUnit_21 rfl rfl ?_
    refine a_getI C 0 35 d_readUnit_22 rfl rfl rfl (Nat.le_of_ble_eq_true rfl) f_M_265 (Nat.le_of_ble_eq_true rfl) ?_
    refine a_if_ne (tgt := 166) C d_readUnit_25 (by decide) ⟨fun hc => ?_, fun hc => ?_⟩
    · have hp := hp.1 hc
      refine aw_lo (lo' := [some (.ref o), none, none, none, none, none, none, none, none, none, none, none]) ⟨.inr rfl, .inr rfl, .inr rfl, .inl rfl, .inl rfl, .inl rfl, .inr rfl, .inr rfl, .inr rfl, .inr rfl, .inr rfl, .inr rfl, trivial⟩ ?_
      exact s_readUnit_166 C hQ hA hR S  hp
    · have hp := hp.2 hc
      refine a_aload_n C d_readUnit_28 rfl rfl ?_
      refine a_getR C 0 50 d_readUnit_29 rfl rfl rfl (Nat.le_of_ble_eq_true rfl) f_M_130 ⟨Nat.le_of_ble_eq_true rfl, Nat.le_of_ble_eq_true rfl⟩ ?_
      refine a_iload C d_readUnit_32 rfl ?_
      refine a_iald C 0 50 d_readUnit_34 rfl rfl rfl hp.1 ?_
      have hp := hp.2
      refine a_istore (lo' := [some (.ref o), none, none, some (.int x3), some (.int x4), some (.int x5), some (.int (S.2.1 50 x5.toNatClampNeg)), none, none, none, none, none]) C d_readUnit_35 (by decide) rfl ?_
      refine a_aload_n C d_readUnit_37 rfl rfl ?_
      refine a_getI C 0 49 d_readUnit_38 rfl rfl rfl (Nat.le_of_ble_eq_true rfl) f_M_302 (Nat.le_of_ble_eq_true rfl) ?_
      refine a_iconst (v := 1) C d_readUnit_41 (by decide) ?_
      refine a_icmp_ne (tgt := 49) C d_readUnit_42 (by decide) ⟨fun hc => ?_, fun hc => ?_⟩
      · have hp := hp.1 hc
        refine a_aload_n C d_readUnit_49 rfl rfl ?_
        refine a_getR C 0 15 d_readUnit_50 rfl rfl rfl (Nat.le_of_ble_eq_true rfl) f_M_50 ⟨Nat.le_of_ble_eq_true rfl, Nat.le_of_ble_eq_true rfl⟩ ?_
        refine a_bipush (v := 6) C d_readUnit_53 (by decide) ?_
        refine a_iload C d_readUnit_55 rfl ?_
        refine a_iadd C d_readUnit_57 ?_
        refine a_iald C 0 15 d_readUnit_58 rfl rfl rfl hp.1 ?_
        have hp := hp.2
        refine aw_lo (lo' := [some (.ref o), none, none, some (.int x3), some (.int x4), some (.int x5), some (.int (S.2.1 50 x5.toNatClampNeg)), none, none, none, none, none]) ⟨.inr rfl, .inr rfl, .inr rfl, .inr rfl, .inr rfl, .inr rfl, .inr rfl, .inr rfl, .inr rfl, .inr rfl, .inr rfl, .inr rfl, trivial⟩ ?_
        exact s_readUnit_59 C hQ hA hR x3 x4 x5 (S.2.1 50 x5.toNatClampNeg) (S.2.1 15 (6 + (S.2.1 50 x5.toNatClampNeg)).toNatClampNeg) S R12 hR12 hp
      · have hp := hp.2 hc
        refine a_iconst (v := 1) C d_readUnit_45 (by decide) ?_
        refine a_goto (tgt := 59) C d_readUnit_46 (by decide) ?_
        refine aw_lo (lo' := [some (.ref o), none, none, some (.int x3), some (.int x4), some (.int x5), some (.int (S.2.1 50 x5.toNatClampNeg)), none, none, none, none, none]) ⟨.inr rfl, .inr rfl, .inr rfl, .inr rfl, .inr rfl, .inr rfl, .inr rfl, .inr rfl, .inr rfl, .inr rfl, .inr rfl, .inr rfl, trivial⟩ ?_
        exact s_readUnit_59 C hQ hA hR x3 x4 x5 (S.2.1 50 x5.toNatClampNeg) 1 S R12 hR12 hp
set_option maxRecDepth 100000 in
set_option maxHeartbeats 1000000 in
theorem se_readUnit_12 (C : fcx gG D z A X R_M c_M_readUnit 12 (none)) (hQ : X.2.2.2.2.2.2.2.2.2.2 = eQ gG D z X.2.2.2.2.2.2.2.1 X.2.2.2.2.1 L0 0 0 (pM_v K o ad)) (hA : A = owA gG L0 X.2.2.2.2.1.heap.size) (hR : X.2.2.2.1 = { frames := 6, cells := 1, slots := 6, locals := 600 }) (x3 : Int32) (x4 : Int32) (x5 : Int32) (S : ms) (hp : e_readUnit_12 x3 x4 x5 S K) : aw gG D z A X 12 12 [some (.ref o), none, none, some (.int x3), some (.int x4), some (.int x5), none, none, none, none, none, none] [] [(0, ly_M, (o, ad, S.1, S.2.1, S.2.2))] 0 0 := by
  obtain ⟨I, μ, h0, hs⟩ := hp
  have key : ∀ (n : Nat) (yx3 : Int32) (yx4 : Int32) (yx5 : Int32) (yS : ms), μ yx3 yx4 yx5 yS < n → I yx3 yx4 yx5 yS → aw gG D z A X 12 12 [some (.ref o), none, none, some (.int yx3), some (.int yx4), some (.int yx5), none, none, none, none, none, none] [] [(0, ly_M, (o, ad, yS.1, yS.2.1, yS.2.2))] 0 0 := by
    intro n
    induction n with
    | zero => intro yx3 yx4 yx5 yS h; omega
    | succ n ih =>
      intro yx3 yx4 yx5 yS hn hI
      exact s_readUnit_12 C hQ hA hR yx3 yx4 yx5 yS _ (fun zx3 zx4 zx5 zS hw => ih zx3 zx4 zx5 zS (by omega) hw.1) (hs yx3 yx4 yx5 yS hI)
  exact key (μ x3 x4 x5 S + 1) x3 x4 x5 S (Nat.lt_succ_self _) h0
set_option maxRecDepth 100000 in
set_option maxHeartbeats 1000000 in
theorem s_readUnit_0 (C : fcx gG D z A X R_M c_M_readUnit 12 (none)) (hQ : X.2.2.2.2.2.2.2.2.2.2 = eQ gG D z X.2.2.2.2.2.2.2.1 X.2.2.2.2.1 L0 0 0 (pM_v K o ad)) (hA : A = owA gG L0 X.2.2.2.2.1.heap.size) (hR : X.2.2.2.1 = { frames := 6, cells := 1, slots := 6, locals := 600 }) (x1 : Int32) (x2 : Int32) (S : ms) (hp : p_readUnit x1 x2 S K) : aw gG D z A X 12 0 [some (.ref o), some (.int x1), some (.int x2), none, none, none, none, none, none, none, none, none] [] [(0, ly_M, (o, ad, S.1, S.2.1, S.2.2))] 0 0 := by
  unfold p_readUnit at hp
  refine a_iload_n C d_readUnit_0 rfl rfl ?_
  refine a_iload_n C d_readUnit_1 rfl rfl ?_
  refine a_irem C d_readUnit_2 hp.1 ?_
  have hp := hp.2
  refine a_istore_n (lo' := [some (.ref o), some (.int x1), some (.int x2), some (.int (x1 - x1 / x2 * x2)), none, none, none, none, none, none, none, none]) C d_readUnit_3 rfl (by decide) rfl ?_
  refine a_iload_n C d_readUnit_4 rfl rfl ?_
  refine a_iload_n C d_readUnit_5 rfl rfl ?_
  refine a_idiv C d_readUnit_6 hp.1 ?_
  have hp := hp.2
  refine a_istore (lo' := [some (.ref o), some (.int x1), some (.int x2), some (.int (x1 - x1 / x2 * x2)), some (.int (x1 / x2)), none, none, none, none, none, none, none]) C d_readUnit_7 (by decide) rfl ?_
  refine a_iconst (v := 0) C d_readUnit_9 (by decide) ?_
  refine a_istore (lo' := [some (.ref o), some (.int x1), some (.int x2), some (.int (x1 - x1 / x2 * x2)), some (.int (x1 / x2)), some (.int 0), none, none, none, none, none, none]) C d_readUnit_10 (by decide) rfl ?_
  refine aw_lo (lo' := [some (.ref o), none, none, some (.int (x1 - x1 / x2 * x2)), some (.int (x1 / x2)), some (.int 0), none, none, none, none, none, none]) ⟨.inr rfl, .inl rfl, .inl rfl, .inr rfl, .inr rfl, .inr rfl, .inr rfl, .inr rfl, .inr rfl, .inr rfl, .inr rfl, .inr rfl, trivial⟩ ?_
  exact se_readUnit_12 C hQ hA hR (x1 - x1 / x2 * x2) (x1 / x2) 0 S  hp
end M_readUnit
section M_readUnitc
variable {D : va_G} {z : Nat → ClassId} {o : Nat} {ad : Nat → Nat}
set_option maxRecDepth 100000 in
theorem ct_readUnit {l : Launch} (x1 : Int32) (x2 : Int32) (S : ms) {K : ms → Prop} (hp : p_readUnit x1 x2 S K) : ct gG D z l n_M_readUnit c_M_readUnit 12 (none) 6 600 [.ref o, .int x1, .int x2] [(0, ly_M, (o, ad, S.1, S.2.1, S.2.2))] 0 0 (pM_v K o ad) := by
  refine ct_of (lo := [some (.ref o), some (.int x1), some (.int x2), none, none, none, none, none, none, none, none, none]) (by decide) g_ok (Nat.le_of_ble_eq_true rfl) rfl ?_
  intro X A _ C hR hQ hA _
  exact s_readUnit_0 C hQ hA hR x1 x2 S hp
end M_readUnitc
def b_readData_260  (S : ms) (K : ms → Prop) : Prop :=
  K S
def b_readData_254 (x2 : Int32) (x3 : Int32) (x4 : Int32) (S : ms) (R106 : Int32 → Int32 → Int32 → ms → Prop) (K : ms → Prop) : Prop :=
  R106 x2 x3 (x4 + 1) S
def b_readData_240 (x2 : Int32) (x3 : Int32) (x4 : Int32) (S : ms) (R106 : Int32 → Int32 → Int32 → ms → Prop) (K : ms → Prop) : Prop :=
  (¬ (S.1 35) = 0 → (b_readData_254 x2 x3 x4 S R106 K)) ∧ ((S.1 35) = 0 → (p_readUnit x4 x2 S (fun S251 => b_readData_254 x2 x3 x4 (S251.1, S251.2.1, S251.2.2) R106 K)))
def b_readData_226 (x2 : Int32) (x3 : Int32) (x4 : Int32) (x5 : Int32) (x6 : Int32) (S : ms) (R106 : Int32 → Int32 → Int32 → ms → Prop) (R210 : Int32 → Int32 → Int32 → Int32 → Int32 → ms → Prop) (K : ms → Prop) : Prop :=
  vp_in x6 3 ∧ (R210 x2 x3 x4 x5 (x6 + 1) (S.1, va_up S.2.1 53 (upd (S.2.1 53) x6.toNatClampNeg 0), S.2.2))
def b_readData_210 (x2 : Int32) (x3 : Int32) (x4 : Int32) (x5 : Int32) (x6 : Int32) (S : ms) (R106 : Int32 → Int32 → Int32 → ms → Prop) (R210 : Int32 → Int32 → Int32 → Int32 → Int32 → ms → Prop) (K : ms → Prop) : Prop :=
  (3 ≤ x6 → (b_readData_240 x2 x3 x4 S R106 K)) ∧ (¬ (3 ≤ x6) → ((x4 = 0 → (b_readData_226 x2 x3 x4 x5 x6 S R106 R210 K)) ∧ (¬ (x4 = 0) → ((x5 = 0 → (b_readData_240 x2 x3 x4 S R106 K)) ∧ (¬ (x5 = 0) → (b_readData_226 x2 x3 x4 x5 x6 S R106 R210 K))))))
def e_readData_210 (x2 : Int32) (x3 : Int32) (x4 : Int32) (x5 : Int32) (x6 : Int32) (S : ms) (R106 : Int32 → Int32 → Int32 → ms → Prop) (K : ms → Prop) : Prop :=
  ∃ (I : Int32 → Int32 → Int32 → Int32 → Int32 → ms → Prop) (μ : Int32 → Int32 → Int32 → Int32 → Int32 → ms → Nat), I x2 x3 x4 x5 x6 S ∧ ∀ yx2 yx3 yx4 yx5 yx6 yS, I yx2 yx3 yx4 yx5 yx6 yS → b_readData_210 yx2 yx3 yx4 yx5 yx6 yS R106 (fun zx2 zx3 zx4 zx5 zx6 zS => I zx2 zx3 zx4 zx5 zx6 zS ∧ μ zx2 zx3 zx4 zx5 zx6 zS < μ yx2 yx3 yx4 yx5 yx6 yS) K
def b_readData_207 (x2 : Int32) (x3 : Int32) (x4 : Int32) (x5 : Int32) (S : ms) (R106 : Int32 → Int32 → Int32 → ms → Prop) (K : ms → Prop) : Prop :=
  e_readData_210 x2 x3 x4 x5 0 S R106 K
def b_readData_148 (x2 : Int32) (x3 : Int32) (x4 : Int32) (s0 : Int32) (S : ms) (R106 : Int32 → Int32 → Int32 → ms → Prop) (K : ms → Prop) : Prop :=
  (s0 = 0 → (b_readData_207 x2 x3 x4 s0 S R106 K)) ∧ (¬ (s0 = 0) → (p_readMark (upd S.1 54 0, S.2.1, S.2.2) (fun v161 S161 => (¬ (S161.1 35) = 0 → (b_readData_207 x2 x3 x4 s0 (S161.1, S161.2.1, S161.2.2) R106 K)) ∧ ((S161.1 35) = 0 → (¬ (S161.1 48) = 0 ∧ ((v161 = (208 + (((x4 / (S161.1 48)) - 1) - ((x4 / (S161.1 48)) - 1) / 8 * 8)) → (b_readData_207 x2 x3 x4 s0 (S161.1, S161.2.1, S161.2.2) R106 K)) ∧ (¬ (v161 = (208 + (((x4 / (S161.1 48)) - 1) - ((x4 / (S161.1 48)) - 1) / 8 * 8))) → (p_fail 3 ((S161.1 34) - 1) (S161.1, S161.2.1, S161.2.2) (fun v202 S202 => b_readData_207 x2 x3 x4 s0 (S202.1, S202.2.1, S202.2.2) R106 K)))))))))
def b_readData_147 (x2 : Int32) (x3 : Int32) (x4 : Int32) (S : ms) (R106 : Int32 → Int32 → Int32 → ms → Prop) (K : ms → Prop) : Prop :=
  b_readData_148 x2 x3 x4 0 S R106 K
def b_readData_106 (x2 : Int32) (x3 : Int32) (x4 : Int32) (S : ms) (R106 : Int32 → Int32 → Int32 → ms → Prop) (K : ms → Prop) : Prop :=
  ((x2 * x3) ≤ x4 → (b_readData_260 S K)) ∧ (¬ ((x2 * x3) ≤ x4) → ((¬ (S.1 35) = 0 → (b_readData_260 S K)) ∧ ((S.1 35) = 0 → (((S.1 48) ≤ 0 → (b_readData_147 x2 x3 x4 S R106 K)) ∧ (¬ ((S.1 48) ≤ 0) → ((x4 ≤ 0 → (b_readData_147 x2 x3 x4 S R106 K)) ∧ (¬ (x4 ≤ 0) → (¬ (S.1 48) = 0 ∧ ((¬ (x4 - x4 / (S.1 48) * (S.1 48)) = 0 → (b_readData_147 x2 x3 x4 S R106 K)) ∧ ((x4 - x4 / (S.1 48) * (S.1 48)) = 0 → (b_readData_148 x2 x3 x4 1 S R106 K)))))))))))
def e_readData_106 (x2 : Int32) (x3 : Int32) (x4 : Int32) (S : ms) (K : ms → Prop) : Prop :=
  ∃ (I : Int32 → Int32 → Int32 → ms → Prop) (μ : Int32 → Int32 → Int32 → ms → Nat), I x2 x3 x4 S ∧ ∀ yx2 yx3 yx4 yS, I yx2 yx3 yx4 yS → b_readData_106 yx2 yx3 yx4 yS (fun zx2 zx3 zx4 zS => I zx2 zx3 zx4 zS ∧ μ zx2 zx3 zx4 zS < μ yx2 yx3 yx4 yS) K
def b_readData_97 (x2 : Int32) (s0 : Int32) (S : ms) (K : ms → Prop) : Prop :=
  e_readData_106 x2 s0 0 (upd S.1 54 0, S.2.1, S.2.2) K
def b_readData_55 (x1 : Int32) (s0 : Int32) (S : ms) (K : ms → Prop) : Prop :=
  (x1 = 0 → (vp_in 2 3 ∧ (p_greatest 2 0 S (fun v90 S90 => p_upward (S.2.1 13 (2 : Int32).toNatClampNeg) (8 * v90) (fun v94 => b_readData_97 s0 v94 (S90.1, S90.2.1, S90.2.2) K))))) ∧ (¬ (x1 = 0) → (vp_in 0 3 ∧ (p_layerHigh 2 (S.2.1 50 (0 : Int32).toNatClampNeg) S (fun v68 S68 => p_upward v68 8 (fun v73 => b_readData_97 s0 v73 (S68.1, S68.2.1, S68.2.2) K)))))
def b_readData_13 (s0 : Int32) (S : ms) (K : ms → Prop) : Prop :=
  (s0 = 0 → (vp_in 2 3 ∧ (p_greatest 2 1 S (fun v48 S48 => p_upward (S.2.1 12 (2 : Int32).toNatClampNeg) (8 * v48) (fun v52 => b_readData_55 s0 v52 (S48.1, S48.2.1, S48.2.2) K))))) ∧ (¬ (s0 = 0) → (vp_in 0 3 ∧ (p_layerWide 2 (S.2.1 50 (0 : Int32).toNatClampNeg) S (fun v26 S26 => p_upward v26 8 (fun v31 => b_readData_55 s0 v31 (S26.1, S26.2.1, S26.2.2) K)))))
def p_readData  (S : ms) (K : ms → Prop) : Prop :=
  (¬ (S.1 49) = 1 → (b_readData_13 0 S K)) ∧ ((S.1 49) = 1 → (b_readData_13 1 S K))
section M_readData
variable {D : va_G} {z : Nat → ClassId} {A : Nat → Prop} {X : cx} {L0 : fw} {K : ms → Prop} {o : Nat} {ad : Nat → Nat}
set_option maxRecDepth 100000 in
set_option maxHeartbeats 1000000 in
theorem s_readData_260 (C : fcx gG D z A X R_M c_M_readData 8 (none)) (hQ : X.2.2.2.2.2.2.2.2.2.2 = eQ gG D z X.2.2.2.2.2.2.2.1 X.2.2.2.2.1 L0 0 0 (pM_v K o ad)) (hA : A = owA gG L0 X.2.2.2.2.1.heap.size) (hR : X.2.2.2.1 = { frames := 7, cells := 1, slots := 6, locals := 700 })  (S : ms) (hp : b_readData_260  S K) : aw gG D z A X 8 260 [some (.ref o), none, none, none, none, none, none, none] [] [(0, ly_M, (o, ad, S.1, S.2.1, S.2.2))] 0 0 := by
  unfold b_readData_260 at hp
  exact a_vret C hQ hA d_readData_260 rfl ⟨S, hp, rfl, rfl⟩
set_option maxRecDepth 100000 in
set_option maxHeartbeats 1000000 in
theorem s_readData_254 (C : fcx gG D z A X R_M c_M_readData 8 (none)) (hQ : X.2.2.2.2.2.2.2.2.2.2 = eQ gG D z X.2.2.2.2.2.2.2.1 X.2.2.2.2.1 L0 0 0 (pM_v K o ad)) (hA : A = owA gG L0 X.2.2.2.2.1.heap.size) (hR : X.2.2.2.1 = { frames := 7, cells := 1, slots := 6, locals := 700 }) (x2 : Int32) (x3 : Int32) (x4 : Int32) (S : ms) (R106 : Int32 → Int32 → Int32 → ms → Prop) (hR106 : ∀ yx2 yx3 yx4 yS, R106 yx2 yx3 yx4 yS → aw gG D z A X 8 106 [some (.ref o), none, some (.int yx2), some (.int yx3), some (.int yx4), none, none, none] [] [(0, ly_M, (o, ad, yS.1, yS.2.1, yS.2.2))] 0 0) (hp : b_readData_254 x2 x3 x4 S R106 K) : aw gG D z A X 8 254 [some (.ref o), none, some (.int x2), some (.int x3), some (.int x4), none, none, none] [] [(0, ly_M, (o, ad, S.1, S.2.1, S.2.2))] 0 0 := by
  unfold b_readData_254 at hp
  refine a_iinc (v := x4 + 1) (lo' := [some (.ref o), none, some (.int x2), some (.int x3), some (.int (x4 + 1)), none, none, none]) C d_readData_254 rfl rfl (by decide) rfl ?_
  refine a_goto (tgt := 106) C d_readData_257 (by decide) ?_
  refine aw_lo (lo' := [some (.ref o), none, some (.int x2), some (.int x3), some (.int (x4 + 1)), none, none, none]) ⟨.inr rfl, .inr rfl, .inr rfl, .inr rfl, .inr rfl, .inr rfl, .inr rfl, .inr rfl, trivial⟩ ?_
  exact hR106 x2 x3 (x4 + 1) S hp
set_option maxRecDepth 100000 in
set_option maxHeartbeats 1000000 in
theorem s_readData_240 (C : fcx gG D z A X R_M c_M_readData 8 (none)) (hQ : X.2.2.2.2.2.2.2.2.2.2 = eQ gG D z X.2.2.2.2.2.2.2.1 X.2.2.2.2.1 L0 0 0 (pM_v K o ad)) (hA : A = owA gG L0 X.2.2.2.2.1.heap.size) (hR : X.2.2.2.1 = { frames := 7, cells := 1, slots := 6, locals := 700 }) (x2 : Int32) (x3 : Int32) (x4 : Int32) (S : ms) (R106 : Int32 → Int32 → Int32 → ms → Prop) (hR106 : ∀ yx2 yx3 yx4 yS, R106 yx2 yx3 yx4 yS → aw gG D z A X 8 106 [some (.ref o), none, some (.int yx2), some (.int yx3), some (.int yx4), none, none, none] [] [(0, ly_M, (o, ad, yS.1, yS.2.1, yS.2.2))] 0 0) (hp : b_readData_240 x2 x3 x4 S R106 K) : aw gG D z A X 8 240 [some (.ref o), none, some (.int x2), some (.int x3), some (.int x4), none, none, none] [] [(0, ly_M, (o, ad, S.1, S.2.1, S.2.2))] 0 0 := by
  unfold b_readData_240 at hp
  refine a_aload_n C d_readData_240 rfl rfl ?_
  refine a_getI C 0 35 d_readData_241 rfl rfl rfl (Nat.le_of_ble_eq_true rfl) f_M_265 (Nat.le_of_ble_eq_true rfl) ?_
  refine a_if_ne (tgt := 254) C d_readData_244 (by decide) ⟨fun hc => ?_, fun hc => ?_⟩
  · have hp := hp.1 hc
    refine aw_lo (lo' := [some (.ref o), none, some (.int x2), some (.int x3), some (.int x4), none, none, none]) ⟨.inr rfl, .inr rfl, .inr rfl, .inr rfl, .inr rfl, .inr rfl, .inr rfl, .inr rfl, trivial⟩ ?_
    exact s_readData_254 C hQ hA hR x2 x3 x4 S R106 hR106 hp
  · have hp := hp.2 hc
    refine a_aload_n C d_readData_247 rfl rfl ?_
    refine a_iload C d_readData_248 rfl ?_
    refine a_iload_n C d_readData_250 rfl rfl ?_
    refine a_call (Lr := []) (rest := []) (av := .ref o :: [.int x4, .int x2]) C [0] [] d_readData_251 (ct_readUnit x4 x2 S hp) cd_M_readUnit i_M (Nat.le_of_ble_eq_true rfl) (by rw [hR]; exact Nat.le_of_ble_eq_true rfl) (by rw [hR]; exact Nat.le_of_ble_eq_true rfl) (by rw [hR]; exact Nat.le_of_ble_eq_true rfl) (by rw [hR]; exact Nat.le_of_ble_eq_true rfl) rfl rfl (by decide) (by decide) (by decide) (inv_V C 0 d_readData_251 l_M_336 im_M_readUnit se_M_readUnit cd_M_readUnit ⟨by decide, by decide⟩ ln_M_readUnit rfl rfl rfl rfl rfl) (fun oc L1 hL => ?_)
    obtain ⟨S251, hp, rfl, rfl⟩ := hL
    refine ⟨_, rfl, ?_⟩
    refine aw_eq (lo' := _) (st' := []) (L' := [(0, ly_M, (o, ad, S251.1, S251.2.1, S251.2.2))]) rfl rfl rfl ?_
    refine aw_lo (lo' := [some (.ref o), none, some (.int x2), some (.int x3), some (.int x4), none, none, none]) ⟨.inr rfl, .inr rfl, .inr rfl, .inr rfl, .inr rfl, .inr rfl, .inr rfl, .inr rfl, trivial⟩ ?_
    exact s_readData_254 C hQ hA hR x2 x3 x4 (S251.1, S251.2.1, S251.2.2) R106 hR106 hp
set_option maxRecDepth 100000 in
set_option maxHeartbeats 1000000 in
theorem s_readData_226 (C : fcx gG D z A X R_M c_M_readData 8 (none)) (hQ : X.2.2.2.2.2.2.2.2.2.2 = eQ gG D z X.2.2.2.2.2.2.2.1 X.2.2.2.2.1 L0 0 0 (pM_v K o ad)) (hA : A = owA gG L0 X.2.2.2.2.1.heap.size) (hR : X.2.2.2.1 = { frames := 7, cells := 1, slots := 6, locals := 700 }) (x2 : Int32) (x3 : Int32) (x4 : Int32) (x5 : Int32) (x6 : Int32) (S : ms) (R106 : Int32 → Int32 → Int32 → ms → Prop) (hR106 : ∀ yx2 yx3 yx4 yS, R106 yx2 yx3 yx4 yS → aw gG D z A X 8 106 [some (.ref o), none, some (.int yx2), some (.int yx3), some (.int yx4), none, none, none] [] [(0, ly_M, (o, ad, yS.1, yS.2.1, yS.2.2))] 0 0) (R210 : Int32 → Int32 → Int32 → Int32 → Int32 → ms → Prop) (hR210 : ∀ yx2 yx3 yx4 yx5 yx6 yS, R210 yx2 yx3 yx4 yx5 yx6 yS → aw gG D z A X 8 210 [some (.ref o), none, some (.int yx2), some (.int yx3), some (.int yx4), some (.int yx5), some (.int yx6), none] [] [(0, ly_M, (o, ad, yS.1, yS.2.1, yS.2.2))] 0 0) (hp : b_readData_226 x2 x3 x4 x5 x6 S R106 R210 K) : aw gG D z A X 8 226 [some (.ref o), none, some (.int x2), some (.int x3), some (.int x4), some (.int x5), some (.int x6), none] [] [(0, ly_M, (o, ad, S.1, S.2.1, S.2.2))] 0 0 := by
  unfold b_readData_226 at hp
  refine a_aload_n C d_readData_226 rfl rfl ?_
  refine a_getR C 0 53 d_readData_227 rfl rfl rfl (Nat.le_of_ble_eq_true rfl) f_M_139 ⟨Nat.le_of_ble_eq_true rfl, Nat.le_of_ble_eq_true rfl⟩ ?_
  refine a_iload C d_readData_230 rfl ?_
  refine a_iconst (v := 0) C d_readData_232 (by decide) ?_
  refine a_iast C 0 53 d_readData_233 rfl rfl rfl hp.1 ?_
  have hp := hp.2
  refine aw_eq (lo' := _) (st' := _) (L' := [(0, ly_M, (o, ad, S.1, va_up S.2.1 53 (upd (S.2.1 53) x6.toNatClampNeg 0), S.2.2))]) rfl rfl rfl ?_
  refine a_iinc (v := x6 + 1) (lo' := [some (.ref o), none, some (.int x2), some (.int x3), some (.int x4), some (.int x5), some (.int (x6 + 1)), none]) C d_readData_234 rfl rfl (by decide) rfl ?_
  refine a_goto (tgt := 210) C d_readData_237 (by decide) ?_
  refine aw_lo (lo' := [some (.ref o), none, some (.int x2), some (.int x3), some (.int x4), some (.int x5), some (.int (x6 + 1)), none]) ⟨.inr rfl, .inr rfl, .inr rfl, .inr rfl, .inr rfl, .inr rfl, .inr rfl, .inr rfl, trivial⟩ ?_
  exact hR210 x2 x3 x4 x5 (x6 + 1) (S.1, va_up S.2.1 53 (upd (S.2.1 53) x6.toNatClampNeg 0), S.2.2) hp
set_option maxRecDepth 100000 in
set_option maxHeartbeats 1000000 in
theorem s_readData_210 (C : fcx gG D z A X R_M c_M_readData 8 (none)) (hQ : X.2.2.2.2.2.2.2.2.2.2 = eQ gG D z X.2.2.2.2.2.2.2.1 X.2.2.2.2.1 L0 0 0 (pM_v K o ad)) (hA : A = owA gG L0 X.2.2.2.2.1.heap.size) (hR : X.2.2.2.1 = { frames := 7, cells := 1, slots := 6, locals := 700 }) (x2 : Int32) (x3 : Int32) (x4 : Int32) (x5 : Int32) (x6 : Int32) (S : ms) (R106 : Int32 → Int32 → Int32 → ms → Prop) (hR106 : ∀ yx2 yx3 yx4 yS, R106 yx2 yx3 yx4 yS → aw gG D z A X 8 106 [some (.ref o), none, some (.int yx2), some (.int yx3), some (.int yx4), none, none, none] [] [(0, ly_M, (o, ad, yS.1, yS.2.1, yS.2.2))] 0 0) (R210 : Int32 → Int32 → Int32 → Int32 → Int32 → ms → Prop) (hR210 : ∀ yx2 yx3 yx4 yx5 yx6 yS, R210 yx2 yx3 yx4 yx5 yx6 yS → aw gG D z A X 8 210 [some (.ref o), none, some (.int yx2), some (.int yx3), some (.int yx4), some (.int yx5), some (.int yx6), none] [] [(0, ly_M, (o, ad, yS.1, yS.2.1, yS.2.2))] 0 0) (hp : b_readData_210 x2 x3 x4 x5 x6 S R106 R210 K) : aw gG D z A X 8 210 [some (.ref o), none, some (.int x2), some (.int x3), some (.int x4), some (.int x5), some (.int x6), none] [] [(0, ly_M, (o, ad, S.1, S.2.1, S.2.2))] 0 0 := by
  unfold b_readData_210 at hp
  refine a_iload C d_readData_210 rfl ?_
  refine a_iconst (v := 3) C d_readData_212 (by decide) ?_
  refine a_icmp_ge (tgt := 240) C d_readData_213 (by decide) ⟨fun hc => ?_, fun hc => ?_⟩
  · have hp := hp.1 hc
    refine aw_lo (lo' := [some (.ref o), none, some (.int x2), some (.int x3), some (.int x4), none, none, none]) ⟨.inr rfl, .inr rfl, .inr rfl, .inr rfl, .inr rfl, .inl rfl, .inl rfl, .inr rfl, trivial⟩ ?_
    exact s_readData_240 C hQ hA hR x2 x3 x4 S R106 hR106 hp
  · have hp := hp.2 hc
    refine a_iload C d_readData_216 rfl ?_
    refine a_if_eq (tgt := 226) C d_readData_218 (by decide) ⟨fun hc => ?_, fun hc => ?_⟩
    · have hp := hp.1 hc
      refine aw_lo (lo' := [some (.ref o), none, some (.int x2), some (.int x3), some (.int x4), some (.int x5), some (.int x6), none]) ⟨.inr rfl, .inr rfl, .inr rfl, .inr rfl, .inr rfl, .inr rfl, .inr rfl, .inr rfl, trivial⟩ ?_
      exact s_readData_226 C hQ hA hR x2 x3 x4 x5 x6 S R106 hR106 R210 hR210 hp
    · have hp := hp.2 hc
      refine a_iload C d_readData_221 rfl ?_
      refine a_if_eq (tgt := 240) C d_readData_223 (by decide) ⟨fun hc => ?_, fun hc => ?_⟩
      · have hp := hp.1 hc
        refine aw_lo (lo' := [some (.ref o), none, some (.int x2), some (.int x3), some (.int x4), none, none, none]) ⟨.inr rfl, .inr rfl, .inr rfl, .inr rfl, .inr rfl, .inl rfl, .inl rfl, .inr rfl, trivial⟩ ?_
        exact s_readData_240 C hQ hA hR x2 x3 x4 S R106 hR106 hp
      · have hp := hp.2 hc
        refine aw_lo (lo' := [some (.ref o), none, some (.int x2), some (.int x3), some (.int x4), some (.int x5), some (.int x6), none]) ⟨.inr rfl, .inr rfl, .inr rfl, .inr rfl, .inr rfl, .inr rfl, .inr rfl, .inr rfl, trivial⟩ ?_
        exact s_readData_226 C hQ hA hR x2 x3 x4 x5 x6 S R106 hR106 R210 hR210 hp
set_option maxRecDepth 100000 in
set_option maxHeartbeats 1000000 in
theorem se_readData_210 (C : fcx gG D z A X R_M c_M_readData 8 (none)) (hQ : X.2.2.2.2.2.2.2.2.2.2 = eQ gG D z X.2.2.2.2.2.2.2.1 X.2.2.2.2.1 L0 0 0 (pM_v K o ad)) (hA : A = owA gG L0 X.2.2.2.2.1.heap.size) (hR : X.2.2.2.1 = { frames := 7, cells := 1, slots := 6, locals := 700 }) (x2 : Int32) (x3 : Int32) (x4 : Int32) (x5 : Int32) (x6 : Int32) (S : ms) (R106 : Int32 → Int32 → Int32 → ms → Prop) (hR106 : ∀ yx2 yx3 yx4 yS, R106 yx2 yx3 yx4 yS → aw gG D z A X 8 106 [some (.ref o), none, some (.int yx2), some (.int yx3), some (.int yx4), none, none, none] [] [(0, ly_M, (o, ad, yS.1, yS.2.1, yS.2.2))] 0 0) (hp : e_readData_210 x2 x3 x4 x5 x6 S R106 K) : aw gG D z A X 8 210 [some (.ref o), none, some (.int x2), some (.int x3), some (.int x4), some (.int x5), some (.int x6), none] [] [(0, ly_M, (o, ad, S.1, S.2.1, S.2.2))] 0 0 := by
  obtain ⟨I, μ, h0, hs⟩ := hp
  have key : ∀ (n : Nat) (yx2 : Int32) (yx3 : Int32) (yx4 : Int32) (yx5 : Int32) (yx6 : Int32) (yS : ms), μ yx2 yx3 yx4 yx5 yx6 yS < n → I yx2 yx3 yx4 yx5 yx6 yS → aw gG D z A X 8 210 [some (.ref o), none, some (.int yx2), some (.int yx3), some (.int yx4), some (.int yx5), some (.int yx6), none] [] [(0, ly_M, (o, ad, yS.1, yS.2.1, yS.2.2))] 0 0 := by
    intro n
    induction n with
    | zero => intro yx2 yx3 yx4 yx5 yx6 yS h; omega
    | succ n ih =>
      intro yx2 yx3 yx4 yx5 yx6 yS hn hI
      exact s_readData_210 C hQ hA hR yx2 yx3 yx4 yx5 yx6 yS R106 hR106 _ (fun zx2 zx3 zx4 zx5 zx6 zS hw => ih zx2 zx3 zx4 zx5 zx6 zS (by omega) hw.1) (hs yx2 yx3 yx4 yx5 yx6 yS hI)
  exact key (μ x2 x3 x4 x5 x6 S + 1) x2 x3 x4 x5 x6 S (Nat.lt_succ_self _) h0
set_option maxRecDepth 100000 in
set_option maxHeartbeats 1000000 in
theorem s_readData_207 (C : fcx gG D z A X R_M c_M_readData 8 (none)) (hQ : X.2.2.2.2.2.2.2.2.2.2 = eQ gG D z X.2.2.2.2.2.2.2.1 X.2.2.2.2.1 L0 0 0 (pM_v K o ad)) (hA : A = owA gG L0 X.2.2.2.2.1.heap.size) (hR : X.2.2.2.1 = { frames := 7, cells := 1, slots := 6, locals := 700 }) (x2 : Int32) (x3 : Int32) (x4 : Int32) (x5 : Int32) (S : ms) (R106 : Int32 → Int32 → Int32 → ms → Prop) (hR106 : ∀ yx2 yx3 yx4 yS, R106 yx2 yx3 yx4 yS → aw gG D z A X 8 106 [some (.ref o), none, some (.int yx2), some (.int yx3), some (.int yx4), none, none, none] [] [(0, ly_M, (o, ad, yS.1, yS.2.1, yS.2.2))] 0 0) (hp : b_readData_207 x2 x3 x4 x5 S R106 K) : aw gG D z A X 8 207 [some (.ref o), none, some (.int x2), some (.int x3), some (.int x4), some (.int x5), none, none] [] [(0, ly_M, (o, ad, S.1, S.2.1, S.2.2))] 0 0 := by
  unfold b_readData_207 at hp
  refine a_iconst (v := 0) C d_readData_207 (by decide) ?_
  refine a_istore (lo' := [some (.ref o), none, some (.int x2), some (.int x3), some (.int x4), some (.int x5), some (.int 0), none]) C d_readData_208 (by decide) rfl ?_
  refine aw_lo (lo' := [some (.ref o), none, some (.int x2), some (.int x3), some (.int x4), some (.int x5), some (.int 0), none]) ⟨.inr rfl, .inr rfl, .inr rfl, .inr rfl, .inr rfl, .inr rfl, .inr rfl, .inr rfl, trivial⟩ ?_
  exact se_readData_210 C hQ hA hR x2 x3 x4 x5 0 S R106 hR106 hp
set_option maxRecDepth 100000 in
set_option maxHeartbeats 1000000 in
theorem s_readData_148 (C : fcx gG D z A X R_M c_M_readData 8 (none)) (hQ : X.2.2.2.2.2.2.2.2.2.2 = eQ gG D z X.2.2.2.2.2.2.2.1 X.2.2.2.2.1 L0 0 0 (pM_v K o ad)) (hA : A = owA gG L0 X.2.2.2.2.1.heap.size) (hR : X.2.2.2.1 = { frames := 7, cells := 1, slots := 6, locals := 700 }) (x2 : Int32) (x3 : Int32) (x4 : Int32) (s0 : Int32) (S : ms) (R106 : Int32 → Int32 → Int32 → ms → Prop) (hR106 : ∀ yx2 yx3 yx4 yS, R106 yx2 yx3 yx4 yS → aw gG D z A X 8 106 [some (.ref o), none, some (.int yx2), some (.int yx3), some (.int yx4), none, none, none] [] [(0, ly_M, (o, ad, yS.1, yS.2.1, yS.2.2))] 0 0) (hp : b_readData_148 x2 x3 x4 s0 S R106 K) : aw gG D z A X 8 148 [some (.ref o), none, some (.int x2), some (.int x3), some (.int x4), none, none, none] [.int s0] [(0, ly_M, (o, ad, S.1, S.2.1, S.2.2))] 0 0 := by
  unfold b_readData_148 at hp
  refine a_istore (lo' := [some (.ref o), none, some (.int x2), some (.int x3), some (.int x4), some (.int s0), none, none]) C d_readData_148 (by decide) rfl ?_
  refine a_iload C d_readData_150 rfl ?_
  refine a_if_eq (tgt := 207) C d_readData_152 (by decide) ⟨fun hc => ?_, fun hc => ?_⟩
  · have hp := hp.1 hc
    refine aw_lo (lo' := [some (.ref o), none, some (.int x2), some (.int x3), some (.int x4), some (.int s0), none, none]) ⟨.inr rfl, .inr rfl, .inr rfl, .inr rfl, .inr rfl, .inr rfl, .inr rfl, .inr rfl, trivial⟩ ?_
    exact s_readData_207 C hQ hA hR x2 x3 x4 s0 S R106 hR106 hp
  · have hp := hp.2 hc
    refine a_aload_n C d_readData_155 rfl rfl ?_
    refine a_iconst (v := 0) C d_readData_156 (by decide) ?_
    refine a_putI (ty := .int) C 0 54 d_readData_157 rfl rfl rfl (Nat.le_of_ble_eq_true rfl) f_M_305 (Nat.le_of_ble_eq_true rfl) rfl rfl rfl rfl ?_
    refine aw_eq (lo' := _) (st' := _) (L' := [(0, ly_M, (o, ad, upd S.1 54 0, S.2.1, S.2.2))]) rfl rfl rfl ?_
    refine a_aload_n C d_readData_160 rfl rfl ?_
    refine a_call (Lr := []) (rest := []) (av := .ref o :: []) C [0] [] d_readData_161 (ct_readMark (upd S.1 54 0, S.2.1, S.2.2) hp) cd_M_readMark i_M (Nat.le_of_ble_eq_true rfl) (by rw [hR]; exact Nat.le_of_ble_eq_true rfl) (by rw [hR]; exact Nat.le_of_ble_eq_true rfl) (by rw [hR]; exact Nat.le_of_ble_eq_true rfl) (by rw [hR]; exact Nat.le_of_ble_eq_true rfl) rfl rfl (by decide) (by decide) (by decide) (inv_V C 0 d_readData_161 l_M_333 im_M_readMark se_M_readMark cd_M_readMark ⟨by decide, by decide⟩ ln_M_readMark rfl rfl rfl rfl rfl) (fun oc L1 hL => ?_)
    obtain ⟨v161, S161, hp, rfl, rfl⟩ := hL
    refine ⟨_, rfl, ?_⟩
    refine aw_eq (lo' := _) (st' := [.int v161]) (L' := [(0, ly_M, (o, ad, S161.1, S161.2.1, S161.2.2))]) rfl rfl rfl ?_
    refine a_istore (lo' := [some (.ref o), none, some (.int x2), some (.int x3), some (.int x4), some (.int s0), some (.int v161), none]) C d_readData_164 (by decide) rfl ?_
    refine a_aload_n C d_readData_166 rfl rfl ?_
    refine a_getI C 0 35 d_readData_167 rfl rfl rfl (Nat.le_of_ble_eq_true rfl) f_M_265 (Nat.le_of_ble_eq_true rfl) ?_
    refine a_if_ne (tgt := 207) C d_readData_170 (by decide) ⟨fun hc => ?_, fun hc => ?_⟩
    · have hp := hp.1 hc
      refine aw_lo (lo' := [some (.ref o), none, some (.int x2), some (.int x3), some (.int x4), some (.int s0), none, none]) ⟨.inr rfl, .inr rfl, .inr rfl, .inr rfl, .inr rfl, .inr rfl, .inl rfl, .inr rfl, trivial⟩ ?_
      exact s_readData_207 C hQ hA hR x2 x3 x4 s0 (S161.1, S161.2.1, S161.2.2) R106 hR106 hp
    · have hp := hp.2 hc
      refine a_iload C d_readData_173 rfl ?_
      refine a_sipush (v := 208) C d_readData_175 (by decide) ?_
      refine a_iload C d_readData_178 rfl ?_
      refine a_aload_n C d_readData_180 rfl rfl ?_
      refine a_getI C 0 48 d_readData_181 rfl rfl rfl (Nat.le_of_ble_eq_true rfl) f_M_330 (Nat.le_of_ble_eq_true rfl) ?_
      refine a_idiv C d_readData_184 hp.1 ?_
      have hp := hp.2
      refine a_iconst (v := 1) C d_readData_185 (by decide) ?_
      refine a_isub C d_readData_186 ?_
      refine a_bipush (v := 8) C d_readData_187 (by decide) ?_
      refine a_irem C d_readData_189 (by decide) ?_
      refine a_iadd C d_readData_190 ?_
      refine a_icmp_eq (tgt := 207) C d_readData_191 (by decide) ⟨fun hc => ?_, fun hc => ?_⟩
      · have hp := hp.1 hc
        refine aw_lo (lo' := [some (.ref o), none, some (.int x2), some (.int x3), some (.int x4), some (.int s0), none, none]) ⟨.inr rfl, .inr rfl, .inr rfl, .inr rfl, .inr rfl, .inr rfl, .inl rfl, .inr rfl, trivial⟩ ?_
        exact s_readData_207 C hQ hA hR x2 x3 x4 s0 (S161.1, S161.2.1, S161.2.2) R106 hR106 hp
      · have hp := hp.2 hc
        refine a_aload_n C d_readData_194 rfl rfl ?_
        refine a_iconst (v := 3) C d_readData_195 (by decide) ?_
        refine a_aload_n C d_readData_196 rfl rfl ?_
        refine a_getI C 0 34 d_readData_197 rfl rfl rfl (Nat.le_of_ble_eq_true rfl) f_M_268 (Nat.le_of_ble_eq_true rfl) ?_
        refine a_iconst (v := 1) C d_readData_200 (by decide) ?_
        refine a_isub C d_readData_201 ?_
        refine a_call (Lr := []) (rest := []) (av := .ref o :: [.int 3, .int ((S161.1 34) - 1)]) C [0] [] d_readData_202 (ct_fail 3 ((S161.1 34) - 1) (S161.1, S161.2.1, S161.2.2) hp) cd_M_fail i_M (Nat.le_of_ble_eq_true rfl) (by rw [hR]; exact Nat.le_of_ble_eq_true rfl) (by rw [hR]; exact Nat.le_of_ble_eq_true rfl) (by rw [hR]; exact Nat.le_of_ble_eq_true rfl) (by rw [hR]; exact Nat.le_of_ble_eq_true rfl) rfl rfl (by decide) (by decide) (by decide) (inv_V C 0 d_readData_202 l_M_271 im_M_fail se_M_fail cd_M_fail ⟨by decide, by decide⟩ ln_M_fail rfl rfl rfl rfl rfl) (fun oc L1 hL => ?_)
        obtain ⟨v202, S202, hp, rfl, rfl⟩ := hL
        refine ⟨_, rfl, ?_⟩
        refine aw_eq (lo' := _) (st' := [.int v202]) (L' := [(0, ly_M, (o, ad, S202.1, S202.2.1, S202.2.2))]) rfl rfl rfl ?_
        refine a_istore (lo' := [some (.ref o), none, some (.int x2), some (.int x3), some (.int x4), some (.int s0), some (.int v161), some (.int v202)]) C d_readData_205 (by decide) rfl ?_
        refine aw_lo (lo' := [some (.ref o), none, some (.int x2), some (.int x3), some (.int x4), some (.int s0), none, none]) ⟨.inr rfl, .inr rfl, .inr rfl, .inr rfl, .inr rfl, .inr rfl, .inl rfl, .inl rfl, trivial⟩ ?_
        exact s_readData_207 C hQ hA hR x2 x3 x4 s0 (S202.1, S202.2.1, S202.2.2) R106 hR106 hp
set_option maxRecDepth 100000 in
set_option maxHeartbeats 1000000 in
theorem s_readData_147 (C : fcx gG D z A X R_M c_M_readData 8 (none)) (hQ : X.2.2.2.2.2.2.2.2.2.2 = eQ gG D z X.2.2.2.2.2.2.2.1 X.2.2.2.2.1 L0 0 0 (pM_v K o ad)) (hA : A = owA gG L0 X.2.2.2.2.1.heap.size) (hR : X.2.2.2.1 = { frames := 7, cells := 1, slots := 6, locals := 700 }) (x2 : Int32) (x3 : Int32) (x4 : Int32) (S : ms) (R106 : Int32 → Int32 → Int32 → ms → Prop) (hR106 : ∀ yx2 yx3 yx4 yS, R106 yx2 yx3 yx4 yS → aw gG D z A X 8 106 [some (.ref o), none, some (.int yx2), some (.int yx3), some (.int yx4), none, none, none] [] [(0, ly_M, (o, ad, yS.1, yS.2.1, yS.2.2))] 0 0) (hp : b_readData_147 x2 x3 x4 S R106 K) : aw gG D z A X 8 147 [some (.ref o), none, some (.int x2), some (.int x3), some (.int x4), none, none, none] [] [(0, ly_M, (o, ad, S.1, S.2.1, S.2.2))] 0 0 := by
  unfold b_readData_147 at hp
  refine a_iconst (v := 0) C d_readData_147 (by decide) ?_
  refine aw_lo (lo' := [some (.ref o), none, some (.int x2), some (.int x3), some (.int x4), none, none, none]) ⟨.inr rfl, .inr rfl, .inr rfl, .inr rfl, .inr rfl, .inr rfl, .inr rfl, .inr rfl, trivial⟩ ?_
  exact s_readData_148 C hQ hA hR x2 x3 x4 0 S R106 hR106 hp
set_option maxRecDepth 100000 in
set_option maxHeartbeats 1000000 in
theorem s_readData_106 (C : fcx gG D z A X R_M c_M_readData 8 (none)) (hQ : X.2.2.2.2.2.2.2.2.2.2 = eQ gG D z X.2.2.2.2.2.2.2.1 X.2.2.2.2.1 L0 0 0 (pM_v K o ad)) (hA : A = owA gG L0 X.2.2.2.2.1.heap.size) (hR : X.2.2.2.1 = { frames := 7, cells := 1, slots := 6, locals := 700 }) (x2 : Int32) (x3 : Int32) (x4 : Int32) (S : ms) (R106 : Int32 → Int32 → Int32 → ms → Prop) (hR106 : ∀ yx2 yx3 yx4 yS, R106 yx2 yx3 yx4 yS → aw gG D z A X 8 106 [some (.ref o), none, some (.int yx2), some (.int yx3), some (.int yx4), none, none, none] [] [(0, ly_M, (o, ad, yS.1, yS.2.1, yS.2.2))] 0 0) (hp : b_readData_106 x2 x3 x4 S R106 K) : aw gG D z A X 8 106 [some (.ref o), none, some (.int x2), some (.int x3), some (.int x4), none, none, none] [] [(0, ly_M, (o, ad, S.1, S.2.1, S.2.2))] 0 0 := by
  unfold b_readData_106 at hp
  refine a_iload C d_readData_106 rfl ?_
  refine a_iload_n C d_readData_108 rfl rfl ?_
  refine a_iload_n C d_readData_109 rfl rfl ?_
  refine a_imul C d_readData_110 ?_
  refine a_icmp_ge (tgt := 260) C d_readData_111 (by decide) ⟨fun hc => ?_, fun hc => ?_⟩
  · have hp := hp.1 hc
    refine aw_lo (lo' := [some (.ref o), none, none, none, none, none, none, none]) ⟨.inr rfl, .inr rfl, .inl rfl, .inl rfl, .inl rfl, .inr rfl, .inr rfl, .inr rfl, trivial⟩ ?_
    exact s_readData_260 C hQ hA hR S  hp
  · have hp := hp.2 hc
    refine a_aload_n C d_readData_114 rfl rfl ?_
    refine a_getI C 0 35 d_readData_115 rfl rfl rfl (Nat.le_of_ble_eq_true rfl) f_M_265 (Nat.le_of_ble_eq_true rfl) ?_
    refine a_if_ne (tgt := 260) C d_readData_118 (by decide) ⟨fun hc => ?_, fun hc => ?_⟩
    · have hp := hp.1 hc
      refine aw_lo (lo' := [some (.ref o), none, none, none, none, none, none, none]) ⟨.inr rfl, .inr rfl, .inl rfl, .inl rfl, .inl rfl, .inr rfl, .inr rfl, .inr rfl, trivial⟩ ?_
      exact s_readData_260 C hQ hA hR S  hp
    · have hp := hp.2 hc
      refine a_aload_n C d_readData_121 rfl rfl ?_
      refine a_getI C 0 48 d_readData_122 rfl rfl rfl (Nat.le_of_ble_eq_true rfl) f_M_330 (Nat.le_of_ble_eq_true rfl) ?_
      refine a_if_le (tgt := 147) C d_readData_125 (by decide) ⟨fun hc => ?_, fun hc => ?_⟩
      · have hp := hp.1 hc
        refine aw_lo (lo' := [some (.ref o), none, some (.int x2), some (.int x3), some (.int x4), none, none, none]) ⟨.inr rfl, .inr rfl, .inr rfl, .inr rfl, .inr rfl, .inr rfl, .inr rfl, .inr rfl, trivial⟩ ?_
        exact s_readData_147 C hQ hA hR x2 x3 x4 S R106 hR106 hp
      · have hp := hp.2 hc
        refine a_iload C d_readData_128 rfl ?_
        refine a_if_le (tgt := 147) C d_readData_130 (by decide) ⟨fun hc => ?_, fun hc => ?_⟩
        · have hp := hp.1 hc
          refine aw_lo (lo' := [some (.ref o), none, some (.int x2), some (.int x3), some (.int x4), none, none, none]) ⟨.inr rfl, .inr rfl, .inr rfl, .inr rfl, .inr rfl, .inr rfl, .inr rfl, .inr rfl, trivial⟩ ?_
          exact s_readData_147 C hQ hA hR x2 x3 x4 S R106 hR106 hp
        · have hp := hp.2 hc
          refine a_iload C d_readData_133 rfl ?_
          refine a_aload_n C d_readData_135 rfl rfl ?_
          refine a_getI C 0 48 d_readData_136 rfl rfl rfl (Nat.le_of_ble_eq_true rfl) f_M_330 (Nat.le_of_ble_eq_true rfl) ?_
          refine a_irem C d_readData_139 hp.1 ?_
          have hp := hp.2
          refine a_if_ne (tgt := 147) C d_readData_140 (by decide) ⟨fun hc => ?_, fun hc => ?_⟩
          · have hp := hp.1 hc
            refine aw_lo (lo' := [some (.ref o), none, some (.int x2), some (.int x3), some (.int x4), none, none, none]) ⟨.inr rfl, .inr rfl, .inr rfl, .inr rfl, .inr rfl, .inr rfl, .inr rfl, .inr rfl, trivial⟩ ?_
            exact s_readData_147 C hQ hA hR x2 x3 x4 S R106 hR106 hp
          · have hp := hp.2 hc
            refine a_iconst (v := 1) C d_readData_143 (by decide) ?_
            refine a_goto (tgt := 148) C d_readData_144 (by decide) ?_
            refine aw_lo (lo' := [some (.ref o), none, some (.int x2), some (.int x3), some (.int x4), none, none, none]) ⟨.inr rfl, .inr rfl, .inr rfl, .inr rfl, .inr rfl, .inr rfl, .inr rfl, .inr rfl, trivial⟩ ?_
            exact s_readData_148 C hQ hA hR x2 x3 x4 1 S R106 hR106 hp
set_option maxRecDepth 100000 in
set_option maxHeartbeats 1000000 in
theorem se_readData_106 (C : fcx gG D z A X R_M c_M_readData 8 (none)) (hQ : X.2.2.2.2.2.2.2.2.2.2 = eQ gG D z X.2.2.2.2.2.2.2.1 X.2.2.2.2.1 L0 0 0 (pM_v K o ad)) (hA : A = owA gG L0 X.2.2.2.2.1.heap.size) (hR : X.2.2.2.1 = { frames := 7, cells := 1, slots := 6, locals := 700 }) (x2 : Int32) (x3 : Int32) (x4 : Int32) (S : ms) (hp : e_readData_106 x2 x3 x4 S K) : aw gG D z A X 8 106 [some (.ref o), none, some (.int x2), some (.int x3), some (.int x4), none, none, none] [] [(0, ly_M, (o, ad, S.1, S.2.1, S.2.2))] 0 0 := by
  obtain ⟨I, μ, h0, hs⟩ := hp
  have key : ∀ (n : Nat) (yx2 : Int32) (yx3 : Int32) (yx4 : Int32) (yS : ms), μ yx2 yx3 yx4 yS < n → I yx2 yx3 yx4 yS → aw gG D z A X 8 106 [some (.ref o), none, some (.int yx2), some (.int yx3), some (.int yx4), none, none, none] [] [(0, ly_M, (o, ad, yS.1, yS.2.1, yS.2.2))] 0 0 := by
    intro n
    induction n with
    | zero => intro yx2 yx3 yx4 yS h; omega
    | succ n ih =>
      intro yx2 yx3 yx4 yS hn hI
      exact s_readData_106 C hQ hA hR yx2 yx3 yx4 yS _ (fun zx2 zx3 zx4 zS hw => ih zx2 zx3 zx4 zS (by omega) hw.1) (hs yx2 yx3 yx4 yS hI)
  exact key (μ x2 x3 x4 S + 1) x2 x3 x4 S (Nat.lt_succ_self _) h0
set_option maxRecDepth 100000 in
set_option maxHeartbeats 1000000 in
theorem s_readData_97 (C : fcx gG D z A X R_M c_M_readData 8 (none)) (hQ : X.2.2.2.2.2.2.2.2.2.2 = eQ gG D z X.2.2.2.2.2.2.2.1 X.2.2.2.2.1 L0 0 0 (pM_v K o ad)) (hA : A = owA gG L0 X.2.2.2.2.1.heap.size) (hR : X.2.2.2.1 = { frames := 7, cells := 1, slots := 6, locals := 700 }) (x2 : Int32) (s0 : Int32) (S : ms) (hp : b_readData_97 x2 s0 S K) : aw gG D z A X 8 97 [some (.ref o), none, some (.int x2), none, none, none, none, none] [.int s0] [(0, ly_M, (o, ad, S.1, S.2.1, S.2.2))] 0 0 := by
  unfold b_readData_97 at hp
  refine a_istore_n (lo' := [some (.ref o), none, some (.int x2), some (.int s0), none, none, none, none]) C d_readData_97 rfl (by decide) rfl ?_
  refine a_aload_n C d_readData_98 rfl rfl ?_
  refine a_iconst (v := 0) C d_readData_99 (by decide) ?_
  refine a_putI (ty := .int) C 0 54 d_readData_100 rfl rfl rfl (Nat.le_of_ble_eq_true rfl) f_M_305 (Nat.le_of_ble_eq_true rfl) rfl rfl rfl rfl ?_
  refine aw_eq (lo' := _) (st' := _) (L' := [(0, ly_M, (o, ad, upd S.1 54 0, S.2.1, S.2.2))]) rfl rfl rfl ?_
  refine a_iconst (v := 0) C d_readData_103 (by decide) ?_
  refine a_istore (lo' := [some (.ref o), none, some (.int x2), some (.int s0), some (.int 0), none, none, none]) C d_readData_104 (by decide) rfl ?_
  refine aw_lo (lo' := [some (.ref o), none, some (.int x2), some (.int s0), some (.int 0), none, none, none]) ⟨.inr rfl, .inr rfl, .inr rfl, .inr rfl, .inr rfl, .inr rfl, .inr rfl, .inr rfl, trivial⟩ ?_
  exact se_readData_106 C hQ hA hR x2 s0 0 (upd S.1 54 0, S.2.1, S.2.2)  hp
set_option maxRecDepth 100000 in
set_option maxHeartbeats 1000000 in
theorem s_readData_55 (C : fcx gG D z A X R_M c_M_readData 8 (none)) (hQ : X.2.2.2.2.2.2.2.2.2.2 = eQ gG D z X.2.2.2.2.2.2.2.1 X.2.2.2.2.1 L0 0 0 (pM_v K o ad)) (hA : A = owA gG L0 X.2.2.2.2.1.heap.size) (hR : X.2.2.2.1 = { frames := 7, cells := 1, slots := 6, locals := 700 }) (x1 : Int32) (s0 : Int32) (S : ms) (hp : b_readData_55 x1 s0 S K) : aw gG D z A X 8 55 [some (.ref o), some (.int x1), none, none, none, none, none, none] [.int s0] [(0, ly_M, (o, ad, S.1, S.2.1, S.2.2))] 0 0 := by
  unfold b_readData_55 at hp
  refine a_istore_n (lo' := [some (.ref o), some (.int x1), some (.int s0), none, none, none, none, none]) C d_readData_55 rfl (by decide) rfl ?_
  refine a_iload_n C d_readData_56 rfl rfl ?_
  refine a_if_eq (tgt := 79) C d_readData_57 (by decide) ⟨fun hc => ?_, fun hc => ?_⟩
  · have hp := hp.1 hc
    refine a_aload_n C d_readData_79 rfl rfl ?_
    refine a_getR C 0 13 d_readData_80 rfl rfl rfl (Nat.le_of_ble_eq_true rfl) f_M_44 ⟨Nat.le_of_ble_eq_true rfl, Nat.le_of_ble_eq_true rfl⟩ ?_
    refine a_iconst (v := 2) C d_readData_83 (by decide) ?_
    refine a_iald C 0 13 d_readData_84 rfl rfl rfl hp.1 ?_
    have hp := hp.2
    refine a_bipush (v := 8) C d_readData_85 (by decide) ?_
    refine a_aload_n C d_readData_87 rfl rfl ?_
    refine a_iconst (v := 2) C d_readData_88 (by decide) ?_
    refine a_iconst (v := 0) C d_readData_89 (by decide) ?_
    refine a_call (Lr := []) (rest := [.int 8, .int (S.2.1 13 (2 : Int32).toNatClampNeg)]) (av := .ref o :: [.int 2, .int 0]) C [0] [] d_readData_90 (ct_greatest 2 0 S hp) cd_M_greatest i_M (Nat.le_of_ble_eq_true rfl) (by rw [hR]; exact Nat.le_of_ble_eq_true rfl) (by rw [hR]; exact Nat.le_of_ble_eq_true rfl) (by rw [hR]; exact Nat.le_of_ble_eq_true rfl) (by rw [hR]; exact Nat.le_of_ble_eq_true rfl) rfl rfl (by decide) (by decide) (by decide) (inv_V C 0 d_readData_90 l_M_173 im_M_greatest se_M_greatest cd_M_greatest ⟨by decide, by decide⟩ ln_M_greatest rfl rfl rfl rfl rfl) (fun oc L1 hL => ?_)
    obtain ⟨v90, S90, hp, rfl, rfl⟩ := hL
    refine ⟨_, rfl, ?_⟩
    refine aw_eq (lo' := _) (st' := [.int v90, .int 8, .int (S.2.1 13 (2 : Int32).toNatClampNeg)]) (L' := [(0, ly_M, (o, ad, S90.1, S90.2.1, S90.2.2))]) rfl rfl rfl ?_
    refine a_imul C d_readData_93 ?_
    refine a_call (Lr := [(0, ly_M, (o, ad, S90.1, S90.2.1, S90.2.2))]) (rest := []) (av := [.int (S.2.1 13 (2 : Int32).toNatClampNeg), .int (8 * v90)]) C [] [0] d_readData_94 (ct_upward (S.2.1 13 (2 : Int32).toNatClampNeg) (8 * v90) hp) cd_M_upward i_M (Nat.le_of_ble_eq_true rfl) (by rw [hR]; exact Nat.le_of_ble_eq_true rfl) (by rw [hR]; exact Nat.le_of_ble_eq_true rfl) (by rw [hR]; exact Nat.le_of_ble_eq_true rfl) (by rw [hR]; exact Nat.le_of_ble_eq_true rfl) rfl rfl (by decide) (by decide) (by decide) (inv_S C d_readData_94 l_M_177 st_M_upward i_M cd_M_upward ⟨by decide, by decide⟩ ln_M_upward rfl) (fun oc L1 hL => ?_)
    obtain ⟨v94, hp, rfl, rfl⟩ := hL
    refine ⟨_, rfl, ?_⟩
    refine aw_eq (lo' := _) (st' := [.int v94]) (L' := [(0, ly_M, (o, ad, S90.1, S90.2.1, S90.2.2))]) rfl rfl rfl ?_
    refine aw_lo (lo' := [some (.ref o), none, some (.int s0), none, none, none, none, none]) ⟨.inr rfl, .inl rfl, .inr rfl, .inr rfl, .inr rfl, .inr rfl, .inr rfl, .inr rfl, trivial⟩ ?_
    exact s_readData_97 C hQ hA hR s0 v94 (S90.1, S90.2.1, S90.2.2)  hp
  · have hp := hp.2 hc
    refine a_aload_n C d_readData_60 rfl rfl ?_
    refine a_iconst (v := 2) C d_readData_61 (by decide) ?_
    refine a_aload_n C d_readData_62 rfl rfl ?_
    refine a_getR C 0 50 d_readData_63 rfl rfl rfl (Nat.le_of_ble_eq_true rfl) f_M_130 ⟨Nat.le_of_ble_eq_true rfl, Nat.le_of_ble_eq_true rfl⟩ ?_
    refine a_iconst (v := 0) C d_readData_66 (by decide) ?_
    refine a_iald C 0 50 d_readData_67 rfl rfl rfl hp.1 ?_
    have hp := hp.2
    refine a_call (Lr := []) (rest := []) (av := .ref o :: [.int 2, .int (S.2.1 50 (0 : Int32).toNatClampNeg)]) C [0] [] d_readData_68 (ct_layerHigh 2 (S.2.1 50 (0 : Int32).toNatClampNeg) S hp) cd_M_layerHigh i_M (Nat.le_of_ble_eq_true rfl) (by rw [hR]; exact Nat.le_of_ble_eq_true rfl) (by rw [hR]; exact Nat.le_of_ble_eq_true rfl) (by rw [hR]; exact Nat.le_of_ble_eq_true rfl) (by rw [hR]; exact Nat.le_of_ble_eq_true rfl) rfl rfl (by decide) (by decide) (by decide) (inv_V C 0 d_readData_68 l_M_181 im_M_layerHigh se_M_layerHigh cd_M_layerHigh ⟨by decide, by decide⟩ ln_M_layerHigh rfl rfl rfl rfl rfl) (fun oc L1 hL => ?_)
    obtain ⟨v68, S68, hp, rfl, rfl⟩ := hL
    refine ⟨_, rfl, ?_⟩
    refine aw_eq (lo' := _) (st' := [.int v68]) (L' := [(0, ly_M, (o, ad, S68.1, S68.2.1, S68.2.2))]) rfl rfl rfl ?_
    refine a_bipush (v := 8) C d_readData_71 (by decide) ?_
    refine a_call (Lr := [(0, ly_M, (o, ad, S68.1, S68.2.1, S68.2.2))]) (rest := []) (av := [.int v68, .int 8]) C [] [0] d_readData_73 (ct_upward v68 8 hp) cd_M_upward i_M (Nat.le_of_ble_eq_true rfl) (by rw [hR]; exact Nat.le_of_ble_eq_true rfl) (by rw [hR]; exact Nat.le_of_ble_eq_true rfl) (by rw [hR]; exact Nat.le_of_ble_eq_true rfl) (by rw [hR]; exact Nat.le_of_ble_eq_true rfl) rfl rfl (by decide) (by decide) (by decide) (inv_S C d_readData_73 l_M_177 st_M_upward i_M cd_M_upward ⟨by decide, by decide⟩ ln_M_upward rfl) (fun oc L1 hL => ?_)
    obtain ⟨v73, hp, rfl, rfl⟩ := hL
    refine ⟨_, rfl, ?_⟩
    refine aw_eq (lo' := _) (st' := [.int v73]) (L' := [(0, ly_M, (o, ad, S68.1, S68.2.1, S68.2.2))]) rfl rfl rfl ?_
    refine a_goto (tgt := 97) C d_readData_76 (by decide) ?_
    refine aw_lo (lo' := [some (.ref o), none, some (.int s0), none, none, none, none, none]) ⟨.inr rfl, .inl rfl, .inr rfl, .inr rfl, .inr rfl, .inr rfl, .inr rfl, .inr rfl, trivial⟩ ?_
    exact s_readData_97 C hQ hA hR s0 v73 (S68.1, S68.2.1, S68.2.2)  hp
set_option maxRecDepth 100000 in
set_option maxHeartbeats 1000000 in
theorem s_readData_13 (C : fcx gG D z A X R_M c_M_readData 8 (none)) (hQ : X.2.2.2.2.2.2.2.2.2.2 = eQ gG D z X.2.2.2.2.2.2.2.1 X.2.2.2.2.1 L0 0 0 (pM_v K o ad)) (hA : A = owA gG L0 X.2.2.2.2.1.heap.size) (hR : X.2.2.2.1 = { frames := 7, cells := 1, slots := 6, locals := 700 }) (s0 : Int32) (S : ms) (hp : b_readData_13 s0 S K) : aw gG D z A X 8 13 [some (.ref o), none, none, none, none, none, none, none] [.int s0] [(0, ly_M, (o, ad, S.1, S.2.1, S.2.2))] 0 0 := by
  unfold b_readData_13 at hp
  refine a_istore_n (lo' := [some (.ref o), some (.int s0), none, none, none, none, none, none]) C d_readData_13 rfl (by decide) rfl ?_
  refine a_iload_n C d_readData_14 rfl rfl ?_
  refine a_if_eq (tgt := 37) C d_readData_15 (by decide) ⟨fun hc => ?_, fun hc => ?_⟩
  · have hp := hp.1 hc
    refine a_aload_n C d_readData_37 rfl rfl ?_
    refine a_getR C 0 12 d_readData_38 rfl rfl rfl (Nat.le_of_ble_eq_true rfl) f_M_41 ⟨Nat.le_of_ble_eq_true rfl, Nat.le_of_ble_eq_true rfl⟩ ?_
    refine a_iconst (v := 2) C d_readData_41 (by decide) ?_
    refine a_iald C 0 12 d_readData_42 rfl rfl rfl hp.1 ?_
    have hp := hp.2
    refine a_bipush (v := 8) C d_readData_43 (by decide) ?_
    refine a_aload_n C d_readData_45 rfl rfl ?_
    refine a_iconst (v := 2) C d_readData_46 (by decide) ?_
    refine a_iconst (v := 1) C d_readData_47 (by decide) ?_
    refine a_call (Lr := []) (rest := [.int 8, .int (S.2.1 12 (2 : Int32).toNatClampNeg)]) (av := .ref o :: [.int 2, .int 1]) C [0] [] d_readData_48 (ct_greatest 2 1 S hp) cd_M_greatest i_M (Nat.le_of_ble_eq_true rfl) (by rw [hR]; exact Nat.le_of_ble_eq_true rfl) (by rw [hR]; exact Nat.le_of_ble_eq_true rfl) (by rw [hR]; exact Nat.le_of_ble_eq_true rfl) (by rw [hR]; exact Nat.le_of_ble_eq_true rfl) rfl rfl (by decide) (by decide) (by decide) (inv_V C 0 d_readData_48 l_M_173 im_M_greatest se_M_greatest cd_M_greatest ⟨by decide, by decide⟩ ln_M_greatest rfl rfl rfl rfl rfl) (fun oc L1 hL => ?_)
    obtain ⟨v48, S48, hp, rfl, rfl⟩ := hL
    refine ⟨_, rfl, ?_⟩
    refine aw_eq (lo' := _) (st' := [.int v48, .int 8, .int (S.2.1 12 (2 : Int32).toNatClampNeg)]) (L' := [(0, ly_M, (o, ad, S48.1, S48.2.1, S48.2.2))]) rfl rfl rfl ?_
    refine a_imul C d_readData_51 ?_
    refine a_call (Lr := [(0, ly_M, (o, ad, S48.1, S48.2.1, S48.2.2))]) (rest := []) (av := [.int (S.2.1 12 (2 : Int32).toNatClampNeg), .int (8 * v48)]) C [] [0] d_readData_52 (ct_upward (S.2.1 12 (2 : Int32).toNatClampNeg) (8 * v48) hp) cd_M_upward i_M (Nat.le_of_ble_eq_true rfl) (by rw [hR]; exact Nat.le_of_ble_eq_true rfl) (by rw [hR]; exact Nat.le_of_ble_eq_true rfl) (by rw [hR]; exact Nat.le_of_ble_eq_true rfl) (by rw [hR]; exact Nat.le_of_ble_eq_true rfl) rfl rfl (by decide) (by decide) (by decide) (inv_S C d_readData_52 l_M_177 st_M_upward i_M cd_M_upward ⟨by decide, by decide⟩ ln_M_upward rfl) (fun oc L1 hL => ?_)
    obtain ⟨v52, hp, rfl, rfl⟩ := hL
    refine ⟨_, rfl, ?_⟩
    refine aw_eq (lo' := _) (st' := [.int v52]) (L' := [(0, ly_M, (o, ad, S48.1, S48.2.1, S48.2.2))]) rfl rfl rfl ?_
    refine aw_lo (lo' := [some (.ref o), some (.int s0), none, none, none, none, none, none]) ⟨.inr rfl, .inr rfl, .inr rfl, .inr rfl, .inr rfl, .inr rfl, .inr rfl, .inr rfl, trivial⟩ ?_
    exact s_readData_55 C hQ hA hR s0 v52 (S48.1, S48.2.1, S48.2.2)  hp
  · have hp := hp.2 hc
    refine a_aload_n C d_readData_18 rfl rfl ?_
    refine a_iconst (v := 2) C d_readData_19 (by decide) ?_
    refine a_aload_n C d_readData_20 rfl rfl ?_
    refine a_getR C 0 50 d_readData_21 rfl rfl rfl (Nat.le_of_ble_eq_true rfl) f_M_130 ⟨Nat.le_of_ble_eq_true rfl, Nat.le_of_ble_eq_true rfl⟩ ?_
    refine a_iconst (v := 0) C d_readData_24 (by decide) ?_
    refine a_iald C 0 50 d_readData_25 rfl rfl rfl hp.1 ?_
    have hp := hp.2
    refine a_call (Lr := []) (rest := []) (av := .ref o :: [.int 2, .int (S.2.1 50 (0 : Int32).toNatClampNeg)]) C [0] [] d_readData_26 (ct_layerWide 2 (S.2.1 50 (0 : Int32).toNatClampNeg) S hp) cd_M_layerWide i_M (Nat.le_of_ble_eq_true rfl) (by rw [hR]; exact Nat.le_of_ble_eq_true rfl) (by rw [hR]; exact Nat.le_of_ble_eq_true rfl) (by rw [hR]; exact Nat.le_of_ble_eq_true rfl) (by rw [hR]; exact Nat.le_of_ble_eq_true rfl) rfl rfl (by decide) (by decide) (by decide) (inv_V C 0 d_readData_26 l_M_184 im_M_layerWide se_M_layerWide cd_M_layerWide ⟨by decide, by decide⟩ ln_M_layerWide rfl rfl rfl rfl rfl) (fun oc L1 hL => ?_)
    obtain ⟨v26, S26, hp, rfl, rfl⟩ := hL
    refine ⟨_, rfl, ?_⟩
    refine aw_eq (lo' := _) (st' := [.int v26]) (L' := [(0, ly_M, (o, ad, S26.1, S26.2.1, S26.2.2))]) rfl rfl rfl ?_
    refine a_bipush (v := 8) C d_readData_29 (by decide) ?_
    refine a_call (Lr := [(0, ly_M, (o, ad, S26.1, S26.2.1, S26.2.2))]) (rest := []) (av := [.int v26, .int 8]) C [] [0] d_readData_31 (ct_upward v26 8 hp) cd_M_upward i_M (Nat.le_of_ble_eq_true rfl) (by rw [hR]; exact Nat.le_of_ble_eq_true rfl) (by rw [hR]; exact Nat.le_of_ble_eq_true rfl) (by rw [hR]; exact Nat.le_of_ble_eq_true rfl) (by rw [hR]; exact Nat.le_of_ble_eq_true rfl) rfl rfl (by decide) (by decide) (by decide) (inv_S C d_readData_31 l_M_177 st_M_upward i_M cd_M_upward ⟨by decide, by decide⟩ ln_M_upward rfl) (fun oc L1 hL => ?_)
    obtain ⟨v31, hp, rfl, rfl⟩ := hL
    refine ⟨_, rfl, ?_⟩
    refine aw_eq (lo' := _) (st' := [.int v31]) (L' := [(0, ly_M, (o, ad, S26.1, S26.2.1, S26.2.2))]) rfl rfl rfl ?_
    refine a_goto (tgt := 55) C d_readData_34 (by decide) ?_
    refine aw_lo (lo' := [some (.ref o), some (.int s0), none, none, none, none, none, none]) ⟨.inr rfl, .inr rfl, .inr rfl, .inr rfl, .inr rfl, .inr rfl, .inr rfl, .inr rfl, trivial⟩ ?_
    exact s_readData_55 C hQ hA hR s0 v31 (S26.1, S26.2.1, S26.2.2)  hp
set_option maxRecDepth 100000 in
set_option maxHeartbeats 1000000 in
theorem s_readData_0 (C : fcx gG D z A X R_M c_M_readData 8 (none)) (hQ : X.2.2.2.2.2.2.2.2.2.2 = eQ gG D z X.2.2.2.2.2.2.2.1 X.2.2.2.2.1 L0 0 0 (pM_v K o ad)) (hA : A = owA gG L0 X.2.2.2.2.1.heap.size) (hR : X.2.2.2.1 = { frames := 7, cells := 1, slots := 6, locals := 700 })  (S : ms) (hp : p_readData  S K) : aw gG D z A X 8 0 [some (.ref o), none, none, none, none, none, none, none] [] [(0, ly_M, (o, ad, S.1, S.2.1, S.2.2))] 0 0 := by
  unfold p_readData at hp
  refine a_aload_n C d_readData_0 rfl rfl ?_
  refine a_getI C 0 49 d_readData_1 rfl rfl rfl (Nat.le_of_ble_eq_true rfl) f_M_302 (Nat.le_of_ble_eq_true rfl) ?_
  refine a_iconst (v := 1) C d_readData_4 (by decide) ?_
  refine a_icmp_ne (tgt := 12) C d_readData_5 (by decide) ⟨fun hc => ?_, fun hc => ?_⟩
  · have hp := hp.1 hc
    refine a_iconst (v := 0) C d_readData_12 (by decide) ?_
    refine aw_lo (lo' := [some (.ref o), none, none, none, none, none, none, none]) ⟨.inr rfl, .inr rfl, .inr rfl, .inr rfl, .inr rfl, .inr rfl, .inr rfl, .inr rfl, trivial⟩ ?_
    exact s_readData_13 C hQ hA hR 0 S  hp
  · have hp := hp.2 hc
    refine a_iconst (v := 1) C d_readData_8 (by decide) ?_
    refine a_goto (tgt := 13) C d_readData_9 (by decide) ?_
    refine aw_lo (lo' := [some (.ref o), none, none, none, none, none, none, none]) ⟨.inr rfl, .inr rfl, .inr rfl, .inr rfl, .inr rfl, .inr rfl, .inr rfl, .inr rfl, trivial⟩ ?_
    exact s_readData_13 C hQ hA hR 1 S  hp
end M_readData
section M_readDatac
variable {D : va_G} {z : Nat → ClassId} {o : Nat} {ad : Nat → Nat}
set_option maxRecDepth 100000 in
theorem ct_readData {l : Launch}  (S : ms) {K : ms → Prop} (hp : p_readData  S K) : ct gG D z l n_M_readData c_M_readData 8 (none) 7 700 [.ref o] [(0, ly_M, (o, ad, S.1, S.2.1, S.2.2))] 0 0 (pM_v K o ad) := by
  refine ct_of (lo := [some (.ref o), none, none, none, none, none, none, none]) (by decide) g_ok (Nat.le_of_ble_eq_true rfl) rfl ?_
  intro X A _ C hR hQ hA _
  exact s_readData_0 C hQ hA hR  S hp
end M_readDatac
def b_readSection_157  (S : ms) (K : ms → Prop) : Prop :=
  K S
def b_readSection_131  (S : ms) (R131 : ms → Prop) (K : ms → Prop) : Prop :=
  ((S.1 36) ≤ (S.1 34) → (b_readSection_157 S K)) ∧ (¬ ((S.1 36) ≤ (S.1 34)) → ((¬ (S.1 35) = 0 → (b_readSection_157 S K)) ∧ ((S.1 35) = 0 → (p_next S (fun v150 S150 => R131 (S150.1, S150.2.1, S150.2.2))))))
def e_readSection_131  (S : ms) (K : ms → Prop) : Prop :=
  ∃ (I : ms → Prop) (μ : ms → Nat), I S ∧ ∀ yS, I yS → b_readSection_131 yS (fun zS => I zS ∧ μ zS < μ yS) K
def b_readSection_100 (s1 : Int32) (S : ms) (K : ms → Prop) : Prop :=
  b_readSection_157 (upd S.1 48 s1, S.2.1, S.2.2) K
def b_readSection_84  (S : ms) (K : ms → Prop) : Prop :=
  (¬ (S.1 35) = 0 → (b_readSection_100 0 S K)) ∧ ((S.1 35) = 0 → (p_nextTwo S (fun v93 S93 => b_readSection_100 v93 (S93.1, S93.2.1, S93.2.2) K)))
def p_readSection (x1 : Int32) (S : ms) (K : ms → Prop) : Prop :=
  p_readLength S (fun S1 => ((S1.1 35) ≤ 0 → ((¬ x1 = 219 → ((¬ x1 = 196 → ((¬ x1 = 192 → ((¬ x1 = 221 → ((¬ x1 = 218 → (e_readSection_131 (S1.1, S1.2.1, S1.2.2) K)) ∧ (x1 = 218 → (p_readScanHead (S1.1, S1.2.1, S1.2.2) (fun S114 => (¬ (S114.1 35) = 0 → (b_readSection_157 (S114.1, S114.2.1, S114.2.2) K)) ∧ ((S114.1 35) = 0 → (p_readData (S114.1, S114.2.1, S114.2.2) (fun S125 => b_readSection_157 (S125.1, S125.2.1, S125.2.2) K)))))))) ∧ (x1 = 221 → ((((S1.1 36) - (S1.1 37)) = 4 → (b_readSection_84 (S1.1, S1.2.1, S1.2.2) K)) ∧ (¬ (((S1.1 36) - (S1.1 37)) = 4) → (p_fail 4 (S1.1 37) (S1.1, S1.2.1, S1.2.2) (fun v80 S80 => b_readSection_84 (S80.1, S80.2.1, S80.2.2) K))))))) ∧ (x1 = 192 → (p_readFrame (S1.1, S1.2.1, S1.2.2) (fun S48 => b_readSection_157 (S48.1, S48.2.1, S48.2.2) K))))) ∧ (x1 = 196 → (p_readCodes (S1.1, S1.2.1, S1.2.2) (fun S34 => b_readSection_157 (S34.1, S34.2.1, S34.2.2) K))))) ∧ (x1 = 219 → (p_readTables (S1.1, S1.2.1, S1.2.2) (fun S20 => b_readSection_157 (S20.1, S20.2.1, S20.2.2) K))))) ∧ (¬ ((S1.1 35) ≤ 0) → (K (S1.1, S1.2.1, S1.2.2))))
section M_readSection
variable {D : va_G} {z : Nat → ClassId} {A : Nat → Prop} {X : cx} {L0 : fw} {K : ms → Prop} {o : Nat} {ad : Nat → Nat}
set_option maxRecDepth 100000 in
set_option maxHeartbeats 1000000 in
theorem s_readSection_157 (C : fcx gG D z A X R_M c_M_readSection 3 (none)) (hQ : X.2.2.2.2.2.2.2.2.2.2 = eQ gG D z X.2.2.2.2.2.2.2.1 X.2.2.2.2.1 L0 0 0 (pM_v K o ad)) (hA : A = owA gG L0 X.2.2.2.2.1.heap.size) (hR : X.2.2.2.1 = { frames := 8, cells := 1, slots := 6, locals := 800 })  (S : ms) (hp : b_readSection_157  S K) : aw gG D z A X 3 157 [some (.ref o), none, none] [] [(0, ly_M, (o, ad, S.1, S.2.1, S.2.2))] 0 0 := by
  unfold b_readSection_157 at hp
  exact a_vret C hQ hA d_readSection_157 rfl ⟨S, hp, rfl, rfl⟩
set_option maxRecDepth 100000 in
set_option maxHeartbeats 1000000 in
theorem s_readSection_131 (C : fcx gG D z A X R_M c_M_readSection 3 (none)) (hQ : X.2.2.2.2.2.2.2.2.2.2 = eQ gG D z X.2.2.2.2.2.2.2.1 X.2.2.2.2.1 L0 0 0 (pM_v K o ad)) (hA : A = owA gG L0 X.2.2.2.2.1.heap.size) (hR : X.2.2.2.1 = { frames := 8, cells := 1, slots := 6, locals := 800 })  (S : ms) (R131 : ms → Prop) (hR131 : ∀ yS, R131 yS → aw gG D z A X 3 131 [some (.ref o), none, none] [] [(0, ly_M, (o, ad, yS.1, yS.2.1, yS.2.2))] 0 0) (hp : b_readSection_131  S R131 K) : aw gG D z A X 3 131 [some (.ref o), none, none] [] [(0, ly_M, (o, ad, S.1, S.2.1, S.2.2))] 0 0 := by
  unfold b_readSection_131 at hp
  refine a_aload_n C d_readSection_131 rfl rfl ?_
  refine a_getI C 0 34 d_readSection_132 rfl rfl rfl (Nat.le_of_ble_eq_true rfl) f_M_268 (Nat.le_of_ble_eq_true rfl) ?_
  refine a_aload_n C d_readSection_135 rfl rfl ?_
  refine a_getI C 0 36 d_readSection_136 rfl rfl rfl (Nat.le_of_ble_eq_true rfl) f_M_275 (Nat.le_of_ble_eq_true rfl) ?_
  refine a_icmp_ge (tgt := 157) C d_readSection_139 (by decide) ⟨fun hc => ?_, fun hc => ?_⟩
  · have hp := hp.1 hc
    refine aw_lo (lo' := [some (.ref o), none, none]) ⟨.inr rfl, .inr rfl, .inr rfl, trivial⟩ ?_
    exact s_readSection_157 C hQ hA hR S  hp
  · have hp := hp.2 hc
    refine a_aload_n C d_readSection_142 rfl rfl ?_
    refine a_getI C 0 35 d_readSection_143 rfl rfl rfl (Nat.le_of_ble_eq_true rfl) f_M_265 (Nat.le_of_ble_eq_true rfl) ?_
    refine a_if_ne (tgt := 157) C d_readSection_146 (by decide) ⟨fun hc => ?_, fun hc => ?_⟩
    · have hp := hp.1 hc
      refine aw_lo (lo' := [some (.ref o), none, none]) ⟨.inr rfl, .inr rfl, .inr rfl, trivial⟩ ?_
      exact s_readSection_157 C hQ hA hR S  hp
    · have hp := hp.2 hc
      refine a_aload_n C d_readSection_149 rfl rfl ?_
      refine a_call (Lr := []) (rest := []) (av := .ref o :: []) C [0] [] d_readSection_150 (ct_next S hp) cd_M_next i_M (Nat.le_of_ble_eq_true rfl) (by rw [hR]; exact Nat.le_of_ble_eq_true rfl) (by rw [hR]; exact Nat.le_of_ble_eq_true rfl) (by rw [hR]; exact Nat.le_of_ble_eq_true rfl) (by rw [hR]; exact Nat.le_of_ble_eq_true rfl) rfl rfl (by decide) (by decide) (by decide) (inv_V C 0 d_readSection_150 l_M_281 im_M_next se_M_next cd_M_next ⟨by decide, by decide⟩ ln_M_next rfl rfl rfl rfl rfl) (fun oc L1 hL => ?_)
      obtain ⟨v150, S150, hp, rfl, rfl⟩ := hL
      refine ⟨_, rfl, ?_⟩
      refine aw_eq (lo' := _) (st' := [.int v150]) (L' := [(0, ly_M, (o, ad, S150.1, S150.2.1, S150.2.2))]) rfl rfl rfl ?_
      refine a_istore_n (lo' := [some (.ref o), none, some (.int v150)]) C d_readSection_153 rfl (by decide) rfl ?_
      refine a_goto (tgt := 131) C d_readSection_154 (by decide) ?_
      refine aw_lo (lo' := [some (.ref o), none, none]) ⟨.inr rfl, .inr rfl, .inl rfl, trivial⟩ ?_
      exact hR131 (S150.1, S150.2.1, S150.2.2) hp
set_option maxRecDepth 100000 in
set_option maxHeartbeats 1000000 in
theorem se_readSection_131 (C : fcx gG D z A X R_M c_M_readSection 3 (none)) (hQ : X.2.2.2.2.2.2.2.2.2.2 = eQ gG D z X.2.2.2.2.2.2.2.1 X.2.2.2.2.1 L0 0 0 (pM_v K o ad)) (hA : A = owA gG L0 X.2.2.2.2.1.heap.size) (hR : X.2.2.2.1 = { frames := 8, cells := 1, slots := 6, locals := 800 })  (S : ms) (hp : e_readSection_131  S K) : aw gG D z A X 3 131 [some (.ref o), none, none] [] [(0, ly_M, (o, ad, S.1, S.2.1, S.2.2))] 0 0 := by
  obtain ⟨I, μ, h0, hs⟩ := hp
  have key : ∀ (n : Nat)  (yS : ms), μ yS < n → I yS → aw gG D z A X 3 131 [some (.ref o), none, none] [] [(0, ly_M, (o, ad, yS.1, yS.2.1, yS.2.2))] 0 0 := by
    intro n
    induction n with
    | zero => intro yS h; omega
    | succ n ih =>
      intro yS hn hI
      exact s_readSection_131 C hQ hA hR yS _ (fun zS hw => ih zS (by omega) hw.1) (hs yS hI)
  exact key (μ S + 1) S (Nat.lt_succ_self _) h0
set_option maxRecDepth 100000 in
set_option maxHeartbeats 1000000 in
theorem s_readSection_100 (C : fcx gG D z A X R_M c_M_readSection 3 (none)) (hQ : X.2.2.2.2.2.2.2.2.2.2 = eQ gG D z X.2.2.2.2.2.2.2.1 X.2.2.2.2.1 L0 0 0 (pM_v K o ad)) (hA : A = owA gG L0 X.2.2.2.2.1.heap.size) (hR : X.2.2.2.1 = { frames := 8, cells := 1, slots := 6, locals := 800 }) (s1 : Int32) (S : ms) (hp : b_readSection_100 s1 S K) : aw gG D z A X 3 100 [some (.ref o), none, none] [.int s1, .ref o] [(0, ly_M, (o, ad, S.1, S.2.1, S.2.2))] 0 0 := by
  unfold b_readSection_100 at hp
  refine a_putI (ty := .int) C 0 48 d_readSection_100 rfl rfl rfl (Nat.le_of_ble_eq_true rfl) f_M_330 (Nat.le_of_ble_eq_true rfl) rfl rfl rfl rfl ?_
  refine aw_eq (lo' := _) (st' := _) (L' := [(0, ly_M, (o, ad, upd S.1 48 s1, S.2.1, S.2.2))]) rfl rfl rfl ?_
  refine a_goto (tgt := 157) C d_readSection_103 (by decide) ?_
  refine aw_lo (lo' := [some (.ref o), none, none]) ⟨.inr rfl, .inr rfl, .inr rfl, trivial⟩ ?_
  exact s_readSection_157 C hQ hA hR (upd S.1 48 s1, S.2.1, S.2.2)  hp
set_option maxRecDepth 100000 in
set_option maxHeartbeats 1000000 in
theorem s_readSection_84 (C : fcx gG D z A X R_M c_M_readSection 3 (none)) (hQ : X.2.2.2.2.2.2.2.2.2.2 = eQ gG D z X.2.2.2.2.2.2.2.1 X.2.2.2.2.1 L0 0 0 (pM_v K o ad)) (hA : A = owA gG L0 X.2.2.2.2.1.heap.size) (hR : X.2.2.2.1 = { frames := 8, cells := 1, slots := 6, locals := 800 })  (S : ms) (hp : b_readSection_84  S K) : aw gG D z A X 3 84 [some (.ref o), none, none] [] [(0, ly_M, (o, ad, S.1, S.2.1, S.2.2))] 0 0 := by
  unfold b_readSection_84 at hp
  refine a_aload_n C d_readSection_84 rfl rfl ?_
  refine a_aload_n C d_readSection_85 rfl rfl ?_
  refine a_getI C 0 35 d_readSection_86 rfl rfl rfl (Nat.le_of_ble_eq_true rfl) f_M_265 (Nat.le_of_ble_eq_true rfl) ?_
  refine a_if_ne (tgt := 99) C d_readSection_89 (by decide) ⟨fun hc => ?_, fun hc => ?_⟩
  · have hp := hp.1 hc
    refine a_iconst (v := 0) C d_readSection_99 (by decide) ?_
    refine aw_lo (lo' := [some (.ref o), none, none]) ⟨.inr rfl, .inr rfl, .inr rfl, trivial⟩ ?_
    exact s_readSection_100 C hQ hA hR 0 S  hp
  · have hp := hp.2 hc
    refine a_aload_n C d_readSection_92 rfl rfl ?_
    refine a_call (Lr := []) (rest := [.ref o]) (av := .ref o :: []) C [0] [] d_readSection_93 (ct_nextTwo S hp) cd_M_nextTwo i_M (Nat.le_of_ble_eq_true rfl) (by rw [hR]; exact Nat.le_of_ble_eq_true rfl) (by rw [hR]; exact Nat.le_of_ble_eq_true rfl) (by rw [hR]; exact Nat.le_of_ble_eq_true rfl) (by rw [hR]; exact Nat.le_of_ble_eq_true rfl) rfl rfl (by decide) (by decide) (by decide) (inv_V C 0 d_readSection_93 l_M_285 im_M_nextTwo se_M_nextTwo cd_M_nextTwo ⟨by decide, by decide⟩ ln_M_nextTwo rfl rfl rfl rfl rfl) (fun oc L1 hL => ?_)
    obtain ⟨v93, S93, hp, rfl, rfl⟩ := hL
    refine ⟨_, rfl, ?_⟩
    refine aw_eq (lo' := _) (st' := [.int v93, .ref o]) (L' := [(0, ly_M, (o, ad, S93.1, S93.2.1, S93.2.2))]) rfl rfl rfl ?_
    refine a_goto (tgt := 100) C d_readSection_96 (by decide) ?_
    refine aw_lo (lo' := [some (.ref o), none, none]) ⟨.inr rfl, .inr rfl, .inr rfl, trivial⟩ ?_
    exact s_readSection_100 C hQ hA hR v93 (S93.1, S93.2.1, S93.2.2)  hp
set_option maxRecDepth 100000 in
set_option maxHeartbeats 1000000 in
theorem s_readSection_0 (C : fcx gG D z A X R_M c_M_readSection 3 (none)) (hQ : X.2.2.2.2.2.2.2.2.2.2 = eQ gG D z X.2.2.2.2.2.2.2.1 X.2.2.2.2.1 L0 0 0 (pM_v K o ad)) (hA : A = owA gG L0 X.2.2.2.2.1.heap.size) (hR : X.2.2.2.1 = { frames := 8, cells := 1, slots := 6, locals := 800 }) (x1 : Int32) (S : ms) (hp : p_readSection x1 S K) : aw gG D z A X 3 0 [some (.ref o), some (.int x1), none] [] [(0, ly_M, (o, ad, S.1, S.2.1, S.2.2))] 0 0 := by
  unfold p_readSection at hp
  refine a_aload_n C d_readSection_0 rfl rfl ?_
  refine a_call (Lr := []) (rest := []) (av := .ref o :: []) C [0] [] d_readSection_1 (ct_readLength S hp) cd_M_readLength i_M (Nat.le_of_ble_eq_true rfl) (by rw [hR]; exact Nat.le_of_ble_eq_true rfl) (by rw [hR]; exact Nat.le_of_ble_eq_true rfl) (by rw [hR]; exact Nat.le_of_ble_eq_true rfl) (by rw [hR]; exact Nat.le_of_ble_eq_true rfl) rfl rfl (by decide) (by decide) (by decide) (inv_V C 0 d_readSection_1 l_M_339 im_M_readLength se_M_readLength cd_M_readLength ⟨by decide, by decide⟩ ln_M_readLength rfl rfl rfl rfl rfl) (fun oc L1 hL => ?_)
  obtain ⟨S1, hp, rfl, rfl⟩ := hL
  refine ⟨_, rfl, ?_⟩
  refine aw_eq (lo' := _) (st' := []) (L' := [(0, ly_M, (o, ad, S1.1, S1.2.1, S1.2.2))]) rfl rfl rfl ?_
  refine a_aload_n C d_readSection_4 rfl rfl ?_
  refine a_getI C 0 35 d_readSection_5 rfl rfl rfl (Nat.le_of_ble_eq_true rfl) f_M_265 (Nat.le_of_ble_eq_true rfl) ?_
  refine a_if_le (tgt := 12) C d_readSection_8 (by decide) ⟨fun hc => ?_, fun hc => ?_⟩
  · have hp := hp.1 hc
    refine a_iload_n C d_readSection_12 rfl rfl ?_
    refine a_sipush (v := 219) C d_readSection_13 (by decide) ?_
    refine a_icmp_ne (tgt := 26) C d_readSection_16 (by decide) ⟨fun hc => ?_, fun hc => ?_⟩
    · have hp := hp.1 hc
      refine a_iload_n C d_readSection_26 rfl rfl ?_
      refine a_sipush (v := 196) C d_readSection_27 (by decide) ?_
      refine a_icmp_ne (tgt := 40) C d_readSection_30 (by decide) ⟨fun hc => ?_, fun hc => ?_⟩
      · have hp := hp.1 hc
        refine a_iload_n C d_readSection_40 rfl rfl ?_
        refine a_sipush (v := 192) C d_readSection_41 (by decide) ?_
        refine a_icmp_ne (tgt := 54) C d_readSection_44 (by decide) ⟨fun hc => ?_, fun hc => ?_⟩
        · have hp := hp.1 hc
          refine a_iload_n C d_readSection_54 rfl rfl ?_
          refine a_sipush (v := 221) C d_readSection_55 (by decide) ?_
          refine a_icmp_ne (tgt := 106) C d_readSection_58 (by decide) ⟨fun hc => ?_, fun hc => ?_⟩
          · have hp := hp.1 hc
            refine a_iload_n C d_readSection_106 rfl rfl ?_
            refine a_sipush (v := 218) C d_readSection_107 (by decide) ?_
            refine a_icmp_ne (tgt := 131) C d_readSection_110 (by decide) ⟨fun hc => ?_, fun hc => ?_⟩
            · have hp := hp.1 hc
              refine aw_lo (lo' := [some (.ref o), none, none]) ⟨.inr rfl, .inl rfl, .inr rfl, trivial⟩ ?_
              exact se_readSection_131 C hQ hA hR (S1.1, S1.2.1, S1.2.2)  hp
            · have hp := hp.2 hc
              refine a_aload_n C d_readSection_113 rfl rfl ?_
              refine a_call (Lr := []) (rest := []) (av := .ref o :: []) C [0] [] d_readSection_114 (ct_readScanHead (S1.1, S1.2.1, S1.2.2) hp) cd_M_readScanHead i_M (Nat.le_of_ble_eq_true rfl) (by rw [hR]; exact Nat.le_of_ble_eq_true rfl) (by rw [hR]; exact Nat.le_of_ble_eq_true rfl) (by rw [hR]; exact Nat.le_of_ble_eq_true rfl) (by rw [hR]; exact Nat.le_of_ble_eq_true rfl) rfl rfl (by decide) (by decide) (by decide) (inv_V C 0 d_readSection_114 l_M_351 im_M_readScanHead se_M_readScanHead cd_M_readScanHead ⟨by decide, by decide⟩ ln_M_readScanHead rfl rfl rfl rfl rfl) (fun oc L1 hL => ?_)
              obtain ⟨S114, hp, rfl, rfl⟩ := hL
              refine ⟨_, rfl, ?_⟩
              refine aw_eq (lo' := _) (st' := []) (L' := [(0, ly_M, (o, ad, S114.1, S114.2.1, S114.2.2))]) rfl rfl rfl ?_
              refine a_aload_n C d_readSection_117 rfl rfl ?_
              refine a_getI C 0 35 d_readSection_118 rfl rfl rfl (Nat.le_of_ble_eq_true rfl) f_M_265 (Nat.le_of_ble_eq_true rfl) ?_
              refine a_if_ne (tgt := 157) C d_readSection_121 (by decide) ⟨fun hc => ?_, fun hc => ?_⟩
              · have hp := hp.1 hc
                refine aw_lo (lo' := [some (.ref o), none, none]) ⟨.inr rfl, .inl rfl, .inr rfl, trivial⟩ ?_
                exact s_readSection_157 C hQ hA hR (S114.1, S114.2.1, S114.2.2)  hp
              · have hp := hp.2 hc
                refine a_aload_n C d_readSection_124 rfl rfl ?_
                refine a_call (Lr := []) (rest := []) (av := .ref o :: []) C [0] [] d_readSection_125 (ct_readData (S114.1, S114.2.1, S114.2.2) hp) cd_M_readData i_M (Nat.le_of_ble_eq_true rfl) (by rw [hR]; exact Nat.le_of_ble_eq_true rfl) (by rw [hR]; exact Nat.le_of_ble_eq_true rfl) (by rw [hR]; exact Nat.le_of_ble_eq_true rfl) (by rw [hR]; exact Nat.le_of_ble_eq_true rfl) rfl rfl (by decide) (by decide) (by decide) (inv_V C 0 d_readSection_125 l_M_354 im_M_readData se_M_readData cd_M_readData ⟨by decide, by decide⟩ ln_M_readData rfl rfl rfl rfl rfl) (fun oc L1 hL => ?_)
                obtain ⟨S125, hp, rfl, rfl⟩ := hL
                refine ⟨_, rfl, ?_⟩
                refine aw_eq (lo' := _) (st' := []) (L' := [(0, ly_M, (o, ad, S125.1, S125.2.1, S125.2.2))]) rfl rfl rfl ?_
                refine a_goto (tgt := 157) C d_readSection_128 (by decide) ?_
                refine aw_lo (lo' := [some (.ref o), none, none]) ⟨.inr rfl, .inl rfl, .inr rfl, trivial⟩ ?_
                exact s_readSection_157 C hQ hA hR (S125.1, S125.2.1, S125.2.2)  hp
          · have hp := hp.2 hc
            refine a_aload_n C d_readSection_61 rfl rfl ?_
            refine a_getI C 0 36 d_readSection_62 rfl rfl rfl (Nat.le_of_ble_eq_true rfl) f_M_275 (Nat.le_of_ble_eq_true rfl) ?_
            refine a_aload_n C d_readSection_65 rfl rfl ?_
            refine a_getI C 0 37 d_readSection_66 rfl rfl rfl (Nat.le_of_ble_eq_true rfl) f_M_278 (Nat.le_of_ble_eq_true rfl) ?_
            refine a_isub C d_readSection_69 ?_
            refine a_iconst (v := 4) C d_readSection_70 (by decide) ?_
            refine a_icmp_eq (tgt := 84) C d_readSection_71 (by decide) ⟨fun hc => ?_, fun hc => ?_⟩
            · have hp := hp.1 hc
              refine aw_lo (lo' := [some (.ref o), none, none]) ⟨.inr rfl, .inl rfl, .inr rfl, trivial⟩ ?_
              exact s_readSection_84 C hQ hA hR (S1.1, S1.2.1, S1.2.2)  hp
            · have hp := hp.2 hc
              refine a_aload_n C d_readSection_74 rfl rfl ?_
              refine a_iconst (v := 4) C d_readSection_75 (by decide) ?_
              refine a_aload_n C d_readSection_76 rfl rfl ?_
              refine a_getI C 0 37 d_readSection_77 rfl rfl rfl (Nat.le_of_ble_eq_true rfl) f_M_278 (Nat.le_of_ble_eq_true rfl) ?_
              refine a_call (Lr := []) (rest := []) (av := .ref o :: [.int 4, .int (S1.1 37)]) C [0] [] d_readSection_80 (ct_fail 4 (S1.1 37) (S1.1, S1.2.1, S1.2.2) hp) cd_M_fail i_M (Nat.le_of_ble_eq_true rfl) (by rw [hR]; exact Nat.le_of_ble_eq_true rfl) (by rw [hR]; exact Nat.le_of_ble_eq_true rfl) (by rw [hR]; exact Nat.le_of_ble_eq_true rfl) (by rw [hR]; exact Nat.le_of_ble_eq_true rfl) rfl rfl (by decide) (by decide) (by decide) (inv_V C 0 d_readSection_80 l_M_271 im_M_fail se_M_fail cd_M_fail ⟨by decide, by decide⟩ ln_M_fail rfl rfl rfl rfl rfl) (fun oc L1 hL => ?_)
              obtain ⟨v80, S80, hp, rfl, rfl⟩ := hL
              refine ⟨_, rfl, ?_⟩
              refine aw_eq (lo' := _) (st' := [.int v80]) (L' := [(0, ly_M, (o, ad, S80.1, S80.2.1, S80.2.2))]) rfl rfl rfl ?_
              refine a_istore_n (lo' := [some (.ref o), some (.int x1), some (.int v80)]) C d_readSection_83 rfl (by decide) rfl ?_
              refine aw_lo (lo' := [some (.ref o), none, none]) ⟨.inr rfl, .inl rfl, .inl rfl, trivial⟩ ?_
              exact s_readSection_84 C hQ hA hR (S80.1, S80.2.1, S80.2.2)  hp
        · have hp := hp.2 hc
          refine a_aload_n C d_readSection_47 rfl rfl ?_
          refine a_call (Lr := []) (rest := []) (av := .ref o :: []) C [0] [] d_readSection_48 (ct_readFrame (S1.1, S1.2.1, S1.2.2) hp) cd_M_readFrame i_M (Nat.le_of_ble_eq_true rfl) (by rw [hR]; exact Nat.le_of_ble_eq_true rfl) (by rw [hR]; exact Nat.le_of_ble_eq_true rfl) (by rw [hR]; exact Nat.le_of_ble_eq_true rfl) (by rw [hR]; exact Nat.le_of_ble_eq_true rfl) rfl rfl (by decide) (by decide) (by decide) (inv_V C 0 d_readSection_48 l_M_348 im_M_readFrame se_M_readFrame cd_M_readFrame ⟨by decide, by decide⟩ ln_M_readFrame rfl rfl rfl rfl rfl) (fun oc L1 hL => ?_)
          obtain ⟨S48, hp, rfl, rfl⟩ := hL
          refine ⟨_, rfl, ?_⟩
          refine aw_eq (lo' := _) (st' := []) (L' := [(0, ly_M, (o, ad, S48.1, S48.2.1, S48.2.2))]) rfl rfl rfl ?_
          refine a_goto (tgt := 157) C d_readSection_51 (by decide) ?_
          refine aw_lo (lo' := [some (.ref o), none, none]) ⟨.inr rfl, .inl rfl, .inr rfl, trivial⟩ ?_
          exact s_readSection_157 C hQ hA hR (S48.1, S48.2.1, S48.2.2)  hp
      · have hp := hp.2 hc
        refine a_aload_n C d_readSection_33 rfl rfl ?_
        refine a_call (Lr := []) (rest := []) (av := .ref o :: []) C [0] [] d_readSection_34 (ct_readCodes (S1.1, S1.2.1, S1.2.2) hp) cd_M_readCodes i_M (Nat.le_of_ble_eq_true rfl) (by rw [hR]; exact Nat.le_of_ble_eq_true rfl) (by rw [hR]; exact Nat.le_of_ble_eq_true rfl) (by rw [hR]; exact Nat.le_of_ble_eq_true rfl) (by rw [hR]; exact Nat.le_of_ble_eq_true rfl) rfl rfl (by decide) (by decide) (by decide) (inv_V C 0 d_readSection_34 l_M_345 im_M_readCodes se_M_readCodes cd_M_readCodes ⟨by decide, by decide⟩ ln_M_readCodes rfl rfl rfl rfl rfl) (fun oc L1 hL => ?_)
        obtain ⟨S34, hp, rfl, rfl⟩ := hL
        refine ⟨_, rfl, ?_⟩
        refine aw_eq (lo' := _) (st' := []) (L' := [(0, ly_M, (o, ad, S34.1, S34.2.1, S34.2.2))]) rfl rfl rfl ?_
        refine a_goto (tgt := 157) C d_readSection_37 (by decide) ?_
        refine aw_lo (lo' := [some (.ref o), none, none]) ⟨.inr rfl, .inl rfl, .inr rfl, trivial⟩ ?_
        exact s_readSection_157 C hQ hA hR (S34.1, S34.2.1, S34.2.2)  hp
    · have hp := hp.2 hc
      refine a_aload_n C d_readSection_19 rfl rfl ?_
      refine a_call (Lr := []) (rest := []) (av := .ref o :: []) C [0] [] d_readSection_20 (ct_readTables (S1.1, S1.2.1, S1.2.2) hp) cd_M_readTables i_M (Nat.le_of_ble_eq_true rfl) (by rw [hR]; exact Nat.le_of_ble_eq_true rfl) (by rw [hR]; exact Nat.le_of_ble_eq_true rfl) (by rw [hR]; exact Nat.le_of_ble_eq_true rfl) (by rw [hR]; exact Nat.le_of_ble_eq_true rfl) rfl rfl (by decide) (by decide) (by decide) (inv_V C 0 d_readSection_20 l_M_342 im_M_readTables se_M_readTables cd_M_readTables ⟨by decide, by decide⟩ ln_M_readTables rfl rfl rfl rfl rfl) (fun oc L1 hL => ?_)
      obtain ⟨S20, hp, rfl, rfl⟩ := hL
      refine ⟨_, rfl, ?_⟩
      refine aw_eq (lo' := _) (st' := []) (L' := [(0, ly_M, (o, ad, S20.1, S20.2.1, S20.2.2))]) rfl rfl rfl ?_
      refine a_goto (tgt := 157) C d_readSection_23 (by decide) ?_
      refine aw_lo (lo' := [some (.ref o), none, none]) ⟨.inr rfl, .inl rfl, .inr rfl, trivial⟩ ?_
      exact s_readSection_157 C hQ hA hR (S20.1, S20.2.1, S20.2.2)  hp
  · have hp := hp.2 hc
    exact a_vret C hQ hA d_readSection_11 rfl ⟨(S1.1, S1.2.1, S1.2.2), hp, rfl, rfl⟩
end M_readSection
section M_readSectionc
variable {D : va_G} {z : Nat → ClassId} {o : Nat} {ad : Nat → Nat}
set_option maxRecDepth 100000 in
theorem ct_readSection {l : Launch} (x1 : Int32) (S : ms) {K : ms → Prop} (hp : p_readSection x1 S K) : ct gG D z l n_M_readSection c_M_readSection 3 (none) 8 800 [.ref o, .int x1] [(0, ly_M, (o, ad, S.1, S.2.1, S.2.2))] 0 0 (pM_v K o ad) := by
  refine ct_of (lo := [some (.ref o), some (.int x1), none]) (by decide) g_ok (Nat.le_of_ble_eq_true rfl) rfl ?_
  intro X A _ C hR hQ hA _
  exact s_readSection_0 C hQ hA hR x1 S hp
end M_readSectionc
def b_isDone_34 (x1 : Int32) (S : ms) (K : Int32 → ms → Prop) : Prop :=
  narrow .boolean (.int x1) = .int x1 ∧ K x1 S
def b_isDone_7 (x1 : Int32) (x2 : Int32) (S : ms) (R7 : Int32 → Int32 → ms → Prop) (K : Int32 → ms → Prop) : Prop :=
  vp_in 2 3 ∧ (((S.2.1 14 (2 : Int32).toNatClampNeg) ≤ x2 → (b_isDone_34 x1 S K)) ∧ (¬ ((S.2.1 14 (2 : Int32).toNatClampNeg) ≤ x2) → ((x1 = 0 → (b_isDone_34 x1 S K)) ∧ (¬ (x1 = 0) → (vp_in x2 3 ∧ (R7 (S.2.1 47 x2.toNatClampNeg) (x2 + 1) S))))))
def e_isDone_7 (x1 : Int32) (x2 : Int32) (S : ms) (K : Int32 → ms → Prop) : Prop :=
  ∃ (I : Int32 → Int32 → ms → Prop) (μ : Int32 → Int32 → ms → Nat), I x1 x2 S ∧ ∀ yx1 yx2 yS, I yx1 yx2 yS → b_isDone_7 yx1 yx2 yS (fun zx1 zx2 zS => I zx1 zx2 zS ∧ μ zx1 zx2 zS < μ yx1 yx2 yS) K
def p_isDone  (S : ms) (K : Int32 → ms → Prop) : Prop :=
  e_isDone_7 (S.1 43) 0 S K
section M_isDone
variable {D : va_G} {z : Nat → ClassId} {A : Nat → Prop} {X : cx} {L0 : fw} {K : Int32 → ms → Prop} {o : Nat} {ad : Nat → Nat}
set_option maxRecDepth 100000 in
set_option maxHeartbeats 1000000 in
theorem s_isDone_34 (C : fcx gG D z A X R_M c_M_isDone 3 (some .boolean)) (hQ : X.2.2.2.2.2.2.2.2.2.2 = eQ gG D z X.2.2.2.2.2.2.2.1 X.2.2.2.2.1 L0 0 0 (pM_i K o ad)) (hA : A = owA gG L0 X.2.2.2.2.1.heap.size) (hR : X.2.2.2.1 = { frames := 1, cells := 1, slots := 6, locals := 100 }) (x1 : Int32) (S : ms) (hp : b_isDone_34 x1 S K) : aw gG D z A X 3 34 [some (.ref o), some (.int x1), none] [] [(0, ly_M, (o, ad, S.1, S.2.1, S.2.2))] 0 0 := by
  unfold b_isDone_34 at hp
  refine a_iload_n C d_isDone_34 rfl rfl ?_
  exact a_iret (ty := .boolean) C hQ hA d_isDone_35 rfl hp.1 ⟨_, S, hp.2, rfl, rfl⟩
set_option maxRecDepth 100000 in
set_option maxHeartbeats 1000000 in
theorem s_isDone_7 (C : fcx gG D z A X R_M c_M_isDone 3 (some .boolean)) (hQ : X.2.2.2.2.2.2.2.2.2.2 = eQ gG D z X.2.2.2.2.2.2.2.1 X.2.2.2.2.1 L0 0 0 (pM_i K o ad)) (hA : A = owA gG L0 X.2.2.2.2.1.heap.size) (hR : X.2.2.2.1 = { frames := 1, cells := 1, slots := 6, locals := 100 }) (x1 : Int32) (x2 : Int32) (S : ms) (R7 : Int32 → Int32 → ms → Prop) (hR7 : ∀ yx1 yx2 yS, R7 yx1 yx2 yS → aw gG D z A X 3 7 [some (.ref o), some (.int yx1), some (.int yx2)] [] [(0, ly_M, (o, ad, yS.1, yS.2.1, yS.2.2))] 0 0) (hp : b_isDone_7 x1 x2 S R7 K) : aw gG D z A X 3 7 [some (.ref o), some (.int x1), some (.int x2)] [] [(0, ly_M, (o, ad, S.1, S.2.1, S.2.2))] 0 0 := by
  unfold b_isDone_7 at hp
  refine a_iload_n C d_isDone_7 rfl rfl ?_
  refine a_aload_n C d_isDone_8 rfl rfl ?_
  refine a_getR C 0 14 d_isDone_9 rfl rfl rfl (Nat.le_of_ble_eq_true rfl) f_M_47 ⟨Nat.le_of_ble_eq_true rfl, Nat.le_of_ble_eq_true rfl⟩ ?_
  refine a_iconst (v := 2) C d_isDone_12 (by decide) ?_
  refine a_iald C 0 14 d_isDone_13 rfl rfl rfl hp.1 ?_
  have hp := hp.2
  refine a_icmp_ge (tgt := 34) C d_isDone_14 (by decide) ⟨fun hc => ?_, fun hc => ?_⟩
  · have hp := hp.1 hc
    refine aw_lo (lo' := [some (.ref o), some (.int x1), none]) ⟨.inr rfl, .inr rfl, .inl rfl, trivial⟩ ?_
    exact s_isDone_34 C hQ hA hR x1 S  hp
  · have hp := hp.2 hc
    refine a_iload_n C d_isDone_17 rfl rfl ?_
    refine a_if_eq (tgt := 34) C d_isDone_18 (by decide) ⟨fun hc => ?_, fun hc => ?_⟩
    · have hp := hp.1 hc
      refine aw_lo (lo' := [some (.ref o), some (.int x1), none]) ⟨.inr rfl, .inr rfl, .inl rfl, trivial⟩ ?_
      exact s_isDone_34 C hQ hA hR x1 S  hp
    · have hp := hp.2 hc
      refine a_aload_n C d_isDone_21 rfl rfl ?_
      refine a_getR C 0 47 d_isDone_22 rfl rfl rfl (Nat.le_of_ble_eq_true rfl) f_M_127 ⟨Nat.le_of_ble_eq_true rfl, Nat.le_of_ble_eq_true rfl⟩ ?_
      refine a_iload_n C d_isDone_25 rfl rfl ?_
      refine a_zald C 0 47 d_isDone_26 rfl rfl rfl hp.1 ?_
      have hp := hp.2
      refine a_istore_n (lo' := [some (.ref o), some (.int (S.2.1 47 x2.toNatClampNeg)), some (.int x2)]) C d_isDone_27 rfl (by decide) rfl ?_
      refine a_iinc (v := x2 + 1) (lo' := [some (.ref o), some (.int (S.2.1 47 x2.toNatClampNeg)), some (.int (x2 + 1))]) C d_isDone_28 rfl rfl (by decide) rfl ?_
      refine a_goto (tgt := 7) C d_isDone_31 (by decide) ?_
      refine aw_lo (lo' := [some (.ref o), some (.int (S.2.1 47 x2.toNatClampNeg)), some (.int (x2 + 1))]) ⟨.inr rfl, .inr rfl, .inr rfl, trivial⟩ ?_
      exact hR7 (S.2.1 47 x2.toNatClampNeg) (x2 + 1) S hp
set_option maxRecDepth 100000 in
set_option maxHeartbeats 1000000 in
theorem se_isDone_7 (C : fcx gG D z A X R_M c_M_isDone 3 (some .boolean)) (hQ : X.2.2.2.2.2.2.2.2.2.2 = eQ gG D z X.2.2.2.2.2.2.2.1 X.2.2.2.2.1 L0 0 0 (pM_i K o ad)) (hA : A = owA gG L0 X.2.2.2.2.1.heap.size) (hR : X.2.2.2.1 = { frames := 1, cells := 1, slots := 6, locals := 100 }) (x1 : Int32) (x2 : Int32) (S : ms) (hp : e_isDone_7 x1 x2 S K) : aw gG D z A X 3 7 [some (.ref o), some (.int x1), some (.int x2)] [] [(0, ly_M, (o, ad, S.1, S.2.1, S.2.2))] 0 0 := by
  obtain ⟨I, μ, h0, hs⟩ := hp
  have key : ∀ (n : Nat) (yx1 : Int32) (yx2 : Int32) (yS : ms), μ yx1 yx2 yS < n → I yx1 yx2 yS → aw gG D z A X 3 7 [some (.ref o), some (.int yx1), some (.int yx2)] [] [(0, ly_M, (o, ad, yS.1, yS.2.1, yS.2.2))] 0 0 := by
    intro n
    induction n with
    | zero => intro yx1 yx2 yS h; omega
    | succ n ih =>
      intro yx1 yx2 yS hn hI
      exact s_isDone_7 C hQ hA hR yx1 yx2 yS _ (fun zx1 zx2 zS hw => ih zx1 zx2 zS (by omega) hw.1) (hs yx1 yx2 yS hI)
  exact key (μ x1 x2 S + 1) x1 x2 S (Nat.lt_succ_self _) h0
set_option maxRecDepth 100000 in
set_option maxHeartbeats 1000000 in
theorem s_isDone_0 (C : fcx gG D z A X R_M c_M_isDone 3 (some .boolean)) (hQ : X.2.2.2.2.2.2.2.2.2.2 = eQ gG D z X.2.2.2.2.2.2.2.1 X.2.2.2.2.1 L0 0 0 (pM_i K o ad)) (hA : A = owA gG L0 X.2.2.2.2.1.heap.size) (hR : X.2.2.2.1 = { frames := 1, cells := 1, slots := 6, locals := 100 })  (S : ms) (hp : p_isDone  S K) : aw gG D z A X 3 0 [some (.ref o), none, none] [] [(0, ly_M, (o, ad, S.1, S.2.1, S.2.2))] 0 0 := by
  unfold p_isDone at hp
  refine a_aload_n C d_isDone_0 rfl rfl ?_
  refine a_getI C 0 43 d_isDone_1 rfl rfl rfl (Nat.le_of_ble_eq_true rfl) f_M_295 (Nat.le_of_ble_eq_true rfl) ?_
  refine a_istore_n (lo' := [some (.ref o), some (.int (S.1 43)), none]) C d_isDone_4 rfl (by decide) rfl ?_
  refine a_iconst (v := 0) C d_isDone_5 (by decide) ?_
  refine a_istore_n (lo' := [some (.ref o), some (.int (S.1 43)), some (.int 0)]) C d_isDone_6 rfl (by decide) rfl ?_
  refine aw_lo (lo' := [some (.ref o), some (.int (S.1 43)), some (.int 0)]) ⟨.inr rfl, .inr rfl, .inr rfl, trivial⟩ ?_
  exact se_isDone_7 C hQ hA hR (S.1 43) 0 S  hp
end M_isDone
section M_isDonec
variable {D : va_G} {z : Nat → ClassId} {o : Nat} {ad : Nat → Nat}
set_option maxRecDepth 100000 in
theorem ct_isDone {l : Launch}  (S : ms) {K : Int32 → ms → Prop} (hp : p_isDone  S K) : ct gG D z l n_M_isDone c_M_isDone 3 (some .boolean) 1 100 [.ref o] [(0, ly_M, (o, ad, S.1, S.2.1, S.2.2))] 0 0 (pM_i K o ad) := by
  refine ct_of (lo := [some (.ref o), none, none]) (by decide) g_ok (Nat.le_of_ble_eq_true rfl) rfl ?_
  intro X A _ C hR hQ hA _
  exact s_isDone_0 C hQ hA hR  S hp
end M_isDonec
def b_mayCome_99 (s0 : Int32) (S : ms) (K : Int32 → ms → Prop) : Prop :=
  narrow .boolean (.int s0) = .int s0 ∧ K s0 S
def b_mayCome_98  (S : ms) (K : Int32 → ms → Prop) : Prop :=
  b_mayCome_99 0 S K
def b_mayCome_94  (S : ms) (K : Int32 → ms → Prop) : Prop :=
  b_mayCome_99 1 S K
def b_mayCome_80 (x1 : Int32) (S : ms) (K : Int32 → ms → Prop) : Prop :=
  (¬ x1 = 217 → (b_mayCome_98 S K)) ∧ (x1 = 217 → (p_isDone S (fun v88 S88 => (v88 = 0 → (b_mayCome_98 (S88.1, S88.2.1, S88.2.2) K)) ∧ (¬ (v88 = 0) → (b_mayCome_94 (S88.1, S88.2.1, S88.2.2) K)))))
def b_mayCome_66 (x1 : Int32) (S : ms) (K : Int32 → ms → Prop) : Prop :=
  (¬ x1 = 218 → (b_mayCome_80 x1 S K)) ∧ (x1 = 218 → ((¬ (S.1 43) = 0 → (b_mayCome_94 S K)) ∧ ((S.1 43) = 0 → (b_mayCome_80 x1 S K))))
def b_mayCome_47 (x1 : Int32) (s0 : Int32) (S : ms) (K : Int32 → ms → Prop) : Prop :=
  (¬ s0 = 0 → (b_mayCome_94 S K)) ∧ (s0 = 0 → ((¬ x1 = 192 → (b_mayCome_66 x1 S K)) ∧ (x1 = 192 → (((S.1 43) = 0 → (b_mayCome_94 S K)) ∧ (¬ ((S.1 43) = 0) → (b_mayCome_66 x1 S K))))))
def b_mayCome_42 (x1 : Int32) (S : ms) (K : Int32 → ms → Prop) : Prop :=
  b_mayCome_47 x1 1 S K
def b_mayCome_35 (x1 : Int32) (S : ms) (K : Int32 → ms → Prop) : Prop :=
  (¬ x1 = 254 → (b_mayCome_47 x1 0 S K)) ∧ (x1 = 254 → (b_mayCome_42 x1 S K))
def p_mayCome (x1 : Int32) (S : ms) (K : Int32 → ms → Prop) : Prop :=
  (x1 = 219 → (b_mayCome_42 x1 S K)) ∧ (¬ (x1 = 219) → ((x1 = 196 → (b_mayCome_42 x1 S K)) ∧ (¬ (x1 = 196) → ((x1 = 221 → (b_mayCome_42 x1 S K)) ∧ (¬ (x1 = 221) → ((x1 < 224 → (b_mayCome_35 x1 S K)) ∧ (¬ (x1 < 224) → ((x1 < 240 → (b_mayCome_42 x1 S K)) ∧ (¬ (x1 < 240) → (b_mayCome_35 x1 S K))))))))))
section M_mayCome
variable {D : va_G} {z : Nat → ClassId} {A : Nat → Prop} {X : cx} {L0 : fw} {K : Int32 → ms → Prop} {o : Nat} {ad : Nat → Nat}
set_option maxRecDepth 100000 in
set_option maxHeartbeats 1000000 in
theorem s_mayCome_99 (C : fcx gG D z A X R_M c_M_mayCome 3 (some .boolean)) (hQ : X.2.2.2.2.2.2.2.2.2.2 = eQ gG D z X.2.2.2.2.2.2.2.1 X.2.2.2.2.1 L0 0 0 (pM_i K o ad)) (hA : A = owA gG L0 X.2.2.2.2.1.heap.size) (hR : X.2.2.2.1 = { frames := 2, cells := 1, slots := 6, locals := 200 }) (s0 : Int32) (S : ms) (hp : b_mayCome_99 s0 S K) : aw gG D z A X 3 99 [some (.ref o), none, none] [.int s0] [(0, ly_M, (o, ad, S.1, S.2.1, S.2.2))] 0 0 := by
  unfold b_mayCome_99 at hp
  exact a_iret (ty := .boolean) C hQ hA d_mayCome_99 rfl hp.1 ⟨_, S, hp.2, rfl, rfl⟩
set_option maxRecDepth 100000 in
set_option maxHeartbeats 1000000 in
theorem s_mayCome_98 (C : fcx gG D z A X R_M c_M_mayCome 3 (some .boolean)) (hQ : X.2.2.2.2.2.2.2.2.2.2 = eQ gG D z X.2.2.2.2.2.2.2.1 X.2.2.2.2.1 L0 0 0 (pM_i K o ad)) (hA : A = owA gG L0 X.2.2.2.2.1.heap.size) (hR : X.2.2.2.1 = { frames := 2, cells := 1, slots := 6, locals := 200 })  (S : ms) (hp : b_mayCome_98  S K) : aw gG D z A X 3 98 [some (.ref o), none, none] [] [(0, ly_M, (o, ad, S.1, S.2.1, S.2.2))] 0 0 := by
  unfold b_mayCome_98 at hp
  refine a_iconst (v := 0) C d_mayCome_98 (by decide) ?_
  refine aw_lo (lo' := [some (.ref o), none, none]) ⟨.inr rfl, .inr rfl, .inr rfl, trivial⟩ ?_
  exact s_mayCome_99 C hQ hA hR 0 S  hp
set_option maxRecDepth 100000 in
set_option maxHeartbeats 1000000 in
theorem s_mayCome_94 (C : fcx gG D z A X R_M c_M_mayCome 3 (some .boolean)) (hQ : X.2.2.2.2.2.2.2.2.2.2 = eQ gG D z X.2.2.2.2.2.2.2.1 X.2.2.2.2.1 L0 0 0 (pM_i K o ad)) (hA : A = owA gG L0 X.2.2.2.2.1.heap.size) (hR : X.2.2.2.1 = { frames := 2, cells := 1, slots := 6, locals := 200 })  (S : ms) (hp : b_mayCome_94  S K) : aw gG D z A X 3 94 [some (.ref o), none, none] [] [(0, ly_M, (o, ad, S.1, S.2.1, S.2.2))] 0 0 := by
  unfold b_mayCome_94 at hp
  refine a_iconst (v := 1) C d_mayCome_94 (by decide) ?_
  refine a_goto (tgt := 99) C d_mayCome_95 (by decide) ?_
  refine aw_lo (lo' := [some (.ref o), none, none]) ⟨.inr rfl, .inr rfl, .inr rfl, trivial⟩ ?_
  exact s_mayCome_99 C hQ hA hR 1 S  hp
set_option maxRecDepth 100000 in
set_option maxHeartbeats 1000000 in
theorem s_mayCome_80 (C : fcx gG D z A X R_M c_M_mayCome 3 (some .boolean)) (hQ : X.2.2.2.2.2.2.2.2.2.2 = eQ gG D z X.2.2.2.2.2.2.2.1 X.2.2.2.2.1 L0 0 0 (pM_i K o ad)) (hA : A = owA gG L0 X.2.2.2.2.1.heap.size) (hR : X.2.2.2.1 = { frames := 2, cells := 1, slots := 6, locals := 200 }) (x1 : Int32) (S : ms) (hp : b_mayCome_80 x1 S K) : aw gG D z A X 3 80 [some (.ref o), some (.int x1), none] [] [(0, ly_M, (o, ad, S.1, S.2.1, S.2.2))] 0 0 := by
  unfold b_mayCome_80 at hp
  refine a_iload_n C d_mayCome_80 rfl rfl ?_
  refine a_sipush (v := 217) C d_mayCome_81 (by decide) ?_
  refine a_icmp_ne (tgt := 98) C d_mayCome_84 (by decide) ⟨fun hc => ?_, fun hc => ?_⟩
  · have hp := hp.1 hc
    refine aw_lo (lo' := [some (.ref o), none, none]) ⟨.inr rfl, .inl rfl, .inr rfl, trivial⟩ ?_
    exact s_mayCome_98 C hQ hA hR S  hp
  · have hp := hp.2 hc
    refine a_aload_n C d_mayCome_87 rfl rfl ?_
    refine a_call (Lr := []) (rest := []) (av := .ref o :: []) C [0] [] d_mayCome_88 (ct_isDone S hp) cd_M_isDone i_M (Nat.le_of_ble_eq_true rfl) (by rw [hR]; exact Nat.le_of_ble_eq_true rfl) (by rw [hR]; exact Nat.le_of_ble_eq_true rfl) (by rw [hR]; exact Nat.le_of_ble_eq_true rfl) (by rw [hR]; exact Nat.le_of_ble_eq_true rfl) rfl rfl (by decide) (by decide) (by decide) (inv_V C 0 d_mayCome_88 l_M_357 im_M_isDone se_M_isDone cd_M_isDone ⟨by decide, by decide⟩ ln_M_isDone rfl rfl rfl rfl rfl) (fun oc L1 hL => ?_)
    obtain ⟨v88, S88, hp, rfl, rfl⟩ := hL
    refine ⟨_, rfl, ?_⟩
    refine aw_eq (lo' := _) (st' := [.int v88]) (L' := [(0, ly_M, (o, ad, S88.1, S88.2.1, S88.2.2))]) rfl rfl rfl ?_
    refine a_if_eq (tgt := 98) C d_mayCome_91 (by decide) ⟨fun hc => ?_, fun hc => ?_⟩
    · have hp := hp.1 hc
      refine aw_lo (lo' := [some (.ref o), none, none]) ⟨.inr rfl, .inl rfl, .inr rfl, trivial⟩ ?_
      exact s_mayCome_98 C hQ hA hR (S88.1, S88.2.1, S88.2.2)  hp
    · have hp := hp.2 hc
      refine aw_lo (lo' := [some (.ref o), none, none]) ⟨.inr rfl, .inl rfl, .inr rfl, trivial⟩ ?_
      exact s_mayCome_94 C hQ hA hR (S88.1, S88.2.1, S88.2.2)  hp
set_option maxRecDepth 100000 in
set_option maxHeartbeats 1000000 in
theorem s_mayCome_66 (C : fcx gG D z A X R_M c_M_mayCome 3 (some .boolean)) (hQ : X.2.2.2.2.2.2.2.2.2.2 = eQ gG D z X.2.2.2.2.2.2.2.1 X.2.2.2.2.1 L0 0 0 (pM_i K o ad)) (hA : A = owA gG L0 X.2.2.2.2.1.heap.size) (hR : X.2.2.2.1 = { frames := 2, cells := 1, slots := 6, locals := 200 }) (x1 : Int32) (S : ms) (hp : b_mayCome_66 x1 S K) : aw gG D z A X 3 66 [some (.ref o), some (.int x1), none] [] [(0, ly_M, (o, ad, S.1, S.2.1, S.2.2))] 0 0 := by
  unfold b_mayCome_66 at hp
  refine a_iload_n C d_mayCome_66 rfl rfl ?_
  refine a_sipush (v := 218) C d_mayCome_67 (by decide) ?_
  refine a_icmp_ne (tgt := 80) C d_mayCome_70 (by decide) ⟨fun hc => ?_, fun hc => ?_⟩
  · have hp := hp.1 hc
    refine aw_lo (lo' := [some (.ref o), some (.int x1), none]) ⟨.inr rfl, .inr rfl, .inr rfl, trivial⟩ ?_
    exact s_mayCome_80 C hQ hA hR x1 S  hp
  · have hp := hp.2 hc
    refine a_aload_n C d_mayCome_73 rfl rfl ?_
    refine a_getI C 0 43 d_mayCome_74 rfl rfl rfl (Nat.le_of_ble_eq_true rfl) f_M_295 (Nat.le_of_ble_eq_true rfl) ?_
    refine a_if_ne (tgt := 94) C d_mayCome_77 (by decide) ⟨fun hc => ?_, fun hc => ?_⟩
    · have hp := hp.1 hc
      refine aw_lo (lo' := [some (.ref o), none, none]) ⟨.inr rfl, .inl rfl, .inr rfl, trivial⟩ ?_
      exact s_mayCome_94 C hQ hA hR S  hp
    · have hp := hp.2 hc
      refine aw_lo (lo' := [some (.ref o), some (.int x1), none]) ⟨.inr rfl, .inr rfl, .inr rfl, trivial⟩ ?_
      exact s_mayCome_80 C hQ hA hR x1 S  hp
set_option maxRecDepth 100000 in
set_option maxHeartbeats 1000000 in
theorem s_mayCome_47 (C : fcx gG D z A X R_M c_M_mayCome 3 (some .boolean)) (hQ : X.2.2.2.2.2.2.2.2.2.2 = eQ gG D z X.2.2.2.2.2.2.2.1 X.2.2.2.2.1 L0 0 0 (pM_i K o ad)) (hA : A = owA gG L0 X.2.2.2.2.1.heap.size) (hR : X.2.2.2.1 = { frames := 2, cells := 1, slots := 6, locals := 200 }) (x1 : Int32) (s0 : Int32) (S : ms) (hp : b_mayCome_47 x1 s0 S K) : aw gG D z A X 3 47 [some (.ref o), some (.int x1), none] [.int s0] [(0, ly_M, (o, ad, S.1, S.2.1, S.2.2))] 0 0 := by
  unfold b_mayCome_47 at hp
  refine a_istore_n (lo' := [some (.ref o), some (.int x1), some (.int s0)]) C d_mayCome_47 rfl (by decide) rfl ?_
  refine a_iload_n C d_mayCome_48 rfl rfl ?_
  refine a_if_ne (tgt := 94) C d_mayCome_49 (by decide) ⟨fun hc => ?_, fun hc => ?_⟩
  · have hp := hp.1 hc
    refine aw_lo (lo' := [some (.ref o), none, none]) ⟨.inr rfl, .inl rfl, .inl rfl, trivial⟩ ?_
    exact s_mayCome_94 C hQ hA hR S  hp
  · have hp := hp.2 hc
    refine a_iload_n C d_mayCome_52 rfl rfl ?_
    refine a_sipush (v := 192) C d_mayCome_53 (by decide) ?_
    refine a_icmp_ne (tgt := 66) C d_mayCome_56 (by decide) ⟨fun hc => ?_, fun hc => ?_⟩
    · have hp := hp.1 hc
      refine aw_lo (lo' := [some (.ref o), some (.int x1), none]) ⟨.inr rfl, .inr rfl, .inl rfl, trivial⟩ ?_
      exact s_mayCome_66 C hQ hA hR x1 S  hp
    · have hp := hp.2 hc
      refine a_aload_n C d_mayCome_59 rfl rfl ?_
      refine a_getI C 0 43 d_mayCome_60 rfl rfl rfl (Nat.le_of_ble_eq_true rfl) f_M_295 (Nat.le_of_ble_eq_true rfl) ?_
      refine a_if_eq (tgt := 94) C d_mayCome_63 (by decide) ⟨fun hc => ?_, fun hc => ?_⟩
      · have hp := hp.1 hc
        refine aw_lo (lo' := [some (.ref o), none, none]) ⟨.inr rfl, .inl rfl, .inl rfl, trivial⟩ ?_
        exact s_mayCome_94 C hQ hA hR S  hp
      · have hp := hp.2 hc
        refine aw_lo (lo' := [some (.ref o), some (.int x1), none]) ⟨.inr rfl, .inr rfl, .inl rfl, trivial⟩ ?_
        exact s_mayCome_66 C hQ hA hR x1 S  hp
set_option maxRecDepth 100000 in
set_option maxHeartbeats 1000000 in
theorem s_mayCome_42 (C : fcx gG D z A X R_M c_M_mayCome 3 (some .boolean)) (hQ : X.2.2.2.2.2.2.2.2.2.2 = eQ gG D z X.2.2.2.2.2.2.2.1 X.2.2.2.2.1 L0 0 0 (pM_i K o ad)) (hA : A = owA gG L0 X.2.2.2.2.1.heap.size) (hR : X.2.2.2.1 = { frames := 2, cells := 1, slots := 6, locals := 200 }) (x1 : Int32) (S : ms) (hp : b_mayCome_42 x1 S K) : aw gG D z A X 3 42 [some (.ref o), some (.int x1), none] [] [(0, ly_M, (o, ad, S.1, S.2.1, S.2.2))] 0 0 := by
  unfold b_mayCome_42 at hp
  refine a_iconst (v := 1) C d_mayCome_42 (by decide) ?_
  refine a_goto (tgt := 47) C d_mayCome_43 (by decide) ?_
  refine aw_lo (lo' := [some (.ref o), some (.int x1), none]) ⟨.inr rfl, .inr rfl, .inr rfl, trivial⟩ ?_
  exact s_mayCome_47 C hQ hA hR x1 1 S  hp
set_option maxRecDepth 100000 in
set_option maxHeartbeats 1000000 in
theorem s_mayCome_35 (C : fcx gG D z A X R_M c_M_mayCome 3 (some .boolean)) (hQ : X.2.2.2.2.2.2.2.2.2.2 = eQ gG D z X.2.2.2.2.2.2.2.1 X.2.2.2.2.1 L0 0 0 (pM_i K o ad)) (hA : A = owA gG L0 X.2.2.2.2.1.heap.size) (hR : X.2.2.2.1 = { frames := 2, cells := 1, slots := 6, locals := 200 }) (x1 : Int32) (S : ms) (hp : b_mayCome_35 x1 S K) : aw gG D z A X 3 35 [some (.ref o), some (.int x1), none] [] [(0, ly_M, (o, ad, S.1, S.2.1, S.2.2))] 0 0 := by
  unfold b_mayCome_35 at hp
  refine a_iload_n C d_mayCome_35 rfl rfl ?_
  refine a_sipush (v := 254) C d_mayCome_36 (by decide) ?_
  refine a_icmp_ne (tgt := 46) C d_mayCome_39 (by decide) ⟨fun hc => ?_, fun hc => ?_⟩
  · have hp := hp.1 hc
    refine a_iconst (v := 0) C d_mayCome_46 (by decide) ?_
    refine aw_lo (lo' := [some (.ref o), some (.int x1), none]) ⟨.inr rfl, .inr rfl, .inr rfl, trivial⟩ ?_
    exact s_mayCome_47 C hQ hA hR x1 0 S  hp
  · have hp := hp.2 hc
    refine aw_lo (lo' := [some (.ref o), some (.int x1), none]) ⟨.inr rfl, .inr rfl, .inr rfl, trivial⟩ ?_
    exact s_mayCome_42 C hQ hA hR x1 S  hp
set_option maxRecDepth 100000 in
set_option maxHeartbeats 1000000 in
theorem s_mayCome_0 (C : fcx gG D z A X R_M c_M_mayCome 3 (some .boolean)) (hQ : X.2.2.2.2.2.2.2.2.2.2 = eQ gG D z X.2.2.2.2.2.2.2.1 X.2.2.2.2.1 L0 0 0 (pM_i K o ad)) (hA : A = owA gG L0 X.2.2.2.2.1.heap.size) (hR : X.2.2.2.1 = { frames := 2, cells := 1, slots := 6, locals := 200 }) (x1 : Int32) (S : ms) (hp : p_mayCome x1 S K) : aw gG D z A X 3 0 [some (.ref o), some (.int x1), none] [] [(0, ly_M, (o, ad, S.1, S.2.1, S.2.2))] 0 0 := by
  unfold p_mayCome at hp
  refine a_iload_n C d_mayCome_0 rfl rfl ?_
  refine a_sipush (v := 219) C d_mayCome_1 (by decide) ?_
  refine a_icmp_eq (tgt := 42) C d_mayCome_4 (by decide) ⟨fun hc => ?_, fun hc => ?_⟩
  · have hp := hp.1 hc
    refine aw_lo (lo' := [some (.ref o), some (.int x1), none]) ⟨.inr rfl, .inr rfl, .inr rfl, trivial⟩ ?_
    exact s_mayCome_42 C hQ hA hR x1 S  hp
  · have hp := hp.2 hc
    refine a_iload_n C d_mayCome_7 rfl rfl ?_
    refine a_sipush (v := 196) C d_mayCome_8 (by decide) ?_
    refine a_icmp_eq (tgt := 42) C d_mayCome_11 (by decide) ⟨fun hc => ?_, fun hc => ?_⟩
    · have hp := hp.1 hc
      refine aw_lo (lo' := [some (.ref o), some (.int x1), none]) ⟨.inr rfl, .inr rfl, .inr rfl, trivial⟩ ?_
      exact s_mayCome_42 C hQ hA hR x1 S  hp
    · have hp := hp.2 hc
      refine a_iload_n C d_mayCome_14 rfl rfl ?_
      refine a_sipush (v := 221) C d_mayCome_15 (by decide) ?_
      refine a_icmp_eq (tgt := 42) C d_mayCome_18 (by decide) ⟨fun hc => ?_, fun hc => ?_⟩
      · have hp := hp.1 hc
        refine aw_lo (lo' := [some (.ref o), some (.int x1), none]) ⟨.inr rfl, .inr rfl, .inr rfl, trivial⟩ ?_
        exact s_mayCome_42 C hQ hA hR x1 S  hp
      · have hp := hp.2 hc
        refine a_iload_n C d_mayCome_21 rfl rfl ?_
        refine a_sipush (v := 224) C d_mayCome_22 (by decide) ?_
        refine a_icmp_lt (tgt := 35) C d_mayCome_25 (by decide) ⟨fun hc => ?_, fun hc => ?_⟩
        · have hp := hp.1 hc
          refine aw_lo (lo' := [some (.ref o), some (.int x1), none]) ⟨.inr rfl, .inr rfl, .inr rfl, trivial⟩ ?_
          exact s_mayCome_35 C hQ hA hR x1 S  hp
        · have hp := hp.2 hc
          refine a_iload_n C d_mayCome_28 rfl rfl ?_
          refine a_sipush (v := 240) C d_mayCome_29 (by decide) ?_
          refine a_icmp_lt (tgt := 42) C d_mayCome_32 (by decide) ⟨fun hc => ?_, fun hc => ?_⟩
          · have hp := hp.1 hc
            refine aw_lo (lo' := [some (.ref o), some (.int x1), none]) ⟨.inr rfl, .inr rfl, .inr rfl, trivial⟩ ?_
            exact s_mayCome_42 C hQ hA hR x1 S  hp
          · have hp := hp.2 hc
            refine aw_lo (lo' := [some (.ref o), some (.int x1), none]) ⟨.inr rfl, .inr rfl, .inr rfl, trivial⟩ ?_
            exact s_mayCome_35 C hQ hA hR x1 S  hp
end M_mayCome
section M_mayComec
variable {D : va_G} {z : Nat → ClassId} {o : Nat} {ad : Nat → Nat}
set_option maxRecDepth 100000 in
theorem ct_mayCome {l : Launch} (x1 : Int32) (S : ms) {K : Int32 → ms → Prop} (hp : p_mayCome x1 S K) : ct gG D z l n_M_mayCome c_M_mayCome 3 (some .boolean) 2 200 [.ref o, .int x1] [(0, ly_M, (o, ad, S.1, S.2.1, S.2.2))] 0 0 (pM_i K o ad) := by
  refine ct_of (lo := [some (.ref o), some (.int x1), none]) (by decide) g_ok (Nat.le_of_ble_eq_true rfl) rfl ?_
  intro X A _ C hR hQ hA _
  exact s_mayCome_0 C hQ hA hR x1 S hp
end M_mayComec
def b_begin_61 (x1 : Int32) (S : ms) (R61 : Int32 → ms → Prop) (K : ms → Prop) : Prop :=
  (3 ≤ x1 → (K S)) ∧ (¬ (3 ≤ x1) → (vp_in x1 3 ∧ (R61 (x1 + 1) (S.1, va_up S.2.1 47 (upd (S.2.1 47) x1.toNatClampNeg (vp_nar .boolean 0)), S.2.2))))
def e_begin_61 (x1 : Int32) (S : ms) (K : ms → Prop) : Prop :=
  ∃ (I : Int32 → ms → Prop) (μ : Int32 → ms → Nat), I x1 S ∧ ∀ yx1 yS, I yx1 yS → b_begin_61 yx1 yS (fun zx1 zS => I zx1 zS ∧ μ zx1 zS < μ yx1 yS) K
def b_begin_34 (x1 : Int32) (S : ms) (R34 : Int32 → ms → Prop) (K : ms → Prop) : Prop :=
  (4 ≤ x1 → (e_begin_61 0 S K)) ∧ (¬ (4 ≤ x1) → (vp_in x1 4 ∧ (vp_in x1 4 ∧ (R34 (x1 + 1) (S.1, va_up (va_up S.2.1 39 (upd (S.2.1 39) x1.toNatClampNeg (vp_nar .boolean 0))) 42 (upd ((va_up S.2.1 39 (upd (S.2.1 39) x1.toNatClampNeg (vp_nar .boolean 0))) 42) x1.toNatClampNeg (vp_nar .boolean 0)), S.2.2)))))
def e_begin_34 (x1 : Int32) (S : ms) (K : ms → Prop) : Prop :=
  ∃ (I : Int32 → ms → Prop) (μ : Int32 → ms → Nat), I x1 S ∧ ∀ yx1 yS, I yx1 yS → b_begin_34 yx1 yS (fun zx1 zS => I zx1 zS ∧ μ zx1 zS < μ yx1 yS) K
def p_begin  (S : ms) (K : ms → Prop) : Prop :=
  vp_in 2 3 ∧ (e_begin_34 0 (upd (upd (upd (upd (upd S.1 34 0) 35 0) 10 (-1)) 43 0) 48 0, va_up S.2.1 14 (upd (S.2.1 14) (2 : Int32).toNatClampNeg 0), S.2.2) K)
section M_begin
variable {D : va_G} {z : Nat → ClassId} {A : Nat → Prop} {X : cx} {L0 : fw} {K : ms → Prop} {o : Nat} {ad : Nat → Nat}
set_option maxRecDepth 100000 in
set_option maxHeartbeats 1000000 in
theorem s_begin_61 (C : fcx gG D z A X R_M c_M_begin 2 (none)) (hQ : X.2.2.2.2.2.2.2.2.2.2 = eQ gG D z X.2.2.2.2.2.2.2.1 X.2.2.2.2.1 L0 0 0 (pM_v K o ad)) (hA : A = owA gG L0 X.2.2.2.2.1.heap.size) (hR : X.2.2.2.1 = { frames := 1, cells := 1, slots := 6, locals := 100 }) (x1 : Int32) (S : ms) (R61 : Int32 → ms → Prop) (hR61 : ∀ yx1 yS, R61 yx1 yS → aw gG D z A X 2 61 [some (.ref o), some (.int yx1)] [] [(0, ly_M, (o, ad, yS.1, yS.2.1, yS.2.2))] 0 0) (hp : b_begin_61 x1 S R61 K) : aw gG D z A X 2 61 [some (.ref o), some (.int x1)] [] [(0, ly_M, (o, ad, S.1, S.2.1, S.2.2))] 0 0 := by
  unfold b_begin_61 at hp
  refine a_iload_n C d_begin_61 rfl rfl ?_
  refine a_iconst (v := 3) C d_begin_62 (by decide) ?_
  refine a_icmp_ge (tgt := 79) C d_begin_63 (by decide) ⟨fun hc => ?_, fun hc => ?_⟩
  · have hp := hp.1 hc
    exact a_vret C hQ hA d_begin_79 rfl ⟨S, hp, rfl, rfl⟩
  · have hp := hp.2 hc
    refine a_aload_n C d_begin_66 rfl rfl ?_
    refine a_getR C 0 47 d_begin_67 rfl rfl rfl (Nat.le_of_ble_eq_true rfl) f_M_127 ⟨Nat.le_of_ble_eq_true rfl, Nat.le_of_ble_eq_true rfl⟩ ?_
    refine a_iload_n C d_begin_70 rfl rfl ?_
    refine a_iconst (v := 0) C d_begin_71 (by decide) ?_
    refine a_zast C 0 47 d_begin_72 rfl rfl rfl hp.1 ?_
    have hp := hp.2
    refine aw_eq (lo' := _) (st' := _) (L' := [(0, ly_M, (o, ad, S.1, va_up S.2.1 47 (upd (S.2.1 47) x1.toNatClampNeg (vp_nar .boolean 0)), S.2.2))]) rfl rfl rfl ?_
    refine a_iinc (v := x1 + 1) (lo' := [some (.ref o), some (.int (x1 + 1))]) C d_begin_73 rfl rfl (by decide) rfl ?_
    refine a_goto (tgt := 61) C d_begin_76 (by decide) ?_
    refine aw_lo (lo' := [some (.ref o), some (.int (x1 + 1))]) ⟨.inr rfl, .inr rfl, trivial⟩ ?_
    exact hR61 (x1 + 1) (S.1, va_up S.2.1 47 (upd (S.2.1 47) x1.toNatClampNeg (vp_nar .boolean 0)), S.2.2) hp
set_option maxRecDepth 100000 in
set_option maxHeartbeats 1000000 in
theorem se_begin_61 (C : fcx gG D z A X R_M c_M_begin 2 (none)) (hQ : X.2.2.2.2.2.2.2.2.2.2 = eQ gG D z X.2.2.2.2.2.2.2.1 X.2.2.2.2.1 L0 0 0 (pM_v K o ad)) (hA : A = owA gG L0 X.2.2.2.2.1.heap.size) (hR : X.2.2.2.1 = { frames := 1, cells := 1, slots := 6, locals := 100 }) (x1 : Int32) (S : ms) (hp : e_begin_61 x1 S K) : aw gG D z A X 2 61 [some (.ref o), some (.int x1)] [] [(0, ly_M, (o, ad, S.1, S.2.1, S.2.2))] 0 0 := by
  obtain ⟨I, μ, h0, hs⟩ := hp
  have key : ∀ (n : Nat) (yx1 : Int32) (yS : ms), μ yx1 yS < n → I yx1 yS → aw gG D z A X 2 61 [some (.ref o), some (.int yx1)] [] [(0, ly_M, (o, ad, yS.1, yS.2.1, yS.2.2))] 0 0 := by
    intro n
    induction n with
    | zero => intro yx1 yS h; omega
    | succ n ih =>
      intro yx1 yS hn hI
      exact s_begin_61 C hQ hA hR yx1 yS _ (fun zx1 zS hw => ih zx1 zS (by omega) hw.1) (hs yx1 yS hI)
  exact key (μ x1 S + 1) x1 S (Nat.lt_succ_self _) h0
set_option maxRecDepth 100000 in
set_option maxHeartbeats 1000000 in
theorem s_begin_34 (C : fcx gG D z A X R_M c_M_begin 2 (none)) (hQ : X.2.2.2.2.2.2.2.2.2.2 = eQ gG D z X.2.2.2.2.2.2.2.1 X.2.2.2.2.1 L0 0 0 (pM_v K o ad)) (hA : A = owA gG L0 X.2.2.2.2.1.heap.size) (hR : X.2.2.2.1 = { frames := 1, cells := 1, slots := 6, locals := 100 }) (x1 : Int32) (S : ms) (R34 : Int32 → ms → Prop) (hR34 : ∀ yx1 yS, R34 yx1 yS → aw gG D z A X 2 34 [some (.ref o), some (.int yx1)] [] [(0, ly_M, (o, ad, yS.1, yS.2.1, yS.2.2))] 0 0) (hp : b_begin_34 x1 S R34 K) : aw gG D z A X 2 34 [some (.ref o), some (.int x1)] [] [(0, ly_M, (o, ad, S.1, S.2.1, S.2.2))] 0 0 := by
  unfold b_begin_34 at hp
  refine a_iload_n C d_begin_34 rfl rfl ?_
  refine a_iconst (v := 4) C d_begin_35 (by decide) ?_
  refine a_icmp_ge (tgt := 59) C d_begin_36 (by decide) ⟨fun hc => ?_, fun hc => ?_⟩
  · have hp := hp.1 hc
    refine a_iconst (v := 0) C d_begin_59 (by decide) ?_
    refine a_istore_n (lo' := [some (.ref o), some (.int 0)]) C d_begin_60 rfl (by decide) rfl ?_
    refine aw_lo (lo' := [some (.ref o), some (.int 0)]) ⟨.inr rfl, .inr rfl, trivial⟩ ?_
    exact se_begin_61 C hQ hA hR 0 S  hp
  · have hp := hp.2 hc
    refine a_aload_n C d_begin_39 rfl rfl ?_
    refine a_getR C 0 39 d_begin_40 rfl rfl rfl (Nat.le_of_ble_eq_true rfl) f_M_106 ⟨Nat.le_of_ble_eq_true rfl, Nat.le_of_ble_eq_true rfl⟩ ?_
    refine a_iload_n C d_begin_43 rfl rfl ?_
    refine a_iconst (v := 0) C d_begin_44 (by decide) ?_
    refine a_zast C 0 39 d_begin_45 rfl rfl rfl hp.1 ?_
    have hp := hp.2
    refine aw_eq (lo' := _) (st' := _) (L' := [(0, ly_M, (o, ad, S.1, va_up S.2.1 39 (upd (S.2.1 39) x1.toNatClampNeg (vp_nar .boolean 0)), S.2.2))]) rfl rfl rfl ?_
    refine a_aload_n C d_begin_46 rfl rfl ?_
    refine a_getR C 0 42 d_begin_47 rfl rfl rfl (Nat.le_of_ble_eq_true rfl) f_M_115 ⟨Nat.le_of_ble_eq_true rfl, Nat.le_of_ble_eq_true rfl⟩ ?_
    refine a_iload_n C d_begin_50 rfl rfl ?_
    refine a_iconst (v := 0) C d_begin_51 (by decide) ?_
    refine a_zast C 0 42 d_begin_52 rfl rfl rfl hp.1 ?_
    have hp := hp.2
    refine aw_eq (lo' := _) (st' := _) (L' := [(0, ly_M, (o, ad, S.1, va_up (va_up S.2.1 39 (upd (S.2.1 39) x1.toNatClampNeg (vp_nar .boolean 0))) 42 (upd ((va_up S.2.1 39 (upd (S.2.1 39) x1.toNatClampNeg (vp_nar .boolean 0))) 42) x1.toNatClampNeg (vp_nar .boolean 0)), S.2.2))]) rfl rfl rfl ?_
    refine a_iinc (v := x1 + 1) (lo' := [some (.ref o), some (.int (x1 + 1))]) C d_begin_53 rfl rfl (by decide) rfl ?_
    refine a_goto (tgt := 34) C d_begin_56 (by decide) ?_
    refine aw_lo (lo' := [some (.ref o), some (.int (x1 + 1))]) ⟨.inr rfl, .inr rfl, trivial⟩ ?_
    exact hR34 (x1 + 1) (S.1, va_up (va_up S.2.1 39 (upd (S.2.1 39) x1.toNatClampNeg (vp_nar .boolean 0))) 42 (upd ((va_up S.2.1 39 (upd (S.2.1 39) x1.toNatClampNeg (vp_nar .boolean 0))) 42) x1.toNatClampNeg (vp_nar .boolean 0)), S.2.2) hp
set_option maxRecDepth 100000 in
set_option maxHeartbeats 1000000 in
theorem se_begin_34 (C : fcx gG D z A X R_M c_M_begin 2 (none)) (hQ : X.2.2.2.2.2.2.2.2.2.2 = eQ gG D z X.2.2.2.2.2.2.2.1 X.2.2.2.2.1 L0 0 0 (pM_v K o ad)) (hA : A = owA gG L0 X.2.2.2.2.1.heap.size) (hR : X.2.2.2.1 = { frames := 1, cells := 1, slots := 6, locals := 100 }) (x1 : Int32) (S : ms) (hp : e_begin_34 x1 S K) : aw gG D z A X 2 34 [some (.ref o), some (.int x1)] [] [(0, ly_M, (o, ad, S.1, S.2.1, S.2.2))] 0 0 := by
  obtain ⟨I, μ, h0, hs⟩ := hp
  have key : ∀ (n : Nat) (yx1 : Int32) (yS : ms), μ yx1 yS < n → I yx1 yS → aw gG D z A X 2 34 [some (.ref o), some (.int yx1)] [] [(0, ly_M, (o, ad, yS.1, yS.2.1, yS.2.2))] 0 0 := by
    intro n
    induction n with
    | zero => intro yx1 yS h; omega
    | succ n ih =>
      intro yx1 yS hn hI
      exact s_begin_34 C hQ hA hR yx1 yS _ (fun zx1 zS hw => ih zx1 zS (by omega) hw.1) (hs yx1 yS hI)
  exact key (μ x1 S + 1) x1 S (Nat.lt_succ_self _) h0
set_option maxRecDepth 100000 in
set_option maxHeartbeats 1000000 in
theorem s_begin_0 (C : fcx gG D z A X R_M c_M_begin 2 (none)) (hQ : X.2.2.2.2.2.2.2.2.2.2 = eQ gG D z X.2.2.2.2.2.2.2.1 X.2.2.2.2.1 L0 0 0 (pM_v K o ad)) (hA : A = owA gG L0 X.2.2.2.2.1.heap.size) (hR : X.2.2.2.1 = { frames := 1, cells := 1, slots := 6, locals := 100 })  (S : ms) (hp : p_begin  S K) : aw gG D z A X 2 0 [some (.ref o), none] [] [(0, ly_M, (o, ad, S.1, S.2.1, S.2.2))] 0 0 := by
  unfold p_begin at hp
  refine a_aload_n C d_begin_0 rfl rfl ?_
  refine a_iconst (v := 0) C d_begin_1 (by decide) ?_
  refine a_putI (ty := .int) C 0 34 d_begin_2 rfl rfl rfl (Nat.le_of_ble_eq_true rfl) f_M_268 (Nat.le_of_ble_eq_true rfl) rfl rfl rfl rfl ?_
  refine aw_eq (lo' := _) (st' := _) (L' := [(0, ly_M, (o, ad, upd S.1 34 0, S.2.1, S.2.2))]) rfl rfl rfl ?_
  refine a_aload_n C d_begin_5 rfl rfl ?_
  refine a_iconst (v := 0) C d_begin_6 (by decide) ?_
  refine a_putI (ty := .int) C 0 35 d_begin_7 rfl rfl rfl (Nat.le_of_ble_eq_true rfl) f_M_265 (Nat.le_of_ble_eq_true rfl) rfl rfl rfl rfl ?_
  refine aw_eq (lo' := _) (st' := _) (L' := [(0, ly_M, (o, ad, upd (upd S.1 34 0) 35 0, S.2.1, S.2.2))]) rfl rfl rfl ?_
  refine a_aload_n C d_begin_10 rfl rfl ?_
  refine a_iconst (v := (-1)) C d_begin_11 (by decide) ?_
  refine a_putI (ty := .int) C 0 10 d_begin_12 rfl rfl rfl (Nat.le_of_ble_eq_true rfl) f_M_34 (Nat.le_of_ble_eq_true rfl) rfl rfl rfl rfl ?_
  refine aw_eq (lo' := _) (st' := _) (L' := [(0, ly_M, (o, ad, upd (upd (upd S.1 34 0) 35 0) 10 (-1), S.2.1, S.2.2))]) rfl rfl rfl ?_
  refine a_aload_n C d_begin_15 rfl rfl ?_
  refine a_iconst (v := 0) C d_begin_16 (by decide) ?_
  refine a_putI (ty := .boolean) C 0 43 d_begin_17 rfl rfl rfl (Nat.le_of_ble_eq_true rfl) f_M_295 (Nat.le_of_ble_eq_true rfl) rfl rfl rfl rfl ?_
  refine aw_eq (lo' := _) (st' := _) (L' := [(0, ly_M, (o, ad, upd (upd (upd (upd S.1 34 0) 35 0) 10 (-1)) 43 0, S.2.1, S.2.2))]) rfl rfl rfl ?_
  refine a_aload_n C d_begin_20 rfl rfl ?_
  refine a_iconst (v := 0) C d_begin_21 (by decide) ?_
  refine a_putI (ty := .int) C 0 48 d_begin_22 rfl rfl rfl (Nat.le_of_ble_eq_true rfl) f_M_330 (Nat.le_of_ble_eq_true rfl) rfl rfl rfl rfl ?_
  refine aw_eq (lo' := _) (st' := _) (L' := [(0, ly_M, (o, ad, upd (upd (upd (upd (upd S.1 34 0) 35 0) 10 (-1)) 43 0) 48 0, S.2.1, S.2.2))]) rfl rfl rfl ?_
  refine a_aload_n C d_begin_25 rfl rfl ?_
  refine a_getR C 0 14 d_begin_26 rfl rfl rfl (Nat.le_of_ble_eq_true rfl) f_M_47 ⟨Nat.le_of_ble_eq_true rfl, Nat.le_of_ble_eq_true rfl⟩ ?_
  refine a_iconst (v := 2) C d_begin_29 (by decide) ?_
  refine a_iconst (v := 0) C d_begin_30 (by decide) ?_
  refine a_iast C 0 14 d_begin_31 rfl rfl rfl hp.1 ?_
  have hp := hp.2
  refine aw_eq (lo' := _) (st' := _) (L' := [(0, ly_M, (o, ad, upd (upd (upd (upd (upd S.1 34 0) 35 0) 10 (-1)) 43 0) 48 0, va_up S.2.1 14 (upd (S.2.1 14) (2 : Int32).toNatClampNeg 0), S.2.2))]) rfl rfl rfl ?_
  refine a_iconst (v := 0) C d_begin_32 (by decide) ?_
  refine a_istore_n (lo' := [some (.ref o), some (.int 0)]) C d_begin_33 rfl (by decide) rfl ?_
  refine aw_lo (lo' := [some (.ref o), some (.int 0)]) ⟨.inr rfl, .inr rfl, trivial⟩ ?_
  exact se_begin_34 C hQ hA hR 0 (upd (upd (upd (upd (upd S.1 34 0) 35 0) 10 (-1)) 43 0) 48 0, va_up S.2.1 14 (upd (S.2.1 14) (2 : Int32).toNatClampNeg 0), S.2.2)  hp
end M_begin
section M_beginc
variable {D : va_G} {z : Nat → ClassId} {o : Nat} {ad : Nat → Nat}
set_option maxRecDepth 100000 in
theorem ct_begin {l : Launch}  (S : ms) {K : ms → Prop} (hp : p_begin  S K) : ct gG D z l n_M_begin c_M_begin 2 (none) 1 100 [.ref o] [(0, ly_M, (o, ad, S.1, S.2.1, S.2.2))] 0 0 (pM_v K o ad) := by
  refine ct_of (lo := [some (.ref o), none]) (by decide) g_ok (Nat.le_of_ble_eq_true rfl) rfl ?_
  intro X A _ C hR hQ hA _
  exact s_begin_0 C hQ hA hR  S hp
end M_beginc
