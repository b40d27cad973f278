def b_makeGrids_109 (x1 : Int32) (x4 : Int32) (S : ms) (R109 : Int32 → Int32 → ms → Prop) (K : ms → Prop) : Prop :=
  (12288 ≤ x4 → (K S)) ∧ (¬ (12288 ≤ x4) → (vp_in ((12288 * x1) + x4) 36864 ∧ (R109 x1 (x4 + 1) (S.1, va_up S.2.1 19 (upd (S.2.1 19) ((12288 * x1) + x4).toNatClampNeg 0), S.2.2))))
def e_makeGrids_109 (x1 : Int32) (x4 : Int32) (S : ms) (K : ms → Prop) : Prop :=
  ∃ (I : Int32 → Int32 → ms → Prop) (μ : Int32 → Int32 → ms → Nat), I x1 x4 S ∧ ∀ yx1 yx4 yS, I yx1 yx4 yS → b_makeGrids_109 yx1 yx4 yS (fun zx1 zx4 zS => I zx1 zx4 zS ∧ μ zx1 zx4 zS < μ yx1 yx4 yS) K
def b_makeGrids_17 (x1 : Int32) (x2 : Int32) (x3 : Int32) (x4 : Int32) (S : ms) (R17 : Int32 → Int32 → Int32 → Int32 → ms → Prop) (K : ms → Prop) : Prop :=
  vp_in x1 3 ∧ (((S.2.1 14 x1.toNatClampNeg) ≤ x4 → (e_makeGrids_109 x1 0 S K)) ∧ (¬ ((S.2.1 14 x1.toNatClampNeg) ≤ x4) → (vp_in ((3 * x1) + x4) 9 ∧ (vp_in x1 3 ∧ (p_upward (S.2.1 12 x1.toNatClampNeg) (8 * x2) (fun v59 => vp_in ((3 * x1) + x4) 9 ∧ (vp_in ((3 * x1) + x4) 9 ∧ (vp_in x1 3 ∧ (p_upward ((va_up S.2.1 17 (upd (S.2.1 17) ((3 * x1) + x4).toNatClampNeg ((S.2.1 15 ((3 * x1) + x4).toNatClampNeg) * v59))) 13 x1.toNatClampNeg) (8 * x3) (fun v95 => vp_in ((3 * x1) + x4) 9 ∧ (R17 x1 x2 x3 (x4 + 1) (S.1, va_up (va_up S.2.1 17 (upd (S.2.1 17) ((3 * x1) + x4).toNatClampNeg ((S.2.1 15 ((3 * x1) + x4).toNatClampNeg) * v59))) 18 (upd ((va_up S.2.1 17 (upd (S.2.1 17) ((3 * x1) + x4).toNatClampNeg ((S.2.1 15 ((3 * x1) + x4).toNatClampNeg) * v59))) 18) ((3 * x1) + x4).toNatClampNeg (((va_up S.2.1 17 (upd (S.2.1 17) ((3 * x1) + x4).toNatClampNeg ((S.2.1 15 ((3 * x1) + x4).toNatClampNeg) * v59))) 16 ((3 * x1) + x4).toNatClampNeg) * v95)), S.2.2))))))))))))
def e_makeGrids_17 (x1 : Int32) (x2 : Int32) (x3 : Int32) (x4 : Int32) (S : ms) (K : ms → Prop) : Prop :=
  ∃ (I : Int32 → Int32 → Int32 → Int32 → ms → Prop) (μ : Int32 → Int32 → Int32 → Int32 → ms → Nat), I x1 x2 x3 x4 S ∧ ∀ yx1 yx2 yx3 yx4 yS, I yx1 yx2 yx3 yx4 yS → b_makeGrids_17 yx1 yx2 yx3 yx4 yS (fun zx1 zx2 zx3 zx4 zS => I zx1 zx2 zx3 zx4 zS ∧ μ zx1 zx2 zx3 zx4 zS < μ yx1 yx2 yx3 yx4 yS) K
def p_makeGrids (x1 : Int32) (S : ms) (K : ms → Prop) : Prop :=
  p_greatest x1 1 S (fun v3 S3 => p_greatest x1 0 (S3.1, S3.2.1, S3.2.2) (fun v10 S10 => e_makeGrids_17 x1 v3 v10 0 (S10.1, S10.2.1, S10.2.2) K))
section M_makeGrids
variable {D : va_G} {z : Nat → ClassId} {A : Nat → Prop} {X : cx} {L0 : fw} {K : ms → Prop} {o : Nat} {ad : Nat → Nat}
set_option maxRecDepth 100000 in
set_option maxHeartbeats 1000000 in
theorem s_makeGrids_109 (C : fcx gG D z A X R_M c_M_makeGrids 5 (none)) (hQ : X.2.2.2.2.2.2.2.2.2.2 = eQ gG D z X.2.2.2.2.2.2.2.1 X.2.2.2.2.1 L0 0 0 (pM_v K o ad)) (hA : A = owA gG L0 X.2.2.2.2.1.heap.size) (hR : X.2.2.2.1 = { frames := 2, cells := 1, slots := 6, locals := 200 }) (x1 : Int32) (x4 : Int32) (S : ms) (R109 : Int32 → Int32 → ms → Prop) (hR109 : ∀ yx1 yx4 yS, R109 yx1 yx4 yS → aw gG D z A X 5 109 [some (.ref o), some (.int yx1), none, none, some (.int yx4)] [] [(0, ly_M, (o, ad, yS.1, yS.2.1, yS.2.2))] 0 0) (hp : b_makeGrids_109 x1 x4 S R109 K) : aw gG D z A X 5 109 [some (.ref o), some (.int x1), none, none, some (.int x4)] [] [(0, ly_M, (o, ad, S.1, S.2.1, S.2.2))] 0 0 := by
  unfold b_makeGrids_109 at hp
  refine a_iload C d_makeGrids_109 rfl ?_
  refine a_sipush (v := 12288) C d_makeGrids_111 (by decide) ?_
  refine a_icmp_ge (tgt := 137) C d_makeGrids_114 (by decide) ⟨fun hc => ?_, fun hc => ?_⟩
  · have hp := hp.1 hc
    exact a_vret C hQ hA d_makeGrids_137 rfl ⟨S, hp, rfl, rfl⟩
  · have hp := hp.2 hc
    refine a_aload_n C d_makeGrids_117 rfl rfl ?_
    refine a_getR C 0 19 d_makeGrids_118 rfl rfl rfl (Nat.le_of_ble_eq_true rfl) f_M_63 ⟨Nat.le_of_ble_eq_true rfl, Nat.le_of_ble_eq_true rfl⟩ ?_
    refine a_sipush (v := 12288) C d_makeGrids_121 (by decide) ?_
    refine a_iload_n C d_makeGrids_124 rfl rfl ?_
    refine a_imul C d_makeGrids_125 ?_
    refine a_iload C d_makeGrids_126 rfl ?_
    refine a_iadd C d_makeGrids_128 ?_
    refine a_iconst (v := 0) C d_makeGrids_129 (by decide) ?_
    refine a_iast C 0 19 d_makeGrids_130 rfl rfl rfl hp.1 ?_
    have hp := hp.2
    refine aw_eq (lo' := _) (st' := _) (L' := [(0, ly_M, (o, ad, S.1, va_up S.2.1 19 (upd (S.2.1 19) ((12288 * x1) + x4).toNatClampNeg 0), S.2.2))]) rfl rfl rfl ?_
    refine a_iinc (v := x4 + 1) (lo' := [some (.ref o), some (.int x1), none, none, some (.int (x4 + 1))]) C d_makeGrids_131 rfl rfl (by decide) rfl ?_
    refine a_goto (tgt := 109) C d_makeGrids_134 (by decide) ?_
    refine aw_lo (lo' := [some (.ref o), some (.int x1), none, none, some (.int (x4 + 1))]) ⟨.inr rfl, .inr rfl, .inr rfl, .inr rfl, .inr rfl, trivial⟩ ?_
    exact hR109 x1 (x4 + 1) (S.1, va_up S.2.1 19 (upd (S.2.1 19) ((12288 * x1) + x4).toNatClampNeg 0), S.2.2) hp
set_option maxRecDepth 100000 in
set_option maxHeartbeats 1000000 in
theorem se_makeGrids_109 (C : fcx gG D z A X R_M c_M_makeGrids 5 (none)) (hQ : X.2.2.2.2.2.2.2.2.2.2 = eQ gG D z X.2.2.2.2.2.2.2.1 X.2.2.2.2.1 L0 0 0 (pM_v K o ad)) (hA : A = owA gG L0 X.2.2.2.2.1.heap.size) (hR : X.2.2.2.1 = { frames := 2, cells := 1, slots := 6, locals := 200 }) (x1 : Int32) (x4 : Int32) (S : ms) (hp : e_makeGrids_109 x1 x4 S K) : aw gG D z A X 5 109 [some (.ref o), some (.int x1), none, none, some (.int x4)] [] [(0, ly_M, (o, ad, S.1, S.2.1, S.2.2))] 0 0 := by
  obtain ⟨I, μ, h0, hs⟩ := hp
  have key : ∀ (n : Nat) (yx1 : Int32) (yx4 : Int32) (yS : ms), μ yx1 yx4 yS < n → I yx1 yx4 yS → aw gG D z A X 5 109 [some (.ref o), some (.int yx1), none, none, some (.int yx4)] [] [(0, ly_M, (o, ad, yS.1, yS.2.1, yS.2.2))] 0 0 := by
    intro n
    induction n with
    | zero => intro yx1 yx4 yS h; omega
    | succ n ih =>
      intro yx1 yx4 yS hn hI
      exact s_makeGrids_109 C hQ hA hR yx1 yx4 yS _ (fun zx1 zx4 zS hw => ih zx1 zx4 zS (by omega) hw.1) (hs yx1 yx4 yS hI)
  exact key (μ x1 x4 S + 1) x1 x4 S (Nat.lt_succ_self _) h0
set_option maxRecDepth 100000 in
set_option maxHeartbeats 1000000 in
theorem s_makeGrids_17 (C : fcx gG D z A X R_M c_M_makeGrids 5 (none)) (hQ : X.2.2.2.2.2.2.2.2.2.2 = eQ gG D z X.2.2.2.2.2.2.2.1 X.2.2.2.2.1 L0 0 0 (pM_v K o ad)) (hA : A = owA gG L0 X.2.2.2.2.1.heap.size) (hR : X.2.2.2.1 = { frames := 2, cells := 1, slots := 6, locals := 200 }) (x1 : Int32) (x2 : Int32) (x3 : Int32) (x4 : Int32) (S : ms) (R17 : Int32 → Int32 → Int32 → Int32 → ms → Prop) (hR17 : ∀ yx1 yx2 yx3 yx4 yS, R17 yx1 yx2 yx3 yx4 yS → aw gG D z A X 5 17 [some (.ref o), some (.int yx1), some (.int yx2), some (.int yx3), some (.int yx4)] [] [(0, ly_M, (o, ad, yS.1, yS.2.1, yS.2.2))] 0 0) (hp : b_makeGrids_17 x1 x2 x3 x4 S R17 K) : aw gG D z A X 5 17 [some (.ref o), some (.int x1), some (.int x2), some (.int x3), some (.int x4)] [] [(0, ly_M, (o, ad, S.1, S.2.1, S.2.2))] 0 0 := by
  unfold b_makeGrids_17 at hp
  refine a_iload C d_makeGrids_17 rfl ?_
  refine a_aload_n C d_makeGrids_19 rfl rfl ?_
  refine a_getR C 0 14 d_makeGrids_20 rfl rfl rfl (Nat.le_of_ble_eq_true rfl) f_M_47 ⟨Nat.le_of_ble_eq_true rfl, Nat.le_of_ble_eq_true rfl⟩ ?_
  refine a_iload_n C d_makeGrids_23 rfl rfl ?_
  refine a_iald C 0 14 d_makeGrids_24 rfl rfl rfl hp.1 ?_
  have hp := hp.2
  refine a_icmp_ge (tgt := 106) C d_makeGrids_25 (by decide) ⟨fun hc => ?_, fun hc => ?_⟩
  · have hp := hp.1 hc
    refine a_iconst (v := 0) C d_makeGrids_106 (by decide) ?_
    refine a_istore (lo' := [some (.ref o), some (.int x1), some (.int x2), some (.int x3), some (.int 0)]) C d_makeGrids_107 (by decide) rfl ?_
    refine aw_lo (lo' := [some (.ref o), some (.int x1), none, none, some (.int 0)]) ⟨.inr rfl, .inr rfl, .inl rfl, .inl rfl, .inr rfl, trivial⟩ ?_
    exact se_makeGrids_109 C hQ hA hR x1 0 S  hp
  · have hp := hp.2 hc
    refine a_aload_n C d_makeGrids_28 rfl rfl ?_
    refine a_getR C 0 17 d_makeGrids_29 rfl rfl rfl (Nat.le_of_ble_eq_true rfl) f_M_56 ⟨Nat.le_of_ble_eq_true rfl, Nat.le_of_ble_eq_true rfl⟩ ?_
    refine a_iconst (v := 3) C d_makeGrids_32 (by decide) ?_
    refine a_iload_n C d_makeGrids_33 rfl rfl ?_
    refine a_imul C d_makeGrids_34 ?_
    refine a_iload C d_makeGrids_35 rfl ?_
    refine a_iadd C d_makeGrids_37 ?_
    refine a_aload_n C d_makeGrids_38 rfl rfl ?_
    refine a_getR C 0 15 d_makeGrids_39 rfl rfl rfl (Nat.le_of_ble_eq_true rfl) f_M_50 ⟨Nat.le_of_ble_eq_true rfl, Nat.le_of_ble_eq_true rfl⟩ ?_
    refine a_iconst (v := 3) C d_makeGrids_42 (by decide) ?_
    refine a_iload_n C d_makeGrids_43 rfl rfl ?_
    refine a_imul C d_makeGrids_44 ?_
    refine a_iload C d_makeGrids_45 rfl ?_
    refine a_iadd C d_makeGrids_47 ?_
    refine a_iald C 0 15 d_makeGrids_48 rfl rfl rfl hp.1 ?_
    have hp := hp.2
    refine a_aload_n C d_makeGrids_49 rfl rfl ?_
    refine a_getR C 0 12 d_makeGrids_50 rfl rfl rfl (Nat.le_of_ble_eq_true rfl) f_M_41 ⟨Nat.le_of_ble_eq_true rfl, Nat.le_of_ble_eq_true rfl⟩ ?_
    refine a_iload_n C d_makeGrids_53 rfl rfl ?_
    refine a_iald C 0 12 d_makeGrids_54 rfl rfl rfl hp.1 ?_
    have hp := hp.2
    refine a_bipush (v := 8) C d_makeGrids_55 (by decide) ?_
    refine a_iload_n C d_makeGrids_57 rfl rfl ?_
    refine a_imul C d_makeGrids_58 ?_
    refine a_call (Lr := [(0, ly_M, (o, ad, S.1, S.2.1, S.2.2))]) (rest := [.int (S.2.1 15 ((3 * x1) + x4).toNatClampNeg), .int ((3 * x1) + x4), .ref (ad 17)]) (av := [.int (S.2.1 12 x1.toNatClampNeg), .int (8 * x2)]) C [] [0] d_makeGrids_59 (ct_upward (S.2.1 12 x1.toNatClampNeg) (8 * x2) hp) cd_M_upward i_M (Nat.le_of_ble_eq_true rfl) (by rw [hR]; exact Nat.le_of_ble_eq_true rfl) (by rw [hR]; exact Nat.le_of_ble_eq_true rfl) (by rw [hR]; exact Nat.le_of_ble_eq_true rfl) (by rw [hR]; exact Nat.le_of_ble_eq_true rfl) rfl rfl (by decide) (by decide) (by decide) (inv_S C d_makeGrids_59 l_M_177 st_M_upward i_M cd_M_upward ⟨by decide, by decide⟩ ln_M_upward rfl) (fun oc L1 hL => ?_)
    obtain ⟨v59, hp, rfl, rfl⟩ := hL
    refine ⟨_, rfl, ?_⟩
    refine aw_eq (lo' := _) (st' := [.int v59, .int (S.2.1 15 ((3 * x1) + x4).toNatClampNeg), .int ((3 * x1) + x4), .ref (ad 17)]) (L' := [(0, ly_M, (o, ad, S.1, S.2.1, S.2.2))]) rfl rfl rfl ?_
    refine a_imul C d_makeGrids_62 ?_
    refine a_iast C 0 17 d_makeGrids_63 rfl rfl rfl hp.1 ?_
    have hp := hp.2
    refine aw_eq (lo' := _) (st' := _) (L' := [(0, ly_M, (o, ad, S.1, va_up S.2.1 17 (upd (S.2.1 17) ((3 * x1) + x4).toNatClampNeg ((S.2.1 15 ((3 * x1) + x4).toNatClampNeg) * v59)), S.2.2))]) rfl rfl rfl ?_
    refine a_aload_n C d_makeGrids_64 rfl rfl ?_
    refine a_getR C 0 18 d_makeGrids_65 rfl rfl rfl (Nat.le_of_ble_eq_true rfl) f_M_59 ⟨Nat.le_of_ble_eq_true rfl, Nat.le_of_ble_eq_true rfl⟩ ?_
    refine a_iconst (v := 3) C d_makeGrids_68 (by decide) ?_
    refine a_iload_n C d_makeGrids_69 rfl rfl ?_
    refine a_imul C d_makeGrids_70 ?_
    refine a_iload C d_makeGrids_71 rfl ?_
    refine a_iadd C d_makeGrids_73 ?_
    refine a_aload_n C d_makeGrids_74 rfl rfl ?_
    refine a_getR C 0 16 d_makeGrids_75 rfl rfl rfl (Nat.le_of_ble_eq_true rfl) f_M_53 ⟨Nat.le_of_ble_eq_true rfl, Nat.le_of_ble_eq_true rfl⟩ ?_
    refine a_iconst (v := 3) C d_makeGrids_78 (by decide) ?_
    refine a_iload_n C d_makeGrids_79 rfl rfl ?_
    refine a_imul C d_makeGrids_80 ?_
    refine a_iload C d_makeGrids_81 rfl ?_
    refine a_iadd C d_makeGrids_83 ?_
    refine a_iald C 0 16 d_makeGrids_84 rfl rfl rfl hp.1 ?_
    have hp := hp.2
    refine a_aload_n C d_makeGrids_85 rfl rfl ?_
    refine a_getR C 0 13 d_makeGrids_86 rfl rfl rfl (Nat.le_of_ble_eq_true rfl) f_M_44 ⟨Nat.le_of_ble_eq_true rfl, Nat.le_of_ble_eq_true rfl⟩ ?_
    refine a_iload_n C d_makeGrids_89 rfl rfl ?_
    refine a_iald C 0 13 d_makeGrids_90 rfl rfl rfl hp.1 ?_
    have hp := hp.2
    refine a_bipush (v := 8) C d_makeGrids_91 (by decide) ?_
    refine a_iload_n C d_makeGrids_93 rfl rfl ?_
    refine a_imul C d_makeGrids_94 ?_
    refine a_call (Lr := [(0, ly_M, (o, ad, S.1, va_up S.2.1 17 (upd (S.2.1 17) ((3 * x1) + x4).toNatClampNeg ((S.2.1 15 ((3 * x1) + x4).toNatClampNeg) * v59)), S.2.2))]) (rest := [.int ((va_up S.2.1 17 (upd (S.2.1 17) ((3 * x1) + x4).toNatClampNeg ((S.2.1 15 ((3 * x1) + x4).toNatClampNeg) * v59))) 16 ((3 * x1) + x4).toNatClampNeg), .int ((3 * x1) + x4), .ref (ad 18)]) (av := [.int ((va_up S.2.1 17 (upd (S.2.1 17) ((3 * x1) + x4).toNatClampNeg ((S.2.1 15 ((3 * x1) + x4).toNatClampNeg) * v59))) 13 x1.toNatClampNeg), .int (8 * x3)]) C [] [0] d_makeGrids_95 (ct_upward ((va_up S.2.1 17 (upd (S.2.1 17) ((3 * x1) + x4).toNatClampNeg ((S.2.1 15 ((3 * x1) + x4).toNatClampNeg) * v59))) 13 x1.toNatClampNeg) (8 * x3) hp) cd_M_upward i_M (Nat.le_of_ble_eq_true rfl) (by rw [hR]; exact Nat.le_of_ble_eq_true rfl) (by rw [hR]; exact Nat.le_of_ble_eq_true rfl) (by rw [hR]; exact Nat.le_of_ble_eq_true rfl) (by rw [hR]; exact Nat.le_of_ble_eq_true rfl) rfl rfl (by decide) (by decide) (by decide) (inv_S C d_makeGrids_95 l_M_177 st_M_upward i_M cd_M_upward ⟨by decide, by decide⟩ ln_M_upward rfl) (fun oc L1 hL => ?_)
    obtain ⟨v95, hp, rfl, rfl⟩ := hL
    refine ⟨_, rfl, ?_⟩
    refine aw_eq (lo' := _) (st' := [.int v95, .int ((va_up S.2.1 17 (upd (S.2.1 17) ((3 * x1) + x4).toNatClampNeg ((S.2.1 15 ((3 * x1) + x4).toNatClampNeg) * v59))) 16 ((3 * x1) + x4).toNatClampNeg), .int ((3 * x1) + x4), .ref (ad 18)]) (L' := [(0, ly_M, (o, ad, S.1, va_up S.2.1 17 (upd (S.2.1 17) ((3 * x1) + x4).toNatClampNeg ((S.2.1 15 ((3 * x1) + x4).toNatClampNeg) * v59)), S.2.2))]) rfl rfl rfl ?_
    refine a_imul C d_makeGrids_98 ?_
    refine a_iast C 0 18 d_makeGrids_99 rfl rfl rfl hp.1 ?_
    have hp := hp.2
    refine aw_eq (lo' := _) (st' := _) (L' := [(0, ly_M, (o, ad, S.1, va_up (va_up S.2.1 17 (upd (S.2.1 17) ((3 * x1) + x4).toNatClampNeg ((S.2.1 15 ((3 * x1) + x4).toNatClampNeg) * v59))) 18 (upd ((va_up S.2.1 17 (upd (S.2.1 17) ((3 * x1) + x4).toNatClampNeg ((S.2.1 15 ((3 * x1) + x4).toNatClampNeg) * v59))) 18) ((3 * x1) + x4).toNatClampNeg (((va_up S.2.1 17 (upd (S.2.1 17) ((3 * x1) + x4).toNatClampNeg ((S.2.1 15 ((3 * x1) + x4).toNatClampNeg) * v59))) 16 ((3 * x1) + x4).toNatClampNeg) * v95)), S.2.2))]) rfl rfl rfl ?_
    refine a_iinc (v := x4 + 1) (lo' := [some (.ref o), some (.int x1), some (.int x2), some (.int x3), some (.int (x4 + 1))]) C d_makeGrids_100 rfl rfl (by decide) rfl ?_
    refine a_goto (tgt := 17) C d_makeGrids_103 (by decide) ?_
    refine aw_lo (lo' := [some (.ref o), some (.int x1), some (.int x2), some (.int x3), some (.int (x4 + 1))]) ⟨.inr rfl, .inr rfl, .inr rfl, .inr rfl, .inr rfl, trivial⟩ ?_
    exact hR17 x1 x2 x3 (x4 + 1) (S.1, va_up (va_up S.2.1 17 (upd (S.2.1 17) ((3 * x1) + x4).toNatClampNeg ((S.2.1 15 ((3 * x1) + x4).toNatClampNeg) * v59))) 18 (upd ((va_up S.2.1 17 (upd (S.2.1 17) ((3 * x1) + x4).toNatClampNeg ((S.2.1 15 ((3 * x1) + x4).toNatClampNeg) * v59))) 18) ((3 * x1) + x4).toNatClampNeg (((va_up S.2.1 17 (upd (S.2.1 17) ((3 * x1) + x4).toNatClampNeg ((S.2.1 15 ((3 * x1) + x4).toNatClampNeg) * v59))) 16 ((3 * x1) + x4).toNatClampNeg) * v95)), S.2.2) hp
set_option maxRecDepth 100000 in
set_option maxHeartbeats 1000000 in
theorem se_makeGrids_17 (C : fcx gG D z A X R_M c_M_makeGrids 5 (none)) (hQ : X.2.2.2.2.2.2.2.2.2.2 = eQ gG D z X.2.2.2.2.2.2.2.1 X.2.2.2.2.1 L0 0 0 (pM_v K o ad)) (hA : A = owA gG L0 X.2.2.2.2.1.heap.size) (hR : X.2.2.2.1 = { frames := 2, cells := 1, slots := 6, locals := 200 }) (x1 : Int32) (x2 : Int32) (x3 : Int32) (x4 : Int32) (S : ms) (hp : e_makeGrids_17 x1 x2 x3 x4 S K) : aw gG D z A X 5 17 [some (.ref o), some (.int x1), some (.int x2), some (.int x3), some (.int x4)] [] [(0, ly_M, (o, ad, S.1, S.2.1, S.2.2))] 0 0 := by
  obtain ⟨I, μ, h0, hs⟩ := hp
  have key : ∀ (n : Nat) (yx1 : Int32) (yx2 : Int32) (yx3 : Int32) (yx4 : Int32) (yS : ms), μ yx1 yx2 yx3 yx4 yS < n → I yx1 yx2 yx3 yx4 yS → aw gG D z A X 5 17 [some (.ref o), some (.int yx1), some (.int yx2), some (.int yx3), some (.int yx4)] [] [(0, ly_M, (o, ad, yS.1, yS.2.1, yS.2.2))] 0 0 := by
    intro n
    induction n with
    | zero => intro yx1 yx2 yx3 yx4 yS h; omega
    | succ n ih =>
      intro yx1 yx2 yx3 yx4 yS hn hI
      exact s_makeGrids_17 C hQ hA hR yx1 yx2 yx3 yx4 yS _ (fun zx1 zx2 zx3 zx4 zS hw => ih zx1 zx2 zx3 zx4 zS (by omega) hw.1) (hs yx1 yx2 yx3 yx4 yS hI)
  exact key (μ x1 x2 x3 x4 S + 1) x1 x2 x3 x4 S (Nat.lt_succ_self _) h0
set_option maxRecDepth 100000 in
set_option maxHeartbeats 1000000 in
theorem s_makeGrids_0 (C : fcx gG D z A X R_M c_M_makeGrids 5 (none)) (hQ : X.2.2.2.2.2.2.2.2.2.2 = eQ gG D z X.2.2.2.2.2.2.2.1 X.2.2.2.2.1 L0 0 0 (pM_v K o ad)) (hA : A = owA gG L0 X.2.2.2.2.1.heap.size) (hR : X.2.2.2.1 = { frames := 2, cells := 1, slots := 6, locals := 200 }) (x1 : Int32) (S : ms) (hp : p_makeGrids x1 S K) : aw gG D z A X 5 0 [some (.ref o), some (.int x1), none, none, none] [] [(0, ly_M, (o, ad, S.1, S.2.1, S.2.2))] 0 0 := by
  unfold p_makeGrids at hp
  refine a_aload_n C d_makeGrids_0 rfl rfl ?_
  refine a_iload_n C d_makeGrids_1 rfl rfl ?_
  refine a_iconst (v := 1) C d_makeGrids_2 (by decide) ?_
  refine a_call (Lr := []) (rest := []) (av := .ref o :: [.int x1, .int 1]) C [0] [] d_makeGrids_3 (ct_greatest x1 1 S hp) cd_M_greatest i_M (Nat.le_of_ble_eq_true rfl) (by rw [hR]; exact Nat.le_of_ble_eq_true rfl) (by rw [hR]; exact Nat.le_of_ble_eq_true rfl) (by rw [hR]; exact Nat.le_of_ble_eq_true rfl) (by rw [hR]; exact Nat.le_of_ble_eq_true rfl) rfl rfl (by decide) (by decide) (by decide) (inv_V C 0 d_makeGrids_3 l_M_173 im_M_greatest se_M_greatest cd_M_greatest ⟨by decide, by decide⟩ ln_M_greatest rfl rfl rfl rfl rfl) (fun oc L1 hL => ?_)
  obtain ⟨v3, S3, hp, rfl, rfl⟩ := hL
  refine ⟨_, rfl, ?_⟩
  refine aw_eq (lo' := _) (st' := [.int v3]) (L' := [(0, ly_M, (o, ad, S3.1, S3.2.1, S3.2.2))]) rfl rfl rfl ?_
  refine a_istore_n (lo' := [some (.ref o), some (.int x1), some (.int v3), none, none]) C d_makeGrids_6 rfl (by decide) rfl ?_
  refine a_aload_n C d_makeGrids_7 rfl rfl ?_
  refine a_iload_n C d_makeGrids_8 rfl rfl ?_
  refine a_iconst (v := 0) C d_makeGrids_9 (by decide) ?_
  refine a_call (Lr := []) (rest := []) (av := .ref o :: [.int x1, .int 0]) C [0] [] d_makeGrids_10 (ct_greatest x1 0 (S3.1, S3.2.1, S3.2.2) hp) cd_M_greatest i_M (Nat.le_of_ble_eq_true rfl) (by rw [hR]; exact Nat.le_of_ble_eq_true rfl) (by rw [hR]; exact Nat.le_of_ble_eq_true rfl) (by rw [hR]; exact Nat.le_of_ble_eq_true rfl) (by rw [hR]; exact Nat.le_of_ble_eq_true rfl) rfl rfl (by decide) (by decide) (by decide) (inv_V C 0 d_makeGrids_10 l_M_173 im_M_greatest se_M_greatest cd_M_greatest ⟨by decide, by decide⟩ ln_M_greatest rfl rfl rfl rfl rfl) (fun oc L1 hL => ?_)
  obtain ⟨v10, S10, hp, rfl, rfl⟩ := hL
  refine ⟨_, rfl, ?_⟩
  refine aw_eq (lo' := _) (st' := [.int v10]) (L' := [(0, ly_M, (o, ad, S10.1, S10.2.1, S10.2.2))]) rfl rfl rfl ?_
  refine a_istore_n (lo' := [some (.ref o), some (.int x1), some (.int v3), some (.int v10), none]) C d_makeGrids_13 rfl (by decide) rfl ?_
  refine a_iconst (v := 0) C d_makeGrids_14 (by decide) ?_
  refine a_istore (lo' := [some (.ref o), some (.int x1), some (.int v3), some (.int v10), some (.int 0)]) C d_makeGrids_15 (by decide) rfl ?_
  refine aw_lo (lo' := [some (.ref o), some (.int x1), some (.int v3), some (.int v10), some (.int 0)]) ⟨.inr rfl, .inr rfl, .inr rfl, .inr rfl, .inr rfl, trivial⟩ ?_
  exact se_makeGrids_17 C hQ hA hR x1 v3 v10 0 (S10.1, S10.2.1, S10.2.2)  hp
end M_makeGrids
section M_makeGridsc
variable {D : va_G} {z : Nat → ClassId} {o : Nat} {ad : Nat → Nat}
set_option maxRecDepth 100000 in
theorem ct_makeGrids {l : Launch} (x1 : Int32) (S : ms) {K : ms → Prop} (hp : p_makeGrids x1 S K) : ct gG D z l n_M_makeGrids c_M_makeGrids 5 (none) 2 200 [.ref o, .int x1] [(0, ly_M, (o, ad, S.1, S.2.1, S.2.2))] 0 0 (pM_v K o ad) := by
  refine ct_of (lo := [some (.ref o), some (.int x1), none, none, none]) (by decide) g_ok (Nat.le_of_ble_eq_true rfl) rfl ?_
  intro X A _ C hR hQ hA _
  exact s_makeGrids_0 C hQ hA hR x1 S hp
end M_makeGridsc
def p_layerWide (x1 : Int32) (x2 : Int32) (S : ms) (K : Int32 → ms → Prop) : Prop :=
  vp_in x1 3 ∧ (vp_in ((3 * x1) + x2) 9 ∧ (p_greatest x1 1 S (fun v20 S20 => p_upward ((S.2.1 12 x1.toNatClampNeg) * (S.2.1 15 ((3 * x1) + x2).toNatClampNeg)) v20 (fun v23 => K v23 (S20.1, S20.2.1, S20.2.2)))))
section M_layerWide
variable {D : va_G} {z : Nat → ClassId} {A : Nat → Prop} {X : cx} {L0 : fw} {K : Int32 → ms → Prop} {o : Nat} {ad : Nat → Nat}
set_option maxRecDepth 100000 in
set_option maxHeartbeats 1000000 in
theorem s_layerWide_0 (C : fcx gG D z A X R_M c_M_layerWide 3 (some .int)) (hQ : X.2.2.2.2.2.2.2.2.2.2 = eQ gG D z X.2.2.2.2.2.2.2.1 X.2.2.2.2.1 L0 0 0 (pM_i K o ad)) (hA : A = owA gG L0 X.2.2.2.2.1.heap.size) (hR : X.2.2.2.1 = { frames := 2, cells := 1, slots := 6, locals := 200 }) (x1 : Int32) (x2 : Int32) (S : ms) (hp : p_layerWide x1 x2 S K) : aw gG D z A X 3 0 [some (.ref o), some (.int x1), some (.int x2)] [] [(0, ly_M, (o, ad, S.1, S.2.1, S.2.2))] 0 0 := by
  unfold p_layerWide at hp
  refine a_aload_n C d_layerWide_0 rfl rfl ?_
  refine a_getR C 0 12 d_layerWide_1 rfl rfl rfl (Nat.le_of_ble_eq_true rfl) f_M_41 ⟨Nat.le_of_ble_eq_true rfl, Nat.le_of_ble_eq_true rfl⟩ ?_
  refine a_iload_n C d_layerWide_4 rfl rfl ?_
  refine a_iald C 0 12 d_layerWide_5 rfl rfl rfl hp.1 ?_
  have hp := hp.2
  refine a_aload_n C d_layerWide_6 rfl rfl ?_
  refine a_getR C 0 15 d_layerWide_7 rfl rfl rfl (Nat.le_of_ble_eq_true rfl) f_M_50 ⟨Nat.le_of_ble_eq_true rfl, Nat.le_of_ble_eq_true rfl⟩ ?_
  refine a_iconst (v := 3) C d_layerWide_10 (by decide) ?_
  refine a_iload_n C d_layerWide_11 rfl rfl ?_
  refine a_imul C d_layerWide_12 ?_
  refine a_iload_n C d_layerWide_13 rfl rfl ?_
  refine a_iadd C d_layerWide_14 ?_
  refine a_iald C 0 15 d_layerWide_15 rfl rfl rfl hp.1 ?_
  have hp := hp.2
  refine a_imul C d_layerWide_16 ?_
  refine a_aload_n C d_layerWide_17 rfl rfl ?_
  refine a_iload_n C d_layerWide_18 rfl rfl ?_
  refine a_iconst (v := 1) C d_layerWide_19 (by decide) ?_
  refine a_call (Lr := []) (rest := [.int ((S.2.1 12 x1.toNatClampNeg) * (S.2.1 15 ((3 * x1) + x2).toNatClampNeg))]) (av := .ref o :: [.int x1, .int 1]) C [0] [] d_layerWide_20 (ct_greatest x1 1 S hp) cd_M_greatest i_M (Nat.le_of_ble_eq_true rfl) (by rw [hR]; exact Nat.le_of_ble_eq_true rfl) (by rw [hR]; exact Nat.le_of_ble_eq_true rfl) (by rw [hR]; exact Nat.le_of_ble_eq_true rfl) (by rw [hR]; exact Nat.le_of_ble_eq_true rfl) rfl rfl (by decide) (by decide) (by decide) (inv_V C 0 d_layerWide_20 l_M_173 im_M_greatest se_M_greatest cd_M_greatest ⟨by decide, by decide⟩ ln_M_greatest rfl rfl rfl rfl rfl) (fun oc L1 hL => ?_)
  obtain ⟨v20, S20, hp, rfl, rfl⟩ := hL
  refine ⟨_, rfl, ?_⟩
  refine aw_eq (lo' := _) (st' := [.int v20, .int ((S.2.1 12 x1.toNatClampNeg) * (S.2.1 15 ((3 * x1) + x2).toNatClampNeg))]) (L' := [(0, ly_M, (o, ad, S20.1, S20.2.1, S20.2.2))]) rfl rfl rfl ?_
  refine a_call (Lr := [(0, ly_M, (o, ad, S20.1, S20.2.1, S20.2.2))]) (rest := []) (av := [.int ((S.2.1 12 x1.toNatClampNeg) * (S.2.1 15 ((3 * x1) + x2).toNatClampNeg)), .int v20]) C [] [0] d_layerWide_23 (ct_upward ((S.2.1 12 x1.toNatClampNeg) * (S.2.1 15 ((3 * x1) + x2).toNatClampNeg)) v20 hp) cd_M_upward i_M (Nat.le_of_ble_eq_true rfl) (by rw [hR]; exact Nat.le_of_ble_eq_true rfl) (by rw [hR]; exact Nat.le_of_ble_eq_true rfl) (by rw [hR]; exact Nat.le_of_ble_eq_true rfl) (by rw [hR]; exact Nat.le_of_ble_eq_true rfl) rfl rfl (by decide) (by decide) (by decide) (inv_S C d_layerWide_23 l_M_177 st_M_upward i_M cd_M_upward ⟨by decide, by decide⟩ ln_M_upward rfl) (fun oc L1 hL => ?_)
  obtain ⟨v23, hp, rfl, rfl⟩ := hL
  refine ⟨_, rfl, ?_⟩
  refine aw_eq (lo' := _) (st' := [.int v23]) (L' := [(0, ly_M, (o, ad, S20.1, S20.2.1, S20.2.2))]) rfl rfl rfl ?_
  exact a_iret (ty := .int) C hQ hA d_layerWide_26 rfl rfl ⟨_, (S20.1, S20.2.1, S20.2.2), hp, rfl, rfl⟩
end M_layerWide
section M_layerWidec
variable {D : va_G} {z : Nat → ClassId} {o : Nat} {ad : Nat → Nat}
set_option maxRecDepth 100000 in
theorem ct_layerWide {l : Launch} (x1 : Int32) (x2 : Int32) (S : ms) {K : Int32 → ms → Prop} (hp : p_layerWide x1 x2 S K) : ct gG D z l n_M_layerWide c_M_layerWide 3 (some .int) 2 200 [.ref o, .int x1, .int x2] [(0, ly_M, (o, ad, S.1, S.2.1, S.2.2))] 0 0 (pM_i K o ad) := by
  refine ct_of (lo := [some (.ref o), some (.int x1), some (.int x2)]) (by decide) g_ok (Nat.le_of_ble_eq_true rfl) rfl ?_
  intro X A _ C hR hQ hA _
  exact s_layerWide_0 C hQ hA hR x1 x2 S hp
end M_layerWidec
def p_layerHigh (x1 : Int32) (x2 : Int32) (S : ms) (K : Int32 → ms → Prop) : Prop :=
  vp_in x1 3 ∧ (vp_in ((3 * x1) + x2) 9 ∧ (p_greatest x1 0 S (fun v20 S20 => p_upward ((S.2.1 13 x1.toNatClampNeg) * (S.2.1 16 ((3 * x1) + x2).toNatClampNeg)) v20 (fun v23 => K v23 (S20.1, S20.2.1, S20.2.2)))))
section M_layerHigh
variable {D : va_G} {z : Nat → ClassId} {A : Nat → Prop} {X : cx} {L0 : fw} {K : Int32 → ms → Prop} {o : Nat} {ad : Nat → Nat}
set_option maxRecDepth 100000 in
set_option maxHeartbeats 1000000 in
theorem s_layerHigh_0 (C : fcx gG D z A X R_M c_M_layerHigh 3 (some .int)) (hQ : X.2.2.2.2.2.2.2.2.2.2 = eQ gG D z X.2.2.2.2.2.2.2.1 X.2.2.2.2.1 L0 0 0 (pM_i K o ad)) (hA : A = owA gG L0 X.2.2.2.2.1.heap.size) (hR : X.2.2.2.1 = { frames := 2, cells := 1, slots := 6, locals := 200 }) (x1 : Int32) (x2 : Int32) (S : ms) (hp : p_layerHigh x1 x2 S K) : aw gG D z A X 3 0 [some (.ref o), some (.int x1), some (.int x2)] [] [(0, ly_M, (o, ad, S.1, S.2.1, S.2.2))] 0 0 := by
  unfold p_layerHigh at hp
  refine a_aload_n C d_layerHigh_0 rfl rfl ?_
  refine a_getR C 0 13 d_layerHigh_1 rfl rfl rfl (Nat.le_of_ble_eq_true rfl) f_M_44 ⟨Nat.le_of_ble_eq_true rfl, Nat.le_of_ble_eq_true rfl⟩ ?_
  refine a_iload_n C d_layerHigh_4 rfl rfl ?_
  refine a_iald C 0 13 d_layerHigh_5 rfl rfl rfl hp.1 ?_
  have hp := hp.2
  refine a_aload_n C d_layerHigh_6 rfl rfl ?_
  refine a_getR C 0 16 d_layerHigh_7 rfl rfl rfl (Nat.le_of_ble_eq_true rfl) f_M_53 ⟨Nat.le_of_ble_eq_true rfl, Nat.le_of_ble_eq_true rfl⟩ ?_
  refine a_iconst (v := 3) C d_layerHigh_10 (by decide) ?_
  refine a_iload_n C d_layerHigh_11 rfl rfl ?_
  refine a_imul C d_layerHigh_12 ?_
  refine a_iload_n C d_layerHigh_13 rfl rfl ?_
  refine a_iadd C d_layerHigh_14 ?_
  refine a_iald C 0 16 d_layerHigh_15 rfl rfl rfl hp.1 ?_
  have hp := hp.2
  refine a_imul C d_layerHigh_16 ?_
  refine a_aload_n C d_layerHigh_17 rfl rfl ?_
  refine a_iload_n C d_layerHigh_18 rfl rfl ?_
  refine a_iconst (v := 0) C d_layerHigh_19 (by decide) ?_
  refine a_call (Lr := []) (rest := [.int ((S.2.1 13 x1.toNatClampNeg) * (S.2.1 16 ((3 * x1) + x2).toNatClampNeg))]) (av := .ref o :: [.int x1, .int 0]) C [0] [] d_layerHigh_20 (ct_greatest x1 0 S hp) cd_M_greatest i_M (Nat.le_of_ble_eq_true rfl) (by rw [hR]; exact Nat.le_of_ble_eq_true rfl) (by rw [hR]; exact Nat.le_of_ble_eq_true rfl) (by rw [hR]; exact Nat.le_of_ble_eq_true rfl) (by rw [hR]; exact Nat.le_of_ble_eq_true rfl) rfl rfl (by decide) (by decide) (by decide) (inv_V C 0 d_layerHigh_20 l_M_173 im_M_greatest se_M_greatest cd_M_greatest ⟨by decide, by decide⟩ ln_M_greatest rfl rfl rfl rfl rfl) (fun oc L1 hL => ?_)
  obtain ⟨v20, S20, hp, rfl, rfl⟩ := hL
  refine ⟨_, rfl, ?_⟩
  refine aw_eq (lo' := _) (st' := [.int v20, .int ((S.2.1 13 x1.toNatClampNeg) * (S.2.1 16 ((3 * x1) + x2).toNatClampNeg))]) (L' := [(0, ly_M, (o, ad, S20.1, S20.2.1, S20.2.2))]) rfl rfl rfl ?_
  refine a_call (Lr := [(0, ly_M, (o, ad, S20.1, S20.2.1, S20.2.2))]) (rest := []) (av := [.int ((S.2.1 13 x1.toNatClampNeg) * (S.2.1 16 ((3 * x1) + x2).toNatClampNeg)), .int v20]) C [] [0] d_layerHigh_23 (ct_upward ((S.2.1 13 x1.toNatClampNeg) * (S.2.1 16 ((3 * x1) + x2).toNatClampNeg)) v20 hp) cd_M_upward i_M (Nat.le_of_ble_eq_true rfl) (by rw [hR]; exact Nat.le_of_ble_eq_true rfl) (by rw [hR]; exact Nat.le_of_ble_eq_true rfl) (by rw [hR]; exact Nat.le_of_ble_eq_true rfl) (by rw [hR]; exact Nat.le_of_ble_eq_true rfl) rfl rfl (by decide) (by decide) (by decide) (inv_S C d_layerHigh_23 l_M_177 st_M_upward i_M cd_M_upward ⟨by decide, by decide⟩ ln_M_upward rfl) (fun oc L1 hL => ?_)
  obtain ⟨v23, hp, rfl, rfl⟩ := hL
  refine ⟨_, rfl, ?_⟩
  refine aw_eq (lo' := _) (st' := [.int v23]) (L' := [(0, ly_M, (o, ad, S20.1, S20.2.1, S20.2.2))]) rfl rfl rfl ?_
  exact a_iret (ty := .int) C hQ hA d_layerHigh_26 rfl rfl ⟨_, (S20.1, S20.2.1, S20.2.2), hp, rfl, rfl⟩
end M_layerHigh
section M_layerHighc
variable {D : va_G} {z : Nat → ClassId} {o : Nat} {ad : Nat → Nat}
set_option maxRecDepth 100000 in
theorem ct_layerHigh {l : Launch} (x1 : Int32) (x2 : Int32) (S : ms) {K : Int32 → ms → Prop} (hp : p_layerHigh x1 x2 S K) : ct gG D z l n_M_layerHigh c_M_layerHigh 3 (some .int) 2 200 [.ref o, .int x1, .int x2] [(0, ly_M, (o, ad, S.1, S.2.1, S.2.2))] 0 0 (pM_i K o ad) := by
  refine ct_of (lo := [some (.ref o), some (.int x1), some (.int x2)]) (by decide) g_ok (Nat.le_of_ble_eq_true rfl) rfl ?_
  intro X A _ C hR hQ hA _
  exact s_layerHigh_0 C hQ hA hR x1 x2 S hp
end M_layerHighc
def p_levelCell (x0 : Int32) (x1 : Int32) (x2 : Int32) (x3 : Int32) (K : Int32 → Prop) : Prop :=
  K ((64 * ((64 * ((3 * x0) + x1)) + x2)) + x3)
section M_levelCell
variable {D : va_G} {z : Nat → ClassId} {A : Nat → Prop} {X : cx} {L0 : fw} {K : Int32 → Prop}
set_option maxRecDepth 100000 in
set_option maxHeartbeats 1000000 in
theorem s_levelCell_0 (C : fcx gG D z A X R_M c_M_levelCell 4 (some .int)) (hQ : X.2.2.2.2.2.2.2.2.2.2 = eQ gG D z X.2.2.2.2.2.2.2.1 X.2.2.2.2.1 L0 0 0 (pS_i K)) (hA : A = owA gG L0 X.2.2.2.2.1.heap.size) (hR : X.2.2.2.1 = { frames := 1, cells := 1, slots := 6, locals := 100 }) (x0 : Int32) (x1 : Int32) (x2 : Int32) (x3 : Int32) (hp : p_levelCell x0 x1 x2 x3 K) : aw gG D z A X 4 0 [some (.int x0), some (.int x1), some (.int x2), some (.int x3)] [] ([] : fw) 0 0 := by
  unfold p_levelCell at hp
  refine a_bipush (v := 64) C d_levelCell_0 (by decide) ?_
  refine a_bipush (v := 64) C d_levelCell_2 (by decide) ?_
  refine a_iconst (v := 3) C d_levelCell_4 (by decide) ?_
  refine a_iload_n C d_levelCell_5 rfl rfl ?_
  refine a_imul C d_levelCell_6 ?_
  refine a_iload_n C d_levelCell_7 rfl rfl ?_
  refine a_iadd C d_levelCell_8 ?_
  refine a_imul C d_levelCell_9 ?_
  refine a_iload_n C d_levelCell_10 rfl rfl ?_
  refine a_iadd C d_levelCell_11 ?_
  refine a_imul C d_levelCell_12 ?_
  refine a_iload_n C d_levelCell_13 rfl rfl ?_
  refine a_iadd C d_levelCell_14 ?_
  exact a_iret (ty := .int) C hQ hA d_levelCell_15 rfl rfl ⟨_, hp, rfl, rfl⟩
end M_levelCell
section M_levelCellc
variable {D : va_G} {z : Nat → ClassId}
set_option maxRecDepth 100000 in
theorem ct_levelCell {l : Launch} (x0 : Int32) (x1 : Int32) (x2 : Int32) (x3 : Int32) {K : Int32 → Prop} (hp : p_levelCell x0 x1 x2 x3 K) : ct gG D z l n_M_levelCell c_M_levelCell 4 (some .int) 1 100 [.int x0, .int x1, .int x2, .int x3] ([] : fw) 0 0 (pS_i K) := by
  refine ct_of (lo := [some (.int x0), some (.int x1), some (.int x2), some (.int x3)]) (by decide) g_ok (Nat.le_of_ble_eq_true rfl) rfl ?_
  intro X A _ C hR hQ hA _
  exact s_levelCell_0 C hQ hA hR x0 x1 x2 x3 hp
end M_levelCellc
def b_sampleOf_166 (s0 : Int32) (S : ms) (K : Int32 → ms → Prop) : Prop :=
  K s0 S
def b_sampleOf_148 (s0 : Int32) (S : ms) (K : Int32 → ms → Prop) : Prop :=
  (s0 ≤ 255 → (b_sampleOf_166 s0 S K)) ∧ (¬ (s0 ≤ 255) → (b_sampleOf_166 255 S K))
def p_sampleOf (x1 : Int32) (x2 : Int32) (x3 : Int32) (S : ms) (K : Int32 → ms → Prop) : Prop :=
  p_cell x1 x2 0 (fun v7 => vp_in v7 12288 ∧ ((¬ (S.1 3) = 1 → (p_cell x1 x2 1 (fun v31 => vp_in v31 12288 ∧ (p_cell x1 x2 2 (fun v44 => vp_in v44 12288 ∧ ((¬ x3 = 0 → ((¬ x3 = 1 → (b_sampleOf_148 (128 + (((((32768 * (S.2.1 4 v7.toNatClampNeg)) - (27439 * (S.2.1 4 v31.toNatClampNeg))) - (5329 * (S.2.1 4 v44.toNatClampNeg))) + 32768) >>> (16 &&& 31 : Int32) : Int32)) S K)) ∧ (x3 = 1 → (b_sampleOf_148 (128 + ((((((-11059) * (S.2.1 4 v7.toNatClampNeg)) - (21709 * (S.2.1 4 v31.toNatClampNeg))) + (32768 * (S.2.1 4 v44.toNatClampNeg))) + 32768) >>> (16 &&& 31 : Int32) : Int32)) S K)))) ∧ (x3 = 0 → (b_sampleOf_148 (((((19595 * (S.2.1 4 v7.toNatClampNeg)) + (38470 * (S.2.1 4 v31.toNatClampNeg))) + (7471 * (S.2.1 4 v44.toNatClampNeg))) + 32768) >>> (16 &&& 31 : Int32) : Int32) S K)))))))) ∧ ((S.1 3) = 1 → (K (S.2.1 4 v7.toNatClampNeg) S))))
section M_sampleOf
variable {D : va_G} {z : Nat → ClassId} {A : Nat → Prop} {X : cx} {L0 : fw} {K : Int32 → ms → Prop} {o : Nat} {ad : Nat → Nat}
set_option maxRecDepth 100000 in
set_option maxHeartbeats 1000000 in
theorem s_sampleOf_166 (C : fcx gG D z A X R_M c_M_sampleOf 8 (some .int)) (hQ : X.2.2.2.2.2.2.2.2.2.2 = eQ gG D z X.2.2.2.2.2.2.2.1 X.2.2.2.2.1 L0 0 0 (pM_i K o ad)) (hA : A = owA gG L0 X.2.2.2.2.1.heap.size) (hR : X.2.2.2.1 = { frames := 2, cells := 1, slots := 6, locals := 200 }) (s0 : Int32) (S : ms) (hp : b_sampleOf_166 s0 S K) : aw gG D z A X 8 166 [some (.ref o), none, none, none, none, none, none, none] [.int s0] [(0, ly_M, (o, ad, S.1, S.2.1, S.2.2))] 0 0 := by
  unfold b_sampleOf_166 at hp
  exact a_iret (ty := .int) C hQ hA d_sampleOf_166 rfl rfl ⟨_, S, hp, rfl, rfl⟩
set_option maxRecDepth 100000 in
set_option maxHeartbeats 1000000 in
theorem s_sampleOf_148 (C : fcx gG D z A X R_M c_M_sampleOf 8 (some .int)) (hQ : X.2.2.2.2.2.2.2.2.2.2 = eQ gG D z X.2.2.2.2.2.2.2.1 X.2.2.2.2.1 L0 0 0 (pM_i K o ad)) (hA : A = owA gG L0 X.2.2.2.2.1.heap.size) (hR : X.2.2.2.1 = { frames := 2, cells := 1, slots := 6, locals := 200 }) (s0 : Int32) (S : ms) (hp : b_sampleOf_148 s0 S K) : aw gG D z A X 8 148 [some (.ref o), none, none, none, none, none, none, none] [.int s0] [(0, ly_M, (o, ad, S.1, S.2.1, S.2.2))] 0 0 := by
  unfold b_sampleOf_148 at hp
  refine a_istore (lo' := [some (.ref o), none, none, none, none, none, none, some (.int s0)]) C d_sampleOf_148 (by decide) rfl ?_
  refine a_iload C d_sampleOf_150 rfl ?_
  refine a_sipush (v := 255) C d_sampleOf_152 (by decide) ?_
  refine a_icmp_le (tgt := 164) C d_sampleOf_155 (by decide) ⟨fun hc => ?_, fun hc => ?_⟩
  · have hp := hp.1 hc
    refine a_iload C d_sampleOf_164 rfl ?_
    refine aw_lo (lo' := [some (.ref o), none, none, none, none, none, none, none]) ⟨.inr rfl, .inr rfl, .inr rfl, .inr rfl, .inr rfl, .inr rfl, .inr rfl, .inl rfl, trivial⟩ ?_
    exact s_sampleOf_166 C hQ hA hR s0 S  hp
  · have hp := hp.2 hc
    refine a_sipush (v := 255) C d_sampleOf_158 (by decide) ?_
    refine a_goto (tgt := 166) C d_sampleOf_161 (by decide) ?_
    refine aw_lo (lo' := [some (.ref o), none, none, none, none, none, none, none]) ⟨.inr rfl, .inr rfl, .inr rfl, .inr rfl, .inr rfl, .inr rfl, .inr rfl, .inl rfl, trivial⟩ ?_
    exact s_sampleOf_166 C hQ hA hR 255 S  hp
set_option maxRecDepth 100000 in
set_option maxHeartbeats 1000000 in
theorem s_sampleOf_0 (C : fcx gG D z A X R_M c_M_sampleOf 8 (some .int)) (hQ : X.2.2.2.2.2.2.2.2.2.2 = eQ gG D z X.2.2.2.2.2.2.2.1 X.2.2.2.2.1 L0 0 0 (pM_i K o ad)) (hA : A = owA gG L0 X.2.2.2.2.1.heap.size) (hR : X.2.2.2.1 = { frames := 2, cells := 1, slots := 6, locals := 200 }) (x1 : Int32) (x2 : Int32) (x3 : Int32) (S : ms) (hp : p_sampleOf x1 x2 x3 S K) : aw gG D z A X 8 0 [some (.ref o), some (.int x1), some (.int x2), some (.int x3), none, none, none, none] [] [(0, ly_M, (o, ad, S.1, S.2.1, S.2.2))] 0 0 := by
  unfold p_sampleOf at hp
  refine a_aload_n C d_sampleOf_0 rfl rfl ?_
  refine a_getR C 0 4 d_sampleOf_1 rfl rfl rfl (Nat.le_of_ble_eq_true rfl) f_M_19 ⟨Nat.le_of_ble_eq_true rfl, Nat.le_of_ble_eq_true rfl⟩ ?_
  refine a_iload_n C d_sampleOf_4 rfl rfl ?_
  refine a_iload_n C d_sampleOf_5 rfl rfl ?_
  refine a_iconst (v := 0) C d_sampleOf_6 (by decide) ?_
  refine a_call (Lr := [(0, ly_M, (o, ad, S.1, S.2.1, S.2.2))]) (rest := [.ref (ad 4)]) (av := [.int x1, .int x2, .int 0]) C [] [0] d_sampleOf_7 (ct_cell x1 x2 0 hp) cd_M_cell i_M (Nat.le_of_ble_eq_true rfl) (by rw [hR]; exact Nat.le_of_ble_eq_true rfl) (by rw [hR]; exact Nat.le_of_ble_eq_true rfl) (by rw [hR]; exact Nat.le_of_ble_eq_true rfl) (by rw [hR]; exact Nat.le_of_ble_eq_true rfl) rfl rfl (by decide) (by decide) (by decide) (inv_S C d_sampleOf_7 l_M_161 st_M_cell i_M cd_M_cell ⟨by decide, by decide⟩ ln_M_cell rfl) (fun oc L1 hL => ?_)
  obtain ⟨v7, hp, rfl, rfl⟩ := hL
  refine ⟨_, rfl, ?_⟩
  refine aw_eq (lo' := _) (st' := [.int v7, .ref (ad 4)]) (L' := [(0, ly_M, (o, ad, S.1, S.2.1, S.2.2))]) rfl rfl rfl ?_
  refine a_iald C 0 4 d_sampleOf_10 rfl rfl rfl hp.1 ?_
  have hp := hp.2
  refine a_istore (lo' := [some (.ref o), some (.int x1), some (.int x2), some (.int x3), some (.int (S.2.1 4 v7.toNatClampNeg)), none, none, none]) C d_sampleOf_11 (by decide) rfl ?_
  refine a_aload_n C d_sampleOf_13 rfl rfl ?_
  refine a_getI C 0 3 d_sampleOf_14 rfl rfl rfl (Nat.le_of_ble_eq_true rfl) f_M_16 (Nat.le_of_ble_eq_true rfl) ?_
  refine a_iconst (v := 1) C d_sampleOf_17 (by decide) ?_
  refine a_icmp_ne (tgt := 24) C d_sampleOf_18 (by decide) ⟨fun hc => ?_, fun hc => ?_⟩
  · have hp := hp.1 hc
    refine a_aload_n C d_sampleOf_24 rfl rfl ?_
    refine a_getR C 0 4 d_sampleOf_25 rfl rfl rfl (Nat.le_of_ble_eq_true rfl) f_M_19 ⟨Nat.le_of_ble_eq_true rfl, Nat.le_of_ble_eq_true rfl⟩ ?_
    refine a_iload_n C d_sampleOf_28 rfl rfl ?_
    refine a_iload_n C d_sampleOf_29 rfl rfl ?_
    refine a_iconst (v := 1) C d_sampleOf_30 (by decide) ?_
    refine a_call (Lr := [(0, ly_M, (o, ad, S.1, S.2.1, S.2.2))]) (rest := [.ref (ad 4)]) (av := [.int x1, .int x2, .int 1]) C [] [0] d_sampleOf_31 (ct_cell x1 x2 1 hp) cd_M_cell i_M (Nat.le_of_ble_eq_true rfl) (by rw [hR]; exact Nat.le_of_ble_eq_true rfl) (by rw [hR]; exact Nat.le_of_ble_eq_true rfl) (by rw [hR]; exact Nat.le_of_ble_eq_true rfl) (by rw [hR]; exact Nat.le_of_ble_eq_true rfl) rfl rfl (by decide) (by decide) (by decide) (inv_S C d_sampleOf_31 l_M_161 st_M_cell i_M cd_M_cell ⟨by decide, by decide⟩ ln_M_cell rfl) (fun oc L1 hL => ?_)
    obtain ⟨v31, hp, rfl, rfl⟩ := hL
    refine ⟨_, rfl, ?_⟩
    refine aw_eq (lo' := _) (st' := [.int v31, .ref (ad 4)]) (L' := [(0, ly_M, (o, ad, S.1, S.2.1, S.2.2))]) rfl rfl rfl ?_
    refine a_iald C 0 4 d_sampleOf_34 rfl rfl rfl hp.1 ?_
    have hp := hp.2
    refine a_istore (lo' := [some (.ref o), some (.int x1), some (.int x2), some (.int x3), some (.int (S.2.1 4 v7.toNatClampNeg)), some (.int (S.2.1 4 v31.toNatClampNeg)), none, none]) C d_sampleOf_35 (by decide) rfl ?_
    refine a_aload_n C d_sampleOf_37 rfl rfl ?_
    refine a_getR C 0 4 d_sampleOf_38 rfl rfl rfl (Nat.le_of_ble_eq_true rfl) f_M_19 ⟨Nat.le_of_ble_eq_true rfl, Nat.le_of_ble_eq_true rfl⟩ ?_
    refine a_iload_n C d_sampleOf_41 rfl rfl ?_
    refine a_iload_n C d_sampleOf_42 rfl rfl ?_
    refine a_iconst (v := 2) C d_sampleOf_43 (by decide) ?_
    refine a_call (Lr := [(0, ly_M, (o, ad, S.1, S.2.1, S.2.2))]) (rest := [.ref (ad 4)]) (av := [.int x1, .int x2, .int 2]) C [] [0] d_sampleOf_44 (ct_cell x1 x2 2 hp) cd_M_cell i_M (Nat.le_of_ble_eq_true rfl) (by rw [hR]; exact Nat.le_of_ble_eq_true rfl) (by rw [hR]; exact Nat.le_of_ble_eq_true rfl) (by rw [hR]; exact Nat.le_of_ble_eq_true rfl) (by rw [hR]; exact Nat.le_of_ble_eq_true rfl) rfl rfl (by decide) (by decide) (by decide) (inv_S C d_sampleOf_44 l_M_161 st_M_cell i_M cd_M_cell ⟨by decide, by decide⟩ ln_M_cell rfl) (fun oc L1 hL => ?_)
    obtain ⟨v44, hp, rfl, rfl⟩ := hL
    refine ⟨_, rfl, ?_⟩
    refine aw_eq (lo' := _) (st' := [.int v44, .ref (ad 4)]) (L' := [(0, ly_M, (o, ad, S.1, S.2.1, S.2.2))]) rfl rfl rfl ?_
    refine a_iald C 0 4 d_sampleOf_47 rfl rfl rfl hp.1 ?_
    have hp := hp.2
    refine a_istore (lo' := [some (.ref o), some (.int x1), some (.int x2), some (.int x3), some (.int (S.2.1 4 v7.toNatClampNeg)), some (.int (S.2.1 4 v31.toNatClampNeg)), some (.int (S.2.1 4 v44.toNatClampNeg)), none]) C d_sampleOf_48 (by decide) rfl ?_
    refine a_iload_n C d_sampleOf_50 rfl rfl ?_
    refine a_if_ne (tgt := 82) C d_sampleOf_51 (by decide) ⟨fun hc => ?_, fun hc => ?_⟩
    · have hp := hp.1 hc
      refine a_iload_n C d_sampleOf_82 rfl rfl ?_
      refine a_iconst (v := 1) C d_sampleOf_83 (by decide) ?_
      refine a_icmp_ne (tgt := 119) C d_sampleOf_84 (by decide) ⟨fun hc => ?_, fun hc => ?_⟩
      · have hp := hp.1 hc
        refine a_sipush (v := 128) C d_sampleOf_119 (by decide) ?_
        refine a_ldc (v := 32768) C d_sampleOf_122 k_M_26 ?_
        refine a_iload C d_sampleOf_124 rfl ?_
        refine a_imul C d_sampleOf_126 ?_
        refine a_sipush (v := 27439) C d_sampleOf_127 (by decide) ?_
        refine a_iload C d_sampleOf_130 rfl ?_
        refine a_imul C d_sampleOf_132 ?_
        refine a_isub C d_sampleOf_133 ?_
        refine a_sipush (v := 5329) C d_sampleOf_134 (by decide) ?_
        refine a_iload C d_sampleOf_137 rfl ?_
        refine a_imul C d_sampleOf_139 ?_
        refine a_isub C d_sampleOf_140 ?_
        refine a_ldc (v := 32768) C d_sampleOf_141 k_M_26 ?_
        refine a_iadd C d_sampleOf_143 ?_
        refine a_bipush (v := 16) C d_sampleOf_144 (by decide) ?_
        refine a_ishr C d_sampleOf_146 ?_
        refine a_iadd C d_sampleOf_147 ?_
        refine aw_lo (lo' := [some (.ref o), none, none, none, none, none, none, none]) ⟨.inr rfl, .inl rfl, .inl rfl, .inl rfl, .inl rfl, .inl rfl, .inl rfl, .inr rfl, trivial⟩ ?_
        exact s_sampleOf_148 C hQ hA hR (128 + (((((32768 * (S.2.1 4 v7.toNatClampNeg)) - (27439 * (S.2.1 4 v31.toNatClampNeg))) - (5329 * (S.2.1 4 v44.toNatClampNeg))) + 32768) >>> (16 &&& 31 : Int32) : Int32)) S  hp
      · have hp := hp.2 hc
        refine a_sipush (v := 128) C d_sampleOf_87 (by decide) ?_
        refine a_sipush (v := (-11059)) C d_sampleOf_90 (by decide) ?_
        refine a_iload C d_sampleOf_93 rfl ?_
        refine a_imul C d_sampleOf_95 ?_
        refine a_sipush (v := 21709) C d_sampleOf_96 (by decide) ?_
        refine a_iload C d_sampleOf_99 rfl ?_
        refine a_imul C d_sampleOf_101 ?_
        refine a_isub C d_sampleOf_102 ?_
        refine a_ldc (v := 32768) C d_sampleOf_103 k_M_26 ?_
        refine a_iload C d_sampleOf_105 rfl ?_
        refine a_imul C d_sampleOf_107 ?_
        refine a_iadd C d_sampleOf_108 ?_
        refine a_ldc (v := 32768) C d_sampleOf_109 k_M_26 ?_
        refine a_iadd C d_sampleOf_111 ?_
        refine a_bipush (v := 16) C d_sampleOf_112 (by decide) ?_
        refine a_ishr C d_sampleOf_114 ?_
        refine a_iadd C d_sampleOf_115 ?_
        refine a_goto (tgt := 148) C d_sampleOf_116 (by decide) ?_
        refine aw_lo (lo' := [some (.ref o), none, none, none, none, none, none, none]) ⟨.inr rfl, .inl rfl, .inl rfl, .inl rfl, .inl rfl, .inl rfl, .inl rfl, .inr rfl, trivial⟩ ?_
        exact s_sampleOf_148 C hQ hA hR (128 + ((((((-11059) * (S.2.1 4 v7.toNatClampNeg)) - (21709 * (S.2.1 4 v31.toNatClampNeg))) + (32768 * (S.2.1 4 v44.toNatClampNeg))) + 32768) >>> (16 &&& 31 : Int32) : Int32)) S  hp
    · have hp := hp.2 hc
      refine a_sipush (v := 19595) C d_sampleOf_54 (by decide) ?_
      refine a_iload C d_sampleOf_57 rfl ?_
      refine a_imul C d_sampleOf_59 ?_
      refine a_ldc (v := 38470) C d_sampleOf_60 k_M_180 ?_
      refine a_iload C d_sampleOf_62 rfl ?_
      refine a_imul C d_sampleOf_64 ?_
      refine a_iadd C d_sampleOf_65 ?_
      refine a_sipush (v := 7471) C d_sampleOf_66 (by decide) ?_
      refine a_iload C d_sampleOf_69 rfl ?_
      refine a_imul C d_sampleOf_71 ?_
      refine a_iadd C d_sampleOf_72 ?_
      refine a_ldc (v := 32768) C d_sampleOf_73 k_M_26 ?_
      refine a_iadd C d_sampleOf_75 ?_
      refine a_bipush (v := 16) C d_sampleOf_76 (by decide) ?_
      refine a_ishr C d_sampleOf_78 ?_
      refine a_goto (tgt := 148) C d_sampleOf_79 (by decide) ?_
      refine aw_lo (lo' := [some (.ref o), none, none, none, none, none, none, none]) ⟨.inr rfl, .inl rfl, .inl rfl, .inl rfl, .inl rfl, .inl rfl, .inl rfl, .inr rfl, trivial⟩ ?_
      exact s_sampleOf_148 C hQ hA hR (((((19595 * (S.2.1 4 v7.toNatClampNeg)) + (38470 * (S.2.1 4 v31.toNatClampNeg))) + (7471 * (S.2.1 4 v44.toNatClampNeg))) + 32768) >>> (16 &&& 31 : Int32) : Int32) S  hp
  · have hp := hp.2 hc
    refine a_iload C d_sampleOf_21 rfl ?_
    exact a_iret (ty := .int) C hQ hA d_sampleOf_23 rfl rfl ⟨_, S, hp, rfl, rfl⟩
end M_sampleOf
section M_sampleOfc
variable {D : va_G} {z : Nat → ClassId} {o : Nat} {ad : Nat → Nat}
set_option maxRecDepth 100000 in
theorem ct_sampleOf {l : Launch} (x1 : Int32) (x2 : Int32) (x3 : Int32) (S : ms) {K : Int32 → ms → Prop} (hp : p_sampleOf x1 x2 x3 S K) : ct gG D z l n_M_sampleOf c_M_sampleOf 8 (some .int) 2 200 [.ref o, .int x1, .int x2, .int x3] [(0, ly_M, (o, ad, S.1, S.2.1, S.2.2))] 0 0 (pM_i K o ad) := by
  refine ct_of (lo := [some (.ref o), some (.int x1), some (.int x2), some (.int x3), none, none, none, none]) (by decide) g_ok (Nat.le_of_ble_eq_true rfl) rfl ?_
  intro X A _ C hR hQ hA _
  exact s_sampleOf_0 C hQ hA hR x1 x2 x3 S hp
end M_sampleOfc
def b_makeRaster_146 (x1 : Int32) (x2 : Int32) (x3 : Int32) (x4 : Int32) (x5 : Int32) (x6 : Int32) (x8 : Int32) (x9 : Int32) (s0 : Int32) (s2 : Int32) (s3 : Int32) (S : ms) (R36 : Int32 → Int32 → Int32 → Int32 → Int32 → ms → Prop) (R50 : Int32 → Int32 → Int32 → Int32 → Int32 → Int32 → ms → Prop) (R70 : Int32 → Int32 → Int32 → Int32 → Int32 → Int32 → Int32 → Int32 → ms → Prop) (R79 : Int32 → Int32 → Int32 → Int32 → Int32 → Int32 → Int32 → Int32 → Int32 → ms → Prop) (K : ms → Prop) : Prop :=
  p_sampleOf s2 s3 x1 S (fun v147 S147 => R79 x1 x2 x3 x4 x5 x6 (s0 + v147) x8 (x9 + 1) (S147.1, S147.2.1, S147.2.2))
def b_makeRaster_126 (x1 : Int32) (x2 : Int32) (x3 : Int32) (x4 : Int32) (x5 : Int32) (x6 : Int32) (x8 : Int32) (x9 : Int32) (x11 : Int32) (s0 : Int32) (s2 : Int32) (S : ms) (R36 : Int32 → Int32 → Int32 → Int32 → Int32 → ms → Prop) (R50 : Int32 → Int32 → Int32 → Int32 → Int32 → Int32 → ms → Prop) (R70 : Int32 → Int32 → Int32 → Int32 → Int32 → Int32 → Int32 → Int32 → ms → Prop) (R79 : Int32 → Int32 → Int32 → Int32 → Int32 → Int32 → Int32 → Int32 → Int32 → ms → Prop) (K : ms → Prop) : Prop :=
  ((S.1 2) ≤ x11 → (b_makeRaster_146 x1 x2 x3 x4 x5 x6 x8 x9 s0 s2 ((S.1 2) - 1) S R36 R50 R70 R79 K)) ∧ (¬ ((S.1 2) ≤ x11) → (b_makeRaster_146 x1 x2 x3 x4 x5 x6 x8 x9 s0 s2 x11 S R36 R50 R70 R79 K))
def b_makeRaster_79 (x1 : Int32) (x2 : Int32) (x3 : Int32) (x4 : Int32) (x5 : Int32) (x6 : Int32) (x7 : Int32) (x8 : Int32) (x9 : Int32) (S : ms) (R36 : Int32 → Int32 → Int32 → Int32 → Int32 → ms → Prop) (R50 : Int32 → Int32 → Int32 → Int32 → Int32 → Int32 → ms → Prop) (R70 : Int32 → Int32 → Int32 → Int32 → Int32 → Int32 → Int32 → Int32 → ms → Prop) (R79 : Int32 → Int32 → Int32 → Int32 → Int32 → Int32 → Int32 → Int32 → Int32 → ms → Prop) (K : ms → Prop) : Prop :=
  (x2 ≤ x9 → (R70 x1 x2 x3 x4 x5 x6 x7 (x8 + 1) S)) ∧ (¬ (x2 ≤ x9) → (((S.1 1) ≤ ((x6 * x2) + x9) → (b_makeRaster_126 x1 x2 x3 x4 x5 x6 x8 x9 ((x5 * x3) + x8) x7 ((S.1 1) - 1) S R36 R50 R70 R79 K)) ∧ (¬ ((S.1 1) ≤ ((x6 * x2) + x9)) → (b_makeRaster_126 x1 x2 x3 x4 x5 x6 x8 x9 ((x5 * x3) + x8) x7 ((x6 * x2) + x9) S R36 R50 R70 R79 K))))
def e_makeRaster_79 (x1 : Int32) (x2 : Int32) (x3 : Int32) (x4 : Int32) (x5 : Int32) (x6 : Int32) (x7 : Int32) (x8 : Int32) (x9 : Int32) (S : ms) (R36 : Int32 → Int32 → Int32 → Int32 → Int32 → ms → Prop) (R50 : Int32 → Int32 → Int32 → Int32 → Int32 → Int32 → ms → Prop) (R70 : Int32 → Int32 → Int32 → Int32 → Int32 → Int32 → Int32 → Int32 → ms → Prop) (K : ms → Prop) : Prop :=
  ∃ (I : Int32 → Int32 → Int32 → Int32 → Int32 → Int32 → Int32 → Int32 → Int32 → ms → Prop) (μ : Int32 → Int32 → Int32 → Int32 → Int32 → Int32 → Int32 → Int32 → Int32 → ms → Nat), I x1 x2 x3 x4 x5 x6 x7 x8 x9 S ∧ ∀ yx1 yx2 yx3 yx4 yx5 yx6 yx7 yx8 yx9 yS, I yx1 yx2 yx3 yx4 yx5 yx6 yx7 yx8 yx9 yS → b_makeRaster_79 yx1 yx2 yx3 yx4 yx5 yx6 yx7 yx8 yx9 yS R36 R50 R70 (fun zx1 zx2 zx3 zx4 zx5 zx6 zx7 zx8 zx9 zS => I zx1 zx2 zx3 zx4 zx5 zx6 zx7 zx8 zx9 zS ∧ μ zx1 zx2 zx3 zx4 zx5 zx6 zx7 zx8 zx9 zS < μ yx1 yx2 yx3 yx4 yx5 yx6 yx7 yx8 yx9 yS) K
def b_makeRaster_70 (x1 : Int32) (x2 : Int32) (x3 : Int32) (x4 : Int32) (x5 : Int32) (x6 : Int32) (x7 : Int32) (x8 : Int32) (S : ms) (R36 : Int32 → Int32 → Int32 → Int32 → Int32 → ms → Prop) (R50 : Int32 → Int32 → Int32 → Int32 → Int32 → Int32 → ms → Prop) (R70 : Int32 → Int32 → Int32 → Int32 → Int32 → Int32 → Int32 → Int32 → ms → Prop) (K : ms → Prop) : Prop :=
  (x3 ≤ x8 → (¬ x4 = 0 ∧ (vp_in ((64 * x5) + x6) 4096 ∧ (R50 x1 x2 x3 x4 x5 (x6 + 1) (S.1, va_up S.2.1 21 (upd (S.2.1 21) ((64 * x5) + x6).toNatClampNeg (x7 / x4)), S.2.2))))) ∧ (¬ (x3 ≤ x8) → (e_makeRaster_79 x1 x2 x3 x4 x5 x6 x7 x8 0 S R36 R50 R70 K))
def e_makeRaster_70 (x1 : Int32) (x2 : Int32) (x3 : Int32) (x4 : Int32) (x5 : Int32) (x6 : Int32) (x7 : Int32) (x8 : Int32) (S : ms) (R36 : Int32 → Int32 → Int32 → Int32 → Int32 → ms → Prop) (R50 : Int32 → Int32 → Int32 → Int32 → Int32 → Int32 → ms → Prop) (K : ms → Prop) : Prop :=
  ∃ (I : Int32 → Int32 → Int32 → Int32 → Int32 → Int32 → Int32 → Int32 → ms → Prop) (μ : Int32 → Int32 → Int32 → Int32 → Int32 → Int32 → Int32 → Int32 → ms → Nat), I x1 x2 x3 x4 x5 x6 x7 x8 S ∧ ∀ yx1 yx2 yx3 yx4 yx5 yx6 yx7 yx8 yS, I yx1 yx2 yx3 yx4 yx5 yx6 yx7 yx8 yS → b_makeRaster_70 yx1 yx2 yx3 yx4 yx5 yx6 yx7 yx8 yS R36 R50 (fun zx1 zx2 zx3 zx4 zx5 zx6 zx7 zx8 zS => I zx1 zx2 zx3 zx4 zx5 zx6 zx7 zx8 zS ∧ μ zx1 zx2 zx3 zx4 zx5 zx6 zx7 zx8 zS < μ yx1 yx2 yx3 yx4 yx5 yx6 yx7 yx8 yS) K
def b_makeRaster_50 (x1 : Int32) (x2 : Int32) (x3 : Int32) (x4 : Int32) (x5 : Int32) (x6 : Int32) (S : ms) (R36 : Int32 → Int32 → Int32 → Int32 → Int32 → ms → Prop) (R50 : Int32 → Int32 → Int32 → Int32 → Int32 → Int32 → ms → Prop) (K : ms → Prop) : Prop :=
  p_layerWide 0 x1 S (fun v55 S55 => (v55 ≤ x6 → (R36 x1 x2 x3 x4 (x5 + 1) (S55.1, S55.2.1, S55.2.2))) ∧ (¬ (v55 ≤ x6) → (e_makeRaster_70 x1 x2 x3 x4 x5 x6 (x4 / 2) 0 (S55.1, S55.2.1, S55.2.2) R36 R50 K)))
def e_makeRaster_50 (x1 : Int32) (x2 : Int32) (x3 : Int32) (x4 : Int32) (x5 : Int32) (x6 : Int32) (S : ms) (R36 : Int32 → Int32 → Int32 → Int32 → Int32 → ms → Prop) (K : ms → Prop) : Prop :=
  ∃ (I : Int32 → Int32 → Int32 → Int32 → Int32 → Int32 → ms → Prop) (μ : Int32 → Int32 → Int32 → Int32 → Int32 → Int32 → ms → Nat), I x1 x2 x3 x4 x5 x6 S ∧ ∀ yx1 yx2 yx3 yx4 yx5 yx6 yS, I yx1 yx2 yx3 yx4 yx5 yx6 yS → b_makeRaster_50 yx1 yx2 yx3 yx4 yx5 yx6 yS R36 (fun zx1 zx2 zx3 zx4 zx5 zx6 zS => I zx1 zx2 zx3 zx4 zx5 zx6 zS ∧ μ zx1 zx2 zx3 zx4 zx5 zx6 zS < μ yx1 yx2 yx3 yx4 yx5 yx6 yS) K
def b_makeRaster_36 (x1 : Int32) (x2 : Int32) (x3 : Int32) (x4 : Int32) (x5 : Int32) (S : ms) (R36 : Int32 → Int32 → Int32 → Int32 → Int32 → ms → Prop) (K : ms → Prop) : Prop :=
  p_layerHigh 0 x1 S (fun v41 S41 => (v41 ≤ x5 → (K (S41.1, S41.2.1, S41.2.2))) ∧ (¬ (v41 ≤ x5) → (e_makeRaster_50 x1 x2 x3 x4 x5 0 (S41.1, S41.2.1, S41.2.2) R36 K)))
def e_makeRaster_36 (x1 : Int32) (x2 : Int32) (x3 : Int32) (x4 : Int32) (x5 : Int32) (S : ms) (K : ms → Prop) : Prop :=
  ∃ (I : Int32 → Int32 → Int32 → Int32 → Int32 → ms → Prop) (μ : Int32 → Int32 → Int32 → Int32 → Int32 → ms → Nat), I x1 x2 x3 x4 x5 S ∧ ∀ yx1 yx2 yx3 yx4 yx5 yS, I yx1 yx2 yx3 yx4 yx5 yS → b_makeRaster_36 yx1 yx2 yx3 yx4 yx5 yS (fun zx1 zx2 zx3 zx4 zx5 zS => I zx1 zx2 zx3 zx4 zx5 zS ∧ μ zx1 zx2 zx3 zx4 zx5 zS < μ yx1 yx2 yx3 yx4 yx5 yS) K
def p_makeRaster (x1 : Int32) (S : ms) (K : ms → Prop) : Prop :=
  p_greatest 0 1 S (fun v3 S3 => vp_in x1 9 ∧ (¬ (S3.2.1 15 x1.toNatClampNeg) = 0 ∧ (p_greatest 0 0 (S3.1, S3.2.1, S3.2.2) (fun v17 S17 => vp_in x1 9 ∧ (¬ (S17.2.1 16 x1.toNatClampNeg) = 0 ∧ (e_makeRaster_36 x1 (v3 / (S3.2.1 15 x1.toNatClampNeg)) (v17 / (S17.2.1 16 x1.toNatClampNeg)) ((v3 / (S3.2.1 15 x1.toNatClampNeg)) * (v17 / (S17.2.1 16 x1.toNatClampNeg))) 0 (S17.1, S17.2.1, S17.2.2) K))))))
section M_makeRaster
variable {D : va_G} {z : Nat → ClassId} {A : Nat → Prop} {X : cx} {L0 : fw} {K : ms → Prop} {o : Nat} {ad : Nat → Nat}
set_option maxRecDepth 100000 in
set_option maxHeartbeats 1000000 in
theorem s_makeRaster_146 (C : fcx gG D z A X R_M c_M_makeRaster 12 (none)) (hQ : X.2.2.2.2.2.2.2.2.2.2 = eQ gG D z X.2.2.2.2.2.2.2.1 X.2.2.2.2.1 L0 0 0 (pM_v K o ad)) (hA : A = owA gG L0 X.2.2.2.2.1.heap.size) (hR : X.2.2.2.1 = { frames := 3, cells := 1, slots := 6, locals := 300 }) (x1 : Int32) (x2 : Int32) (x3 : Int32) (x4 : Int32) (x5 : Int32) (x6 : Int32) (x8 : Int32) (x9 : Int32) (s0 : Int32) (s2 : Int32) (s3 : Int32) (S : ms) (R36 : Int32 → Int32 → Int32 → Int32 → Int32 → ms → Prop) (hR36 : ∀ yx1 yx2 yx3 yx4 yx5 yS, R36 yx1 yx2 yx3 yx4 yx5 yS → aw gG D z A X 12 36 [some (.ref o), some (.int yx1), some (.int yx2), some (.int yx3), some (.int yx4), some (.int yx5), none, none, none, none, none, none] [] [(0, ly_M, (o, ad, yS.1, yS.2.1, yS.2.2))] 0 0) (R50 : Int32 → Int32 → Int32 → Int32 → Int32 → Int32 → ms → Prop) (hR50 : ∀ yx1 yx2 yx3 yx4 yx5 yx6 yS, R50 yx1 yx2 yx3 yx4 yx5 yx6 yS → aw gG D z A X 12 50 [some (.ref o), some (.int yx1), some (.int yx2), some (.int yx3), some (.int yx4), some (.int yx5), some (.int yx6), none, none, none, none, none] [] [(0, ly_M, (o, ad, yS.1, yS.2.1, yS.2.2))] 0 0) (R70 : Int32 → Int32 → Int32 → Int32 → Int32 → Int32 → Int32 → Int32 → ms → Prop) (hR70 : ∀ yx1 yx2 yx3 yx4 yx5 yx6 yx7 yx8 yS, R70 yx1 yx2 yx3 yx4 yx5 yx6 yx7 yx8 yS → aw gG D z A X 12 70 [some (.ref o), some (.int yx1), some (.int yx2), some (.int yx3), some (.int yx4), some (.int yx5), some (.int yx6), some (.int yx7), some (.int yx8), none, none, none] [] [(0, ly_M, (o, ad, yS.1, yS.2.1, yS.2.2))] 0 0) (R79 : Int32 → Int32 → Int32 → Int32 → Int32 → Int32 → Int32 → Int32 → Int32 → ms → Prop) (hR79 : ∀ yx1 yx2 yx3 yx4 yx5 yx6 yx7 yx8 yx9 yS, R79 yx1 yx2 yx3 yx4 yx5 yx6 yx7 yx8 yx9 yS → aw gG D z A X 12 79 [some (.ref o), some (.int yx1), some (.int yx2), some (.int yx3), some (.int yx4), some (.int yx5), some (.int yx6), some (.int yx7), some (.int yx8), some (.int yx9), none, none] [] [(0, ly_M, (o, ad, yS.1, yS.2.1, yS.2.2))] 0 0) (hp : b_makeRaster_146 x1 x2 x3 x4 x5 x6 x8 x9 s0 s2 s3 S R36 R50 R70 R79 K) : aw gG D z A X 12 146 [some (.ref o), some (.int x1), some (.int x2), some (.int x3), some (.int x4), some (.int x5), some (.int x6), none, some (.int x8), some (.int x9), none, none] [.int s3, .int s2, .ref o, .int s0] [(0, ly_M, (o, ad, S.1, S.2.1, S.2.2))] 0 0 := by
  unfold b_makeRaster_146 at hp
  refine a_iload_n C d_makeRaster_146 rfl rfl ?_
  refine a_call (Lr := []) (rest := [.int s0]) (av := .ref o :: [.int s2, .int s3, .int x1]) C [0] [] d_makeRaster_147 (ct_sampleOf s2 s3 x1 S hp) cd_M_sampleOf i_M (Nat.le_of_ble_eq_true rfl) (by rw [hR]; exact Nat.le_of_ble_eq_true rfl) (by rw [hR]; exact Nat.le_of_ble_eq_true rfl) (by rw [hR]; exact Nat.le_of_ble_eq_true rfl) (by rw [hR]; exact Nat.le_of_ble_eq_true rfl) rfl rfl (by decide) (by decide) (by decide) (inv_V C 0 d_makeRaster_147 l_M_187 im_M_sampleOf se_M_sampleOf cd_M_sampleOf ⟨by decide, by decide⟩ ln_M_sampleOf rfl rfl rfl rfl rfl) (fun oc L1 hL => ?_)
  obtain ⟨v147, S147, hp, rfl, rfl⟩ := hL
  refine ⟨_, rfl, ?_⟩
  refine aw_eq (lo' := _) (st' := [.int v147, .int s0]) (L' := [(0, ly_M, (o, ad, S147.1, S147.2.1, S147.2.2))]) rfl rfl rfl ?_
  refine a_iadd C d_makeRaster_150 ?_
  refine a_istore (lo' := [some (.ref o), some (.int x1), some (.int x2), some (.int x3), some (.int x4), some (.int x5), some (.int x6), some (.int (s0 + v147)), some (.int x8), some (.int x9), none, none]) C d_makeRaster_151 (by decide) rfl ?_
  refine a_iinc (v := x9 + 1) (lo' := [some (.ref o), some (.int x1), some (.int x2), some (.int x3), some (.int x4), some (.int x5), some (.int x6), some (.int (s0 + v147)), some (.int x8), some (.int (x9 + 1)), none, none]) C d_makeRaster_153 rfl rfl (by decide) rfl ?_
  refine a_goto (tgt := 79) C d_makeRaster_156 (by decide) ?_
  refine aw_lo (lo' := [some (.ref o), some (.int x1), some (.int x2), some (.int x3), some (.int x4), some (.int x5), some (.int x6), some (.int (s0 + v147)), some (.int x8), some (.int (x9 + 1)), none, none]) ⟨.inr rfl, .inr rfl, .inr rfl, .inr rfl, .inr rfl, .inr rfl, .inr rfl, .inr rfl, .inr rfl, .inr rfl, .inr rfl, .inr rfl, trivial⟩ ?_
  exact hR79 x1 x2 x3 x4 x5 x6 (s0 + v147) x8 (x9 + 1) (S147.1, S147.2.1, S147.2.2) hp
set_option maxRecDepth 100000 in
set_option maxHeartbeats 1000000 in
theorem s_makeRaster_126 (C : fcx gG D z A X R_M c_M_makeRaster 12 (none)) (hQ : X.2.2.2.2.2.2.2.2.2.2 = eQ gG D z X.2.2.2.2.2.2.2.1 X.2.2.2.2.1 L0 0 0 (pM_v K o ad)) (hA : A = owA gG L0 X.2.2.2.2.1.heap.size) (hR : X.2.2.2.1 = { frames := 3, cells := 1, slots := 6, locals := 300 }) (x1 : Int32) (x2 : Int32) (x3 : Int32) (x4 : Int32) (x5 : Int32) (x6 : Int32) (x8 : Int32) (x9 : Int32) (x11 : Int32) (s0 : Int32) (s2 : Int32) (S : ms) (R36 : Int32 → Int32 → Int32 → Int32 → Int32 → ms → Prop) (hR36 : ∀ yx1 yx2 yx3 yx4 yx5 yS, R36 yx1 yx2 yx3 yx4 yx5 yS → aw gG D z A X 12 36 [some (.ref o), some (.int yx1), some (.int yx2), some (.int yx3), some (.int yx4), some (.int yx5), none, none, none, none, none, none] [] [(0, ly_M, (o, ad, yS.1, yS.2.1, yS.2.2))] 0 0) (R50 : Int32 → Int32 → Int32 → Int32 → Int32 → Int32 → ms → Prop) (hR50 : ∀ yx1 yx2 yx3 yx4 yx5 yx6 yS, R50 yx1 yx2 yx3 yx4 yx5 yx6 yS → aw gG D z A X 12 50 [some (.ref o), some (.int yx1), some (.int yx2), some (.int yx3), some (.int yx4), some (.int yx5), some (.int yx6), none, none, none, none, none] [] [(0, ly_M, (o, ad, yS.1, yS.2.1, yS.2.2))] 0 0) (R70 : Int32 → Int32 → Int32 → Int32 → Int32 → Int32 → Int32 → Int32 → ms → Prop) (hR70 : ∀ yx1 yx2 yx3 yx4 yx5 yx6 yx7 yx8 yS, R70 yx1 yx2 yx3 yx4 yx5 yx6 yx7 yx8 yS → aw gG D z A X 12 70 [some (.ref o), some (.int yx1), some (.int yx2), some (.int yx3), some (.int yx4), some (.int yx5), some (.int yx6), some (.int yx7), some (.int yx8), none, none, none] [] [(0, ly_M, (o, ad, yS.1, yS.2.1, yS.2.2))] 0 0) (R79 : Int32 → Int32 → Int32 → Int32 → Int32 → Int32 → Int32 → Int32 → Int32 → ms → Prop) (hR79 : ∀ yx1 yx2 yx3 yx4 yx5 yx6 yx7 yx8 yx9 yS, R79 yx1 yx2 yx3 yx4 yx5 yx6 yx7 yx8 yx9 yS → aw gG D z A X 12 79 [some (.ref o), some (.int yx1), some (.int yx2), some (.int yx3), some (.int yx4), some (.int yx5), some (.int yx6), some (.int yx7), some (.int yx8), some (.int yx9), none, none] [] [(0, ly_M, (o, ad, yS.1, yS.2.1, yS.2.2))] 0 0) (hp : b_makeRaster_126 x1 x2 x3 x4 x5 x6 x8 x9 x11 s0 s2 S R36 R50 R70 R79 K) : aw gG D z A X 12 126 [some (.ref o), some (.int x1), some (.int x2), some (.int x3), some (.int x4), some (.int x5), some (.int x6), none, some (.int x8), some (.int x9), none, some (.int x11)] [.int s2, .ref o, .int s0] [(0, ly_M, (o, ad, S.1, S.2.1, S.2.2))] 0 0 := by
  unfold b_makeRaster_126 at hp
  refine a_iload C d_makeRaster_126 rfl ?_
  refine a_aload_n C d_makeRaster_128 rfl rfl ?_
  refine a_getI C 0 2 d_makeRaster_129 rfl rfl rfl (Nat.le_of_ble_eq_true rfl) f_M_13 (Nat.le_of_ble_eq_true rfl) ?_
  refine a_icmp_ge (tgt := 140) C d_makeRaster_132 (by decide) ⟨fun hc => ?_, fun hc => ?_⟩
  · have hp := hp.1 hc
    refine a_aload_n C d_makeRaster_140 rfl rfl ?_
    refine a_getI C 0 2 d_makeRaster_141 rfl rfl rfl (Nat.le_of_ble_eq_true rfl) f_M_13 (Nat.le_of_ble_eq_true rfl) ?_
    refine a_iconst (v := 1) C d_makeRaster_144 (by decide) ?_
    refine a_isub C d_makeRaster_145 ?_
    refine aw_lo (lo' := [some (.ref o), some (.int x1), some (.int x2), some (.int x3), some (.int x4), some (.int x5), some (.int x6), none, some (.int x8), some (.int x9), none, none]) ⟨.inr rfl, .inr rfl, .inr rfl, .inr rfl, .inr rfl, .inr rfl, .inr rfl, .inr rfl, .inr rfl, .inr rfl, .inr rfl, .inl rfl, trivial⟩ ?_
    exact s_makeRaster_146 C hQ hA hR x1 x2 x3 x4 x5 x6 x8 x9 s0 s2 ((S.1 2) - 1) S R36 hR36 R50 hR50 R70 hR70 R79 hR79 hp
  · have hp := hp.2 hc
    refine a_iload C d_makeRaster_135 rfl ?_
    refine a_goto (tgt := 146) C d_makeRaster_137 (by decide) ?_
    refine aw_lo (lo' := [some (.ref o), some (.int x1), some (.int x2), some (.int x3), some (.int x4), some (.int x5), some (.int x6), none, some (.int x8), some (.int x9), none, none]) ⟨.inr rfl, .inr rfl, .inr rfl, .inr rfl, .inr rfl, .inr rfl, .inr rfl, .inr rfl, .inr rfl, .inr rfl, .inr rfl, .inl rfl, trivial⟩ ?_
    exact s_makeRaster_146 C hQ hA hR x1 x2 x3 x4 x5 x6 x8 x9 s0 s2 x11 S R36 hR36 R50 hR50 R70 hR70 R79 hR79 hp
set_option maxRecDepth 100000 in
set_option maxHeartbeats 1000000 in
theorem s_makeRaster_79 (C : fcx gG D z A X R_M c_M_makeRaster 12 (none)) (hQ : X.2.2.2.2.2.2.2.2.2.2 = eQ gG D z X.2.2.2.2.2.2.2.1 X.2.2.2.2.1 L0 0 0 (pM_v K o ad)) (hA : A = owA gG L0 X.2.2.2.2.1.heap.size) (hR : X.2.2.2.1 = { frames := 3, cells := 1, slots := 6, locals := 300 }) (x1 : Int32) (x2 : Int32) (x3 : Int32) (x4 : Int32) (x5 : Int32) (x6 : Int32) (x7 : Int32) (x8 : Int32) (x9 : Int32) (S : ms) (R36 : Int32 → Int32 → Int32 → Int32 → Int32 → ms → Prop) (hR36 : ∀ yx1 yx2 yx3 yx4 yx5 yS, R36 yx1 yx2 yx3 yx4 yx5 yS → aw gG D z A X 12 36 [some (.ref o), some (.int yx1), some (.int yx2), some (.int yx3), some (.int yx4), some (.int yx5), none, none, none, none, none, none] [] [(0, ly_M, (o, ad, yS.1, yS.2.1, yS.2.2))] 0 0) (R50 : Int32 → Int32 → Int32 → Int32 → Int32 → Int32 → ms → Prop) (hR50 : ∀ yx1 yx2 yx3 yx4 yx5 yx6 yS, R50 yx1 yx2 yx3 yx4 yx5 yx6 yS → aw gG D z A X 12 50 [some (.ref o), some (.int yx1), some (.int yx2), some (.int yx3), some (.int yx4), some (.int yx5), some (.int yx6), none, none, none, none, none] [] [(0, ly_M, (o, ad, yS.1, yS.2.1, yS.2.2))] 0 0) (R70 : Int32 → Int32 → Int32 → Int32 → Int32 → Int32 → Int32 → Int32 → ms → Prop) (hR70 : ∀ yx1 yx2 yx3 yx4 yx5 yx6 yx7 yx8 yS, R70 yx1 yx2 yx3 yx4 yx5 yx6 yx7 yx8 yS → aw gG D z A X 12 70 [some (.ref o), some (.int yx1), some (.int yx2), some (.int yx3), some (.int yx4), some (.int yx5), some (.int yx6), some (.int yx7), some (.int yx8), none, none, none] [] [(0, ly_M, (o, ad, yS.1, yS.2.1, yS.2.2))] 0 0) (R79 : Int32 → Int32 → Int32 → Int32 → Int32 → Int32 → Int32 → Int32 → Int32 → ms → Prop) (hR79 : ∀ yx1 yx2 yx3 yx4 yx5 yx6 yx7 yx8 yx9 yS, R79 yx1 yx2 yx3 yx4 yx5 yx6 yx7 yx8 yx9 yS → aw gG D z A X 12 79 [some (.ref o), some (.int yx1), some (.int yx2), some (.int yx3), some (.int yx4), some (.int yx5), some (.int yx6), some (.int yx7), some (.int yx8), some (.int yx9), none, none] [] [(0, ly_M, (o, ad, yS.1, yS.2.1, yS.2.2))] 0 0) (hp : b_makeRaster_79 x1 x2 x3 x4 x5 x6 x7 x8 x9 S R36 R50 R70 R79 K) : aw gG D z A X 12 79 [some (.ref o), some (.int x1), some (.int x2), some (.int x3), some (.int x4), some (.int x5), some (.int x6), some (.int x7), some (.int x8), some (.int x9), none, none] [] [(0, ly_M, (o, ad, S.1, S.2.1, S.2.2))] 0 0 := by
  unfold b_makeRaster_79 at hp
  refine a_iload C d_makeRaster_79 rfl ?_
  refine a_iload_n C d_makeRaster_81 rfl rfl ?_
  refine a_icmp_ge (tgt := 159) C d_makeRaster_82 (by decide) ⟨fun hc => ?_, fun hc => ?_⟩
  · have hp := hp.1 hc
    refine a_iinc (v := x8 + 1) (lo' := [some (.ref o), some (.int x1), some (.int x2), some (.int x3), some (.int x4), some (.int x5), some (.int x6), some (.int x7), some (.int (x8 + 1)), some (.int x9), none, none]) C d_makeRaster_159 rfl rfl (by decide) rfl ?_
    refine a_goto (tgt := 70) C d_makeRaster_162 (by decide) ?_
    refine aw_lo (lo' := [some (.ref o), some (.int x1), some (.int x2), some (.int x3), some (.int x4), some (.int x5), some (.int x6), some (.int x7), some (.int (x8 + 1)), none, none, none]) ⟨.inr rfl, .inr rfl, .inr rfl, .inr rfl, .inr rfl, .inr rfl, .inr rfl, .inr rfl, .inr rfl, .inl rfl, .inr rfl, .inr rfl, trivial⟩ ?_
    exact hR70 x1 x2 x3 x4 x5 x6 x7 (x8 + 1) S hp
  · have hp := hp.2 hc
    refine a_iload C d_makeRaster_85 rfl ?_
    refine a_iload_n C d_makeRaster_87 rfl rfl ?_
    refine a_imul C d_makeRaster_88 ?_
    refine a_iload C d_makeRaster_89 rfl ?_
    refine a_iadd C d_makeRaster_91 ?_
    refine a_istore (lo' := [some (.ref o), some (.int x1), some (.int x2), some (.int x3), some (.int x4), some (.int x5), some (.int x6), some (.int x7), some (.int x8), some (.int x9), some (.int ((x6 * x2) + x9)), none]) C d_makeRaster_92 (by decide) rfl ?_
    refine a_iload C d_makeRaster_94 rfl ?_
    refine a_iload_n C d_makeRaster_96 rfl rfl ?_
    refine a_imul C d_makeRaster_97 ?_
    refine a_iload C d_makeRaster_98 rfl ?_
    refine a_iadd C d_makeRaster_100 ?_
    refine a_istore (lo' := [some (.ref o), some (.int x1), some (.int x2), some (.int x3), some (.int x4), some (.int x5), some (.int x6), some (.int x7), some (.int x8), some (.int x9), some (.int ((x6 * x2) + x9)), some (.int ((x5 * x3) + x8))]) C d_makeRaster_101 (by decide) rfl ?_
    refine a_iload C d_makeRaster_103 rfl ?_
    refine a_aload_n C d_makeRaster_105 rfl rfl ?_
    refine a_iload C d_makeRaster_106 rfl ?_
    refine a_aload_n C d_makeRaster_108 rfl rfl ?_
    refine a_getI C 0 1 d_makeRaster_109 rfl rfl rfl (Nat.le_of_ble_eq_true rfl) f_M_7 (Nat.le_of_ble_eq_true rfl) ?_
    refine a_icmp_ge (tgt := 120) C d_makeRaster_112 (by decide) ⟨fun hc => ?_, fun hc => ?_⟩
    · have hp := hp.1 hc
      refine a_aload_n C d_makeRaster_120 rfl rfl ?_
      refine a_getI C 0 1 d_makeRaster_121 rfl rfl rfl (Nat.le_of_ble_eq_true rfl) f_M_7 (Nat.le_of_ble_eq_true rfl) ?_
      refine a_iconst (v := 1) C d_makeRaster_124 (by decide) ?_
      refine a_isub C d_makeRaster_125 ?_
      refine aw_lo (lo' := [some (.ref o), some (.int x1), some (.int x2), some (.int x3), some (.int x4), some (.int x5), some (.int x6), none, some (.int x8), some (.int x9), none, some (.int ((x5 * x3) + x8))]) ⟨.inr rfl, .inr rfl, .inr rfl, .inr rfl, .inr rfl, .inr rfl, .inr rfl, .inl rfl, .inr rfl, .inr rfl, .inl rfl, .inr rfl, trivial⟩ ?_
      exact s_makeRaster_126 C hQ hA hR x1 x2 x3 x4 x5 x6 x8 x9 ((x5 * x3) + x8) x7 ((S.1 1) - 1) S R36 hR36 R50 hR50 R70 hR70 R79 hR79 hp
    · have hp := hp.2 hc
      refine a_iload C d_makeRaster_115 rfl ?_
      refine a_goto (tgt := 126) C d_makeRaster_117 (by decide) ?_
      refine aw_lo (lo' := [some (.ref o), some (.int x1), some (.int x2), some (.int x3), some (.int x4), some (.int x5), some (.int x6), none, some (.int x8), some (.int x9), none, some (.int ((x5 * x3) + x8))]) ⟨.inr rfl, .inr rfl, .inr rfl, .inr rfl, .inr rfl, .inr rfl, .inr rfl, .inl rfl, .inr rfl, .inr rfl, .inl rfl, .inr rfl, trivial⟩ ?_
      exact s_makeRaster_126 C hQ hA hR x1 x2 x3 x4 x5 x6 x8 x9 ((x5 * x3) + x8) x7 ((x6 * x2) + x9) S R36 hR36 R50 hR50 R70 hR70 R79 hR79 hp
set_option maxRecDepth 100000 in
set_option maxHeartbeats 1000000 in
theorem se_makeRaster_79 (C : fcx gG D z A X R_M c_M_makeRaster 12 (none)) (hQ : X.2.2.2.2.2.2.2.2.2.2 = eQ gG D z X.2.2.2.2.2.2.2.1 X.2.2.2.2.1 L0 0 0 (pM_v K o ad)) (hA : A = owA gG L0 X.2.2.2.2.1.heap.size) (hR : X.2.2.2.1 = { frames := 3, cells := 1, slots := 6, locals := 300 }) (x1 : Int32) (x2 : Int32) (x3 : Int32) (x4 : Int32) (x5 : Int32) (x6 : Int32) (x7 : Int32) (x8 : Int32) (x9 : Int32) (S : ms) (R36 : Int32 → Int32 → Int32 → Int32 → Int32 → ms → Prop) (hR36 : ∀ yx1 yx2 yx3 yx4 yx5 yS, R36 yx1 yx2 yx3 yx4 yx5 yS → aw gG D z A X 12 36 [some (.ref o), some (.int yx1), some (.int yx2), some (.int yx3), some (.int yx4), some (.int yx5), none, none, none, none, none, none] [] [(0, ly_M, (o, ad, yS.1, yS.2.1, yS.2.2))] 0 0) (R50 : Int32 → Int32 → Int32 → Int32 → Int32 → Int32 → ms → Prop) (hR50 : ∀ yx1 yx2 yx3 yx4 yx5 yx6 yS, R50 yx1 yx2 yx3 yx4 yx5 yx6 yS → aw gG D z A X 12 50 [some (.ref o), some (.int yx1), some (.int yx2), some (.int yx3), some (.int yx4), some (.int yx5), some (.int yx6), none, none, none, none, none] [] [(0, ly_M, (o, ad, yS.1, yS.2.1, yS.2.2))] 0 0) (R70 : Int32 → Int32 → Int32 → Int32 → Int32 → Int32 → Int32 → Int32 → ms → Prop) (hR70 : ∀ yx1 yx2 yx3 yx4 yx5 yx6 yx7 yx8 yS, R70 yx1 yx2 yx3 yx4 yx5 yx6 yx7 yx8 yS → aw gG D z A X 12 70 [some (.ref o), some (.int yx1), some (.int yx2), some (.int yx3), some (.int yx4), some (.int yx5), some (.int yx6), some (.int yx7), some (.int yx8), none, none, none] [] [(0, ly_M, (o, ad, yS.1, yS.2.1, yS.2.2))] 0 0) (hp : e_makeRaster_79 x1 x2 x3 x4 x5 x6 x7 x8 x9 S R36 R50 R70 K) : aw gG D z A X 12 79 [some (.ref o), some (.int x1), some (.int x2), some (.int x3), some (.int x4), some (.int x5), some (.int x6), some (.int x7), some (.int x8), some (.int x9), none, none] [] [(0, ly_M, (o, ad, S.1, S.2.1, S.2.2))] 0 0 := by
  obtain ⟨I, μ, h0, hs⟩ := hp
  have key : ∀ (n : Nat) (yx1 : Int32) (yx2 : Int32) (yx3 : Int32) (yx4 : Int32) (yx5 : Int32) (yx6 : Int32) (yx7 : Int32) (yx8 : Int32) (yx9 : Int32) (yS : ms), μ yx1 yx2 yx3 yx4 yx5 yx6 yx7 yx8 yx9 yS < n → I yx1 yx2 yx3 yx4 yx5 yx6 yx7 yx8 yx9 yS → aw gG D z A X 12 79 [some (.ref o), some (.int yx1), some (.int yx2), some (.int yx3), some (.int yx4), some (.int yx5), some (.int yx6), some (.int yx7), some (.int yx8), some (.int yx9), none, none] [] [(0, ly_M, (o, ad, yS.1, yS.2.1, yS.2.2))] 0 0 := by
    intro n
    induction n with
    | zero => intro yx1 yx2 yx3 yx4 yx5 yx6 yx7 yx8 yx9 yS h; omega
    | succ n ih =>
      intro yx1 yx2 yx3 yx4 yx5 yx6 yx7 yx8 yx9 yS hn hI
      exact s_makeRaster_79 C hQ hA hR yx1 yx2 yx3 yx4 yx5 yx6 yx7 yx8 yx9 yS R36 hR36 R50 hR50 R70 hR70 _ (fun zx1 zx2 zx3 zx4 zx5 zx6 zx7 zx8 zx9 zS hw => ih zx1 zx2 zx3 zx4 zx5 zx6 zx7 zx8 zx9 zS (by omega) hw.1) (hs yx1 yx2 yx3 yx4 yx5 yx6 yx7 yx8 yx9 yS hI)
  exact key (μ x1 x2 x3 x4 x5 x6 x7 x8 x9 S + 1) x1 x2 x3 x4 x5 x6 x7 x8 x9 S (Nat.lt_succ_self _) h0
set_option maxRecDepth 100000 in
set_option maxHeartbeats 1000000 in
theorem s_makeRaster_70 (C : fcx gG D z A X R_M c_M_makeRaster 12 (none)) (hQ : X.2.2.2.2.2.2.2.2.2.2 = eQ gG D z X.2.2.2.2.2.2.2.1 X.2.2.2.2.1 L0 0 0 (pM_v K o ad)) (hA : A = owA gG L0 X.2.2.2.2.1.heap.size) (hR : X.2.2.2.1 = { frames := 3, cells := 1, slots := 6, locals := 300 }) (x1 : Int32) (x2 : Int32) (x3 : Int32) (x4 : Int32) (x5 : Int32) (x6 : Int32) (x7 : Int32) (x8 : Int32) (S : ms) (R36 : Int32 → Int32 → Int32 → Int32 → Int32 → ms → Prop) (hR36 : ∀ yx1 yx2 yx3 yx4 yx5 yS, R36 yx1 yx2 yx3 yx4 yx5 yS → aw gG D z A X 12 36 [some (.ref o), some (.int yx1), some (.int yx2), some (.int yx3), some (.int yx4), some (.int yx5), none, none, none, none, none, none] [] [(0, ly_M, (o, ad, yS.1, yS.2.1, yS.2.2))] 0 0) (R50 : Int32 → Int32 → Int32 → Int32 → Int32 → Int32 → ms → Prop) (hR50 : ∀ yx1 yx2 yx3 yx4 yx5 yx6 yS, R50 yx1 yx2 yx3 yx4 yx5 yx6 yS → aw gG D z A X 12 50 [some (.ref o), some (.int yx1), some (.int yx2), some (.int yx3), some (.int yx4), some (.int yx5), some (.int yx6), none, none, none, none, none] [] [(0, ly_M, (o, ad, yS.1, yS.2.1, yS.2.2))] 0 0) (R70 : Int32 → Int32 → Int32 → Int32 → Int32 → Int32 → Int32 → Int32 → ms → Prop) (hR70 : ∀ yx1 yx2 yx3 yx4 yx5 yx6 yx7 yx8 yS, R70 yx1 yx2 yx3 yx4 yx5 yx6 yx7 yx8 yS → aw gG D z A X 12 70 [some (.ref o), some (.int yx1), some (.int yx2), some (.int yx3), some (.int yx4), some (.int yx5), some (.int yx6), some (.int yx7), some (.int yx8), none, none, none] [] [(0, ly_M, (o, ad, yS.1, yS.2.1, yS.2.2))] 0 0) (hp : b_makeRaster_70 x1 x2 x3 x4 x5 x6 x7 x8 S R36 R50 R70 K) : aw gG D z A X 12 70 [some (.ref o), some (.int x1), some (.int x2), some (.int x3), some (.int x4), some (.int x5), some (.int x6), some (.int x7), some (.int x8), none, none, none] [] [(0, ly_M, (o, ad, S.1, S.2.1, S.2.2))] 0 0 := by
  unfold b_makeRaster_70 at hp
  refine a_iload C d_makeRaster_70 rfl ?_
  refine a_iload_n C d_makeRaster_72 rfl rfl ?_
  refine a_icmp_ge (tgt := 165) C d_makeRaster_73 (by decide) ⟨fun hc => ?_, fun hc => ?_⟩
  · have hp := hp.1 hc
    refine a_aload_n C d_makeRaster_165 rfl rfl ?_
    refine a_getR C 0 21 d_makeRaster_166 rfl rfl rfl (Nat.le_of_ble_eq_true rfl) f_M_69 ⟨Nat.le_of_ble_eq_true rfl, Nat.le_of_ble_eq_true rfl⟩ ?_
    refine a_bipush (v := 64) C d_makeRaster_169 (by decide) ?_
    refine a_iload C d_makeRaster_171 rfl ?_
    refine a_imul C d_makeRaster_173 ?_
    refine a_iload C d_makeRaster_174 rfl ?_
    refine a_iadd C d_makeRaster_176 ?_
    refine a_iload C d_makeRaster_177 rfl ?_
    refine a_iload C d_makeRaster_179 rfl ?_
    refine a_idiv C d_makeRaster_181 hp.1 ?_
    have hp := hp.2
    refine a_iast C 0 21 d_makeRaster_182 rfl rfl rfl hp.1 ?_
    have hp := hp.2
    refine aw_eq (lo' := _) (st' := _) (L' := [(0, ly_M, (o, ad, S.1, va_up S.2.1 21 (upd (S.2.1 21) ((64 * x5) + x6).toNatClampNeg (x7 / x4)), S.2.2))]) rfl rfl rfl ?_
    refine a_iinc (v := x6 + 1) (lo' := [some (.ref o), some (.int x1), some (.int x2), some (.int x3), some (.int x4), some (.int x5), some (.int (x6 + 1)), some (.int x7), some (.int x8), none, none, none]) C d_makeRaster_183 rfl rfl (by decide) rfl ?_
    refine a_goto (tgt := 50) C d_makeRaster_186 (by decide) ?_
    refine aw_lo (lo' := [some (.ref o), some (.int x1), some (.int x2), some (.int x3), some (.int x4), some (.int x5), some (.int (x6 + 1)), none, none, none, none, none]) ⟨.inr rfl, .inr rfl, .inr rfl, .inr rfl, .inr rfl, .inr rfl, .inr rfl, .inl rfl, .inl rfl, .inr rfl, .inr rfl, .inr rfl, trivial⟩ ?_
    exact hR50 x1 x2 x3 x4 x5 (x6 + 1) (S.1, va_up S.2.1 21 (upd (S.2.1 21) ((64 * x5) + x6).toNatClampNeg (x7 / x4)), S.2.2) hp
  · have hp := hp.2 hc
    refine a_iconst (v := 0) C d_makeRaster_76 (by decide) ?_
    refine a_istore (lo' := [some (.ref o), some (.int x1), some (.int x2), some (.int x3), some (.int x4), some (.int x5), some (.int x6), some (.int x7), some (.int x8), some (.int 0), none, none]) C d_makeRaster_77 (by decide) rfl ?_
    refine aw_lo (lo' := [some (.ref o), some (.int x1), some (.int x2), some (.int x3), some (.int x4), some (.int x5), some (.int x6), some (.int x7), some (.int x8), some (.int 0), none, none]) ⟨.inr rfl, .inr rfl, .inr rfl, .inr rfl, .inr rfl, .inr rfl, .inr rfl, .inr rfl, .inr rfl, .inr rfl, .inr rfl, .inr rfl, trivial⟩ ?_
    exact se_makeRaster_79 C hQ hA hR x1 x2 x3 x4 x5 x6 x7 x8 0 S R36 hR36 R50 hR50 R70 hR70 hp
set_option maxRecDepth 100000 in
set_option maxHeartbeats 1000000 in
theorem se_makeRaster_70 (C : fcx gG D z A X R_M c_M_makeRaster 12 (none)) (hQ : X.2.2.2.2.2.2.2.2.2.2 = eQ gG D z X.2.2.2.2.2.2.2.1 X.2.2.2.2.1 L0 0 0 (pM_v K o ad)) (hA : A = owA gG L0 X.2.2.2.2.1.heap.size) (hR : X.2.2.2.1 = { frames := 3, cells := 1, slots := 6, locals := 300 }) (x1 : Int32) (x2 : Int32) (x3 : Int32) (x4 : Int32) (x5 : Int32) (x6 : Int32) (x7 : Int32) (x8 : Int32) (S : ms) (R36 : Int32 → Int32 → Int32 → Int32 → Int32 → ms → Prop) (hR36 : ∀ yx1 yx2 yx3 yx4 yx5 yS, R36 yx1 yx2 yx3 yx4 yx5 yS → aw gG D z A X 12 36 [some (.ref o), some (.int yx1), some (.int yx2), some (.int yx3), some (.int yx4), some (.int yx5), none, none, none, none, none, none] [] [(0, ly_M, (o, ad, yS.1, yS.2.1, yS.2.2))] 0 0) (R50 : Int32 → Int32 → Int32 → Int32 → Int32 → Int32 → ms → Prop) (hR50 : ∀ yx1 yx2 yx3 yx4 yx5 yx6 yS, R50 yx1 yx2 yx3 yx4 yx5 yx6 yS → aw gG D z A X 12 50 [some (.ref o), some (.int yx1), some (.int yx2), some (.int yx3), some (.int yx4), some (.int yx5), some (.int yx6), none, none, none, none, none] [] [(0, ly_M, (o, ad, yS.1, yS.2.1, yS.2.2))] 0 0) (hp : e_makeRaster_70 x1 x2 x3 x4 x5 x6 x7 x8 S R36 R50 K) : aw gG D z A X 12 70 [some (.ref o), some (.int x1), some (.int x2), some (.int x3), some (.int x4), some (.int x5), some (.int x6), some (.int x7), some (.int x8), none, none, none] [] [(0, ly_M, (o, ad, S.1, S.2.1, S.2.2))] 0 0 := by
  obtain ⟨I, μ, h0, hs⟩ := hp
  have key : ∀ (n : Nat) (yx1 : Int32) (yx2 : Int32) (yx3 : Int32) (yx4 : Int32) (yx5 : Int32) (yx6 : Int32) (yx7 : Int32) (yx8 : Int32) (yS : ms), μ yx1 yx2 yx3 yx4 yx5 yx6 yx7 yx8 yS < n → I yx1 yx2 yx3 yx4 yx5 yx6 yx7 yx8 yS → aw gG D z A X 12 70 [some (.ref o), some (.int yx1), some (.int yx2), some (.int yx3), some (.int yx4), some (.int yx5), some (.int yx6), some (.int yx7), some (.int yx8), none, none, none] [] [(0, ly_M, (o, ad, yS.1, yS.2.1, yS.2.2))] 0 0 := by
    intro n
    induction n with
    | zero => intro yx1 yx2 yx3 yx4 yx5 yx6 yx7 yx8 yS h; omega
    | succ n ih =>
      intro yx1 yx2 yx3 yx4 yx5 yx6 yx7 yx8 yS hn hI
      exact s_makeRaster_70 C hQ hA hR yx1 yx2 yx3 yx4 yx5 yx6 yx7 yx8 yS R36 hR36 R50 hR50 _ (fun zx1 zx2 zx3 zx4 zx5 zx6 zx7 zx8 zS hw => ih zx1 zx2 zx3 zx4 zx5 zx6 zx7 zx8 zS (by omega) hw.1) (hs yx1 yx2 yx3 yx4 yx5 yx6 yx7 yx8 yS hI)
  exact key (μ x1 x2 x3 x4 x5 x6 x7 x8 S + 1) x1 x2 x3 x4 x5 x6 x7 x8 S (Nat.lt_succ_self _) h0
set_option maxRecDepth 100000 in
set_option maxHeartbeats 1000000 in
theorem s_makeRaster_50 (C : fcx gG D z A X R_M c_M_makeRaster 12 (none)) (hQ : X.2.2.2.2.2.2.2.2.2.2 = eQ gG D z X.2.2.2.2.2.2.2.1 X.2.2.2.2.1 L0 0 0 (pM_v K o ad)) (hA : A = owA gG L0 X.2.2.2.2.1.heap.size) (hR : X.2.2.2.1 = { frames := 3, cells := 1, slots := 6, locals := 300 }) (x1 : Int32) (x2 : Int32) (x3 : Int32) (x4 : Int32) (x5 : Int32) (x6 : Int32) (S : ms) (R36 : Int32 → Int32 → Int32 → Int32 → Int32 → ms → Prop) (hR36 : ∀ yx1 yx2 yx3 yx4 yx5 yS, R36 yx1 yx2 yx3 yx4 yx5 yS → aw gG D z A X 12 36 [some (.ref o), some (.int yx1), some (.int yx2), some (.int yx3), some (.int yx4), some (.int yx5), none, none, none, none, none, none] [] [(0, ly_M, (o, ad, yS.1, yS.2.1, yS.2.2))] 0 0) (R50 : Int32 → Int32 → Int32 → Int32 → Int32 → Int32 → ms → Prop) (hR50 : ∀ yx1 yx2 yx3 yx4 yx5 yx6 yS, R50 yx1 yx2 yx3 yx4 yx5 yx6 yS → aw gG D z A X 12 50 [some (.ref o), some (.int yx1), some (.int yx2), some (.int yx3), some (.int yx4), some (.int yx5), some (.int yx6), none, none, none, none, none] [] [(0, ly_M, (o, ad, yS.1, yS.2.1, yS.2.2))] 0 0) (hp : b_makeRaster_50 x1 x2 x3 x4 x5 x6 S R36 R50 K) : aw gG D z A X 12 50 [some (.ref o), some (.int x1), some (.int x2), some (.int x3), some (.int x4), some (.int x5), some (.int x6), none, none, none, none, none] [] [(0, ly_M, (o, ad, S.1, S.2.1, S.2.2))] 0 0 := by
  unfold b_makeRaster_50 at hp
  refine a_iload C d_makeRaster_50 rfl ?_
  refine a_aload_n C d_makeRaster_52 rfl rfl ?_
  refine a_iconst (v := 0) C d_makeRaster_53 (by decide) ?_
  refine a_iload_n C d_makeRaster_54 rfl rfl ?_
  refine a_call (Lr := []) (rest := [.int x6]) (av := .ref o :: [.int 0, .int x1]) C [0] [] d_makeRaster_55 (ct_layerWide 0 x1 S hp) cd_M_layerWide i_M (Nat.le_of_ble_eq_true rfl) (by rw [hR]; exact Nat.le_of_ble_eq_true rfl) (by rw [hR]; exact Nat.le_of_ble_eq_true rfl) (by rw [hR]; exact Nat.le_of_ble_eq_true rfl) (by rw [hR]; exact Nat.le_of_ble_eq_true rfl) rfl rfl (by decide) (by decide) (by decide) (inv_V C 0 d_makeRaster_55 l_M_184 im_M_layerWide se_M_layerWide cd_M_layerWide ⟨by decide, by decide⟩ ln_M_layerWide rfl rfl rfl rfl rfl) (fun oc L1 hL => ?_)
  obtain ⟨v55, S55, hp, rfl, rfl⟩ := hL
  refine ⟨_, rfl, ?_⟩
  refine aw_eq (lo' := _) (st' := [.int v55, .int x6]) (L' := [(0, ly_M, (o, ad, S55.1, S55.2.1, S55.2.2))]) rfl rfl rfl ?_
  refine a_icmp_ge (tgt := 189) C d_makeRaster_58 (by decide) ⟨fun hc => ?_, fun hc => ?_⟩
  · have hp := hp.1 hc
    refine a_iinc (v := x5 + 1) (lo' := [some (.ref o), some (.int x1), some (.int x2), some (.int x3), some (.int x4), some (.int (x5 + 1)), some (.int x6), none, none, none, none, none]) C d_makeRaster_189 rfl rfl (by decide) rfl ?_
    refine a_goto (tgt := 36) C d_makeRaster_192 (by decide) ?_
    refine aw_lo (lo' := [some (.ref o), some (.int x1), some (.int x2), some (.int x3), some (.int x4), some (.int (x5 + 1)), none, none, none, none, none, none]) ⟨.inr rfl, .inr rfl, .inr rfl, .inr rfl, .inr rfl, .inr rfl, .inl rfl, .inr rfl, .inr rfl, .inr rfl, .inr rfl, .inr rfl, trivial⟩ ?_
    exact hR36 x1 x2 x3 x4 (x5 + 1) (S55.1, S55.2.1, S55.2.2) hp
  · have hp := hp.2 hc
    refine a_iload C d_makeRaster_61 rfl ?_
    refine a_iconst (v := 2) C d_makeRaster_63 (by decide) ?_
    refine a_idiv C d_makeRaster_64 (by decide) ?_
    refine a_istore (lo' := [some (.ref o), some (.int x1), some (.int x2), some (.int x3), some (.int x4), some (.int x5), some (.int x6), some (.int (x4 / 2)), none, none, none, none]) C d_makeRaster_65 (by decide) rfl ?_
    refine a_iconst (v := 0) C d_makeRaster_67 (by decide) ?_
    refine a_istore (lo' := [some (.ref o), some (.int x1), some (.int x2), some (.int x3), some (.int x4), some (.int x5), some (.int x6), some (.int (x4 / 2)), some (.int 0), none, none, none]) C d_makeRaster_68 (by decide) rfl ?_
    refine aw_lo (lo' := [some (.ref o), some (.int x1), some (.int x2), some (.int x3), some (.int x4), some (.int x5), some (.int x6), some (.int (x4 / 2)), some (.int 0), none, none, none]) ⟨.inr rfl, .inr rfl, .inr rfl, .inr rfl, .inr rfl, .inr rfl, .inr rfl, .inr rfl, .inr rfl, .inr rfl, .inr rfl, .inr rfl, trivial⟩ ?_
    exact se_makeRaster_70 C hQ hA hR x1 x2 x3 x4 x5 x6 (x4 / 2) 0 (S55.1, S55.2.1, S55.2.2) R36 hR36 R50 hR50 hp
set_option maxRecDepth 100000 in
set_option maxHeartbeats 1000000 in
theorem se_makeRaster_50 (C : fcx gG D z A X R_M c_M_makeRaster 12 (none)) (hQ : X.2.2.2.2.2.2.2.2.2.2 = eQ gG D z X.2.2.2.2.2.2.2.1 X.2.2.2.2.1 L0 0 0 (pM_v K o ad)) (hA : A = owA gG L0 X.2.2.2.2.1.heap.size) (hR : X.2.2.2.1 = { frames := 3, cells := 1, slots := 6, locals := 300 }) (x1 : Int32) (x2 : Int32) (x3 : Int32) (x4 : Int32) (x5 : Int32) (x6 : Int32) (S : ms) (R36 : Int32 → Int32 → Int32 → Int32 → Int32 → ms → Prop) (hR36 : ∀ yx1 yx2 yx3 yx4 yx5 yS, R36 yx1 yx2 yx3 yx4 yx5 yS → aw gG D z A X 12 36 [some (.ref o), some (.int yx1), some (.int yx2), some (.int yx3), some (.int yx4), some (.int yx5), none, none, none, none, none, none] [] [(0, ly_M, (o, ad, yS.1, yS.2.1, yS.2.2))] 0 0) (hp : e_makeRaster_50 x1 x2 x3 x4 x5 x6 S R36 K) : aw gG D z A X 12 50 [some (.ref o), some (.int x1), some (.int x2), some (.int x3), some (.int x4), some (.int x5), some (.int x6), none, none, none, none, none] [] [(0, ly_M, (o, ad, S.1, S.2.1, S.2.2))] 0 0 := by
  obtain ⟨I, μ, h0, hs⟩ := hp
  have key : ∀ (n : Nat) (yx1 : Int32) (yx2 : Int32) (yx3 : Int32) (yx4 : Int32) (yx5 : Int32) (yx6 : Int32) (yS : ms), μ yx1 yx2 yx3 yx4 yx5 yx6 yS < n → I yx1 yx2 yx3 yx4 yx5 yx6 yS → aw gG D z A X 12 50 [some (.ref o), some (.int yx1), some (.int yx2), some (.int yx3), some (.int yx4), some (.int yx5), some (.int yx6), none, none, none, none, none] [] [(0, ly_M, (o, ad, yS.1, yS.2.1, yS.2.2))] 0 0 := by
    intro n
    induction n with
    | zero => intro yx1 yx2 yx3 yx4 yx5 yx6 yS h; omega
    | succ n ih =>
      intro yx1 yx2 yx3 yx4 yx5 yx6 yS hn hI
      exact s_makeRaster_50 C hQ hA hR yx1 yx2 yx3 yx4 yx5 yx6 yS R36 hR36 _ (fun zx1 zx2 zx3 zx4 zx5 zx6 zS hw => ih zx1 zx2 zx3 zx4 zx5 zx6 zS (by omega) hw.1) (hs yx1 yx2 yx3 yx4 yx5 yx6 yS hI)
  exact key (μ x1 x2 x3 x4 x5 x6 S + 1) x1 x2 x3 x4 x5 x6 S (Nat.lt_succ_self _) h0
set_option maxRecDepth 100000 in
set_option maxHeartbeats 1000000 in
theorem s_makeRaster_36 (C : fcx gG D z A X R_M c_M_makeRaster 12 (none)) (hQ : X.2.2.2.2.2.2.2.2.2.2 = eQ gG D z X.2.2.2.2.2.2.2.1 X.2.2.2.2.1 L0 0 0 (pM_v K o ad)) (hA : A = owA gG L0 X.2.2.2.2.1.heap.size) (hR : X.2.2.2.1 = { frames := 3, cells := 1, slots := 6, locals := 300 }) (x1 : Int32) (x2 : Int32) (x3 : Int32) (x4 : Int32) (x5 : Int32) (S : ms) (R36 : Int32 → Int32 → Int32 → Int32 → Int32 → ms → Prop) (hR36 : ∀ yx1 yx2 yx3 yx4 yx5 yS, R36 yx1 yx2 yx3 yx4 yx5 yS → aw gG D z A X 12 36 [some (.ref o), some (.int yx1), some (.int yx2), some (.int yx3), some (.int yx4), some (.int yx5), none, none, none, none, none, none] [] [(0, ly_M, (o, ad, yS.1, yS.2.1, yS.2.2))] 0 0) (hp : b_makeRaster_36 x1 x2 x3 x4 x5 S R36 K) : aw gG D z A X 12 36 [some (.ref o), some (.int x1), some (.int x2), some (.int x3), some (.int x4), some (.int x5), none, none, none, none, none, none] [] [(0, ly_M, (o, ad, S.1, S.2.1, S.2.2))] 0 0 := by
  unfold b_makeRaster_36 at hp
  refine a_iload C d_makeRaster_36 rfl ?_
  refine a_aload_n C d_makeRaster_38 rfl rfl ?_
  refine a_iconst (v := 0) C d_makeRaster_39 (by decide) ?_
  refine a_iload_n C d_makeRaster_40 rfl rfl ?_
  refine a_call (Lr := []) (rest := [.int x5]) (av := .ref o :: [.int 0, .int x1]) C [0] [] d_makeRaster_41 (ct_layerHigh 0 x1 S hp) cd_M_layerHigh i_M (Nat.le_of_ble_eq_true rfl) (by rw [hR]; exact Nat.le_of_ble_eq_true rfl) (by rw [hR]; exact Nat.le_of_ble_eq_true rfl) (by rw [hR]; exact Nat.le_of_ble_eq_true rfl) (by rw [hR]; exact Nat.le_of_ble_eq_true rfl) rfl rfl (by decide) (by decide) (by decide) (inv_V C 0 d_makeRaster_41 l_M_181 im_M_layerHigh se_M_layerHigh cd_M_layerHigh ⟨by decide, by decide⟩ ln_M_layerHigh rfl rfl rfl rfl rfl) (fun oc L1 hL => ?_)
  obtain ⟨v41, S41, hp, rfl, rfl⟩ := hL
  refine ⟨_, rfl, ?_⟩
  refine aw_eq (lo' := _) (st' := [.int v41, .int x5]) (L' := [(0, ly_M, (o, ad, S41.1, S41.2.1, S41.2.2))]) rfl rfl rfl ?_
  refine a_icmp_ge (tgt := 195) C d_makeRaster_44 (by decide) ⟨fun hc => ?_, fun hc => ?_⟩
  · have hp := hp.1 hc
    exact a_vret C hQ hA d_makeRaster_195 rfl ⟨(S41.1, S41.2.1, S41.2.2), hp, rfl, rfl⟩
  · have hp := hp.2 hc
    refine a_iconst (v := 0) C d_makeRaster_47 (by decide) ?_
    refine a_istore (lo' := [some (.ref o), some (.int x1), some (.int x2), some (.int x3), some (.int x4), some (.int x5), some (.int 0), none, none, none, none, none]) C d_makeRaster_48 (by decide) rfl ?_
    refine aw_lo (lo' := [some (.ref o), some (.int x1), some (.int x2), some (.int x3), some (.int x4), some (.int x5), some (.int 0), none, none, none, none, none]) ⟨.inr rfl, .inr rfl, .inr rfl, .inr rfl, .inr rfl, .inr rfl, .inr rfl, .inr rfl, .inr rfl, .inr rfl, .inr rfl, .inr rfl, trivial⟩ ?_
    exact se_makeRaster_50 C hQ hA hR x1 x2 x3 x4 x5 0 (S41.1, S41.2.1, S41.2.2) R36 hR36 hp
set_option maxRecDepth 100000 in
set_option maxHeartbeats 1000000 in
theorem se_makeRaster_36 (C : fcx gG D z A X R_M c_M_makeRaster 12 (none)) (hQ : X.2.2.2.2.2.2.2.2.2.2 = eQ gG D z X.2.2.2.2.2.2.2.1 X.2.2.2.2.1 L0 0 0 (pM_v K o ad)) (hA : A = owA gG L0 X.2.2.2.2.1.heap.size) (hR : X.2.2.2.1 = { frames := 3, cells := 1, slots := 6, locals := 300 }) (x1 : Int32) (x2 : Int32) (x3 : Int32) (x4 : Int32) (x5 : Int32) (S : ms) (hp : e_makeRaster_36 x1 x2 x3 x4 x5 S K) : aw gG D z A X 12 36 [some (.ref o), some (.int x1), some (.int x2), some (.int x3), some (.int x4), some (.int x5), none, none, none, none, none, none] [] [(0, ly_M, (o, ad, S.1, S.2.1, S.2.2))] 0 0 := by
  obtain ⟨I, μ, h0, hs⟩ := hp
  have key : ∀ (n : Nat) (yx1 : Int32) (yx2 : Int32) (yx3 : Int32) (yx4 : Int32) (yx5 : Int32) (yS : ms), μ yx1 yx2 yx3 yx4 yx5 yS < n → I yx1 yx2 yx3 yx4 yx5 yS → aw gG D z A X 12 36 [some (.ref o), some (.int yx1), some (.int yx2), some (.int yx3), some (.int yx4), some (.int yx5), none, none, none, none, none, none] [] [(0, ly_M, (o, ad, yS.1, yS.2.1, yS.2.2))] 0 0 := by
    intro n
    induction n with
    | zero => intro yx1 yx2 yx3 yx4 yx5 yS h; omega
    | succ n ih =>
      intro yx1 yx2 yx3 yx4 yx5 yS hn hI
      exact s_makeRaster_36 C hQ hA hR yx1 yx2 yx3 yx4 yx5 yS _ (fun zx1 zx2 zx3 zx4 zx5 zS hw => ih zx1 zx2 zx3 zx4 zx5 zS (by omega) hw.1) (hs yx1 yx2 yx3 yx4 yx5 yS hI)
  exact key (μ x1 x2 x3 x4 x5 S + 1) x1 x2 x3 x4 x5 S (Nat.lt_succ_self _) h0
set_option maxRecDepth 100000 in
set_option maxHeartbeats 1000000 in
theorem s_makeRaster_0 (C : fcx gG D z A X R_M c_M_makeRaster 12 (none)) (hQ : X.2.2.2.2.2.2.2.2.2.2 = eQ gG D z X.2.2.2.2.2.2.2.1 X.2.2.2.2.1 L0 0 0 (pM_v K o ad)) (hA : A = owA gG L0 X.2.2.2.2.1.heap.size) (hR : X.2.2.2.1 = { frames := 3, cells := 1, slots := 6, locals := 300 }) (x1 : Int32) (S : ms) (hp : p_makeRaster x1 S K) : aw gG D z A X 12 0 [some (.ref o), some (.int x1), none, none, none, none, none, none, none, none, none, none] [] [(0, ly_M, (o, ad, S.1, S.2.1, S.2.2))] 0 0 := by
  unfold p_makeRaster at hp
  refine a_aload_n C d_makeRaster_0 rfl rfl ?_
  refine a_iconst (v := 0) C d_makeRaster_1 (by decide) ?_
  refine a_iconst (v := 1) C d_makeRaster_2 (by decide) ?_
  refine a_call (Lr := []) (rest := []) (av := .ref o :: [.int 0, .int 1]) C [0] [] d_makeRaster_3 (ct_greatest 0 1 S hp) cd_M_greatest i_M (Nat.le_of_ble_eq_true rfl) (by rw [hR]; exact Nat.le_of_ble_eq_true rfl) (by rw [hR]; exact Nat.le_of_ble_eq_true rfl) (by rw [hR]; exact Nat.le_of_ble_eq_true rfl) (by rw [hR]; exact Nat.le_of_ble_eq_true rfl) rfl rfl (by decide) (by decide) (by decide) (inv_V C 0 d_makeRaster_3 l_M_173 im_M_greatest se_M_greatest cd_M_greatest ⟨by decide, by decide⟩ ln_M_greatest rfl rfl rfl rfl rfl) (fun oc L1 hL => ?_)
  obtain ⟨v3, S3, hp, rfl, rfl⟩ := hL
  refine ⟨_, rfl, ?_⟩
  refine aw_eq (lo' := _) (st' := [.int v3]) (L' := [(0, ly_M, (o, ad, S3.1, S3.2.1, S3.2.2))]) rfl rfl rfl ?_
  refine a_aload_n C d_makeRaster_6 rfl rfl ?_
  refine a_getR C 0 15 d_makeRaster_7 rfl rfl rfl (Nat.le_of_ble_eq_true rfl) f_M_50 ⟨Nat.le_of_ble_eq_true rfl, Nat.le_of_ble_eq_true rfl⟩ ?_
  refine a_iload_n C d_makeRaster_10 rfl rfl ?_
  refine a_iald C 0 15 d_makeRaster_11 rfl rfl rfl hp.1 ?_
  have hp := hp.2
  refine a_idiv C d_makeRaster_12 hp.1 ?_
  have hp := hp.2
  refine a_istore_n (lo' := [some (.ref o), some (.int x1), some (.int (v3 / (S3.2.1 15 x1.toNatClampNeg))), none, none, none, none, none, none, none, none, none]) C d_makeRaster_13 rfl (by decide) rfl ?_
  refine a_aload_n C d_makeRaster_14 rfl rfl ?_
  refine a_iconst (v := 0) C d_makeRaster_15 (by decide) ?_
  refine a_iconst (v := 0) C d_makeRaster_16 (by decide) ?_
  refine a_call (Lr := []) (rest := []) (av := .ref o :: [.int 0, .int 0]) C [0] [] d_makeRaster_17 (ct_greatest 0 0 (S3.1, S3.2.1, S3.2.2) hp) cd_M_greatest i_M (Nat.le_of_ble_eq_true rfl) (by rw [hR]; exact Nat.le_of_ble_eq_true rfl) (by rw [hR]; exact Nat.le_of_ble_eq_true rfl) (by rw [hR]; exact Nat.le_of_ble_eq_true rfl) (by rw [hR]; exact Nat.le_of_ble_eq_true rfl) rfl rfl (by decide) (by decide) (by decide) (inv_V C 0 d_makeRaster_17 l_M_173 im_M_greatest se_M_greatest cd_M_greatest ⟨by decide, by decide⟩ ln_M_greatest rfl rfl rfl rfl rfl) (fun oc L1 hL => ?_)
  obtain ⟨v17, S17, hp, rfl, rfl⟩ := hL
  refine ⟨_, rfl, ?_⟩
  refine aw_eq (lo' := _) (st' := [.int v17]) (L' := [(0, ly_M, (o, ad, S17.1, S17.2.1, S17.2.2))]) rfl rfl rfl ?_
  refine a_aload_n C d_makeRaster_20 rfl rfl ?_
  refine a_getR C 0 16 d_makeRaster_21 rfl rfl rfl (Nat.le_of_ble_eq_true rfl) f_M_53 ⟨Nat.le_of_ble_eq_true rfl, Nat.le_of_ble_eq_true rfl⟩ ?_
  refine a_iload_n C d_makeRaster_24 rfl rfl ?_
  refine a_iald C 0 16 d_makeRaster_25 rfl rfl rfl hp.1 ?_
  have hp := hp.2
  refine a_idiv C d_makeRaster_26 hp.1 ?_
  have hp := hp.2
  refine a_istore_n (lo' := [some (.ref o), some (.int x1), some (.int (v3 / (S3.2.1 15 x1.toNatClampNeg))), some (.int (v17 / (S17.2.1 16 x1.toNatClampNeg))), none, none, none, none, none, none, none, none]) C d_makeRaster_27 rfl (by decide) rfl ?_
  refine a_iload_n C d_makeRaster_28 rfl rfl ?_
  refine a_iload_n C d_makeRaster_29 rfl rfl ?_
  refine a_imul C d_makeRaster_30 ?_
  refine a_istore (lo' := [some (.ref o), some (.int x1), some (.int (v3 / (S3.2.1 15 x1.toNatClampNeg))), some (.int (v17 / (S17.2.1 16 x1.toNatClampNeg))), some (.int ((v3 / (S3.2.1 15 x1.toNatClampNeg)) * (v17 / (S17.2.1 16 x1.toNatClampNeg)))), none, none, none, none, none, none, none]) C d_makeRaster_31 (by decide) rfl ?_
  refine a_iconst (v := 0) C d_makeRaster_33 (by decide) ?_
  refine a_istore (lo' := [some (.ref o), some (.int x1), some (.int (v3 / (S3.2.1 15 x1.toNatClampNeg))), some (.int (v17 / (S17.2.1 16 x1.toNatClampNeg))), some (.int ((v3 / (S3.2.1 15 x1.toNatClampNeg)) * (v17 / (S17.2.1 16 x1.toNatClampNeg)))), some (.int 0), none, none, none, none, none, none]) C d_makeRaster_34 (by decide) rfl ?_
  refine aw_lo (lo' := [some (.ref o), some (.int x1), some (.int (v3 / (S3.2.1 15 x1.toNatClampNeg))), some (.int (v17 / (S17.2.1 16 x1.toNatClampNeg))), some (.int ((v3 / (S3.2.1 15 x1.toNatClampNeg)) * (v17 / (S17.2.1 16 x1.toNatClampNeg)))), some (.int 0), none, none, none, none, none, none]) ⟨.inr rfl, .inr rfl, .inr rfl, .inr rfl, .inr rfl, .inr rfl, .inr rfl, .inr rfl, .inr rfl, .inr rfl, .inr rfl, .inr rfl, trivial⟩ ?_
  exact se_makeRaster_36 C hQ hA hR x1 (v3 / (S3.2.1 15 x1.toNatClampNeg)) (v17 / (S17.2.1 16 x1.toNatClampNeg)) ((v3 / (S3.2.1 15 x1.toNatClampNeg)) * (v17 / (S17.2.1 16 x1.toNatClampNeg))) 0 (S17.1, S17.2.1, S17.2.2)  hp
end M_makeRaster
section M_makeRasterc
variable {D : va_G} {z : Nat → ClassId} {o : Nat} {ad : Nat → Nat}
set_option maxRecDepth 100000 in
theorem ct_makeRaster {l : Launch} (x1 : Int32) (S : ms) {K : ms → Prop} (hp : p_makeRaster x1 S K) : ct gG D z l n_M_makeRaster c_M_makeRaster 12 (none) 3 300 [.ref o, .int x1] [(0, ly_M, (o, ad, S.1, S.2.1, S.2.2))] 0 0 (pM_v K o ad) := by
  refine ct_of (lo := [some (.ref o), some (.int x1), none, none, none, none, none, none, none, none, none, none]) (by decide) g_ok (Nat.le_of_ble_eq_true rfl) rfl ?_
  intro X A _ C hR hQ hA _
  exact s_makeRaster_0 C hQ hA hR x1 S hp
end M_makeRasterc
def b_makeLevels_224 (x1 : Int32) (x2 : Int32) (x7 : Int32) (s1 : Int32) (s2 : Int32) (S : ms) (R130 : Int32 → Int32 → Int32 → ms → Prop) (K : ms → Prop) : Prop :=
  vp_in s1 36864 ∧ (R130 x1 x2 (x7 + 1) (S.1, va_up S.2.1 19 (upd (S.2.1 19) s1.toNatClampNeg s2), S.2.2))
def b_makeLevels_189 (x1 : Int32) (x2 : Int32) (x7 : Int32) (x8 : Int32) (x9 : Int32) (s0 : Int32) (S : ms) (R130 : Int32 → Int32 → Int32 → ms → Prop) (K : ms → Prop) : Prop :=
  ¬ x9 = 0 ∧ (p_levelCell 0 x1 x2 x7 (fun v208 => (0 ≤ x8 → (b_makeLevels_224 x1 x2 x7 v208 ((s0 + (x9 / 2)) / x9) S R130 K)) ∧ (¬ (0 ≤ x8) → (b_makeLevels_224 x1 x2 x7 v208 (-((s0 + (x9 / 2)) / x9)) S R130 K))))
def b_makeLevels_165 (x1 : Int32) (x2 : Int32) (x7 : Int32) (x8 : Int32) (s1 : Int32) (S : ms) (R130 : Int32 → Int32 → Int32 → ms → Prop) (K : ms → Prop) : Prop :=
  vp_in x7 64 ∧ (vp_in (s1 + (S.2.1 22 x7.toNatClampNeg)) 128 ∧ ((0 ≤ x8 → (b_makeLevels_189 x1 x2 x7 x8 (S.2.1 5 (s1 + (S.2.1 22 x7.toNatClampNeg)).toNatClampNeg) x8 S R130 K)) ∧ (¬ (0 ≤ x8) → (b_makeLevels_189 x1 x2 x7 x8 (S.2.1 5 (s1 + (S.2.1 22 x7.toNatClampNeg)).toNatClampNeg) (-x8) S R130 K))))
def b_makeLevels_130 (x1 : Int32) (x2 : Int32) (x7 : Int32) (S : ms) (R130 : Int32 → Int32 → Int32 → ms → Prop) (K : ms → Prop) : Prop :=
  (64 ≤ x7 → (K S)) ∧ (¬ (64 ≤ x7) → (vp_in x7 64 ∧ (vp_in (S.2.1 22 x7.toNatClampNeg) 64 ∧ ((¬ x1 = 0 → (b_makeLevels_165 x1 x2 x7 (S.2.1 25 (S.2.1 22 x7.toNatClampNeg).toNatClampNeg) 64 S R130 K)) ∧ (x1 = 0 → (b_makeLevels_165 x1 x2 x7 (S.2.1 25 (S.2.1 22 x7.toNatClampNeg).toNatClampNeg) 0 S R130 K))))))
def e_makeLevels_130 (x1 : Int32) (x2 : Int32) (x7 : Int32) (S : ms) (K : ms → Prop) : Prop :=
  ∃ (I : Int32 → Int32 → Int32 → ms → Prop) (μ : Int32 → Int32 → Int32 → ms → Nat), I x1 x2 x7 S ∧ ∀ yx1 yx2 yx7 yS, I yx1 yx2 yx7 yS → b_makeLevels_130 yx1 yx2 yx7 yS (fun zx1 zx2 zx7 zS => I zx1 zx2 zx7 zS ∧ μ zx1 zx2 zx7 zS < μ yx1 yx2 yx7 yS) K
def b_makeLevels_114 (x1 : Int32) (x2 : Int32) (x3 : Int32) (x4 : Int32) (x5 : Int32) (x6 : Int32) (x7 : Int32) (s1 : Int32) (s3 : Int32) (s4 : Int32) (S : ms) (R48 : Int32 → Int32 → Int32 → Int32 → Int32 → Int32 → Int32 → ms → Prop) (K : ms → Prop) : Prop :=
  vp_in (s3 + s4) 4096 ∧ (vp_in s1 64 ∧ (R48 x1 x2 x3 x4 x5 x6 (x7 + 1) (S.1, va_up S.2.1 25 (upd (S.2.1 25) s1.toNatClampNeg (S.2.1 21 (s3 + s4).toNatClampNeg)), S.2.2)))
def b_makeLevels_101 (x1 : Int32) (x2 : Int32) (x3 : Int32) (x4 : Int32) (x5 : Int32) (x6 : Int32) (x7 : Int32) (x8 : Int32) (s1 : Int32) (s3 : Int32) (s4 : Int32) (S : ms) (R48 : Int32 → Int32 → Int32 → Int32 → Int32 → Int32 → Int32 → ms → Prop) (K : ms → Prop) : Prop :=
  (x3 ≤ x8 → (b_makeLevels_114 x1 x2 x3 x4 x5 x6 x7 s1 (s3 * s4) x3 S R48 K)) ∧ (¬ (x3 ≤ x8) → (b_makeLevels_114 x1 x2 x3 x4 x5 x6 x7 s1 (s3 * s4) x8 S R48 K))
def b_makeLevels_48 (x1 : Int32) (x2 : Int32) (x3 : Int32) (x4 : Int32) (x5 : Int32) (x6 : Int32) (x7 : Int32) (S : ms) (R48 : Int32 → Int32 → Int32 → Int32 → Int32 → Int32 → Int32 → ms → Prop) (K : ms → Prop) : Prop :=
  (64 ≤ x7 → (p_toWeights S (fun S124 => e_makeLevels_130 x1 x2 0 (S124.1, S124.2.1, S124.2.2) K))) ∧ (¬ (64 ≤ x7) → ((x4 ≤ (x6 + (x7 / 8)) → (b_makeLevels_101 x1 x2 x3 x4 x5 x6 x7 (x5 + (x7 - x7 / 8 * 8)) x7 64 x4 S R48 K)) ∧ (¬ (x4 ≤ (x6 + (x7 / 8))) → (b_makeLevels_101 x1 x2 x3 x4 x5 x6 x7 (x5 + (x7 - x7 / 8 * 8)) x7 64 (x6 + (x7 / 8)) S R48 K))))
def e_makeLevels_48 (x1 : Int32) (x2 : Int32) (x3 : Int32) (x4 : Int32) (x5 : Int32) (x6 : Int32) (x7 : Int32) (S : ms) (K : ms → Prop) : Prop :=
  ∃ (I : Int32 → Int32 → Int32 → Int32 → Int32 → Int32 → Int32 → ms → Prop) (μ : Int32 → Int32 → Int32 → Int32 → Int32 → Int32 → Int32 → ms → Nat), I x1 x2 x3 x4 x5 x6 x7 S ∧ ∀ yx1 yx2 yx3 yx4 yx5 yx6 yx7 yS, I yx1 yx2 yx3 yx4 yx5 yx6 yx7 yS → b_makeLevels_48 yx1 yx2 yx3 yx4 yx5 yx6 yx7 yS (fun zx1 zx2 zx3 zx4 zx5 zx6 zx7 zS => I zx1 zx2 zx3 zx4 zx5 zx6 zx7 zS ∧ μ zx1 zx2 zx3 zx4 zx5 zx6 zx7 zS < μ yx1 yx2 yx3 yx4 yx5 yx6 yx7 yS) K
def p_makeLevels (x1 : Int32) (x2 : Int32) (S : ms) (K : ms → Prop) : Prop :=
  p_layerWide 0 x1 S (fun v3 S3 => p_layerHigh 0 x1 (S3.1, S3.2.1, S3.2.2) (fun v12 S12 => vp_in x1 9 ∧ (¬ (S12.2.1 17 x1.toNatClampNeg) = 0 ∧ (vp_in x1 9 ∧ (¬ (S12.2.1 17 x1.toNatClampNeg) = 0 ∧ (e_makeLevels_48 x1 x2 (v3 - 1) (v12 - 1) (8 * (x2 - x2 / (S12.2.1 17 x1.toNatClampNeg) * (S12.2.1 17 x1.toNatClampNeg))) (8 * (x2 / (S12.2.1 17 x1.toNatClampNeg))) 0 (S12.1, S12.2.1, S12.2.2) K))))))
section M_makeLevels
variable {D : va_G} {z : Nat → ClassId} {A : Nat → Prop} {X : cx} {L0 : fw} {K : ms → Prop} {o : Nat} {ad : Nat → Nat}
set_option maxRecDepth 100000 in
set_option maxHeartbeats 1000000 in
theorem s_makeLevels_224 (C : fcx gG D z A X R_M c_M_makeLevels 11 (none)) (hQ : X.2.2.2.2.2.2.2.2.2.2 = eQ gG D z X.2.2.2.2.2.2.2.1 X.2.2.2.2.1 L0 0 0 (pM_v K o ad)) (hA : A = owA gG L0 X.2.2.2.2.1.heap.size) (hR : X.2.2.2.1 = { frames := 3, cells := 1, slots := 6, locals := 300 }) (x1 : Int32) (x2 : Int32) (x7 : Int32) (s1 : Int32) (s2 : Int32) (S : ms) (R130 : Int32 → Int32 → Int32 → ms → Prop) (hR130 : ∀ yx1 yx2 yx7 yS, R130 yx1 yx2 yx7 yS → aw gG D z A X 11 130 [some (.ref o), some (.int yx1), some (.int yx2), none, none, none, none, some (.int yx7), none, none, none] [] [(0, ly_M, (o, ad, yS.1, yS.2.1, yS.2.2))] 0 0) (hp : b_makeLevels_224 x1 x2 x7 s1 s2 S R130 K) : aw gG D z A X 11 224 [some (.ref o), some (.int x1), some (.int x2), none, none, none, none, some (.int x7), none, none, none] [.int s2, .int s1, .ref (ad 19)] [(0, ly_M, (o, ad, S.1, S.2.1, S.2.2))] 0 0 := by
  unfold b_makeLevels_224 at hp
  refine a_iast C 0 19 d_makeLevels_224 rfl rfl rfl hp.1 ?_
  have hp := hp.2
  refine aw_eq (lo' := _) (st' := _) (L' := [(0, ly_M, (o, ad, S.1, va_up S.2.1 19 (upd (S.2.1 19) s1.toNatClampNeg s2), S.2.2))]) rfl rfl rfl ?_
  refine a_iinc (v := x7 + 1) (lo' := [some (.ref o), some (.int x1), some (.int x2), none, none, none, none, some (.int (x7 + 1)), none, none, none]) C d_makeLevels_225 rfl rfl (by decide) rfl ?_
  refine a_goto (tgt := 130) C d_makeLevels_228 (by decide) ?_
  refine aw_lo (lo' := [some (.ref o), some (.int x1), some (.int x2), none, none, none, none, some (.int (x7 + 1)), none, none, none]) ⟨.inr rfl, .inr rfl, .inr rfl, .inr rfl, .inr rfl, .inr rfl, .inr rfl, .inr rfl, .inr rfl, .inr rfl, .inr rfl, trivial⟩ ?_
  exact hR130 x1 x2 (x7 + 1) (S.1, va_up S.2.1 19 (upd (S.2.1 19) s1.toNatClampNeg s2), S.2.2) hp
set_option maxRecDepth 100000 in
set_option maxHeartbeats 1000000 in
theorem s_makeLevels_189 (C : fcx gG D z A X R_M c_M_makeLevels 11 (none)) (hQ : X.2.2.2.2.2.2.2.2.2.2 = eQ gG D z X.2.2.2.2.2.2.2.1 X.2.2.2.2.1 L0 0 0 (pM_v K o ad)) (hA : A = owA gG L0 X.2.2.2.2.1.heap.size) (hR : X.2.2.2.1 = { frames := 3, cells := 1, slots := 6, locals := 300 }) (x1 : Int32) (x2 : Int32) (x7 : Int32) (x8 : Int32) (x9 : Int32) (s0 : Int32) (S : ms) (R130 : Int32 → Int32 → Int32 → ms → Prop) (hR130 : ∀ yx1 yx2 yx7 yS, R130 yx1 yx2 yx7 yS → aw gG D z A X 11 130 [some (.ref o), some (.int yx1), some (.int yx2), none, none, none, none, some (.int yx7), none, none, none] [] [(0, ly_M, (o, ad, yS.1, yS.2.1, yS.2.2))] 0 0) (hp : b_makeLevels_189 x1 x2 x7 x8 x9 s0 S R130 K) : aw gG D z A X 11 189 [some (.ref o), some (.int x1), some (.int x2), none, none, none, none, some (.int x7), some (.int x8), some (.int x9), none] [.int s0] [(0, ly_M, (o, ad, S.1, S.2.1, S.2.2))] 0 0 := by
  unfold b_makeLevels_189 at hp
  refine a_iload C d_makeLevels_189 rfl ?_
  refine a_iconst (v := 2) C d_makeLevels_191 (by decide) ?_
  refine a_idiv C d_makeLevels_192 (by decide) ?_
  refine a_iadd C d_makeLevels_193 ?_
  refine a_iload C d_makeLevels_194 rfl ?_
  refine a_idiv C d_makeLevels_196 hp.1 ?_
  have hp := hp.2
  refine a_istore (lo' := [some (.ref o), some (.int x1), some (.int x2), none, none, none, none, some (.int x7), some (.int x8), some (.int x9), some (.int ((s0 + (x9 / 2)) / x9))]) C d_makeLevels_197 (by decide) rfl ?_
  refine a_aload_n C d_makeLevels_199 rfl rfl ?_
  refine a_getR C 0 19 d_makeLevels_200 rfl rfl rfl (Nat.le_of_ble_eq_true rfl) f_M_63 ⟨Nat.le_of_ble_eq_true rfl, Nat.le_of_ble_eq_true rfl⟩ ?_
  refine a_iconst (v := 0) C d_makeLevels_203 (by decide) ?_
  refine a_iload_n C d_makeLevels_204 rfl rfl ?_
  refine a_iload_n C d_makeLevels_205 rfl rfl ?_
  refine a_iload C d_makeLevels_206 rfl ?_
  refine a_call (Lr := [(0, ly_M, (o, ad, S.1, S.2.1, S.2.2))]) (rest := [.ref (ad 19)]) (av := [.int 0, .int x1, .int x2, .int x7]) C [] [0] d_makeLevels_208 (ct_levelCell 0 x1 x2 x7 hp) cd_M_levelCell i_M (Nat.le_of_ble_eq_true rfl) (by rw [hR]; exact Nat.le_of_ble_eq_true rfl) (by rw [hR]; exact Nat.le_of_ble_eq_true rfl) (by rw [hR]; exact Nat.le_of_ble_eq_true rfl) (by rw [hR]; exact Nat.le_of_ble_eq_true rfl) rfl rfl (by decide) (by decide) (by decide) (inv_S C d_makeLevels_208 l_M_193 st_M_levelCell i_M cd_M_levelCell ⟨by decide, by decide⟩ ln_M_levelCell rfl) (fun oc L1 hL => ?_)
  obtain ⟨v208, hp, rfl, rfl⟩ := hL
  refine ⟨_, rfl, ?_⟩
  refine aw_eq (lo' := _) (st' := [.int v208, .ref (ad 19)]) (L' := [(0, ly_M, (o, ad, S.1, S.2.1, S.2.2))]) rfl rfl rfl ?_
  refine a_iload C d_makeLevels_211 rfl ?_
  refine a_if_ge (tgt := 222) C d_makeLevels_213 (by decide) ⟨fun hc => ?_, fun hc => ?_⟩
  · have hp := hp.1 hc
    refine a_iload C d_makeLevels_222 rfl ?_
    refine aw_lo (lo' := [some (.ref o), some (.int x1), some (.int x2), none, none, none, none, some (.int x7), none, none, none]) ⟨.inr rfl, .inr rfl, .inr rfl, .inr rfl, .inr rfl, .inr rfl, .inr rfl, .inr rfl, .inl rfl, .inl rfl, .inl rfl, trivial⟩ ?_
    exact s_makeLevels_224 C hQ hA hR x1 x2 x7 v208 ((s0 + (x9 / 2)) / x9) S R130 hR130 hp
  · have hp := hp.2 hc
    refine a_iload C d_makeLevels_216 rfl ?_
    refine a_ineg C d_makeLevels_218 ?_
    refine a_goto (tgt := 224) C d_makeLevels_219 (by decide) ?_
    refine aw_lo (lo' := [some (.ref o), some (.int x1), some (.int x2), none, none, none, none, some (.int x7), none, none, none]) ⟨.inr rfl, .inr rfl, .inr rfl, .inr rfl, .inr rfl, .inr rfl, .inr rfl, .inr rfl, .inl rfl, .inl rfl, .inl rfl, trivial⟩ ?_
    exact s_makeLevels_224 C hQ hA hR x1 x2 x7 v208 (-((s0 + (x9 / 2)) / x9)) S R130 hR130 hp
set_option maxRecDepth 100000 in
set_option maxHeartbeats 1000000 in
theorem s_makeLevels_165 (C : fcx gG D z A X R_M c_M_makeLevels 11 (none)) (hQ : X.2.2.2.2.2.2.2.2.2.2 = eQ gG D z X.2.2.2.2.2.2.2.1 X.2.2.2.2.1 L0 0 0 (pM_v K o ad)) (hA : A = owA gG L0 X.2.2.2.2.1.heap.size) (hR : X.2.2.2.1 = { frames := 3, cells := 1, slots := 6, locals := 300 }) (x1 : Int32) (x2 : Int32) (x7 : Int32) (x8 : Int32) (s1 : Int32) (S : ms) (R130 : Int32 → Int32 → Int32 → ms → Prop) (hR130 : ∀ yx1 yx2 yx7 yS, R130 yx1 yx2 yx7 yS → aw gG D z A X 11 130 [some (.ref o), some (.int yx1), some (.int yx2), none, none, none, none, some (.int yx7), none, none, none] [] [(0, ly_M, (o, ad, yS.1, yS.2.1, yS.2.2))] 0 0) (hp : b_makeLevels_165 x1 x2 x7 x8 s1 S R130 K) : aw gG D z A X 11 165 [some (.ref o), some (.int x1), some (.int x2), none, none, none, none, some (.int x7), some (.int x8), none, none] [.int s1, .ref (ad 5)] [(0, ly_M, (o, ad, S.1, S.2.1, S.2.2))] 0 0 := by
  unfold b_makeLevels_165 at hp
  refine a_aload_n C d_makeLevels_165 rfl rfl ?_
  refine a_getR C 0 22 d_makeLevels_166 rfl rfl rfl (Nat.le_of_ble_eq_true rfl) f_M_72 ⟨Nat.le_of_ble_eq_true rfl, Nat.le_of_ble_eq_true rfl⟩ ?_
  refine a_iload C d_makeLevels_169 rfl ?_
  refine a_iald C 0 22 d_makeLevels_171 rfl rfl rfl hp.1 ?_
  have hp := hp.2
  refine a_iadd C d_makeLevels_172 ?_
  refine a_iald C 0 5 d_makeLevels_173 rfl rfl rfl hp.1 ?_
  have hp := hp.2
  refine a_istore (lo' := [some (.ref o), some (.int x1), some (.int x2), none, none, none, none, some (.int x7), some (.int x8), some (.int (S.2.1 5 (s1 + (S.2.1 22 x7.toNatClampNeg)).toNatClampNeg)), none]) C d_makeLevels_174 (by decide) rfl ?_
  refine a_iload C d_makeLevels_176 rfl ?_
  refine a_if_ge (tgt := 187) C d_makeLevels_178 (by decide) ⟨fun hc => ?_, fun hc => ?_⟩
  · have hp := hp.1 hc
    refine a_iload C d_makeLevels_187 rfl ?_
    refine aw_lo (lo' := [some (.ref o), some (.int x1), some (.int x2), none, none, none, none, some (.int x7), some (.int x8), some (.int (S.2.1 5 (s1 + (S.2.1 22 x7.toNatClampNeg)).toNatClampNeg)), none]) ⟨.inr rfl, .inr rfl, .inr rfl, .inr rfl, .inr rfl, .inr rfl, .inr rfl, .inr rfl, .inr rfl, .inr rfl, .inr rfl, trivial⟩ ?_
    exact s_makeLevels_189 C hQ hA hR x1 x2 x7 x8 (S.2.1 5 (s1 + (S.2.1 22 x7.toNatClampNeg)).toNatClampNeg) x8 S R130 hR130 hp
  · have hp := hp.2 hc
    refine a_iload C d_makeLevels_181 rfl ?_
    refine a_ineg C d_makeLevels_183 ?_
    refine a_goto (tgt := 189) C d_makeLevels_184 (by decide) ?_
    refine aw_lo (lo' := [some (.ref o), some (.int x1), some (.int x2), none, none, none, none, some (.int x7), some (.int x8), some (.int (S.2.1 5 (s1 + (S.2.1 22 x7.toNatClampNeg)).toNatClampNeg)), none]) ⟨.inr rfl, .inr rfl, .inr rfl, .inr rfl, .inr rfl, .inr rfl, .inr rfl, .inr rfl, .inr rfl, .inr rfl, .inr rfl, trivial⟩ ?_
    exact s_makeLevels_189 C hQ hA hR x1 x2 x7 x8 (S.2.1 5 (s1 + (S.2.1 22 x7.toNatClampNeg)).toNatClampNeg) (-x8) S R130 hR130 hp
set_option maxRecDepth 100000 in
set_option maxHeartbeats 1000000 in
theorem s_makeLevels_130 (C : fcx gG D z A X R_M c_M_makeLevels 11 (none)) (hQ : X.2.2.2.2.2.2.2.2.2.2 = eQ gG D z X.2.2.2.2.2.2.2.1 X.2.2.2.2.1 L0 0 0 (pM_v K o ad)) (hA : A = owA gG L0 X.2.2.2.2.1.heap.size) (hR : X.2.2.2.1 = { frames := 3, cells := 1, slots := 6, locals := 300 }) (x1 : Int32) (x2 : Int32) (x7 : Int32) (S : ms) (R130 : Int32 → Int32 → Int32 → ms → Prop) (hR130 : ∀ yx1 yx2 yx7 yS, R130 yx1 yx2 yx7 yS → aw gG D z A X 11 130 [some (.ref o), some (.int yx1), some (.int yx2), none, none, none, none, some (.int yx7), none, none, none] [] [(0, ly_M, (o, ad, yS.1, yS.2.1, yS.2.2))] 0 0) (hp : b_makeLevels_130 x1 x2 x7 S R130 K) : aw gG D z A X 11 130 [some (.ref o), some (.int x1), some (.int x2), none, none, none, none, some (.int x7), none, none, none] [] [(0, ly_M, (o, ad, S.1, S.2.1, S.2.2))] 0 0 := by
  unfold b_makeLevels_130 at hp
  refine a_iload C d_makeLevels_130 rfl ?_
  refine a_bipush (v := 64) C d_makeLevels_132 (by decide) ?_
  refine a_icmp_ge (tgt := 231) C d_makeLevels_134 (by decide) ⟨fun hc => ?_, fun hc => ?_⟩
  · have hp := hp.1 hc
    exact a_vret C hQ hA d_makeLevels_231 rfl ⟨S, hp, rfl, rfl⟩
  · have hp := hp.2 hc
    refine a_aload_n C d_makeLevels_137 rfl rfl ?_
    refine a_getR C 0 25 d_makeLevels_138 rfl rfl rfl (Nat.le_of_ble_eq_true rfl) f_M_82 ⟨Nat.le_of_ble_eq_true rfl, Nat.le_of_ble_eq_true rfl⟩ ?_
    refine a_aload_n C d_makeLevels_141 rfl rfl ?_
    refine a_getR C 0 22 d_makeLevels_142 rfl rfl rfl (Nat.le_of_ble_eq_true rfl) f_M_72 ⟨Nat.le_of_ble_eq_true rfl, Nat.le_of_ble_eq_true rfl⟩ ?_
    refine a_iload C d_makeLevels_145 rfl ?_
    refine a_iald C 0 22 d_makeLevels_147 rfl rfl rfl hp.1 ?_
    have hp := hp.2
    refine a_iald C 0 25 d_makeLevels_148 rfl rfl rfl hp.1 ?_
    have hp := hp.2
    refine a_istore (lo' := [some (.ref o), some (.int x1), some (.int x2), none, none, none, none, some (.int x7), some (.int (S.2.1 25 (S.2.1 22 x7.toNatClampNeg).toNatClampNeg)), none, none]) C d_makeLevels_149 (by decide) rfl ?_
    refine a_aload_n C d_makeLevels_151 rfl rfl ?_
    refine a_getR C 0 5 d_makeLevels_152 rfl rfl rfl (Nat.le_of_ble_eq_true rfl) f_M_23 ⟨Nat.le_of_ble_eq_true rfl, Nat.le_of_ble_eq_true rfl⟩ ?_
    refine a_iload_n C d_makeLevels_155 rfl rfl ?_
    refine a_if_ne (tgt := 163) C d_makeLevels_156 (by decide) ⟨fun hc => ?_, fun hc => ?_⟩
    · have hp := hp.1 hc
      refine a_bipush (v := 64) C d_makeLevels_163 (by decide) ?_
      refine aw_lo (lo' := [some (.ref o), some (.int x1), some (.int x2), none, none, none, none, some (.int x7), some (.int (S.2.1 25 (S.2.1 22 x7.toNatClampNeg).toNatClampNeg)), none, none]) ⟨.inr rfl, .inr rfl, .inr rfl, .inr rfl, .inr rfl, .inr rfl, .inr rfl, .inr rfl, .inr rfl, .inr rfl, .inr rfl, trivial⟩ ?_
      exact s_makeLevels_165 C hQ hA hR x1 x2 x7 (S.2.1 25 (S.2.1 22 x7.toNatClampNeg).toNatClampNeg) 64 S R130 hR130 hp
    · have hp := hp.2 hc
      refine a_iconst (v := 0) C d_makeLevels_159 (by decide) ?_
      refine a_goto (tgt := 165) C d_makeLevels_160 (by decide) ?_
      refine aw_lo (lo' := [some (.ref o), some (.int x1), some (.int x2), none, none, none, none, some (.int x7), some (.int (S.2.1 25 (S.2.1 22 x7.toNatClampNeg).toNatClampNeg)), none, none]) ⟨.inr rfl, .inr rfl, .inr rfl, .inr rfl, .inr rfl, .inr rfl, .inr rfl, .inr rfl, .inr rfl, .inr rfl, .inr rfl, trivial⟩ ?_
      exact s_makeLevels_165 C hQ hA hR x1 x2 x7 (S.2.1 25 (S.2.1 22 x7.toNatClampNeg).toNatClampNeg) 0 S R130 hR130 hp
set_option maxRecDepth 100000 in
set_option maxHeartbeats 1000000 in
theorem se_makeLevels_130 (C : fcx gG D z A X R_M c_M_makeLevels 11 (none)) (hQ : X.2.2.2.2.2.2.2.2.2.2 = eQ gG D z X.2.2.2.2.2.2.2.1 X.2.2.2.2.1 L0 0 0 (pM_v K o ad)) (hA : A = owA gG L0 X.2.2.2.2.1.heap.size) (hR : X.2.2.2.1 = { frames := 3, cells := 1, slots := 6, locals := 300 }) (x1 : Int32) (x2 : Int32) (x7 : Int32) (S : ms) (hp : e_makeLevels_130 x1 x2 x7 S K) : aw gG D z A X 11 130 [some (.ref o), some (.int x1), some (.int x2), none, none, none, none, some (.int x7), none, none, none] [] [(0, ly_M, (o, ad, S.1, S.2.1, S.2.2))] 0 0 := by
  obtain ⟨I, μ, h0, hs⟩ := hp
  have key : ∀ (n : Nat) (yx1 : Int32) (yx2 : Int32) (yx7 : Int32) (yS : ms), μ yx1 yx2 yx7 yS < n → I yx1 yx2 yx7 yS → aw gG D z A X 11 130 [some (.ref o), some (.int yx1), some (.int yx2), none, none, none, none, some (.int yx7), none, none, none] [] [(0, ly_M, (o, ad, yS.1, yS.2.1, yS.2.2))] 0 0 := by
    intro n
    induction n with
    | zero => intro yx1 yx2 yx7 yS h; omega
    | succ n ih =>
      intro yx1 yx2 yx7 yS hn hI
      exact s_makeLevels_130 C hQ hA hR yx1 yx2 yx7 yS _ (fun zx1 zx2 zx7 zS hw => ih zx1 zx2 zx7 zS (by omega) hw.1) (hs yx1 yx2 yx7 yS hI)
  exact key (μ x1 x2 x7 S + 1) x1 x2 x7 S (Nat.lt_succ_self _) h0
set_option maxRecDepth 100000 in
set_option maxHeartbeats 1000000 in
theorem s_makeLevels_114 (C : fcx gG D z A X R_M c_M_makeLevels 11 (none)) (hQ : X.2.2.2.2.2.2.2.2.2.2 = eQ gG D z X.2.2.2.2.2.2.2.1 X.2.2.2.2.1 L0 0 0 (pM_v K o ad)) (hA : A = owA gG L0 X.2.2.2.2.1.heap.size) (hR : X.2.2.2.1 = { frames := 3, cells := 1, slots := 6, locals := 300 }) (x1 : Int32) (x2 : Int32) (x3 : Int32) (x4 : Int32) (x5 : Int32) (x6 : Int32) (x7 : Int32) (s1 : Int32) (s3 : Int32) (s4 : Int32) (S : ms) (R48 : Int32 → Int32 → Int32 → Int32 → Int32 → Int32 → Int32 → ms → Prop) (hR48 : ∀ yx1 yx2 yx3 yx4 yx5 yx6 yx7 yS, R48 yx1 yx2 yx3 yx4 yx5 yx6 yx7 yS → aw gG D z A X 11 48 [some (.ref o), some (.int yx1), some (.int yx2), some (.int yx3), some (.int yx4), some (.int yx5), some (.int yx6), some (.int yx7), none, none, none] [] [(0, ly_M, (o, ad, yS.1, yS.2.1, yS.2.2))] 0 0) (hp : b_makeLevels_114 x1 x2 x3 x4 x5 x6 x7 s1 s3 s4 S R48 K) : aw gG D z A X 11 114 [some (.ref o), some (.int x1), some (.int x2), some (.int x3), some (.int x4), some (.int x5), some (.int x6), some (.int x7), none, none, none] [.int s4, .int s3, .ref (ad 21), .int s1, .ref (ad 25)] [(0, ly_M, (o, ad, S.1, S.2.1, S.2.2))] 0 0 := by
  unfold b_makeLevels_114 at hp
  refine a_iadd C d_makeLevels_114 ?_
  refine a_iald C 0 21 d_makeLevels_115 rfl rfl rfl hp.1 ?_
  have hp := hp.2
  refine a_iast C 0 25 d_makeLevels_116 rfl rfl rfl hp.1 ?_
  have hp := hp.2
  refine aw_eq (lo' := _) (st' := _) (L' := [(0, ly_M, (o, ad, S.1, va_up S.2.1 25 (upd (S.2.1 25) s1.toNatClampNeg (S.2.1 21 (s3 + s4).toNatClampNeg)), S.2.2))]) rfl rfl rfl ?_
  refine a_iinc (v := x7 + 1) (lo' := [some (.ref o), some (.int x1), some (.int x2), some (.int x3), some (.int x4), some (.int x5), some (.int x6), some (.int (x7 + 1)), none, none, none]) C d_makeLevels_117 rfl rfl (by decide) rfl ?_
  refine a_goto (tgt := 48) C d_makeLevels_120 (by decide) ?_
  refine aw_lo (lo' := [some (.ref o), some (.int x1), some (.int x2), some (.int x3), some (.int x4), some (.int x5), some (.int x6), some (.int (x7 + 1)), none, none, none]) ⟨.inr rfl, .inr rfl, .inr rfl, .inr rfl, .inr rfl, .inr rfl, .inr rfl, .inr rfl, .inr rfl, .inr rfl, .inr rfl, trivial⟩ ?_
  exact hR48 x1 x2 x3 x4 x5 x6 (x7 + 1) (S.1, va_up S.2.1 25 (upd (S.2.1 25) s1.toNatClampNeg (S.2.1 21 (s3 + s4).toNatClampNeg)), S.2.2) hp
set_option maxRecDepth 100000 in
set_option maxHeartbeats 1000000 in
theorem s_makeLevels_101 (C : fcx gG D z A X R_M c_M_makeLevels 11 (none)) (hQ : X.2.2.2.2.2.2.2.2.2.2 = eQ gG D z X.2.2.2.2.2.2.2.1 X.2.2.2.2.1 L0 0 0 (pM_v K o ad)) (hA : A = owA gG L0 X.2.2.2.2.1.heap.size) (hR : X.2.2.2.1 = { frames := 3, cells := 1, slots := 6, locals := 300 }) (x1 : Int32) (x2 : Int32) (x3 : Int32) (x4 : Int32) (x5 : Int32) (x6 : Int32) (x7 : Int32) (x8 : Int32) (s1 : Int32) (s3 : Int32) (s4 : Int32) (S : ms) (R48 : Int32 → Int32 → Int32 → Int32 → Int32 → Int32 → Int32 → ms → Prop) (hR48 : ∀ yx1 yx2 yx3 yx4 yx5 yx6 yx7 yS, R48 yx1 yx2 yx3 yx4 yx5 yx6 yx7 yS → aw gG D z A X 11 48 [some (.ref o), some (.int yx1), some (.int yx2), some (.int yx3), some (.int yx4), some (.int yx5), some (.int yx6), some (.int yx7), none, none, none] [] [(0, ly_M, (o, ad, yS.1, yS.2.1, yS.2.2))] 0 0) (hp : b_makeLevels_101 x1 x2 x3 x4 x5 x6 x7 x8 s1 s3 s4 S R48 K) : aw gG D z A X 11 101 [some (.ref o), some (.int x1), some (.int x2), some (.int x3), some (.int x4), some (.int x5), some (.int x6), some (.int x7), some (.int x8), none, none] [.int s4, .int s3, .ref (ad 21), .int s1, .ref (ad 25)] [(0, ly_M, (o, ad, S.1, S.2.1, S.2.2))] 0 0 := by
  unfold b_makeLevels_101 at hp
  refine a_imul C d_makeLevels_101 ?_
  refine a_iload C d_makeLevels_102 rfl ?_
  refine a_iload_n C d_makeLevels_104 rfl rfl ?_
  refine a_icmp_ge (tgt := 113) C d_makeLevels_105 (by decide) ⟨fun hc => ?_, fun hc => ?_⟩
  · have hp := hp.1 hc
    refine a_iload_n C d_makeLevels_113 rfl rfl ?_
    refine aw_lo (lo' := [some (.ref o), some (.int x1), some (.int x2), some (.int x3), some (.int x4), some (.int x5), some (.int x6), some (.int x7), none, none, none]) ⟨.inr rfl, .inr rfl, .inr rfl, .inr rfl, .inr rfl, .inr rfl, .inr rfl, .inr rfl, .inl rfl, .inr rfl, .inr rfl, trivial⟩ ?_
    exact s_makeLevels_114 C hQ hA hR x1 x2 x3 x4 x5 x6 x7 s1 (s3 * s4) x3 S R48 hR48 hp
  · have hp := hp.2 hc
    refine a_iload C d_makeLevels_108 rfl ?_
    refine a_goto (tgt := 114) C d_makeLevels_110 (by decide) ?_
    refine aw_lo (lo' := [some (.ref o), some (.int x1), some (.int x2), some (.int x3), some (.int x4), some (.int x5), some (.int x6), some (.int x7), none, none, none]) ⟨.inr rfl, .inr rfl, .inr rfl, .inr rfl, .inr rfl, .inr rfl, .inr rfl, .inr rfl, .inl rfl, .inr rfl, .inr rfl, trivial⟩ ?_
    exact s_makeLevels_114 C hQ hA hR x1 x2 x3 x4 x5 x6 x7 s1 (s3 * s4) x8 S R48 hR48 hp
set_option maxRecDepth 100000 in
set_option maxHeartbeats 1000000 in
theorem s_makeLevels_48 (C : fcx gG D z A X R_M c_M_makeLevels 11 (none)) (hQ : X.2.2.2.2.2.2.2.2.2.2 = eQ gG D z X.2.2.2.2.2.2.2.1 X.2.2.2.2.1 L0 0 0 (pM_v K o ad)) (hA : A = owA gG L0 X.2.2.2.2.1.heap.size) (hR : X.2.2.2.1 = { frames := 3, cells := 1, slots := 6, locals := 300 }) (x1 : Int32) (x2 : Int32) (x3 : Int32) (x4 : Int32) (x5 : Int32) (x6 : Int32) (x7 : Int32) (S : ms) (R48 : Int32 → Int32 → Int32 → Int32 → Int32 → Int32 → Int32 → ms → Prop) (hR48 : ∀ yx1 yx2 yx3 yx4 yx5 yx6 yx7 yS, R48 yx1 yx2 yx3 yx4 yx5 yx6 yx7 yS → aw gG D z A X 11 48 [some (.ref o), some (.int yx1), some (.int yx2), some (.int yx3), some (.int yx4), some (.int yx5), some (.int yx6), some (.int yx7), none, none, none] [] [(0, ly_M, (o, ad, yS.1, yS.2.1, yS.2.2))] 0 0) (hp : b_makeLevels_48 x1 x2 x3 x4 x5 x6 x7 S R48 K) : aw gG D z A X 11 48 [some (.ref o), some (.int x1), some (.int x2), some (.int x3), some (.int x4), some (.int x5), some (.int x6), some (.int x7), none, none, none] [] [(0, ly_M, (o, ad, S.1, S.2.1, S.2.2))] 0 0 := by
  unfold b_makeLevels_48 at hp
  refine a_iload C d_makeLevels_48 rfl ?_
  refine a_bipush (v := 64) C d_makeLevels_50 (by decide) ?_
  refine a_icmp_ge (tgt := 123) C d_makeLevels_52 (by decide) ⟨fun hc => ?_, fun hc => ?_⟩
  · have hp := hp.1 hc
    refine a_aload_n C d_makeLevels_123 rfl rfl ?_
    refine a_call (Lr := []) (rest := []) (av := .ref o :: []) C [0] [] d_makeLevels_124 (ct_toWeights S hp) cd_M_toWeights i_M (Nat.le_of_ble_eq_true rfl) (by rw [hR]; exact Nat.le_of_ble_eq_true rfl) (by rw [hR]; exact Nat.le_of_ble_eq_true rfl) (by rw [hR]; exact Nat.le_of_ble_eq_true rfl) (by rw [hR]; exact Nat.le_of_ble_eq_true rfl) rfl rfl (by decide) (by decide) (by decide) (inv_V C 0 d_makeLevels_124 l_M_190 im_M_toWeights se_M_toWeights cd_M_toWeights ⟨by decide, by decide⟩ ln_M_toWeights rfl rfl rfl rfl rfl) (fun oc L1 hL => ?_)
    obtain ⟨S124, hp, rfl, rfl⟩ := hL
    refine ⟨_, rfl, ?_⟩
    refine aw_eq (lo' := _) (st' := []) (L' := [(0, ly_M, (o, ad, S124.1, S124.2.1, S124.2.2))]) rfl rfl rfl ?_
    refine a_iconst (v := 0) C d_makeLevels_127 (by decide) ?_
    refine a_istore (lo' := [some (.ref o), some (.int x1), some (.int x2), some (.int x3), some (.int x4), some (.int x5), some (.int x6), some (.int 0), none, none, none]) C d_makeLevels_128 (by decide) rfl ?_
    refine aw_lo (lo' := [some (.ref o), some (.int x1), some (.int x2), none, none, none, none, some (.int 0), none, none, none]) ⟨.inr rfl, .inr rfl, .inr rfl, .inl rfl, .inl rfl, .inl rfl, .inl rfl, .inr rfl, .inr rfl, .inr rfl, .inr rfl, trivial⟩ ?_
    exact se_makeLevels_130 C hQ hA hR x1 x2 0 (S124.1, S124.2.1, S124.2.2)  hp
  · have hp := hp.2 hc
    refine a_iload C d_makeLevels_55 rfl ?_
    refine a_iload C d_makeLevels_57 rfl ?_
    refine a_bipush (v := 8) C d_makeLevels_59 (by decide) ?_
    refine a_irem C d_makeLevels_61 (by decide) ?_
    refine a_iadd C d_makeLevels_62 ?_
    refine a_istore (lo' := [some (.ref o), some (.int x1), some (.int x2), some (.int x3), some (.int x4), some (.int x5), some (.int x6), some (.int x7), some (.int (x5 + (x7 - x7 / 8 * 8))), none, none]) C d_makeLevels_63 (by decide) rfl ?_
    refine a_iload C d_makeLevels_65 rfl ?_
    refine a_iload C d_makeLevels_67 rfl ?_
    refine a_bipush (v := 8) C d_makeLevels_69 (by decide) ?_
    refine a_idiv C d_makeLevels_71 (by decide) ?_
    refine a_iadd C d_makeLevels_72 ?_
    refine a_istore (lo' := [some (.ref o), some (.int x1), some (.int x2), some (.int x3), some (.int x4), some (.int x5), some (.int x6), some (.int x7), some (.int (x5 + (x7 - x7 / 8 * 8))), some (.int (x6 + (x7 / 8))), none]) C d_makeLevels_73 (by decide) rfl ?_
    refine a_aload_n C d_makeLevels_75 rfl rfl ?_
    refine a_getR C 0 25 d_makeLevels_76 rfl rfl rfl (Nat.le_of_ble_eq_true rfl) f_M_82 ⟨Nat.le_of_ble_eq_true rfl, Nat.le_of_ble_eq_true rfl⟩ ?_
    refine a_iload C d_makeLevels_79 rfl ?_
    refine a_aload_n C d_makeLevels_81 rfl rfl ?_
    refine a_getR C 0 21 d_makeLevels_82 rfl rfl rfl (Nat.le_of_ble_eq_true rfl) f_M_69 ⟨Nat.le_of_ble_eq_true rfl, Nat.le_of_ble_eq_true rfl⟩ ?_
    refine a_bipush (v := 64) C d_makeLevels_85 (by decide) ?_
    refine a_iload C d_makeLevels_87 rfl ?_
    refine a_iload C d_makeLevels_89 rfl ?_
    refine a_icmp_ge (tgt := 99) C d_makeLevels_91 (by decide) ⟨fun hc => ?_, fun hc => ?_⟩
    · have hp := hp.1 hc
      refine a_iload C d_makeLevels_99 rfl ?_
      refine aw_lo (lo' := [some (.ref o), some (.int x1), some (.int x2), some (.int x3), some (.int x4), some (.int x5), some (.int x6), some (.int x7), some (.int (x5 + (x7 - x7 / 8 * 8))), none, none]) ⟨.inr rfl, .inr rfl, .inr rfl, .inr rfl, .inr rfl, .inr rfl, .inr rfl, .inr rfl, .inr rfl, .inl rfl, .inr rfl, trivial⟩ ?_
      exact s_makeLevels_101 C hQ hA hR x1 x2 x3 x4 x5 x6 x7 (x5 + (x7 - x7 / 8 * 8)) x7 64 x4 S R48 hR48 hp
    · have hp := hp.2 hc
      refine a_iload C d_makeLevels_94 rfl ?_
      refine a_goto (tgt := 101) C d_makeLevels_96 (by decide) ?_
      refine aw_lo (lo' := [some (.ref o), some (.int x1), some (.int x2), some (.int x3), some (.int x4), some (.int x5), some (.int x6), some (.int x7), some (.int (x5 + (x7 - x7 / 8 * 8))), none, none]) ⟨.inr rfl, .inr rfl, .inr rfl, .inr rfl, .inr rfl, .inr rfl, .inr rfl, .inr rfl, .inr rfl, .inl rfl, .inr rfl, trivial⟩ ?_
      exact s_makeLevels_101 C hQ hA hR x1 x2 x3 x4 x5 x6 x7 (x5 + (x7 - x7 / 8 * 8)) x7 64 (x6 + (x7 / 8)) S R48 hR48 hp
set_option maxRecDepth 100000 in
set_option maxHeartbeats 1000000 in
theorem se_makeLevels_48 (C : fcx gG D z A X R_M c_M_makeLevels 11 (none)) (hQ : X.2.2.2.2.2.2.2.2.2.2 = eQ gG D z X.2.2.2.2.2.2.2.1 X.2.2.2.2.1 L0 0 0 (pM_v K o ad)) (hA : A = owA gG L0 X.2.2.2.2.1.heap.size) (hR : X.2.2.2.1 = { frames := 3, cells := 1, slots := 6, locals := 300 }) (x1 : Int32) (x2 : Int32) (x3 : Int32) (x4 : Int32) (x5 : Int32) (x6 : Int32) (x7 : Int32) (S : ms) (hp : e_makeLevels_48 x1 x2 x3 x4 x5 x6 x7 S K) : aw gG D z A X 11 48 [some (.ref o), some (.int x1), some (.int x2), some (.int x3), some (.int x4), some (.int x5), some (.int x6), some (.int x7), none, none, none] [] [(0, ly_M, (o, ad, S.1, S.2.1, S.2.2))] 0 0 := by
  obtain ⟨I, μ, h0, hs⟩ := hp
  have key : ∀ (n : Nat) (yx1 : Int32) (yx2 : Int32) (yx3 : Int32) (yx4 : Int32) (yx5 : Int32) (yx6 : Int32) (yx7 : Int32) (yS : ms), μ yx1 yx2 yx3 yx4 yx5 yx6 yx7 yS < n → I yx1 yx2 yx3 yx4 yx5 yx6 yx7 yS → aw gG D z A X 11 48 [some (.ref o), some (.int yx1), some (.int yx2), some (.int yx3), some (.int yx4), some (.int yx5), some (.int yx6), some (.int yx7), none, none, none] [] [(0, ly_M, (o, ad, yS.1, yS.2.1, yS.2.2))] 0 0 := by
    intro n
    induction n with
    | zero => intro yx1 yx2 yx3 yx4 yx5 yx6 yx7 yS h; omega
    | succ n ih =>
      intro yx1 yx2 yx3 yx4 yx5 yx6 yx7 yS hn hI
      exact s_makeLevels_48 C hQ hA hR yx1 yx2 yx3 yx4 yx5 yx6 yx7 yS _ (fun zx1 zx2 zx3 zx4 zx5 zx6 zx7 zS hw => ih zx1 zx2 zx3 zx4 zx5 zx6 zx7 zS (by omega) hw.1) (hs yx1 yx2 yx3 yx4 yx5 yx6 yx7 yS hI)
  exact key (μ x1 x2 x3 x4 x5 x6 x7 S + 1) x1 x2 x3 x4 x5 x6 x7 S (Nat.lt_succ_self _) h0
set_option maxRecDepth 100000 in
set_option maxHeartbeats 1000000 in
theorem s_makeLevels_0 (C : fcx gG D z A X R_M c_M_makeLevels 11 (none)) (hQ : X.2.2.2.2.2.2.2.2.2.2 = eQ gG D z X.2.2.2.2.2.2.2.1 X.2.2.2.2.1 L0 0 0 (pM_v K o ad)) (hA : A = owA gG L0 X.2.2.2.2.1.heap.size) (hR : X.2.2.2.1 = { frames := 3, cells := 1, slots := 6, locals := 300 }) (x1 : Int32) (x2 : Int32) (S : ms) (hp : p_makeLevels x1 x2 S K) : aw gG D z A X 11 0 [some (.ref o), some (.int x1), some (.int x2), none, none, none, none, none, none, none, none] [] [(0, ly_M, (o, ad, S.1, S.2.1, S.2.2))] 0 0 := by
  unfold p_makeLevels at hp
  refine a_aload_n C d_makeLevels_0 rfl rfl ?_
  refine a_iconst (v := 0) C d_makeLevels_1 (by decide) ?_
  refine a_iload_n C d_makeLevels_2 rfl rfl ?_
  refine a_call (Lr := []) (rest := []) (av := .ref o :: [.int 0, .int x1]) C [0] [] d_makeLevels_3 (ct_layerWide 0 x1 S hp) cd_M_layerWide i_M (Nat.le_of_ble_eq_true rfl) (by rw [hR]; exact Nat.le_of_ble_eq_true rfl) (by rw [hR]; exact Nat.le_of_ble_eq_true rfl) (by rw [hR]; exact Nat.le_of_ble_eq_true rfl) (by rw [hR]; exact Nat.le_of_ble_eq_true rfl) rfl rfl (by decide) (by decide) (by decide) (inv_V C 0 d_makeLevels_3 l_M_184 im_M_layerWide se_M_layerWide cd_M_layerWide ⟨by decide, by decide⟩ ln_M_layerWide rfl rfl rfl rfl rfl) (fun oc L1 hL => ?_)
  obtain ⟨v3, S3, hp, rfl, rfl⟩ := hL
  refine ⟨_, rfl, ?_⟩
  refine aw_eq (lo' := _) (st' := [.int v3]) (L' := [(0, ly_M, (o, ad, S3.1, S3.2.1, S3.2.2))]) rfl rfl rfl ?_
  refine a_iconst (v := 1) C d_makeLevels_6 (by decide) ?_
  refine a_isub C d_makeLevels_7 ?_
  refine a_istore_n (lo' := [some (.ref o), some (.int x1), some (.int x2), some (.int (v3 - 1)), none, none, none, none, none, none, none]) C d_makeLevels_8 rfl (by decide) rfl ?_
  refine a_aload_n C d_makeLevels_9 rfl rfl ?_
  refine a_iconst (v := 0) C d_makeLevels_10 (by decide) ?_
  refine a_iload_n C d_makeLevels_11 rfl rfl ?_
  refine a_call (Lr := []) (rest := []) (av := .ref o :: [.int 0, .int x1]) C [0] [] d_makeLevels_12 (ct_layerHigh 0 x1 (S3.1, S3.2.1, S3.2.2) hp) cd_M_layerHigh i_M (Nat.le_of_ble_eq_true rfl) (by rw [hR]; exact Nat.le_of_ble_eq_true rfl) (by rw [hR]; exact Nat.le_of_ble_eq_true rfl) (by rw [hR]; exact Nat.le_of_ble_eq_true rfl) (by rw [hR]; exact Nat.le_of_ble_eq_true rfl) rfl rfl (by decide) (by decide) (by decide) (inv_V C 0 d_makeLevels_12 l_M_181 im_M_layerHigh se_M_layerHigh cd_M_layerHigh ⟨by decide, by decide⟩ ln_M_layerHigh rfl rfl rfl rfl rfl) (fun oc L1 hL => ?_)
  obtain ⟨v12, S12, hp, rfl, rfl⟩ := hL
  refine ⟨_, rfl, ?_⟩
  refine aw_eq (lo' := _) (st' := [.int v12]) (L' := [(0, ly_M, (o, ad, S12.1, S12.2.1, S12.2.2))]) rfl rfl rfl ?_
  refine a_iconst (v := 1) C d_makeLevels_15 (by decide) ?_
  refine a_isub C d_makeLevels_16 ?_
  refine a_istore (lo' := [some (.ref o), some (.int x1), some (.int x2), some (.int (v3 - 1)), some (.int (v12 - 1)), none, none, none, none, none, none]) C d_makeLevels_17 (by decide) rfl ?_
  refine a_bipush (v := 8) C d_makeLevels_19 (by decide) ?_
  refine a_iload_n C d_makeLevels_21 rfl rfl ?_
  refine a_aload_n C d_makeLevels_22 rfl rfl ?_
  refine a_getR C 0 17 d_makeLevels_23 rfl rfl rfl (Nat.le_of_ble_eq_true rfl) f_M_56 ⟨Nat.le_of_ble_eq_true rfl, Nat.le_of_ble_eq_true rfl⟩ ?_
  refine a_iload_n C d_makeLevels_26 rfl rfl ?_
  refine a_iald C 0 17 d_makeLevels_27 rfl rfl rfl hp.1 ?_
  have hp := hp.2
  refine a_irem C d_makeLevels_28 hp.1 ?_
  have hp := hp.2
  refine a_imul C d_makeLevels_29 ?_
  refine a_istore (lo' := [some (.ref o), some (.int x1), some (.int x2), some (.int (v3 - 1)), some (.int (v12 - 1)), some (.int (8 * (x2 - x2 / (S12.2.1 17 x1.toNatClampNeg) * (S12.2.1 17 x1.toNatClampNeg)))), none, none, none, none, none]) C d_makeLevels_30 (by decide) rfl ?_
  refine a_bipush (v := 8) C d_makeLevels_32 (by decide) ?_
  refine a_iload_n C d_makeLevels_34 rfl rfl ?_
  refine a_aload_n C d_makeLevels_35 rfl rfl ?_
  refine a_getR C 0 17 d_makeLevels_36 rfl rfl rfl (Nat.le_of_ble_eq_true rfl) f_M_56 ⟨Nat.le_of_ble_eq_true rfl, Nat.le_of_ble_eq_true rfl⟩ ?_
  refine a_iload_n C d_makeLevels_39 rfl rfl ?_
  refine a_iald C 0 17 d_makeLevels_40 rfl rfl rfl hp.1 ?_
  have hp := hp.2
  refine a_idiv C d_makeLevels_41 hp.1 ?_
  have hp := hp.2
  refine a_imul C d_makeLevels_42 ?_
  refine a_istore (lo' := [some (.ref o), some (.int x1), some (.int x2), some (.int (v3 - 1)), some (.int (v12 - 1)), some (.int (8 * (x2 - x2 / (S12.2.1 17 x1.toNatClampNeg) * (S12.2.1 17 x1.toNatClampNeg)))), some (.int (8 * (x2 / (S12.2.1 17 x1.toNatClampNeg)))), none, none, none, none]) C d_makeLevels_43 (by decide) rfl ?_
  refine a_iconst (v := 0) C d_makeLevels_45 (by decide) ?_
  refine a_istore (lo' := [some (.ref o), some (.int x1), some (.int x2), some (.int (v3 - 1)), some (.int (v12 - 1)), some (.int (8 * (x2 - x2 / (S12.2.1 17 x1.toNatClampNeg) * (S12.2.1 17 x1.toNatClampNeg)))), some (.int (8 * (x2 / (S12.2.1 17 x1.toNatClampNeg)))), some (.int 0), none, none, none]) C d_makeLevels_46 (by decide) rfl ?_
  refine aw_lo (lo' := [some (.ref o), some (.int x1), some (.int x2), some (.int (v3 - 1)), some (.int (v12 - 1)), some (.int (8 * (x2 - x2 / (S12.2.1 17 x1.toNatClampNeg) * (S12.2.1 17 x1.toNatClampNeg)))), some (.int (8 * (x2 / (S12.2.1 17 x1.toNatClampNeg)))), some (.int 0), none, none, none]) ⟨.inr rfl, .inr rfl, .inr rfl, .inr rfl, .inr rfl, .inr rfl, .inr rfl, .inr rfl, .inr rfl, .inr rfl, .inr rfl, trivial⟩ ?_
  exact se_makeLevels_48 C hQ hA hR x1 x2 (v3 - 1) (v12 - 1) (8 * (x2 - x2 / (S12.2.1 17 x1.toNatClampNeg) * (S12.2.1 17 x1.toNatClampNeg))) (8 * (x2 / (S12.2.1 17 x1.toNatClampNeg))) 0 (S12.1, S12.2.1, S12.2.2)  hp
end M_makeLevels
section M_makeLevelsc
variable {D : va_G} {z : Nat → ClassId} {o : Nat} {ad : Nat → Nat}
set_option maxRecDepth 100000 in
theorem ct_makeLevels {l : Launch} (x1 : Int32) (x2 : Int32) (S : ms) {K : ms → Prop} (hp : p_makeLevels x1 x2 S K) : ct gG D z l n_M_makeLevels c_M_makeLevels 11 (none) 3 300 [.ref o, .int x1, .int x2] [(0, ly_M, (o, ad, S.1, S.2.1, S.2.2))] 0 0 (pM_v K o ad) := by
  refine ct_of (lo := [some (.ref o), some (.int x1), some (.int x2), none, none, none, none, none, none, none, none]) (by decide) g_ok (Nat.le_of_ble_eq_true rfl) rfl ?_
  intro X A _ C hR hQ hA _
  exact s_makeLevels_0 C hQ hA hR x1 x2 S hp
end M_makeLevelsc
