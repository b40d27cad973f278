def b_become_243 (x1 : Int32) (x2 : Int32) (x3 : Int32) (x4 : Int32) (x5 : Int32) (S : ms) (R102 : Int32 → ms → Prop) (R114 : Int32 → Int32 → ms → Prop) (R243 : Int32 → Int32 → Int32 → Int32 → Int32 → ms → Prop) (K : ms → Prop) : Prop :=
  (64 ≤ x5 → (R114 x1 (x2 + 1) S)) ∧ (¬ (64 ≤ x5) → (vp_in x5 64 ∧ (vp_in (((64 * (((64 * x1) + x4) + (x5 / 8))) + x3) + (x5 - x5 / 8 * 8)) 12288 ∧ (R243 x1 x2 x3 x4 (x5 + 1) (S.1, va_up S.2.1 20 (upd (S.2.1 20) (((64 * (((64 * x1) + x4) + (x5 / 8))) + x3) + (x5 - x5 / 8 * 8)).toNatClampNeg (S.2.1 25 x5.toNatClampNeg)), S.2.2)))))
def e_become_243 (x1 : Int32) (x2 : Int32) (x3 : Int32) (x4 : Int32) (x5 : Int32) (S : ms) (R102 : Int32 → ms → Prop) (R114 : Int32 → Int32 → ms → Prop) (K : ms → Prop) : Prop :=
  ∃ (I : Int32 → Int32 → Int32 → Int32 → Int32 → ms → Prop) (μ : Int32 → Int32 → Int32 → Int32 → Int32 → ms → Nat), I x1 x2 x3 x4 x5 S ∧ ∀ yx1 yx2 yx3 yx4 yx5 yS, I yx1 yx2 yx3 yx4 yx5 yS → b_become_243 yx1 yx2 yx3 yx4 yx5 yS R102 R114 (fun zx1 zx2 zx3 zx4 zx5 zS => I zx1 zx2 zx3 zx4 zx5 zS ∧ μ zx1 zx2 zx3 zx4 zx5 zS < μ yx1 yx2 yx3 yx4 yx5 yS) K
def b_become_137 (x1 : Int32) (x2 : Int32) (x3 : Int32) (S : ms) (R102 : Int32 → ms → Prop) (R114 : Int32 → Int32 → ms → Prop) (R137 : Int32 → Int32 → Int32 → ms → Prop) (K : ms → Prop) : Prop :=
  (64 ≤ x3 → (p_toSamples S (fun S208 => vp_in (3 + x1) 9 ∧ (¬ (S208.2.1 17 (3 + x1).toNatClampNeg) = 0 ∧ (vp_in (3 + x1) 9 ∧ (¬ (S208.2.1 17 (3 + x1).toNatClampNeg) = 0 ∧ (e_become_243 x1 x2 (8 * (x2 - x2 / (S208.2.1 17 (3 + x1).toNatClampNeg) * (S208.2.1 17 (3 + x1).toNatClampNeg))) (8 * (x2 / (S208.2.1 17 (3 + x1).toNatClampNeg))) 0 (S208.1, S208.2.1, S208.2.2) R102 R114 K))))))) ∧ (¬ (64 ≤ x3) → (p_levelCell 2 x1 x2 x3 (fun v151 => vp_in v151 36864 ∧ (p_levelCell 1 x1 x2 x3 (fun v165 => vp_in v165 36864 ∧ (vp_in x3 64 ∧ (vp_in x3 64 ∧ (vp_in ((64 * x1) + ((va_up S.2.1 19 (upd (S.2.1 19) v165.toNatClampNeg (S.2.1 19 v151.toNatClampNeg))) 22 x3.toNatClampNeg)) 192 ∧ (vp_in ((va_up S.2.1 19 (upd (S.2.1 19) v165.toNatClampNeg (S.2.1 19 v151.toNatClampNeg))) 22 x3.toNatClampNeg) 64 ∧ (R137 x1 x2 (x3 + 1) (S.1, va_up (va_up S.2.1 19 (upd (S.2.1 19) v165.toNatClampNeg (S.2.1 19 v151.toNatClampNeg))) 25 (upd ((va_up S.2.1 19 (upd (S.2.1 19) v165.toNatClampNeg (S.2.1 19 v151.toNatClampNeg))) 25) ((va_up S.2.1 19 (upd (S.2.1 19) v165.toNatClampNeg (S.2.1 19 v151.toNatClampNeg))) 22 x3.toNatClampNeg).toNatClampNeg ((S.2.1 19 v151.toNatClampNeg) * ((va_up S.2.1 19 (upd (S.2.1 19) v165.toNatClampNeg (S.2.1 19 v151.toNatClampNeg))) 46 ((64 * x1) + ((va_up S.2.1 19 (upd (S.2.1 19) v165.toNatClampNeg (S.2.1 19 v151.toNatClampNeg))) 22 x3.toNatClampNeg)).toNatClampNeg))), S.2.2)))))))))))
def e_become_137 (x1 : Int32) (x2 : Int32) (x3 : Int32) (S : ms) (R102 : Int32 → ms → Prop) (R114 : Int32 → Int32 → ms → Prop) (K : ms → Prop) : Prop :=
  ∃ (I : Int32 → Int32 → Int32 → ms → Prop) (μ : Int32 → Int32 → Int32 → ms → Nat), I x1 x2 x3 S ∧ ∀ yx1 yx2 yx3 yS, I yx1 yx2 yx3 yS → b_become_137 yx1 yx2 yx3 yS R102 R114 (fun zx1 zx2 zx3 zS => I zx1 zx2 zx3 zS ∧ μ zx1 zx2 zx3 zS < μ yx1 yx2 yx3 yS) K
def b_become_114 (x1 : Int32) (x2 : Int32) (S : ms) (R102 : Int32 → ms → Prop) (R114 : Int32 → Int32 → ms → Prop) (K : ms → Prop) : Prop :=
  vp_in (3 + x1) 9 ∧ (vp_in (3 + x1) 9 ∧ ((((S.2.1 17 (3 + x1).toNatClampNeg) * (S.2.1 18 (3 + x1).toNatClampNeg)) ≤ x2 → (R102 (x1 + 1) S)) ∧ (¬ (((S.2.1 17 (3 + x1).toNatClampNeg) * (S.2.1 18 (3 + x1).toNatClampNeg)) ≤ x2) → (e_become_137 x1 x2 0 S R102 R114 K))))
def e_become_114 (x1 : Int32) (x2 : Int32) (S : ms) (R102 : Int32 → ms → Prop) (K : ms → Prop) : Prop :=
  ∃ (I : Int32 → Int32 → ms → Prop) (μ : Int32 → Int32 → ms → Nat), I x1 x2 S ∧ ∀ yx1 yx2 yS, I yx1 yx2 yS → b_become_114 yx1 yx2 yS R102 (fun zx1 zx2 zS => I zx1 zx2 zS ∧ μ zx1 zx2 zS < μ yx1 yx2 yS) K
def b_become_102 (x1 : Int32) (S : ms) (R102 : Int32 → ms → Prop) (K : ms → Prop) : Prop :=
  vp_in 1 3 ∧ (((S.2.1 14 (1 : Int32).toNatClampNeg) ≤ x1 → (K S)) ∧ (¬ ((S.2.1 14 (1 : Int32).toNatClampNeg) ≤ x1) → (e_become_114 x1 0 S R102 K)))
def e_become_102 (x1 : Int32) (S : ms) (K : ms → Prop) : Prop :=
  ∃ (I : Int32 → ms → Prop) (μ : Int32 → ms → Nat), I x1 S ∧ ∀ yx1 yS, I yx1 yS → b_become_102 yx1 yS (fun zx1 zS => I zx1 zS ∧ μ zx1 zS < μ yx1 yS) K
def b_become_45 (x1 : Int32) (S : ms) (R45 : Int32 → ms → Prop) (K : ms → Prop) : Prop :=
  vp_in 2 3 ∧ (((S.2.1 14 (2 : Int32).toNatClampNeg) ≤ x1 → (p_makeGrids 1 S (fun S97 => e_become_102 0 (S97.1, S97.2.1, S97.2.2) K))) ∧ (¬ ((S.2.1 14 (2 : Int32).toNatClampNeg) ≤ x1) → (vp_in (6 + x1) 9 ∧ (vp_in (3 + x1) 9 ∧ (vp_in (6 + x1) 9 ∧ (vp_in (3 + x1) 9 ∧ (R45 (x1 + 1) (S.1, va_up (va_up S.2.1 15 (upd (S.2.1 15) (3 + x1).toNatClampNeg (S.2.1 15 (6 + x1).toNatClampNeg))) 16 (upd ((va_up S.2.1 15 (upd (S.2.1 15) (3 + x1).toNatClampNeg (S.2.1 15 (6 + x1).toNatClampNeg))) 16) (3 + x1).toNatClampNeg ((va_up S.2.1 15 (upd (S.2.1 15) (3 + x1).toNatClampNeg (S.2.1 15 (6 + x1).toNatClampNeg))) 16 (6 + x1).toNatClampNeg)), S.2.2))))))))
def e_become_45 (x1 : Int32) (S : ms) (K : ms → Prop) : Prop :=
  ∃ (I : Int32 → ms → Prop) (μ : Int32 → ms → Nat), I x1 S ∧ ∀ yx1 yS, I yx1 yS → b_become_45 yx1 yS (fun zx1 zS => I zx1 zS ∧ μ zx1 zS < μ yx1 yS) K
def p_become  (S : ms) (K : ms → Prop) : Prop :=
  vp_in 1 3 ∧ (vp_in 2 3 ∧ (vp_in 1 3 ∧ (vp_in 2 3 ∧ (vp_in 1 3 ∧ (vp_in 2 3 ∧ (vp_in 1 3 ∧ (e_become_45 0 (S.1, va_up (va_up (va_up (va_up S.2.1 11 (upd (S.2.1 11) (1 : Int32).toNatClampNeg (vp_nar .boolean 1))) 12 (upd ((va_up S.2.1 11 (upd (S.2.1 11) (1 : Int32).toNatClampNeg (vp_nar .boolean 1))) 12) (1 : Int32).toNatClampNeg ((va_up S.2.1 11 (upd (S.2.1 11) (1 : Int32).toNatClampNeg (vp_nar .boolean 1))) 12 (2 : Int32).toNatClampNeg))) 13 (upd ((va_up (va_up S.2.1 11 (upd (S.2.1 11) (1 : Int32).toNatClampNeg (vp_nar .boolean 1))) 12 (upd ((va_up S.2.1 11 (upd (S.2.1 11) (1 : Int32).toNatClampNeg (vp_nar .boolean 1))) 12) (1 : Int32).toNatClampNeg ((va_up S.2.1 11 (upd (S.2.1 11) (1 : Int32).toNatClampNeg (vp_nar .boolean 1))) 12 (2 : Int32).toNatClampNeg))) 13) (1 : Int32).toNatClampNeg ((va_up (va_up S.2.1 11 (upd (S.2.1 11) (1 : Int32).toNatClampNeg (vp_nar .boolean 1))) 12 (upd ((va_up S.2.1 11 (upd (S.2.1 11) (1 : Int32).toNatClampNeg (vp_nar .boolean 1))) 12) (1 : Int32).toNatClampNeg ((va_up S.2.1 11 (upd (S.2.1 11) (1 : Int32).toNatClampNeg (vp_nar .boolean 1))) 12 (2 : Int32).toNatClampNeg))) 13 (2 : Int32).toNatClampNeg))) 14 (upd ((va_up (va_up (va_up S.2.1 11 (upd (S.2.1 11) (1 : Int32).toNatClampNeg (vp_nar .boolean 1))) 12 (upd ((va_up S.2.1 11 (upd (S.2.1 11) (1 : Int32).toNatClampNeg (vp_nar .boolean 1))) 12) (1 : Int32).toNatClampNeg ((va_up S.2.1 11 (upd (S.2.1 11) (1 : Int32).toNatClampNeg (vp_nar .boolean 1))) 12 (2 : Int32).toNatClampNeg))) 13 (upd ((va_up (va_up S.2.1 11 (upd (S.2.1 11) (1 : Int32).toNatClampNeg (vp_nar .boolean 1))) 12 (upd ((va_up S.2.1 11 (upd (S.2.1 11) (1 : Int32).toNatClampNeg (vp_nar .boolean 1))) 12) (1 : Int32).toNatClampNeg ((va_up S.2.1 11 (upd (S.2.1 11) (1 : Int32).toNatClampNeg (vp_nar .boolean 1))) 12 (2 : Int32).toNatClampNeg))) 13) (1 : Int32).toNatClampNeg ((va_up (va_up S.2.1 11 (upd (S.2.1 11) (1 : Int32).toNatClampNeg (vp_nar .boolean 1))) 12 (upd ((va_up S.2.1 11 (upd (S.2.1 11) (1 : Int32).toNatClampNeg (vp_nar .boolean 1))) 12) (1 : Int32).toNatClampNeg ((va_up S.2.1 11 (upd (S.2.1 11) (1 : Int32).toNatClampNeg (vp_nar .boolean 1))) 12 (2 : Int32).toNatClampNeg))) 13 (2 : Int32).toNatClampNeg))) 14) (1 : Int32).toNatClampNeg ((va_up (va_up (va_up S.2.1 11 (upd (S.2.1 11) (1 : Int32).toNatClampNeg (vp_nar .boolean 1))) 12 (upd ((va_up S.2.1 11 (upd (S.2.1 11) (1 : Int32).toNatClampNeg (vp_nar .boolean 1))) 12) (1 : Int32).toNatClampNeg ((va_up S.2.1 11 (upd (S.2.1 11) (1 : Int32).toNatClampNeg (vp_nar .boolean 1))) 12 (2 : Int32).toNatClampNeg))) 13 (upd ((va_up (va_up S.2.1 11 (upd (S.2.1 11) (1 : Int32).toNatClampNeg (vp_nar .boolean 1))) 12 (upd ((va_up S.2.1 11 (upd (S.2.1 11) (1 : Int32).toNatClampNeg (vp_nar .boolean 1))) 12) (1 : Int32).toNatClampNeg ((va_up S.2.1 11 (upd (S.2.1 11) (1 : Int32).toNatClampNeg (vp_nar .boolean 1))) 12 (2 : Int32).toNatClampNeg))) 13) (1 : Int32).toNatClampNeg ((va_up (va_up S.2.1 11 (upd (S.2.1 11) (1 : Int32).toNatClampNeg (vp_nar .boolean 1))) 12 (upd ((va_up S.2.1 11 (upd (S.2.1 11) (1 : Int32).toNatClampNeg (vp_nar .boolean 1))) 12) (1 : Int32).toNatClampNeg ((va_up S.2.1 11 (upd (S.2.1 11) (1 : Int32).toNatClampNeg (vp_nar .boolean 1))) 12 (2 : Int32).toNatClampNeg))) 13 (2 : Int32).toNatClampNeg))) 14 (2 : Int32).toNatClampNeg)), S.2.2) K)))))))
section M_become
variable {D : va_G} {z : Nat → ClassId} {A : Nat → Prop} {X : cx} {L0 : fw} {K : ms → Prop} {o : Nat} {ad : Nat → Nat}
set_option maxRecDepth 100000 in
set_option maxHeartbeats 1000000 in
theorem s_become_243 (C : fcx gG D z A X R_M c_M_become 6 (none)) (hQ : X.2.2.2.2.2.2.2.2.2.2 = eQ gG D z X.2.2.2.2.2.2.2.1 X.2.2.2.2.1 L0 0 0 (pM_v K o ad)) (hA : A = owA gG L0 X.2.2.2.2.1.heap.size) (hR : X.2.2.2.1 = { frames := 3, cells := 1, slots := 6, locals := 300 }) (x1 : Int32) (x2 : Int32) (x3 : Int32) (x4 : Int32) (x5 : Int32) (S : ms) (R102 : Int32 → ms → Prop) (hR102 : ∀ yx1 yS, R102 yx1 yS → aw gG D z A X 6 102 [some (.ref o), some (.int yx1), none, none, none, none] [] [(0, ly_M, (o, ad, yS.1, yS.2.1, yS.2.2))] 0 0) (R114 : Int32 → Int32 → ms → Prop) (hR114 : ∀ yx1 yx2 yS, R114 yx1 yx2 yS → aw gG D z A X 6 114 [some (.ref o), some (.int yx1), some (.int yx2), none, none, none] [] [(0, ly_M, (o, ad, yS.1, yS.2.1, yS.2.2))] 0 0) (R243 : Int32 → Int32 → Int32 → Int32 → Int32 → ms → Prop) (hR243 : ∀ yx1 yx2 yx3 yx4 yx5 yS, R243 yx1 yx2 yx3 yx4 yx5 yS → aw gG D z A X 6 243 [some (.ref o), some (.int yx1), some (.int yx2), some (.int yx3), some (.int yx4), some (.int yx5)] [] [(0, ly_M, (o, ad, yS.1, yS.2.1, yS.2.2))] 0 0) (hp : b_become_243 x1 x2 x3 x4 x5 S R102 R114 R243 K) : aw gG D z A X 6 243 [some (.ref o), some (.int x1), some (.int x2), some (.int x3), some (.int x4), some (.int x5)] [] [(0, ly_M, (o, ad, S.1, S.2.1, S.2.2))] 0 0 := by
  unfold b_become_243 at hp
  refine a_iload C d_become_243 rfl ?_
  refine a_bipush (v := 64) C d_become_245 (by decide) ?_
  refine a_icmp_ge (tgt := 292) C d_become_247 (by decide) ⟨fun hc => ?_, fun hc => ?_⟩
  · have hp := hp.1 hc
    refine a_iinc (v := x2 + 1) (lo' := [some (.ref o), some (.int x1), some (.int (x2 + 1)), some (.int x3), some (.int x4), some (.int x5)]) C d_become_292 rfl rfl (by decide) rfl ?_
    refine a_goto (tgt := 114) C d_become_295 (by decide) ?_
    refine aw_lo (lo' := [some (.ref o), some (.int x1), some (.int (x2 + 1)), none, none, none]) ⟨.inr rfl, .inr rfl, .inr rfl, .inl rfl, .inl rfl, .inl rfl, trivial⟩ ?_
    exact hR114 x1 (x2 + 1) S hp
  · have hp := hp.2 hc
    refine a_aload_n C d_become_250 rfl rfl ?_
    refine a_getR C 0 20 d_become_251 rfl rfl rfl (Nat.le_of_ble_eq_true rfl) f_M_66 ⟨Nat.le_of_ble_eq_true rfl, Nat.le_of_ble_eq_true rfl⟩ ?_
    refine a_bipush (v := 64) C d_become_254 (by decide) ?_
    refine a_bipush (v := 64) C d_become_256 (by decide) ?_
    refine a_iload_n C d_become_258 rfl rfl ?_
    refine a_imul C d_become_259 ?_
    refine a_iload C d_become_260 rfl ?_
    refine a_iadd C d_become_262 ?_
    refine a_iload C d_become_263 rfl ?_
    refine a_bipush (v := 8) C d_become_265 (by decide) ?_
    refine a_idiv C d_become_267 (by decide) ?_
    refine a_iadd C d_become_268 ?_
    refine a_imul C d_become_269 ?_
    refine a_iload_n C d_become_270 rfl rfl ?_
    refine a_iadd C d_become_271 ?_
    refine a_iload C d_become_272 rfl ?_
    refine a_bipush (v := 8) C d_become_274 (by decide) ?_
    refine a_irem C d_become_276 (by decide) ?_
    refine a_iadd C d_become_277 ?_
    refine a_aload_n C d_become_278 rfl rfl ?_
    refine a_getR C 0 25 d_become_279 rfl rfl rfl (Nat.le_of_ble_eq_true rfl) f_M_82 ⟨Nat.le_of_ble_eq_true rfl, Nat.le_of_ble_eq_true rfl⟩ ?_
    refine a_iload C d_become_282 rfl ?_
    refine a_iald C 0 25 d_become_284 rfl rfl rfl hp.1 ?_
    have hp := hp.2
    refine a_iast C 0 20 d_become_285 rfl rfl rfl hp.1 ?_
    have hp := hp.2
    refine aw_eq (lo' := _) (st' := _) (L' := [(0, ly_M, (o, ad, S.1, va_up S.2.1 20 (upd (S.2.1 20) (((64 * (((64 * x1) + x4) + (x5 / 8))) + x3) + (x5 - x5 / 8 * 8)).toNatClampNeg (S.2.1 25 x5.toNatClampNeg)), S.2.2))]) rfl rfl rfl ?_
    refine a_iinc (v := x5 + 1) (lo' := [some (.ref o), some (.int x1), some (.int x2), some (.int x3), some (.int x4), some (.int (x5 + 1))]) C d_become_286 rfl rfl (by decide) rfl ?_
    refine a_goto (tgt := 243) C d_become_289 (by decide) ?_
    refine aw_lo (lo' := [some (.ref o), some (.int x1), some (.int x2), some (.int x3), some (.int x4), some (.int (x5 + 1))]) ⟨.inr rfl, .inr rfl, .inr rfl, .inr rfl, .inr rfl, .inr rfl, trivial⟩ ?_
    exact hR243 x1 x2 x3 x4 (x5 + 1) (S.1, va_up S.2.1 20 (upd (S.2.1 20) (((64 * (((64 * x1) + x4) + (x5 / 8))) + x3) + (x5 - x5 / 8 * 8)).toNatClampNeg (S.2.1 25 x5.toNatClampNeg)), S.2.2) hp
set_option maxRecDepth 100000 in
set_option maxHeartbeats 1000000 in
theorem se_become_243 (C : fcx gG D z A X R_M c_M_become 6 (none)) (hQ : X.2.2.2.2.2.2.2.2.2.2 = eQ gG D z X.2.2.2.2.2.2.2.1 X.2.2.2.2.1 L0 0 0 (pM_v K o ad)) (hA : A = owA gG L0 X.2.2.2.2.1.heap.size) (hR : X.2.2.2.1 = { frames := 3, cells := 1, slots := 6, locals := 300 }) (x1 : Int32) (x2 : Int32) (x3 : Int32) (x4 : Int32) (x5 : Int32) (S : ms) (R102 : Int32 → ms → Prop) (hR102 : ∀ yx1 yS, R102 yx1 yS → aw gG D z A X 6 102 [some (.ref o), some (.int yx1), none, none, none, none] [] [(0, ly_M, (o, ad, yS.1, yS.2.1, yS.2.2))] 0 0) (R114 : Int32 → Int32 → ms → Prop) (hR114 : ∀ yx1 yx2 yS, R114 yx1 yx2 yS → aw gG D z A X 6 114 [some (.ref o), some (.int yx1), some (.int yx2), none, none, none] [] [(0, ly_M, (o, ad, yS.1, yS.2.1, yS.2.2))] 0 0) (hp : e_become_243 x1 x2 x3 x4 x5 S R102 R114 K) : aw gG D z A X 6 243 [some (.ref o), some (.int x1), some (.int x2), some (.int x3), some (.int x4), some (.int x5)] [] [(0, ly_M, (o, ad, S.1, S.2.1, S.2.2))] 0 0 := by
  obtain ⟨I, μ, h0, hs⟩ := hp
  have key : ∀ (n : Nat) (yx1 : Int32) (yx2 : Int32) (yx3 : Int32) (yx4 : Int32) (yx5 : Int32) (yS : ms), μ yx1 yx2 yx3 yx4 yx5 yS < n → I yx1 yx2 yx3 yx4 yx5 yS → aw gG D z A X 6 243 [some (.ref o), some (.int yx1), some (.int yx2), some (.int yx3), some (.int yx4), some (.int yx5)] [] [(0, ly_M, (o, ad, yS.1, yS.2.1, yS.2.2))] 0 0 := by
    intro n
    induction n with
    | zero => intro yx1 yx2 yx3 yx4 yx5 yS h; omega
    | succ n ih =>
      intro yx1 yx2 yx3 yx4 yx5 yS hn hI
      exact s_become_243 C hQ hA hR yx1 yx2 yx3 yx4 yx5 yS R102 hR102 R114 hR114 _ (fun zx1 zx2 zx3 zx4 zx5 zS hw => ih zx1 zx2 zx3 zx4 zx5 zS (by omega) hw.1) (hs yx1 yx2 yx3 yx4 yx5 yS hI)
  exact key (μ x1 x2 x3 x4 x5 S + 1) x1 x2 x3 x4 x5 S (Nat.lt_succ_self _) h0
set_option maxRecDepth 100000 in
set_option maxHeartbeats 1000000 in
theorem s_become_137 (C : fcx gG D z A X R_M c_M_become 6 (none)) (hQ : X.2.2.2.2.2.2.2.2.2.2 = eQ gG D z X.2.2.2.2.2.2.2.1 X.2.2.2.2.1 L0 0 0 (pM_v K o ad)) (hA : A = owA gG L0 X.2.2.2.2.1.heap.size) (hR : X.2.2.2.1 = { frames := 3, cells := 1, slots := 6, locals := 300 }) (x1 : Int32) (x2 : Int32) (x3 : Int32) (S : ms) (R102 : Int32 → ms → Prop) (hR102 : ∀ yx1 yS, R102 yx1 yS → aw gG D z A X 6 102 [some (.ref o), some (.int yx1), none, none, none, none] [] [(0, ly_M, (o, ad, yS.1, yS.2.1, yS.2.2))] 0 0) (R114 : Int32 → Int32 → ms → Prop) (hR114 : ∀ yx1 yx2 yS, R114 yx1 yx2 yS → aw gG D z A X 6 114 [some (.ref o), some (.int yx1), some (.int yx2), none, none, none] [] [(0, ly_M, (o, ad, yS.1, yS.2.1, yS.2.2))] 0 0) (R137 : Int32 → Int32 → Int32 → ms → Prop) (hR137 : ∀ yx1 yx2 yx3 yS, R137 yx1 yx2 yx3 yS → aw gG D z A X 6 137 [some (.ref o), some (.int yx1), some (.int yx2), some (.int yx3), none, none] [] [(0, ly_M, (o, ad, yS.1, yS.2.1, yS.2.2))] 0 0) (hp : b_become_137 x1 x2 x3 S R102 R114 R137 K) : aw gG D z A X 6 137 [some (.ref o), some (.int x1), some (.int x2), some (.int x3), none, none] [] [(0, ly_M, (o, ad, S.1, S.2.1, S.2.2))] 0 0 := by
  unfold b_become_137 at hp
  refine a_iload_n C d_become_137 rfl rfl ?_
  refine a_bipush (v := 64) C d_become_138 (by decide) ?_
  refine a_icmp_ge (tgt := 207) C d_become_140 (by decide) ⟨fun hc => ?_, fun hc => ?_⟩
  · have hp := hp.1 hc
    refine a_aload_n C d_become_207 rfl rfl ?_
    refine a_call (Lr := []) (rest := []) (av := .ref o :: []) C [0] [] d_become_208 (ct_toSamples S hp) cd_M_toSamples i_M (Nat.le_of_ble_eq_true rfl) (by rw [hR]; exact Nat.le_of_ble_eq_true rfl) (by rw [hR]; exact Nat.le_of_ble_eq_true rfl) (by rw [hR]; exact Nat.le_of_ble_eq_true rfl) (by rw [hR]; exact Nat.le_of_ble_eq_true rfl) rfl rfl (by decide) (by decide) (by decide) (inv_V C 0 d_become_208 l_M_374 im_M_toSamples se_M_toSamples cd_M_toSamples ⟨by decide, by decide⟩ ln_M_toSamples rfl rfl rfl rfl rfl) (fun oc L1 hL => ?_)
    obtain ⟨S208, hp, rfl, rfl⟩ := hL
    refine ⟨_, rfl, ?_⟩
    refine aw_eq (lo' := _) (st' := []) (L' := [(0, ly_M, (o, ad, S208.1, S208.2.1, S208.2.2))]) rfl rfl rfl ?_
    refine a_bipush (v := 8) C d_become_211 (by decide) ?_
    refine a_iload_n C d_become_213 rfl rfl ?_
    refine a_aload_n C d_become_214 rfl rfl ?_
    refine a_getR C 0 17 d_become_215 rfl rfl rfl (Nat.le_of_ble_eq_true rfl) f_M_56 ⟨Nat.le_of_ble_eq_true rfl, Nat.le_of_ble_eq_true rfl⟩ ?_
    refine a_iconst (v := 3) C d_become_218 (by decide) ?_
    refine a_iload_n C d_become_219 rfl rfl ?_
    refine a_iadd C d_become_220 ?_
    refine a_iald C 0 17 d_become_221 rfl rfl rfl hp.1 ?_
    have hp := hp.2
    refine a_irem C d_become_222 hp.1 ?_
    have hp := hp.2
    refine a_imul C d_become_223 ?_
    refine a_istore_n (lo' := [some (.ref o), some (.int x1), some (.int x2), some (.int (8 * (x2 - x2 / (S208.2.1 17 (3 + x1).toNatClampNeg) * (S208.2.1 17 (3 + x1).toNatClampNeg)))), none, none]) C d_become_224 rfl (by decide) rfl ?_
    refine a_bipush (v := 8) C d_become_225 (by decide) ?_
    refine a_iload_n C d_become_227 rfl rfl ?_
    refine a_aload_n C d_become_228 rfl rfl ?_
    refine a_getR C 0 17 d_become_229 rfl rfl rfl (Nat.le_of_ble_eq_true rfl) f_M_56 ⟨Nat.le_of_ble_eq_true rfl, Nat.le_of_ble_eq_true rfl⟩ ?_
    refine a_iconst (v := 3) C d_become_232 (by decide) ?_
    refine a_iload_n C d_become_233 rfl rfl ?_
    refine a_iadd C d_become_234 ?_
    refine a_iald C 0 17 d_become_235 rfl rfl rfl hp.1 ?_
    have hp := hp.2
    refine a_idiv C d_become_236 hp.1 ?_
    have hp := hp.2
    refine a_imul C d_become_237 ?_
    refine a_istore (lo' := [some (.ref o), some (.int x1), some (.int x2), some (.int (8 * (x2 - x2 / (S208.2.1 17 (3 + x1).toNatClampNeg) * (S208.2.1 17 (3 + x1).toNatClampNeg)))), some (.int (8 * (x2 / (S208.2.1 17 (3 + x1).toNatClampNeg)))), none]) C d_become_238 (by decide) rfl ?_
    refine a_iconst (v := 0) C d_become_240 (by decide) ?_
    refine a_istore (lo' := [some (.ref o), some (.int x1), some (.int x2), some (.int (8 * (x2 - x2 / (S208.2.1 17 (3 + x1).toNatClampNeg) * (S208.2.1 17 (3 + x1).toNatClampNeg)))), some (.int (8 * (x2 / (S208.2.1 17 (3 + x1).toNatClampNeg)))), some (.int 0)]) C d_become_241 (by decide) rfl ?_
    refine aw_lo (lo' := [some (.ref o), some (.int x1), some (.int x2), some (.int (8 * (x2 - x2 / (S208.2.1 17 (3 + x1).toNatClampNeg) * (S208.2.1 17 (3 + x1).toNatClampNeg)))), some (.int (8 * (x2 / (S208.2.1 17 (3 + x1).toNatClampNeg)))), some (.int 0)]) ⟨.inr rfl, .inr rfl, .inr rfl, .inr rfl, .inr rfl, .inr rfl, trivial⟩ ?_
    exact se_become_243 C hQ hA hR x1 x2 (8 * (x2 - x2 / (S208.2.1 17 (3 + x1).toNatClampNeg) * (S208.2.1 17 (3 + x1).toNatClampNeg))) (8 * (x2 / (S208.2.1 17 (3 + x1).toNatClampNeg))) 0 (S208.1, S208.2.1, S208.2.2) R102 hR102 R114 hR114 hp
  · have hp := hp.2 hc
    refine a_aload_n C d_become_143 rfl rfl ?_
    refine a_getR C 0 19 d_become_144 rfl rfl rfl (Nat.le_of_ble_eq_true rfl) f_M_63 ⟨Nat.le_of_ble_eq_true rfl, Nat.le_of_ble_eq_true rfl⟩ ?_
    refine a_iconst (v := 2) C d_become_147 (by decide) ?_
    refine a_iload_n C d_become_148 rfl rfl ?_
    refine a_iload_n C d_become_149 rfl rfl ?_
    refine a_iload_n C d_become_150 rfl rfl ?_
    refine a_call (Lr := [(0, ly_M, (o, ad, S.1, S.2.1, S.2.2))]) (rest := [.ref (ad 19)]) (av := [.int 2, .int x1, .int x2, .int x3]) C [] [0] d_become_151 (ct_levelCell 2 x1 x2 x3 hp) cd_M_levelCell i_M (Nat.le_of_ble_eq_true rfl) (by rw [hR]; exact Nat.le_of_ble_eq_true rfl) (by rw [hR]; exact Nat.le_of_ble_eq_true rfl) (by rw [hR]; exact Nat.le_of_ble_eq_true rfl) (by rw [hR]; exact Nat.le_of_ble_eq_true rfl) rfl rfl (by decide) (by decide) (by decide) (inv_S C d_become_151 l_M_193 st_M_levelCell i_M cd_M_levelCell ⟨by decide, by decide⟩ ln_M_levelCell rfl) (fun oc L1 hL => ?_)
    obtain ⟨v151, hp, rfl, rfl⟩ := hL
    refine ⟨_, rfl, ?_⟩
    refine aw_eq (lo' := _) (st' := [.int v151, .ref (ad 19)]) (L' := [(0, ly_M, (o, ad, S.1, S.2.1, S.2.2))]) rfl rfl rfl ?_
    refine a_iald C 0 19 d_become_154 rfl rfl rfl hp.1 ?_
    have hp := hp.2
    refine a_istore (lo' := [some (.ref o), some (.int x1), some (.int x2), some (.int x3), some (.int (S.2.1 19 v151.toNatClampNeg)), none]) C d_become_155 (by decide) rfl ?_
    refine a_aload_n C d_become_157 rfl rfl ?_
    refine a_getR C 0 19 d_become_158 rfl rfl rfl (Nat.le_of_ble_eq_true rfl) f_M_63 ⟨Nat.le_of_ble_eq_true rfl, Nat.le_of_ble_eq_true rfl⟩ ?_
    refine a_iconst (v := 1) C d_become_161 (by decide) ?_
    refine a_iload_n C d_become_162 rfl rfl ?_
    refine a_iload_n C d_become_163 rfl rfl ?_
    refine a_iload_n C d_become_164 rfl rfl ?_
    refine a_call (Lr := [(0, ly_M, (o, ad, S.1, S.2.1, S.2.2))]) (rest := [.ref (ad 19)]) (av := [.int 1, .int x1, .int x2, .int x3]) C [] [0] d_become_165 (ct_levelCell 1 x1 x2 x3 hp) cd_M_levelCell i_M (Nat.le_of_ble_eq_true rfl) (by rw [hR]; exact Nat.le_of_ble_eq_true rfl) (by rw [hR]; exact Nat.le_of_ble_eq_true rfl) (by rw [hR]; exact Nat.le_of_ble_eq_true rfl) (by rw [hR]; exact Nat.le_of_ble_eq_true rfl) rfl rfl (by decide) (by decide) (by decide) (inv_S C d_become_165 l_M_193 st_M_levelCell i_M cd_M_levelCell ⟨by decide, by decide⟩ ln_M_levelCell rfl) (fun oc L1 hL => ?_)
    obtain ⟨v165, hp, rfl, rfl⟩ := hL
    refine ⟨_, rfl, ?_⟩
    refine aw_eq (lo' := _) (st' := [.int v165, .ref (ad 19)]) (L' := [(0, ly_M, (o, ad, S.1, S.2.1, S.2.2))]) rfl rfl rfl ?_
    refine a_iload C d_become_168 rfl ?_
    refine a_iast C 0 19 d_become_170 rfl rfl rfl hp.1 ?_
    have hp := hp.2
    refine aw_eq (lo' := _) (st' := _) (L' := [(0, ly_M, (o, ad, S.1, va_up S.2.1 19 (upd (S.2.1 19) v165.toNatClampNeg (S.2.1 19 v151.toNatClampNeg)), S.2.2))]) rfl rfl rfl ?_
    refine a_aload_n C d_become_171 rfl rfl ?_
    refine a_getR C 0 25 d_become_172 rfl rfl rfl (Nat.le_of_ble_eq_true rfl) f_M_82 ⟨Nat.le_of_ble_eq_true rfl, Nat.le_of_ble_eq_true rfl⟩ ?_
    refine a_aload_n C d_become_175 rfl rfl ?_
    refine a_getR C 0 22 d_become_176 rfl rfl rfl (Nat.le_of_ble_eq_true rfl) f_M_72 ⟨Nat.le_of_ble_eq_true rfl, Nat.le_of_ble_eq_true rfl⟩ ?_
    refine a_iload_n C d_become_179 rfl rfl ?_
    refine a_iald C 0 22 d_become_180 rfl rfl rfl hp.1 ?_
    have hp := hp.2
    refine a_iload C d_become_181 rfl ?_
    refine a_aload_n C d_become_183 rfl rfl ?_
    refine a_getR C 0 46 d_become_184 rfl rfl rfl (Nat.le_of_ble_eq_true rfl) f_M_124 ⟨Nat.le_of_ble_eq_true rfl, Nat.le_of_ble_eq_true rfl⟩ ?_
    refine a_bipush (v := 64) C d_become_187 (by decide) ?_
    refine a_iload_n C d_become_189 rfl rfl ?_
    refine a_imul C d_become_190 ?_
    refine a_aload_n C d_become_191 rfl rfl ?_
    refine a_getR C 0 22 d_become_192 rfl rfl rfl (Nat.le_of_ble_eq_true rfl) f_M_72 ⟨Nat.le_of_ble_eq_true rfl, Nat.le_of_ble_eq_true rfl⟩ ?_
    refine a_iload_n C d_become_195 rfl rfl ?_
    refine a_iald C 0 22 d_become_196 rfl rfl rfl hp.1 ?_
    have hp := hp.2
    refine a_iadd C d_become_197 ?_
    refine a_iald C 0 46 d_become_198 rfl rfl rfl hp.1 ?_
    have hp := hp.2
    refine a_imul C d_become_199 ?_
    refine a_iast C 0 25 d_become_200 rfl rfl rfl hp.1 ?_
    have hp := hp.2
    refine aw_eq (lo' := _) (st' := _) (L' := [(0, ly_M, (o, ad, S.1, va_up (va_up S.2.1 19 (upd (S.2.1 19) v165.toNatClampNeg (S.2.1 19 v151.toNatClampNeg))) 25 (upd ((va_up S.2.1 19 (upd (S.2.1 19) v165.toNatClampNeg (S.2.1 19 v151.toNatClampNeg))) 25) ((va_up S.2.1 19 (upd (S.2.1 19) v165.toNatClampNeg (S.2.1 19 v151.toNatClampNeg))) 22 x3.toNatClampNeg).toNatClampNeg ((S.2.1 19 v151.toNatClampNeg) * ((va_up S.2.1 19 (upd (S.2.1 19) v165.toNatClampNeg (S.2.1 19 v151.toNatClampNeg))) 46 ((64 * x1) + ((va_up S.2.1 19 (upd (S.2.1 19) v165.toNatClampNeg (S.2.1 19 v151.toNatClampNeg))) 22 x3.toNatClampNeg)).toNatClampNeg))), S.2.2))]) rfl rfl rfl ?_
    refine a_iinc (v := x3 + 1) (lo' := [some (.ref o), some (.int x1), some (.int x2), some (.int (x3 + 1)), some (.int (S.2.1 19 v151.toNatClampNeg)), none]) C d_become_201 rfl rfl (by decide) rfl ?_
    refine a_goto (tgt := 137) C d_become_204 (by decide) ?_
    refine aw_lo (lo' := [some (.ref o), some (.int x1), some (.int x2), some (.int (x3 + 1)), none, none]) ⟨.inr rfl, .inr rfl, .inr rfl, .inr rfl, .inl rfl, .inr rfl, trivial⟩ ?_
    exact hR137 x1 x2 (x3 + 1) (S.1, va_up (va_up S.2.1 19 (upd (S.2.1 19) v165.toNatClampNeg (S.2.1 19 v151.toNatClampNeg))) 25 (upd ((va_up S.2.1 19 (upd (S.2.1 19) v165.toNatClampNeg (S.2.1 19 v151.toNatClampNeg))) 25) ((va_up S.2.1 19 (upd (S.2.1 19) v165.toNatClampNeg (S.2.1 19 v151.toNatClampNeg))) 22 x3.toNatClampNeg).toNatClampNeg ((S.2.1 19 v151.toNatClampNeg) * ((va_up S.2.1 19 (upd (S.2.1 19) v165.toNatClampNeg (S.2.1 19 v151.toNatClampNeg))) 46 ((64 * x1) + ((va_up S.2.1 19 (upd (S.2.1 19) v165.toNatClampNeg (S.2.1 19 v151.toNatClampNeg))) 22 x3.toNatClampNeg)).toNatClampNeg))), S.2.2) hp
set_option maxRecDepth 100000 in
set_option maxHeartbeats 1000000 in
theorem se_become_137 (C : fcx gG D z A X R_M c_M_become 6 (none)) (hQ : X.2.2.2.2.2.2.2.2.2.2 = eQ gG D z X.2.2.2.2.2.2.2.1 X.2.2.2.2.1 L0 0 0 (pM_v K o ad)) (hA : A = owA gG L0 X.2.2.2.2.1.heap.size) (hR : X.2.2.2.1 = { frames := 3, cells := 1, slots := 6, locals := 300 }) (x1 : Int32) (x2 : Int32) (x3 : Int32) (S : ms) (R102 : Int32 → ms → Prop) (hR102 : ∀ yx1 yS, R102 yx1 yS → aw gG D z A X 6 102 [some (.ref o), some (.int yx1), none, none, none, none] [] [(0, ly_M, (o, ad, yS.1, yS.2.1, yS.2.2))] 0 0) (R114 : Int32 → Int32 → ms → Prop) (hR114 : ∀ yx1 yx2 yS, R114 yx1 yx2 yS → aw gG D z A X 6 114 [some (.ref o), some (.int yx1), some (.int yx2), none, none, none] [] [(0, ly_M, (o, ad, yS.1, yS.2.1, yS.2.2))] 0 0) (hp : e_become_137 x1 x2 x3 S R102 R114 K) : aw gG D z A X 6 137 [some (.ref o), some (.int x1), some (.int x2), some (.int x3), none, none] [] [(0, ly_M, (o, ad, S.1, S.2.1, S.2.2))] 0 0 := by
  obtain ⟨I, μ, h0, hs⟩ := hp
  have key : ∀ (n : Nat) (yx1 : Int32) (yx2 : Int32) (yx3 : Int32) (yS : ms), μ yx1 yx2 yx3 yS < n → I yx1 yx2 yx3 yS → aw gG D z A X 6 137 [some (.ref o), some (.int yx1), some (.int yx2), some (.int yx3), none, none] [] [(0, ly_M, (o, ad, yS.1, yS.2.1, yS.2.2))] 0 0 := by
    intro n
    induction n with
    | zero => intro yx1 yx2 yx3 yS h; omega
    | succ n ih =>
      intro yx1 yx2 yx3 yS hn hI
      exact s_become_137 C hQ hA hR yx1 yx2 yx3 yS R102 hR102 R114 hR114 _ (fun zx1 zx2 zx3 zS hw => ih zx1 zx2 zx3 zS (by omega) hw.1) (hs yx1 yx2 yx3 yS hI)
  exact key (μ x1 x2 x3 S + 1) x1 x2 x3 S (Nat.lt_succ_self _) h0
set_option maxRecDepth 100000 in
set_option maxHeartbeats 1000000 in
theorem s_become_114 (C : fcx gG D z A X R_M c_M_become 6 (none)) (hQ : X.2.2.2.2.2.2.2.2.2.2 = eQ gG D z X.2.2.2.2.2.2.2.1 X.2.2.2.2.1 L0 0 0 (pM_v K o ad)) (hA : A = owA gG L0 X.2.2.2.2.1.heap.size) (hR : X.2.2.2.1 = { frames := 3, cells := 1, slots := 6, locals := 300 }) (x1 : Int32) (x2 : Int32) (S : ms) (R102 : Int32 → ms → Prop) (hR102 : ∀ yx1 yS, R102 yx1 yS → aw gG D z A X 6 102 [some (.ref o), some (.int yx1), none, none, none, none] [] [(0, ly_M, (o, ad, yS.1, yS.2.1, yS.2.2))] 0 0) (R114 : Int32 → Int32 → ms → Prop) (hR114 : ∀ yx1 yx2 yS, R114 yx1 yx2 yS → aw gG D z A X 6 114 [some (.ref o), some (.int yx1), some (.int yx2), none, none, none] [] [(0, ly_M, (o, ad, yS.1, yS.2.1, yS.2.2))] 0 0) (hp : b_become_114 x1 x2 S R102 R114 K) : aw gG D z A X 6 114 [some (.ref o), some (.int x1), some (.int x2), none, none, none] [] [(0, ly_M, (o, ad, S.1, S.2.1, S.2.2))] 0 0 := by
  unfold b_become_114 at hp
  refine a_iload_n C d_become_114 rfl rfl ?_
  refine a_aload_n C d_become_115 rfl rfl ?_
  refine a_getR C 0 17 d_become_116 rfl rfl rfl (Nat.le_of_ble_eq_true rfl) f_M_56 ⟨Nat.le_of_ble_eq_true rfl, Nat.le_of_ble_eq_true rfl⟩ ?_
  refine a_iconst (v := 3) C d_become_119 (by decide) ?_
  refine a_iload_n C d_become_120 rfl rfl ?_
  refine a_iadd C d_become_121 ?_
  refine a_iald C 0 17 d_become_122 rfl rfl rfl hp.1 ?_
  have hp := hp.2
  refine a_aload_n C d_become_123 rfl rfl ?_
  refine a_getR C 0 18 d_become_124 rfl rfl rfl (Nat.le_of_ble_eq_true rfl) f_M_59 ⟨Nat.le_of_ble_eq_true rfl, Nat.le_of_ble_eq_true rfl⟩ ?_
  refine a_iconst (v := 3) C d_become_127 (by decide) ?_
  refine a_iload_n C d_become_128 rfl rfl ?_
  refine a_iadd C d_become_129 ?_
  refine a_iald C 0 18 d_become_130 rfl rfl rfl hp.1 ?_
  have hp := hp.2
  refine a_imul C d_become_131 ?_
  refine a_icmp_ge (tgt := 298) C d_become_132 (by decide) ⟨fun hc => ?_, fun hc => ?_⟩
  · have hp := hp.1 hc
    refine a_iinc (v := x1 + 1) (lo' := [some (.ref o), some (.int (x1 + 1)), some (.int x2), none, none, none]) C d_become_298 rfl rfl (by decide) rfl ?_
    refine a_goto (tgt := 102) C d_become_301 (by decide) ?_
    refine aw_lo (lo' := [some (.ref o), some (.int (x1 + 1)), none, none, none, none]) ⟨.inr rfl, .inr rfl, .inl rfl, .inr rfl, .inr rfl, .inr rfl, trivial⟩ ?_
    exact hR102 (x1 + 1) S hp
  · have hp := hp.2 hc
    refine a_iconst (v := 0) C d_become_135 (by decide) ?_
    refine a_istore_n (lo' := [some (.ref o), some (.int x1), some (.int x2), some (.int 0), none, none]) C d_become_136 rfl (by decide) rfl ?_
    refine aw_lo (lo' := [some (.ref o), some (.int x1), some (.int x2), some (.int 0), none, none]) ⟨.inr rfl, .inr rfl, .inr rfl, .inr rfl, .inr rfl, .inr rfl, trivial⟩ ?_
    exact se_become_137 C hQ hA hR x1 x2 0 S R102 hR102 R114 hR114 hp
set_option maxRecDepth 100000 in
set_option maxHeartbeats 1000000 in
theorem se_become_114 (C : fcx gG D z A X R_M c_M_become 6 (none)) (hQ : X.2.2.2.2.2.2.2.2.2.2 = eQ gG D z X.2.2.2.2.2.2.2.1 X.2.2.2.2.1 L0 0 0 (pM_v K o ad)) (hA : A = owA gG L0 X.2.2.2.2.1.heap.size) (hR : X.2.2.2.1 = { frames := 3, cells := 1, slots := 6, locals := 300 }) (x1 : Int32) (x2 : Int32) (S : ms) (R102 : Int32 → ms → Prop) (hR102 : ∀ yx1 yS, R102 yx1 yS → aw gG D z A X 6 102 [some (.ref o), some (.int yx1), none, none, none, none] [] [(0, ly_M, (o, ad, yS.1, yS.2.1, yS.2.2))] 0 0) (hp : e_become_114 x1 x2 S R102 K) : aw gG D z A X 6 114 [some (.ref o), some (.int x1), some (.int x2), none, none, none] [] [(0, ly_M, (o, ad, S.1, S.2.1, S.2.2))] 0 0 := by
  obtain ⟨I, μ, h0, hs⟩ := hp
  have key : ∀ (n : Nat) (yx1 : Int32) (yx2 : Int32) (yS : ms), μ yx1 yx2 yS < n → I yx1 yx2 yS → aw gG D z A X 6 114 [some (.ref o), some (.int yx1), some (.int yx2), none, none, none] [] [(0, ly_M, (o, ad, yS.1, yS.2.1, yS.2.2))] 0 0 := by
    intro n
    induction n with
    | zero => intro yx1 yx2 yS h; omega
    | succ n ih =>
      intro yx1 yx2 yS hn hI
      exact s_become_114 C hQ hA hR yx1 yx2 yS R102 hR102 _ (fun zx1 zx2 zS hw => ih zx1 zx2 zS (by omega) hw.1) (hs yx1 yx2 yS hI)
  exact key (μ x1 x2 S + 1) x1 x2 S (Nat.lt_succ_self _) h0
set_option maxRecDepth 100000 in
set_option maxHeartbeats 1000000 in
theorem s_become_102 (C : fcx gG D z A X R_M c_M_become 6 (none)) (hQ : X.2.2.2.2.2.2.2.2.2.2 = eQ gG D z X.2.2.2.2.2.2.2.1 X.2.2.2.2.1 L0 0 0 (pM_v K o ad)) (hA : A = owA gG L0 X.2.2.2.2.1.heap.size) (hR : X.2.2.2.1 = { frames := 3, cells := 1, slots := 6, locals := 300 }) (x1 : Int32) (S : ms) (R102 : Int32 → ms → Prop) (hR102 : ∀ yx1 yS, R102 yx1 yS → aw gG D z A X 6 102 [some (.ref o), some (.int yx1), none, none, none, none] [] [(0, ly_M, (o, ad, yS.1, yS.2.1, yS.2.2))] 0 0) (hp : b_become_102 x1 S R102 K) : aw gG D z A X 6 102 [some (.ref o), some (.int x1), none, none, none, none] [] [(0, ly_M, (o, ad, S.1, S.2.1, S.2.2))] 0 0 := by
  unfold b_become_102 at hp
  refine a_iload_n C d_become_102 rfl rfl ?_
  refine a_aload_n C d_become_103 rfl rfl ?_
  refine a_getR C 0 14 d_become_104 rfl rfl rfl (Nat.le_of_ble_eq_true rfl) f_M_47 ⟨Nat.le_of_ble_eq_true rfl, Nat.le_of_ble_eq_true rfl⟩ ?_
  refine a_iconst (v := 1) C d_become_107 (by decide) ?_
  refine a_iald C 0 14 d_become_108 rfl rfl rfl hp.1 ?_
  have hp := hp.2
  refine a_icmp_ge (tgt := 304) C d_become_109 (by decide) ⟨fun hc => ?_, fun hc => ?_⟩
  · have hp := hp.1 hc
    exact a_vret C hQ hA d_become_304 rfl ⟨S, hp, rfl, rfl⟩
  · have hp := hp.2 hc
    refine a_iconst (v := 0) C d_become_112 (by decide) ?_
    refine a_istore_n (lo' := [some (.ref o), some (.int x1), some (.int 0), none, none, none]) C d_become_113 rfl (by decide) rfl ?_
    refine aw_lo (lo' := [some (.ref o), some (.int x1), some (.int 0), none, none, none]) ⟨.inr rfl, .inr rfl, .inr rfl, .inr rfl, .inr rfl, .inr rfl, trivial⟩ ?_
    exact se_become_114 C hQ hA hR x1 0 S R102 hR102 hp
set_option maxRecDepth 100000 in
set_option maxHeartbeats 1000000 in
theorem se_become_102 (C : fcx gG D z A X R_M c_M_become 6 (none)) (hQ : X.2.2.2.2.2.2.2.2.2.2 = eQ gG D z X.2.2.2.2.2.2.2.1 X.2.2.2.2.1 L0 0 0 (pM_v K o ad)) (hA : A = owA gG L0 X.2.2.2.2.1.heap.size) (hR : X.2.2.2.1 = { frames := 3, cells := 1, slots := 6, locals := 300 }) (x1 : Int32) (S : ms) (hp : e_become_102 x1 S K) : aw gG D z A X 6 102 [some (.ref o), some (.int x1), none, none, none, none] [] [(0, ly_M, (o, ad, S.1, S.2.1, S.2.2))] 0 0 := by
  obtain ⟨I, μ, h0, hs⟩ := hp
  have key : ∀ (n : Nat) (yx1 : Int32) (yS : ms), μ yx1 yS < n → I yx1 yS → aw gG D z A X 6 102 [some (.ref o), some (.int yx1), none, none, none, none] [] [(0, ly_M, (o, ad, yS.1, yS.2.1, yS.2.2))] 0 0 := by
    intro n
    induction n with
    | zero => intro yx1 yS h; omega
    | succ n ih =>
      intro yx1 yS hn hI
      exact s_become_102 C hQ hA hR yx1 yS _ (fun zx1 zS hw => ih zx1 zS (by omega) hw.1) (hs yx1 yS hI)
  exact key (μ x1 S + 1) x1 S (Nat.lt_succ_self _) h0
set_option maxRecDepth 100000 in
set_option maxHeartbeats 1000000 in
theorem s_become_45 (C : fcx gG D z A X R_M c_M_become 6 (none)) (hQ : X.2.2.2.2.2.2.2.2.2.2 = eQ gG D z X.2.2.2.2.2.2.2.1 X.2.2.2.2.1 L0 0 0 (pM_v K o ad)) (hA : A = owA gG L0 X.2.2.2.2.1.heap.size) (hR : X.2.2.2.1 = { frames := 3, cells := 1, slots := 6, locals := 300 }) (x1 : Int32) (S : ms) (R45 : Int32 → ms → Prop) (hR45 : ∀ yx1 yS, R45 yx1 yS → aw gG D z A X 6 45 [some (.ref o), some (.int yx1), none, none, none, none] [] [(0, ly_M, (o, ad, yS.1, yS.2.1, yS.2.2))] 0 0) (hp : b_become_45 x1 S R45 K) : aw gG D z A X 6 45 [some (.ref o), some (.int x1), none, none, none, none] [] [(0, ly_M, (o, ad, S.1, S.2.1, S.2.2))] 0 0 := by
  unfold b_become_45 at hp
  refine a_iload_n C d_become_45 rfl rfl ?_
  refine a_aload_n C d_become_46 rfl rfl ?_
  refine a_getR C 0 14 d_become_47 rfl rfl rfl (Nat.le_of_ble_eq_true rfl) f_M_47 ⟨Nat.le_of_ble_eq_true rfl, Nat.le_of_ble_eq_true rfl⟩ ?_
  refine a_iconst (v := 2) C d_become_50 (by decide) ?_
  refine a_iald C 0 14 d_become_51 rfl rfl rfl hp.1 ?_
  have hp := hp.2
  refine a_icmp_ge (tgt := 95) C d_become_52 (by decide) ⟨fun hc => ?_, fun hc => ?_⟩
  · have hp := hp.1 hc
    refine a_aload_n C d_become_95 rfl rfl ?_
    refine a_iconst (v := 1) C d_become_96 (by decide) ?_
    refine a_call (Lr := []) (rest := []) (av := .ref o :: [.int 1]) C [0] [] d_become_97 (ct_makeGrids 1 S hp) cd_M_makeGrids i_M (Nat.le_of_ble_eq_true rfl) (by rw [hR]; exact Nat.le_of_ble_eq_true rfl) (by rw [hR]; exact Nat.le_of_ble_eq_true rfl) (by rw [hR]; exact Nat.le_of_ble_eq_true rfl) (by rw [hR]; exact Nat.le_of_ble_eq_true rfl) rfl rfl (by decide) (by decide) (by decide) (inv_V C 0 d_become_97 l_M_243 im_M_makeGrids se_M_makeGrids cd_M_makeGrids ⟨by decide, by decide⟩ ln_M_makeGrids rfl rfl rfl rfl rfl) (fun oc L1 hL => ?_)
    obtain ⟨S97, hp, rfl, rfl⟩ := hL
    refine ⟨_, rfl, ?_⟩
    refine aw_eq (lo' := _) (st' := []) (L' := [(0, ly_M, (o, ad, S97.1, S97.2.1, S97.2.2))]) rfl rfl rfl ?_
    refine a_iconst (v := 0) C d_become_100 (by decide) ?_
    refine a_istore_n (lo' := [some (.ref o), some (.int 0), none, none, none, none]) C d_become_101 rfl (by decide) rfl ?_
    refine aw_lo (lo' := [some (.ref o), some (.int 0), none, none, none, none]) ⟨.inr rfl, .inr rfl, .inr rfl, .inr rfl, .inr rfl, .inr rfl, trivial⟩ ?_
    exact se_become_102 C hQ hA hR 0 (S97.1, S97.2.1, S97.2.2)  hp
  · have hp := hp.2 hc
    refine a_aload_n C d_become_55 rfl rfl ?_
    refine a_getR C 0 15 d_become_56 rfl rfl rfl (Nat.le_of_ble_eq_true rfl) f_M_50 ⟨Nat.le_of_ble_eq_true rfl, Nat.le_of_ble_eq_true rfl⟩ ?_
    refine a_iconst (v := 3) C d_become_59 (by decide) ?_
    refine a_iload_n C d_become_60 rfl rfl ?_
    refine a_iadd C d_become_61 ?_
    refine a_aload_n C d_become_62 rfl rfl ?_
    refine a_getR C 0 15 d_become_63 rfl rfl rfl (Nat.le_of_ble_eq_true rfl) f_M_50 ⟨Nat.le_of_ble_eq_true rfl, Nat.le_of_ble_eq_true rfl⟩ ?_
    refine a_bipush (v := 6) C d_become_66 (by decide) ?_
    refine a_iload_n C d_become_68 rfl rfl ?_
    refine a_iadd C d_become_69 ?_
    refine a_iald C 0 15 d_become_70 rfl rfl rfl hp.1 ?_
    have hp := hp.2
    refine a_iast C 0 15 d_become_71 rfl rfl rfl hp.1 ?_
    have hp := hp.2
    refine aw_eq (lo' := _) (st' := _) (L' := [(0, ly_M, (o, ad, S.1, va_up S.2.1 15 (upd (S.2.1 15) (3 + x1).toNatClampNeg (S.2.1 15 (6 + x1).toNatClampNeg)), S.2.2))]) rfl rfl rfl ?_
    refine a_aload_n C d_become_72 rfl rfl ?_
    refine a_getR C 0 16 d_become_73 rfl rfl rfl (Nat.le_of_ble_eq_true rfl) f_M_53 ⟨Nat.le_of_ble_eq_true rfl, Nat.le_of_ble_eq_true rfl⟩ ?_
    refine a_iconst (v := 3) C d_become_76 (by decide) ?_
    refine a_iload_n C d_become_77 rfl rfl ?_
    refine a_iadd C d_become_78 ?_
    refine a_aload_n C d_become_79 rfl rfl ?_
    refine a_getR C 0 16 d_become_80 rfl rfl rfl (Nat.le_of_ble_eq_true rfl) f_M_53 ⟨Nat.le_of_ble_eq_true rfl, Nat.le_of_ble_eq_true rfl⟩ ?_
    refine a_bipush (v := 6) C d_become_83 (by decide) ?_
    refine a_iload_n C d_become_85 rfl rfl ?_
    refine a_iadd C d_become_86 ?_
    refine a_iald C 0 16 d_become_87 rfl rfl rfl hp.1 ?_
    have hp := hp.2
    refine a_iast C 0 16 d_become_88 rfl rfl rfl hp.1 ?_
    have hp := hp.2
    refine aw_eq (lo' := _) (st' := _) (L' := [(0, ly_M, (o, ad, S.1, va_up (va_up S.2.1 15 (upd (S.2.1 15) (3 + x1).toNatClampNeg (S.2.1 15 (6 + x1).toNatClampNeg))) 16 (upd ((va_up S.2.1 15 (upd (S.2.1 15) (3 + x1).toNatClampNeg (S.2.1 15 (6 + x1).toNatClampNeg))) 16) (3 + x1).toNatClampNeg ((va_up S.2.1 15 (upd (S.2.1 15) (3 + x1).toNatClampNeg (S.2.1 15 (6 + x1).toNatClampNeg))) 16 (6 + x1).toNatClampNeg)), S.2.2))]) rfl rfl rfl ?_
    refine a_iinc (v := x1 + 1) (lo' := [some (.ref o), some (.int (x1 + 1)), none, none, none, none]) C d_become_89 rfl rfl (by decide) rfl ?_
    refine a_goto (tgt := 45) C d_become_92 (by decide) ?_
    refine aw_lo (lo' := [some (.ref o), some (.int (x1 + 1)), none, none, none, none]) ⟨.inr rfl, .inr rfl, .inr rfl, .inr rfl, .inr rfl, .inr rfl, trivial⟩ ?_
    exact hR45 (x1 + 1) (S.1, va_up (va_up S.2.1 15 (upd (S.2.1 15) (3 + x1).toNatClampNeg (S.2.1 15 (6 + x1).toNatClampNeg))) 16 (upd ((va_up S.2.1 15 (upd (S.2.1 15) (3 + x1).toNatClampNeg (S.2.1 15 (6 + x1).toNatClampNeg))) 16) (3 + x1).toNatClampNeg ((va_up S.2.1 15 (upd (S.2.1 15) (3 + x1).toNatClampNeg (S.2.1 15 (6 + x1).toNatClampNeg))) 16 (6 + x1).toNatClampNeg)), S.2.2) hp
set_option maxRecDepth 100000 in
set_option maxHeartbeats 1000000 in
theorem se_become_45 (C : fcx gG D z A X R_M c_M_become 6 (none)) (hQ : X.2.2.2.2.2.2.2.2.2.2 = eQ gG D z X.2.2.2.2.2.2.2.1 X.2.2.2.2.1 L0 0 0 (pM_v K o ad)) (hA : A = owA gG L0 X.2.2.2.2.1.heap.size) (hR : X.2.2.2.1 = { frames := 3, cells := 1, slots := 6, locals := 300 }) (x1 : Int32) (S : ms) (hp : e_become_45 x1 S K) : aw gG D z A X 6 45 [some (.ref o), some (.int x1), none, none, none, none] [] [(0, ly_M, (o, ad, S.1, S.2.1, S.2.2))] 0 0 := by
  obtain ⟨I, μ, h0, hs⟩ := hp
  have key : ∀ (n : Nat) (yx1 : Int32) (yS : ms), μ yx1 yS < n → I yx1 yS → aw gG D z A X 6 45 [some (.ref o), some (.int yx1), none, none, none, none] [] [(0, ly_M, (o, ad, yS.1, yS.2.1, yS.2.2))] 0 0 := by
    intro n
    induction n with
    | zero => intro yx1 yS h; omega
    | succ n ih =>
      intro yx1 yS hn hI
      exact s_become_45 C hQ hA hR yx1 yS _ (fun zx1 zS hw => ih zx1 zS (by omega) hw.1) (hs yx1 yS hI)
  exact key (μ x1 S + 1) x1 S (Nat.lt_succ_self _) h0
set_option maxRecDepth 100000 in
set_option maxHeartbeats 1000000 in
theorem s_become_0 (C : fcx gG D z A X R_M c_M_become 6 (none)) (hQ : X.2.2.2.2.2.2.2.2.2.2 = eQ gG D z X.2.2.2.2.2.2.2.1 X.2.2.2.2.1 L0 0 0 (pM_v K o ad)) (hA : A = owA gG L0 X.2.2.2.2.1.heap.size) (hR : X.2.2.2.1 = { frames := 3, cells := 1, slots := 6, locals := 300 })  (S : ms) (hp : p_become  S K) : aw gG D z A X 6 0 [some (.ref o), none, none, none, none, none] [] [(0, ly_M, (o, ad, S.1, S.2.1, S.2.2))] 0 0 := by
  unfold p_become at hp
  refine a_aload_n C d_become_0 rfl rfl ?_
  refine a_getR C 0 11 d_become_1 rfl rfl rfl (Nat.le_of_ble_eq_true rfl) f_M_37 ⟨Nat.le_of_ble_eq_true rfl, Nat.le_of_ble_eq_true rfl⟩ ?_
  refine a_iconst (v := 1) C d_become_4 (by decide) ?_
  refine a_iconst (v := 1) C d_become_5 (by decide) ?_
  refine a_zast C 0 11 d_become_6 rfl rfl rfl hp.1 ?_
  have hp := hp.2
  refine aw_eq (lo' := _) (st' := _) (L' := [(0, ly_M, (o, ad, S.1, va_up S.2.1 11 (upd (S.2.1 11) (1 : Int32).toNatClampNeg (vp_nar .boolean 1)), S.2.2))]) rfl rfl rfl ?_
  refine a_aload_n C d_become_7 rfl rfl ?_
  refine a_getR C 0 12 d_become_8 rfl rfl rfl (Nat.le_of_ble_eq_true rfl) f_M_41 ⟨Nat.le_of_ble_eq_true rfl, Nat.le_of_ble_eq_true rfl⟩ ?_
  refine a_iconst (v := 1) C d_become_11 (by decide) ?_
  refine a_aload_n C d_become_12 rfl rfl ?_
  refine a_getR C 0 12 d_become_13 rfl rfl rfl (Nat.le_of_ble_eq_true rfl) f_M_41 ⟨Nat.le_of_ble_eq_true rfl, Nat.le_of_ble_eq_true rfl⟩ ?_
  refine a_iconst (v := 2) C d_become_16 (by decide) ?_
  refine a_iald C 0 12 d_become_17 rfl rfl rfl hp.1 ?_
  have hp := hp.2
  refine a_iast C 0 12 d_become_18 rfl rfl rfl hp.1 ?_
  have hp := hp.2
  refine aw_eq (lo' := _) (st' := _) (L' := [(0, ly_M, (o, ad, S.1, va_up (va_up S.2.1 11 (upd (S.2.1 11) (1 : Int32).toNatClampNeg (vp_nar .boolean 1))) 12 (upd ((va_up S.2.1 11 (upd (S.2.1 11) (1 : Int32).toNatClampNeg (vp_nar .boolean 1))) 12) (1 : Int32).toNatClampNeg ((va_up S.2.1 11 (upd (S.2.1 11) (1 : Int32).toNatClampNeg (vp_nar .boolean 1))) 12 (2 : Int32).toNatClampNeg)), S.2.2))]) rfl rfl rfl ?_
  refine a_aload_n C d_become_19 rfl rfl ?_
  refine a_getR C 0 13 d_become_20 rfl rfl rfl (Nat.le_of_ble_eq_true rfl) f_M_44 ⟨Nat.le_of_ble_eq_true rfl, Nat.le_of_ble_eq_true rfl⟩ ?_
  refine a_iconst (v := 1) C d_become_23 (by decide) ?_
  refine a_aload_n C d_become_24 rfl rfl ?_
  refine a_getR C 0 13 d_become_25 rfl rfl rfl (Nat.le_of_ble_eq_true rfl) f_M_44 ⟨Nat.le_of_ble_eq_true rfl, Nat.le_of_ble_eq_true rfl⟩ ?_
  refine a_iconst (v := 2) C d_become_28 (by decide) ?_
  refine a_iald C 0 13 d_become_29 rfl rfl rfl hp.1 ?_
  have hp := hp.2
  refine a_iast C 0 13 d_become_30 rfl rfl rfl hp.1 ?_
  have hp := hp.2
  refine aw_eq (lo' := _) (st' := _) (L' := [(0, ly_M, (o, ad, S.1, va_up (va_up (va_up S.2.1 11 (upd (S.2.1 11) (1 : Int32).toNatClampNeg (vp_nar .boolean 1))) 12 (upd ((va_up S.2.1 11 (upd (S.2.1 11) (1 : Int32).toNatClampNeg (vp_nar .boolean 1))) 12) (1 : Int32).toNatClampNeg ((va_up S.2.1 11 (upd (S.2.1 11) (1 : Int32).toNatClampNeg (vp_nar .boolean 1))) 12 (2 : Int32).toNatClampNeg))) 13 (upd ((va_up (va_up S.2.1 11 (upd (S.2.1 11) (1 : Int32).toNatClampNeg (vp_nar .boolean 1))) 12 (upd ((va_up S.2.1 11 (upd (S.2.1 11) (1 : Int32).toNatClampNeg (vp_nar .boolean 1))) 12) (1 : Int32).toNatClampNeg ((va_up S.2.1 11 (upd (S.2.1 11) (1 : Int32).toNatClampNeg (vp_nar .boolean 1))) 12 (2 : Int32).toNatClampNeg))) 13) (1 : Int32).toNatClampNeg ((va_up (va_up S.2.1 11 (upd (S.2.1 11) (1 : Int32).toNatClampNeg (vp_nar .boolean 1))) 12 (upd ((va_up S.2.1 11 (upd (S.2.1 11) (1 : Int32).toNatClampNeg (vp_nar .boolean 1))) 12) (1 : Int32).toNatClampNeg ((va_up S.2.1 11 (upd (S.2.1 11) (1 : Int32).toNatClampNeg (vp_nar .boolean 1))) 12 (2 : Int32).toNatClampNeg))) 13 (2 : Int32).toNatClampNeg)), S.2.2))]) rfl rfl rfl ?_
  refine a_aload_n C d_become_31 rfl rfl ?_
  refine a_getR C 0 14 d_become_32 rfl rfl rfl (Nat.le_of_ble_eq_true rfl) f_M_47 ⟨Nat.le_of_ble_eq_true rfl, Nat.le_of_ble_eq_true rfl⟩ ?_
  refine a_iconst (v := 1) C d_become_35 (by decide) ?_
  refine a_aload_n C d_become_36 rfl rfl ?_
  refine a_getR C 0 14 d_become_37 rfl rfl rfl (Nat.le_of_ble_eq_true rfl) f_M_47 ⟨Nat.le_of_ble_eq_true rfl, Nat.le_of_ble_eq_true rfl⟩ ?_
  refine a_iconst (v := 2) C d_become_40 (by decide) ?_
  refine a_iald C 0 14 d_become_41 rfl rfl rfl hp.1 ?_
  have hp := hp.2
  refine a_iast C 0 14 d_become_42 rfl rfl rfl hp.1 ?_
  have hp := hp.2
  refine aw_eq (lo' := _) (st' := _) (L' := [(0, ly_M, (o, ad, S.1, va_up (va_up (va_up (va_up S.2.1 11 (upd (S.2.1 11) (1 : Int32).toNatClampNeg (vp_nar .boolean 1))) 12 (upd ((va_up S.2.1 11 (upd (S.2.1 11) (1 : Int32).toNatClampNeg (vp_nar .boolean 1))) 12) (1 : Int32).toNatClampNeg ((va_up S.2.1 11 (upd (S.2.1 11) (1 : Int32).toNatClampNeg (vp_nar .boolean 1))) 12 (2 : Int32).toNatClampNeg))) 13 (upd ((va_up (va_up S.2.1 11 (upd (S.2.1 11) (1 : Int32).toNatClampNeg (vp_nar .boolean 1))) 12 (upd ((va_up S.2.1 11 (upd (S.2.1 11) (1 : Int32).toNatClampNeg (vp_nar .boolean 1))) 12) (1 : Int32).toNatClampNeg ((va_up S.2.1 11 (upd (S.2.1 11) (1 : Int32).toNatClampNeg (vp_nar .boolean 1))) 12 (2 : Int32).toNatClampNeg))) 13) (1 : Int32).toNatClampNeg ((va_up (va_up S.2.1 11 (upd (S.2.1 11) (1 : Int32).toNatClampNeg (vp_nar .boolean 1))) 12 (upd ((va_up S.2.1 11 (upd (S.2.1 11) (1 : Int32).toNatClampNeg (vp_nar .boolean 1))) 12) (1 : Int32).toNatClampNeg ((va_up S.2.1 11 (upd (S.2.1 11) (1 : Int32).toNatClampNeg (vp_nar .boolean 1))) 12 (2 : Int32).toNatClampNeg))) 13 (2 : Int32).toNatClampNeg))) 14 (upd ((va_up (va_up (va_up S.2.1 11 (upd (S.2.1 11) (1 : Int32).toNatClampNeg (vp_nar .boolean 1))) 12 (upd ((va_up S.2.1 11 (upd (S.2.1 11) (1 : Int32).toNatClampNeg (vp_nar .boolean 1))) 12) (1 : Int32).toNatClampNeg ((va_up S.2.1 11 (upd (S.2.1 11) (1 : Int32).toNatClampNeg (vp_nar .boolean 1))) 12 (2 : Int32).toNatClampNeg))) 13 (upd ((va_up (va_up S.2.1 11 (upd (S.2.1 11) (1 : Int32).toNatClampNeg (vp_nar .boolean 1))) 12 (upd ((va_up S.2.1 11 (upd (S.2.1 11) (1 : Int32).toNatClampNeg (vp_nar .boolean 1))) 12) (1 : Int32).toNatClampNeg ((va_up S.2.1 11 (upd (S.2.1 11) (1 : Int32).toNatClampNeg (vp_nar .boolean 1))) 12 (2 : Int32).toNatClampNeg))) 13) (1 : Int32).toNatClampNeg ((va_up (va_up S.2.1 11 (upd (S.2.1 11) (1 : Int32).toNatClampNeg (vp_nar .boolean 1))) 12 (upd ((va_up S.2.1 11 (upd (S.2.1 11) (1 : Int32).toNatClampNeg (vp_nar .boolean 1))) 12) (1 : Int32).toNatClampNeg ((va_up S.2.1 11 (upd (S.2.1 11) (1 : Int32).toNatClampNeg (vp_nar .boolean 1))) 12 (2 : Int32).toNatClampNeg))) 13 (2 : Int32).toNatClampNeg))) 14) (1 : Int32).toNatClampNeg ((va_up (va_up (va_up S.2.1 11 (upd (S.2.1 11) (1 : Int32).toNatClampNeg (vp_nar .boolean 1))) 12 (upd ((va_up S.2.1 11 (upd (S.2.1 11) (1 : Int32).toNatClampNeg (vp_nar .boolean 1))) 12) (1 : Int32).toNatClampNeg ((va_up S.2.1 11 (upd (S.2.1 11) (1 : Int32).toNatClampNeg (vp_nar .boolean 1))) 12 (2 : Int32).toNatClampNeg))) 13 (upd ((va_up (va_up S.2.1 11 (upd (S.2.1 11) (1 : Int32).toNatClampNeg (vp_nar .boolean 1))) 12 (upd ((va_up S.2.1 11 (upd (S.2.1 11) (1 : Int32).toNatClampNeg (vp_nar .boolean 1))) 12) (1 : Int32).toNatClampNeg ((va_up S.2.1 11 (upd (S.2.1 11) (1 : Int32).toNatClampNeg (vp_nar .boolean 1))) 12 (2 : Int32).toNatClampNeg))) 13) (1 : Int32).toNatClampNeg ((va_up (va_up S.2.1 11 (upd (S.2.1 11) (1 : Int32).toNatClampNeg (vp_nar .boolean 1))) 12 (upd ((va_up S.2.1 11 (upd (S.2.1 11) (1 : Int32).toNatClampNeg (vp_nar .boolean 1))) 12) (1 : Int32).toNatClampNeg ((va_up S.2.1 11 (upd (S.2.1 11) (1 : Int32).toNatClampNeg (vp_nar .boolean 1))) 12 (2 : Int32).toNatClampNeg))) 13 (2 : Int32).toNatClampNeg))) 14 (2 : Int32).toNatClampNeg)), S.2.2))]) rfl rfl rfl ?_
  refine a_iconst (v := 0) C d_become_43 (by decide) ?_
  refine a_istore_n (lo' := [some (.ref o), some (.int 0), none, none, none, none]) C d_become_44 rfl (by decide) rfl ?_
  refine aw_lo (lo' := [some (.ref o), some (.int 0), none, none, none, none]) ⟨.inr rfl, .inr rfl, .inr rfl, .inr rfl, .inr rfl, .inr rfl, trivial⟩ ?_
  exact se_become_45 C hQ hA hR 0 (S.1, va_up (va_up (va_up (va_up S.2.1 11 (upd (S.2.1 11) (1 : Int32).toNatClampNeg (vp_nar .boolean 1))) 12 (upd ((va_up S.2.1 11 (upd (S.2.1 11) (1 : Int32).toNatClampNeg (vp_nar .boolean 1))) 12) (1 : Int32).toNatClampNeg ((va_up S.2.1 11 (upd (S.2.1 11) (1 : Int32).toNatClampNeg (vp_nar .boolean 1))) 12 (2 : Int32).toNatClampNeg))) 13 (upd ((va_up (va_up S.2.1 11 (upd (S.2.1 11) (1 : Int32).toNatClampNeg (vp_nar .boolean 1))) 12 (upd ((va_up S.2.1 11 (upd (S.2.1 11) (1 : Int32).toNatClampNeg (vp_nar .boolean 1))) 12) (1 : Int32).toNatClampNeg ((va_up S.2.1 11 (upd (S.2.1 11) (1 : Int32).toNatClampNeg (vp_nar .boolean 1))) 12 (2 : Int32).toNatClampNeg))) 13) (1 : Int32).toNatClampNeg ((va_up (va_up S.2.1 11 (upd (S.2.1 11) (1 : Int32).toNatClampNeg (vp_nar .boolean 1))) 12 (upd ((va_up S.2.1 11 (upd (S.2.1 11) (1 : Int32).toNatClampNeg (vp_nar .boolean 1))) 12) (1 : Int32).toNatClampNeg ((va_up S.2.1 11 (upd (S.2.1 11) (1 : Int32).toNatClampNeg (vp_nar .boolean 1))) 12 (2 : Int32).toNatClampNeg))) 13 (2 : Int32).toNatClampNeg))) 14 (upd ((va_up (va_up (va_up S.2.1 11 (upd (S.2.1 11) (1 : Int32).toNatClampNeg (vp_nar .boolean 1))) 12 (upd ((va_up S.2.1 11 (upd (S.2.1 11) (1 : Int32).toNatClampNeg (vp_nar .boolean 1))) 12) (1 : Int32).toNatClampNeg ((va_up S.2.1 11 (upd (S.2.1 11) (1 : Int32).toNatClampNeg (vp_nar .boolean 1))) 12 (2 : Int32).toNatClampNeg))) 13 (upd ((va_up (va_up S.2.1 11 (upd (S.2.1 11) (1 : Int32).toNatClampNeg (vp_nar .boolean 1))) 12 (upd ((va_up S.2.1 11 (upd (S.2.1 11) (1 : Int32).toNatClampNeg (vp_nar .boolean 1))) 12) (1 : Int32).toNatClampNeg ((va_up S.2.1 11 (upd (S.2.1 11) (1 : Int32).toNatClampNeg (vp_nar .boolean 1))) 12 (2 : Int32).toNatClampNeg))) 13) (1 : Int32).toNatClampNeg ((va_up (va_up S.2.1 11 (upd (S.2.1 11) (1 : Int32).toNatClampNeg (vp_nar .boolean 1))) 12 (upd ((va_up S.2.1 11 (upd (S.2.1 11) (1 : Int32).toNatClampNeg (vp_nar .boolean 1))) 12) (1 : Int32).toNatClampNeg ((va_up S.2.1 11 (upd (S.2.1 11) (1 : Int32).toNatClampNeg (vp_nar .boolean 1))) 12 (2 : Int32).toNatClampNeg))) 13 (2 : Int32).toNatClampNeg))) 14) (1 : Int32).toNatClampNeg ((va_up (va_up (va_up S.2.1 11 (upd (S.2.1 11) (1 : Int32).toNatClampNeg (vp_nar .boolean 1))) 12 (upd ((va_up S.2.1 11 (upd (S.2.1 11) (1 : Int32).toNatClampNeg (vp_nar .boolean 1))) 12) (1 : Int32).toNatClampNeg ((va_up S.2.1 11 (upd (S.2.1 11) (1 : Int32).toNatClampNeg (vp_nar .boolean 1))) 12 (2 : Int32).toNatClampNeg))) 13 (upd ((va_up (va_up S.2.1 11 (upd (S.2.1 11) (1 : Int32).toNatClampNeg (vp_nar .boolean 1))) 12 (upd ((va_up S.2.1 11 (upd (S.2.1 11) (1 : Int32).toNatClampNeg (vp_nar .boolean 1))) 12) (1 : Int32).toNatClampNeg ((va_up S.2.1 11 (upd (S.2.1 11) (1 : Int32).toNatClampNeg (vp_nar .boolean 1))) 12 (2 : Int32).toNatClampNeg))) 13) (1 : Int32).toNatClampNeg ((va_up (va_up S.2.1 11 (upd (S.2.1 11) (1 : Int32).toNatClampNeg (vp_nar .boolean 1))) 12 (upd ((va_up S.2.1 11 (upd (S.2.1 11) (1 : Int32).toNatClampNeg (vp_nar .boolean 1))) 12) (1 : Int32).toNatClampNeg ((va_up S.2.1 11 (upd (S.2.1 11) (1 : Int32).toNatClampNeg (vp_nar .boolean 1))) 12 (2 : Int32).toNatClampNeg))) 13 (2 : Int32).toNatClampNeg))) 14 (2 : Int32).toNatClampNeg)), S.2.2)  hp
end M_become
section M_becomec
variable {D : va_G} {z : Nat → ClassId} {o : Nat} {ad : Nat → Nat}
set_option maxRecDepth 100000 in
theorem ct_become {l : Launch}  (S : ms) {K : ms → Prop} (hp : p_become  S K) : ct gG D z l n_M_become c_M_become 6 (none) 3 300 [.ref o] [(0, ly_M, (o, ad, S.1, S.2.1, S.2.2))] 0 0 (pM_v K o ad) := by
  refine ct_of (lo := [some (.ref o), none, none, none, none, none]) (by decide) g_ok (Nat.le_of_ble_eq_true rfl) rfl ?_
  intro X A _ C hR hQ hA _
  exact s_become_0 C hQ hA hR  S hp
end M_becomec
def b_unpack_148  (S : ms) (K : Int32 → ms → Prop) : Prop :=
  K (S.1 35) S
def b_unpack_137  (S : ms) (K : Int32 → ms → Prop) : Prop :=
  (¬ (S.1 35) = 0 → (b_unpack_148 S K)) ∧ ((S.1 35) = 0 → (p_become S (fun S145 => b_unpack_148 (S145.1, S145.2.1, S145.2.2) K)))
def b_unpack_108  (S : ms) (K : Int32 → ms → Prop) : Prop :=
  (¬ (S.1 35) = 0 → (b_unpack_137 S K)) ∧ ((S.1 35) = 0 → (((S.1 7) ≤ (S.1 34) → (b_unpack_137 S K)) ∧ (¬ ((S.1 7) ≤ (S.1 34)) → (p_fail 8 (S.1 34) S (fun v133 S133 => b_unpack_137 (S133.1, S133.2.1, S133.2.2) K)))))
def b_unpack_86 (x1 : Int32) (S : ms) (R40 : Int32 → ms → Prop) (K : Int32 → ms → Prop) : Prop :=
  (¬ (S.1 35) = 0 → (R40 x1 S)) ∧ ((S.1 35) = 0 → ((x1 = 217 → (R40 x1 S)) ∧ (¬ (x1 = 217) → (p_readSection x1 S (fun S102 => R40 x1 (S102.1, S102.2.1, S102.2.2))))))
def b_unpack_40 (x1 : Int32) (S : ms) (R40 : Int32 → ms → Prop) (K : Int32 → ms → Prop) : Prop :=
  (¬ (S.1 35) = 0 → (b_unpack_108 S K)) ∧ ((S.1 35) = 0 → ((x1 = 217 → (b_unpack_108 S K)) ∧ (¬ (x1 = 217) → (p_readMark S (fun v55 S55 => (¬ (S55.1 35) = 0 → (b_unpack_86 v55 (S55.1, S55.2.1, S55.2.2) R40 K)) ∧ ((S55.1 35) = 0 → (p_mayCome v55 (S55.1, S55.2.1, S55.2.2) (fun v68 S68 => (¬ v68 = 0 → (b_unpack_86 v55 (S68.1, S68.2.1, S68.2.2) R40 K)) ∧ (v68 = 0 → (p_fail 3 ((S68.1 34) - 1) (S68.1, S68.2.1, S68.2.2) (fun v82 S82 => b_unpack_86 v55 (S82.1, S82.2.1, S82.2.2) R40 K)))))))))))
def e_unpack_40 (x1 : Int32) (S : ms) (K : Int32 → ms → Prop) : Prop :=
  ∃ (I : Int32 → ms → Prop) (μ : Int32 → ms → Nat), I x1 S ∧ ∀ yx1 yS, I yx1 yS → b_unpack_40 yx1 yS (fun zx1 zS => I zx1 zS ∧ μ zx1 zS < μ yx1 yS) K
def p_unpack  (S : ms) (K : Int32 → ms → Prop) : Prop :=
  p_begin (upd S.1 0 0, S.2.1, S.2.2) (fun S6 => p_readMark (S6.1, S6.2.1, S6.2.2) (fun v10 S10 => (¬ (S10.1 35) = 0 → (e_unpack_40 v10 (S10.1, S10.2.1, S10.2.2) K)) ∧ ((S10.1 35) = 0 → ((v10 = 216 → (e_unpack_40 v10 (S10.1, S10.2.1, S10.2.2) K)) ∧ (¬ (v10 = 216) → (p_fail 3 ((S10.1 34) - 1) (S10.1, S10.2.1, S10.2.2) (fun v36 S36 => e_unpack_40 v10 (S36.1, S36.2.1, S36.2.2) K)))))))
section M_unpack
variable {D : va_G} {z : Nat → ClassId} {A : Nat → Prop} {X : cx} {L0 : fw} {K : Int32 → ms → Prop} {o : Nat} {ad : Nat → Nat}
set_option maxRecDepth 100000 in
set_option maxHeartbeats 1000000 in
theorem s_unpack_148 (C : fcx gG D z A X R_M c_M_unpack 3 (some .int)) (hQ : X.2.2.2.2.2.2.2.2.2.2 = eQ gG D z X.2.2.2.2.2.2.2.1 X.2.2.2.2.1 L0 0 0 (pM_i K o ad)) (hA : A = owA gG L0 X.2.2.2.2.1.heap.size) (hR : X.2.2.2.1 = { frames := 9, cells := 1, slots := 6, locals := 900 })  (S : ms) (hp : b_unpack_148  S K) : aw gG D z A X 3 148 [some (.ref o), none, none] [] [(0, ly_M, (o, ad, S.1, S.2.1, S.2.2))] 0 0 := by
  unfold b_unpack_148 at hp
  refine a_aload_n C d_unpack_148 rfl rfl ?_
  refine a_getI C 0 35 d_unpack_149 rfl rfl rfl (Nat.le_of_ble_eq_true rfl) f_M_265 (Nat.le_of_ble_eq_true rfl) ?_
  exact a_iret (ty := .int) C hQ hA d_unpack_152 rfl rfl ⟨_, S, hp, rfl, rfl⟩
set_option maxRecDepth 100000 in
set_option maxHeartbeats 1000000 in
theorem s_unpack_137 (C : fcx gG D z A X R_M c_M_unpack 3 (some .int)) (hQ : X.2.2.2.2.2.2.2.2.2.2 = eQ gG D z X.2.2.2.2.2.2.2.1 X.2.2.2.2.1 L0 0 0 (pM_i K o ad)) (hA : A = owA gG L0 X.2.2.2.2.1.heap.size) (hR : X.2.2.2.1 = { frames := 9, cells := 1, slots := 6, locals := 900 })  (S : ms) (hp : b_unpack_137  S K) : aw gG D z A X 3 137 [some (.ref o), none, none] [] [(0, ly_M, (o, ad, S.1, S.2.1, S.2.2))] 0 0 := by
  unfold b_unpack_137 at hp
  refine a_aload_n C d_unpack_137 rfl rfl ?_
  refine a_getI C 0 35 d_unpack_138 rfl rfl rfl (Nat.le_of_ble_eq_true rfl) f_M_265 (Nat.le_of_ble_eq_true rfl) ?_
  refine a_if_ne (tgt := 148) C d_unpack_141 (by decide) ⟨fun hc => ?_, fun hc => ?_⟩
  · have hp := hp.1 hc
    refine aw_lo (lo' := [some (.ref o), none, none]) ⟨.inr rfl, .inr rfl, .inr rfl, trivial⟩ ?_
    exact s_unpack_148 C hQ hA hR S  hp
  · have hp := hp.2 hc
    refine a_aload_n C d_unpack_144 rfl rfl ?_
    refine a_call (Lr := []) (rest := []) (av := .ref o :: []) C [0] [] d_unpack_145 (ct_become S hp) cd_M_become i_M (Nat.le_of_ble_eq_true rfl) (by rw [hR]; exact Nat.le_of_ble_eq_true rfl) (by rw [hR]; exact Nat.le_of_ble_eq_true rfl) (by rw [hR]; exact Nat.le_of_ble_eq_true rfl) (by rw [hR]; exact Nat.le_of_ble_eq_true rfl) rfl rfl (by decide) (by decide) (by decide) (inv_V C 0 d_unpack_145 l_M_371 im_M_become se_M_become cd_M_become ⟨by decide, by decide⟩ ln_M_become rfl rfl rfl rfl rfl) (fun oc L1 hL => ?_)
    obtain ⟨S145, hp, rfl, rfl⟩ := hL
    refine ⟨_, rfl, ?_⟩
    refine aw_eq (lo' := _) (st' := []) (L' := [(0, ly_M, (o, ad, S145.1, S145.2.1, S145.2.2))]) rfl rfl rfl ?_
    refine aw_lo (lo' := [some (.ref o), none, none]) ⟨.inr rfl, .inr rfl, .inr rfl, trivial⟩ ?_
    exact s_unpack_148 C hQ hA hR (S145.1, S145.2.1, S145.2.2)  hp
set_option maxRecDepth 100000 in
set_option maxHeartbeats 1000000 in
theorem s_unpack_108 (C : fcx gG D z A X R_M c_M_unpack 3 (some .int)) (hQ : X.2.2.2.2.2.2.2.2.2.2 = eQ gG D z X.2.2.2.2.2.2.2.1 X.2.2.2.2.1 L0 0 0 (pM_i K o ad)) (hA : A = owA gG L0 X.2.2.2.2.1.heap.size) (hR : X.2.2.2.1 = { frames := 9, cells := 1, slots := 6, locals := 900 })  (S : ms) (hp : b_unpack_108  S K) : aw gG D z A X 3 108 [some (.ref o), none, none] [] [(0, ly_M, (o, ad, S.1, S.2.1, S.2.2))] 0 0 := by
  unfold b_unpack_108 at hp
  refine a_aload_n C d_unpack_108 rfl rfl ?_
  refine a_getI C 0 35 d_unpack_109 rfl rfl rfl (Nat.le_of_ble_eq_true rfl) f_M_265 (Nat.le_of_ble_eq_true rfl) ?_
  refine a_if_ne (tgt := 137) C d_unpack_112 (by decide) ⟨fun hc => ?_, fun hc => ?_⟩
  · have hp := hp.1 hc
    refine aw_lo (lo' := [some (.ref o), none, none]) ⟨.inr rfl, .inr rfl, .inr rfl, trivial⟩ ?_
    exact s_unpack_137 C hQ hA hR S  hp
  · have hp := hp.2 hc
    refine a_aload_n C d_unpack_115 rfl rfl ?_
    refine a_getI C 0 34 d_unpack_116 rfl rfl rfl (Nat.le_of_ble_eq_true rfl) f_M_268 (Nat.le_of_ble_eq_true rfl) ?_
    refine a_aload_n C d_unpack_119 rfl rfl ?_
    refine a_getI C 0 7 d_unpack_120 rfl rfl rfl (Nat.le_of_ble_eq_true rfl) f_M_262 (Nat.le_of_ble_eq_true rfl) ?_
    refine a_icmp_ge (tgt := 137) C d_unpack_123 (by decide) ⟨fun hc => ?_, fun hc => ?_⟩
    · have hp := hp.1 hc
      refine aw_lo (lo' := [some (.ref o), none, none]) ⟨.inr rfl, .inr rfl, .inr rfl, trivial⟩ ?_
      exact s_unpack_137 C hQ hA hR S  hp
    · have hp := hp.2 hc
      refine a_aload_n C d_unpack_126 rfl rfl ?_
      refine a_bipush (v := 8) C d_unpack_127 (by decide) ?_
      refine a_aload_n C d_unpack_129 rfl rfl ?_
      refine a_getI C 0 34 d_unpack_130 rfl rfl rfl (Nat.le_of_ble_eq_true rfl) f_M_268 (Nat.le_of_ble_eq_true rfl) ?_
      refine a_call (Lr := []) (rest := []) (av := .ref o :: [.int 8, .int (S.1 34)]) C [0] [] d_unpack_133 (ct_fail 8 (S.1 34) S hp) cd_M_fail i_M (Nat.le_of_ble_eq_true rfl) (by rw [hR]; exact Nat.le_of_ble_eq_true rfl) (by rw [hR]; exact Nat.le_of_ble_eq_true rfl) (by rw [hR]; exact Nat.le_of_ble_eq_true rfl) (by rw [hR]; exact Nat.le_of_ble_eq_true rfl) rfl rfl (by decide) (by decide) (by decide) (inv_V C 0 d_unpack_133 l_M_271 im_M_fail se_M_fail cd_M_fail ⟨by decide, by decide⟩ ln_M_fail rfl rfl rfl rfl rfl) (fun oc L1 hL => ?_)
      obtain ⟨v133, S133, hp, rfl, rfl⟩ := hL
      refine ⟨_, rfl, ?_⟩
      refine aw_eq (lo' := _) (st' := [.int v133]) (L' := [(0, ly_M, (o, ad, S133.1, S133.2.1, S133.2.2))]) rfl rfl rfl ?_
      refine a_istore_n (lo' := [some (.ref o), none, some (.int v133)]) C d_unpack_136 rfl (by decide) rfl ?_
      refine aw_lo (lo' := [some (.ref o), none, none]) ⟨.inr rfl, .inr rfl, .inl rfl, trivial⟩ ?_
      exact s_unpack_137 C hQ hA hR (S133.1, S133.2.1, S133.2.2)  hp
set_option maxRecDepth 100000 in
set_option maxHeartbeats 1000000 in
theorem s_unpack_86 (C : fcx gG D z A X R_M c_M_unpack 3 (some .int)) (hQ : X.2.2.2.2.2.2.2.2.2.2 = eQ gG D z X.2.2.2.2.2.2.2.1 X.2.2.2.2.1 L0 0 0 (pM_i K o ad)) (hA : A = owA gG L0 X.2.2.2.2.1.heap.size) (hR : X.2.2.2.1 = { frames := 9, cells := 1, slots := 6, locals := 900 }) (x1 : Int32) (S : ms) (R40 : Int32 → ms → Prop) (hR40 : ∀ yx1 yS, R40 yx1 yS → aw gG D z A X 3 40 [some (.ref o), some (.int yx1), none] [] [(0, ly_M, (o, ad, yS.1, yS.2.1, yS.2.2))] 0 0) (hp : b_unpack_86 x1 S R40 K) : aw gG D z A X 3 86 [some (.ref o), some (.int x1), none] [] [(0, ly_M, (o, ad, S.1, S.2.1, S.2.2))] 0 0 := by
  unfold b_unpack_86 at hp
  refine a_aload_n C d_unpack_86 rfl rfl ?_
  refine a_getI C 0 35 d_unpack_87 rfl rfl rfl (Nat.le_of_ble_eq_true rfl) f_M_265 (Nat.le_of_ble_eq_true rfl) ?_
  refine a_if_ne (tgt := 40) C d_unpack_90 (by decide) ⟨fun hc => ?_, fun hc => ?_⟩
  · have hp := hp.1 hc
    refine aw_lo (lo' := [some (.ref o), some (.int x1), none]) ⟨.inr rfl, .inr rfl, .inr rfl, trivial⟩ ?_
    exact hR40 x1 S hp
  · have hp := hp.2 hc
    refine a_iload_n C d_unpack_93 rfl rfl ?_
    refine a_sipush (v := 217) C d_unpack_94 (by decide) ?_
    refine a_icmp_eq (tgt := 40) C d_unpack_97 (by decide) ⟨fun hc => ?_, fun hc => ?_⟩
    · have hp := hp.1 hc
      refine aw_lo (lo' := [some (.ref o), some (.int x1), none]) ⟨.inr rfl, .inr rfl, .inr rfl, trivial⟩ ?_
      exact hR40 x1 S hp
    · have hp := hp.2 hc
      refine a_aload_n C d_unpack_100 rfl rfl ?_
      refine a_iload_n C d_unpack_101 rfl rfl ?_
      refine a_call (Lr := []) (rest := []) (av := .ref o :: [.int x1]) C [0] [] d_unpack_102 (ct_readSection x1 S hp) cd_M_readSection i_M (Nat.le_of_ble_eq_true rfl) (by rw [hR]; exact Nat.le_of_ble_eq_true rfl) (by rw [hR]; exact Nat.le_of_ble_eq_true rfl) (by rw [hR]; exact Nat.le_of_ble_eq_true rfl) (by rw [hR]; exact Nat.le_of_ble_eq_true rfl) rfl rfl (by decide) (by decide) (by decide) (inv_V C 0 d_unpack_102 l_M_368 im_M_readSection se_M_readSection cd_M_readSection ⟨by decide, by decide⟩ ln_M_readSection rfl rfl rfl rfl rfl) (fun oc L1 hL => ?_)
      obtain ⟨S102, hp, rfl, rfl⟩ := hL
      refine ⟨_, rfl, ?_⟩
      refine aw_eq (lo' := _) (st' := []) (L' := [(0, ly_M, (o, ad, S102.1, S102.2.1, S102.2.2))]) rfl rfl rfl ?_
      refine a_goto (tgt := 40) C d_unpack_105 (by decide) ?_
      refine aw_lo (lo' := [some (.ref o), some (.int x1), none]) ⟨.inr rfl, .inr rfl, .inr rfl, trivial⟩ ?_
      exact hR40 x1 (S102.1, S102.2.1, S102.2.2) hp
set_option maxRecDepth 100000 in
set_option maxHeartbeats 1000000 in
theorem s_unpack_40 (C : fcx gG D z A X R_M c_M_unpack 3 (some .int)) (hQ : X.2.2.2.2.2.2.2.2.2.2 = eQ gG D z X.2.2.2.2.2.2.2.1 X.2.2.2.2.1 L0 0 0 (pM_i K o ad)) (hA : A = owA gG L0 X.2.2.2.2.1.heap.size) (hR : X.2.2.2.1 = { frames := 9, cells := 1, slots := 6, locals := 900 }) (x1 : Int32) (S : ms) (R40 : Int32 → ms → Prop) (hR40 : ∀ yx1 yS, R40 yx1 yS → aw gG D z A X 3 40 [some (.ref o), some (.int yx1), none] [] [(0, ly_M, (o, ad, yS.1, yS.2.1, yS.2.2))] 0 0) (hp : b_unpack_40 x1 S R40 K) : aw gG D z A X 3 40 [some (.ref o), some (.int x1), none] [] [(0, ly_M, (o, ad, S.1, S.2.1, S.2.2))] 0 0 := by
  unfold b_unpack_40 at hp
  refine a_aload_n C d_unpack_40 rfl rfl ?_
  refine a_getI C 0 35 d_unpack_41 rfl rfl rfl (Nat.le_of_ble_eq_true rfl) f_M_265 (Nat.le_of_ble_eq_true rfl) ?_
  refine a_if_ne (tgt := 108) C d_unpack_44 (by decide) ⟨fun hc => ?_, fun hc => ?_⟩
  · have hp := hp.1 hc
    refine aw_lo (lo' := [some (.ref o), none, none]) ⟨.inr rfl, .inl rfl, .inr rfl, trivial⟩ ?_
    exact s_unpack_108 C hQ hA hR S  hp
  · have hp := hp.2 hc
    refine a_iload_n C d_unpack_47 rfl rfl ?_
    refine a_sipush (v := 217) C d_unpack_48 (by decide) ?_
    refine a_icmp_eq (tgt := 108) C d_unpack_51 (by decide) ⟨fun hc => ?_, fun hc => ?_⟩
    · have hp := hp.1 hc
      refine aw_lo (lo' := [some (.ref o), none, none]) ⟨.inr rfl, .inl rfl, .inr rfl, trivial⟩ ?_
      exact s_unpack_108 C hQ hA hR S  hp
    · have hp := hp.2 hc
      refine a_aload_n C d_unpack_54 rfl rfl ?_
      refine a_call (Lr := []) (rest := []) (av := .ref o :: []) C [0] [] d_unpack_55 (ct_readMark S hp) cd_M_readMark i_M (Nat.le_of_ble_eq_true rfl) (by rw [hR]; exact Nat.le_of_ble_eq_true rfl) (by rw [hR]; exact Nat.le_of_ble_eq_true rfl) (by rw [hR]; exact Nat.le_of_ble_eq_true rfl) (by rw [hR]; exact Nat.le_of_ble_eq_true rfl) rfl rfl (by decide) (by decide) (by decide) (inv_V C 0 d_unpack_55 l_M_333 im_M_readMark se_M_readMark cd_M_readMark ⟨by decide, by decide⟩ ln_M_readMark rfl rfl rfl rfl rfl) (fun oc L1 hL => ?_)
      obtain ⟨v55, S55, hp, rfl, rfl⟩ := hL
      refine ⟨_, rfl, ?_⟩
      refine aw_eq (lo' := _) (st' := [.int v55]) (L' := [(0, ly_M, (o, ad, S55.1, S55.2.1, S55.2.2))]) rfl rfl rfl ?_
      refine a_istore_n (lo' := [some (.ref o), some (.int v55), none]) C d_unpack_58 rfl (by decide) rfl ?_
      refine a_aload_n C d_unpack_59 rfl rfl ?_
      refine a_getI C 0 35 d_unpack_60 rfl rfl rfl (Nat.le_of_ble_eq_true rfl) f_M_265 (Nat.le_of_ble_eq_true rfl) ?_
      refine a_if_ne (tgt := 86) C d_unpack_63 (by decide) ⟨fun hc => ?_, fun hc => ?_⟩
      · have hp := hp.1 hc
        refine aw_lo (lo' := [some (.ref o), some (.int v55), none]) ⟨.inr rfl, .inr rfl, .inr rfl, trivial⟩ ?_
        exact s_unpack_86 C hQ hA hR v55 (S55.1, S55.2.1, S55.2.2) R40 hR40 hp
      · have hp := hp.2 hc
        refine a_aload_n C d_unpack_66 rfl rfl ?_
        refine a_iload_n C d_unpack_67 rfl rfl ?_
        refine a_call (Lr := []) (rest := []) (av := .ref o :: [.int v55]) C [0] [] d_unpack_68 (ct_mayCome v55 (S55.1, S55.2.1, S55.2.2) hp) cd_M_mayCome i_M (Nat.le_of_ble_eq_true rfl) (by rw [hR]; exact Nat.le_of_ble_eq_true rfl) (by rw [hR]; exact Nat.le_of_ble_eq_true rfl) (by rw [hR]; exact Nat.le_of_ble_eq_true rfl) (by rw [hR]; exact Nat.le_of_ble_eq_true rfl) rfl rfl (by decide) (by decide) (by decide) (inv_V C 0 d_unpack_68 l_M_364 im_M_mayCome se_M_mayCome cd_M_mayCome ⟨by decide, by decide⟩ ln_M_mayCome rfl rfl rfl rfl rfl) (fun oc L1 hL => ?_)
        obtain ⟨v68, S68, hp, rfl, rfl⟩ := hL
        refine ⟨_, rfl, ?_⟩
        refine aw_eq (lo' := _) (st' := [.int v68]) (L' := [(0, ly_M, (o, ad, S68.1, S68.2.1, S68.2.2))]) rfl rfl rfl ?_
        refine a_if_ne (tgt := 86) C d_unpack_71 (by decide) ⟨fun hc => ?_, fun hc => ?_⟩
        · have hp := hp.1 hc
          refine aw_lo (lo' := [some (.ref o), some (.int v55), none]) ⟨.inr rfl, .inr rfl, .inr rfl, trivial⟩ ?_
          exact s_unpack_86 C hQ hA hR v55 (S68.1, S68.2.1, S68.2.2) R40 hR40 hp
        · have hp := hp.2 hc
          refine a_aload_n C d_unpack_74 rfl rfl ?_
          refine a_iconst (v := 3) C d_unpack_75 (by decide) ?_
          refine a_aload_n C d_unpack_76 rfl rfl ?_
          refine a_getI C 0 34 d_unpack_77 rfl rfl rfl (Nat.le_of_ble_eq_true rfl) f_M_268 (Nat.le_of_ble_eq_true rfl) ?_
          refine a_iconst (v := 1) C d_unpack_80 (by decide) ?_
          refine a_isub C d_unpack_81 ?_
          refine a_call (Lr := []) (rest := []) (av := .ref o :: [.int 3, .int ((S68.1 34) - 1)]) C [0] [] d_unpack_82 (ct_fail 3 ((S68.1 34) - 1) (S68.1, S68.2.1, S68.2.2) hp) cd_M_fail i_M (Nat.le_of_ble_eq_true rfl) (by rw [hR]; exact Nat.le_of_ble_eq_true rfl) (by rw [hR]; exact Nat.le_of_ble_eq_true rfl) (by rw [hR]; exact Nat.le_of_ble_eq_true rfl) (by rw [hR]; exact Nat.le_of_ble_eq_true rfl) rfl rfl (by decide) (by decide) (by decide) (inv_V C 0 d_unpack_82 l_M_271 im_M_fail se_M_fail cd_M_fail ⟨by decide, by decide⟩ ln_M_fail rfl rfl rfl rfl rfl) (fun oc L1 hL => ?_)
          obtain ⟨v82, S82, hp, rfl, rfl⟩ := hL
          refine ⟨_, rfl, ?_⟩
          refine aw_eq (lo' := _) (st' := [.int v82]) (L' := [(0, ly_M, (o, ad, S82.1, S82.2.1, S82.2.2))]) rfl rfl rfl ?_
          refine a_istore_n (lo' := [some (.ref o), some (.int v55), some (.int v82)]) C d_unpack_85 rfl (by decide) rfl ?_
          refine aw_lo (lo' := [some (.ref o), some (.int v55), none]) ⟨.inr rfl, .inr rfl, .inl rfl, trivial⟩ ?_
          exact s_unpack_86 C hQ hA hR v55 (S82.1, S82.2.1, S82.2.2) R40 hR40 hp
set_option maxRecDepth 100000 in
set_option maxHeartbeats 1000000 in
theorem se_unpack_40 (C : fcx gG D z A X R_M c_M_unpack 3 (some .int)) (hQ : X.2.2.2.2.2.2.2.2.2.2 = eQ gG D z X.2.2.2.2.2.2.2.1 X.2.2.2.2.1 L0 0 0 (pM_i K o ad)) (hA : A = owA gG L0 X.2.2.2.2.1.heap.size) (hR : X.2.2.2.1 = { frames := 9, cells := 1, slots := 6, locals := 900 }) (x1 : Int32) (S : ms) (hp : e_unpack_40 x1 S K) : aw gG D z A X 3 40 [some (.ref o), some (.int x1), none] [] [(0, ly_M, (o, ad, S.1, S.2.1, S.2.2))] 0 0 := by
  obtain ⟨I, μ, h0, hs⟩ := hp
  have key : ∀ (n : Nat) (yx1 : Int32) (yS : ms), μ yx1 yS < n → I yx1 yS → aw gG D z A X 3 40 [some (.ref o), some (.int yx1), none] [] [(0, ly_M, (o, ad, yS.1, yS.2.1, yS.2.2))] 0 0 := by
    intro n
    induction n with
    | zero => intro yx1 yS h; omega
    | succ n ih =>
      intro yx1 yS hn hI
      exact s_unpack_40 C hQ hA hR yx1 yS _ (fun zx1 zS hw => ih zx1 zS (by omega) hw.1) (hs yx1 yS hI)
  exact key (μ x1 S + 1) x1 S (Nat.lt_succ_self _) h0
set_option maxRecDepth 100000 in
set_option maxHeartbeats 1000000 in
theorem s_unpack_0 (C : fcx gG D z A X R_M c_M_unpack 3 (some .int)) (hQ : X.2.2.2.2.2.2.2.2.2.2 = eQ gG D z X.2.2.2.2.2.2.2.1 X.2.2.2.2.1 L0 0 0 (pM_i K o ad)) (hA : A = owA gG L0 X.2.2.2.2.1.heap.size) (hR : X.2.2.2.1 = { frames := 9, cells := 1, slots := 6, locals := 900 })  (S : ms) (hp : p_unpack  S K) : aw gG D z A X 3 0 [some (.ref o), none, none] [] [(0, ly_M, (o, ad, S.1, S.2.1, S.2.2))] 0 0 := by
  unfold p_unpack at hp
  refine a_aload_n C d_unpack_0 rfl rfl ?_
  refine a_iconst (v := 0) C d_unpack_1 (by decide) ?_
  refine a_putI (ty := .int) C 0 0 d_unpack_2 rfl rfl rfl (Nat.le_of_ble_eq_true rfl) f_M_146 (Nat.le_of_ble_eq_true rfl) rfl rfl rfl rfl ?_
  refine aw_eq (lo' := _) (st' := _) (L' := [(0, ly_M, (o, ad, upd S.1 0 0, S.2.1, S.2.2))]) rfl rfl rfl ?_
  refine a_aload_n C d_unpack_5 rfl rfl ?_
  refine a_call (Lr := []) (rest := []) (av := .ref o :: []) C [0] [] d_unpack_6 (ct_begin (upd S.1 0 0, S.2.1, S.2.2) hp) cd_M_begin i_M (Nat.le_of_ble_eq_true rfl) (by rw [hR]; exact Nat.le_of_ble_eq_true rfl) (by rw [hR]; exact Nat.le_of_ble_eq_true rfl) (by rw [hR]; exact Nat.le_of_ble_eq_true rfl) (by rw [hR]; exact Nat.le_of_ble_eq_true rfl) rfl rfl (by decide) (by decide) (by decide) (inv_V C 0 d_unpack_6 l_M_361 im_M_begin se_M_begin cd_M_begin ⟨by decide, by decide⟩ ln_M_begin rfl rfl rfl rfl rfl) (fun oc L1 hL => ?_)
  obtain ⟨S6, hp, rfl, rfl⟩ := hL
  refine ⟨_, rfl, ?_⟩
  refine aw_eq (lo' := _) (st' := []) (L' := [(0, ly_M, (o, ad, S6.1, S6.2.1, S6.2.2))]) rfl rfl rfl ?_
  refine a_aload_n C d_unpack_9 rfl rfl ?_
  refine a_call (Lr := []) (rest := []) (av := .ref o :: []) C [0] [] d_unpack_10 (ct_readMark (S6.1, S6.2.1, S6.2.2) hp) cd_M_readMark i_M (Nat.le_of_ble_eq_true rfl) (by rw [hR]; exact Nat.le_of_ble_eq_true rfl) (by rw [hR]; exact Nat.le_of_ble_eq_true rfl) (by rw [hR]; exact Nat.le_of_ble_eq_true rfl) (by rw [hR]; exact Nat.le_of_ble_eq_true rfl) rfl rfl (by decide) (by decide) (by decide) (inv_V C 0 d_unpack_10 l_M_333 im_M_readMark se_M_readMark cd_M_readMark ⟨by decide, by decide⟩ ln_M_readMark rfl rfl rfl rfl rfl) (fun oc L1 hL => ?_)
  obtain ⟨v10, S10, hp, rfl, rfl⟩ := hL
  refine ⟨_, rfl, ?_⟩
  refine aw_eq (lo' := _) (st' := [.int v10]) (L' := [(0, ly_M, (o, ad, S10.1, S10.2.1, S10.2.2))]) rfl rfl rfl ?_
  refine a_istore_n (lo' := [some (.ref o), some (.int v10), none]) C d_unpack_13 rfl (by decide) rfl ?_
  refine a_aload_n C d_unpack_14 rfl rfl ?_
  refine a_getI C 0 35 d_unpack_15 rfl rfl rfl (Nat.le_of_ble_eq_true rfl) f_M_265 (Nat.le_of_ble_eq_true rfl) ?_
  refine a_if_ne (tgt := 40) C d_unpack_18 (by decide) ⟨fun hc => ?_, fun hc => ?_⟩
  · have hp := hp.1 hc
    refine aw_lo (lo' := [some (.ref o), some (.int v10), none]) ⟨.inr rfl, .inr rfl, .inr rfl, trivial⟩ ?_
    exact se_unpack_40 C hQ hA hR v10 (S10.1, S10.2.1, S10.2.2)  hp
  · have hp := hp.2 hc
    refine a_iload_n C d_unpack_21 rfl rfl ?_
    refine a_sipush (v := 216) C d_unpack_22 (by decide) ?_
    refine a_icmp_eq (tgt := 40) C d_unpack_25 (by decide) ⟨fun hc => ?_, fun hc => ?_⟩
    · have hp := hp.1 hc
      refine aw_lo (lo' := [some (.ref o), some (.int v10), none]) ⟨.inr rfl, .inr rfl, .inr rfl, trivial⟩ ?_
      exact se_unpack_40 C hQ hA hR v10 (S10.1, S10.2.1, S10.2.2)  hp
    · have hp := hp.2 hc
      refine a_aload_n C d_unpack_28 rfl rfl ?_
      refine a_iconst (v := 3) C d_unpack_29 (by decide) ?_
      refine a_aload_n C d_unpack_30 rfl rfl ?_
      refine a_getI C 0 34 d_unpack_31 rfl rfl rfl (Nat.le_of_ble_eq_true rfl) f_M_268 (Nat.le_of_ble_eq_true rfl) ?_
      refine a_iconst (v := 1) C d_unpack_34 (by decide) ?_
      refine a_isub C d_unpack_35 ?_
      refine a_call (Lr := []) (rest := []) (av := .ref o :: [.int 3, .int ((S10.1 34) - 1)]) C [0] [] d_unpack_36 (ct_fail 3 ((S10.1 34) - 1) (S10.1, S10.2.1, S10.2.2) hp) cd_M_fail i_M (Nat.le_of_ble_eq_true rfl) (by rw [hR]; exact Nat.le_of_ble_eq_true rfl) (by rw [hR]; exact Nat.le_of_ble_eq_true rfl) (by rw [hR]; exact Nat.le_of_ble_eq_true rfl) (by rw [hR]; exact Nat.le_of_ble_eq_true rfl) rfl rfl (by decide) (by decide) (by decide) (inv_V C 0 d_unpack_36 l_M_271 im_M_fail se_M_fail cd_M_fail ⟨by decide, by decide⟩ ln_M_fail rfl rfl rfl rfl rfl) (fun oc L1 hL => ?_)
      obtain ⟨v36, S36, hp, rfl, rfl⟩ := hL
      refine ⟨_, rfl, ?_⟩
      refine aw_eq (lo' := _) (st' := [.int v36]) (L' := [(0, ly_M, (o, ad, S36.1, S36.2.1, S36.2.2))]) rfl rfl rfl ?_
      refine a_istore_n (lo' := [some (.ref o), some (.int v10), some (.int v36)]) C d_unpack_39 rfl (by decide) rfl ?_
      refine aw_lo (lo' := [some (.ref o), some (.int v10), none]) ⟨.inr rfl, .inr rfl, .inl rfl, trivial⟩ ?_
      exact se_unpack_40 C hQ hA hR v10 (S36.1, S36.2.1, S36.2.2)  hp
end M_unpack
section M_unpackc
variable {D : va_G} {z : Nat → ClassId} {o : Nat} {ad : Nat → Nat}
set_option maxRecDepth 100000 in
theorem ct_unpack {l : Launch}  (S : ms) {K : Int32 → ms → Prop} (hp : p_unpack  S K) : ct gG D z l n_M_unpack c_M_unpack 3 (some .int) 9 900 [.ref o] [(0, ly_M, (o, ad, S.1, S.2.1, S.2.2))] 0 0 (pM_i K o ad) := by
  refine ct_of (lo := [some (.ref o), none, none]) (by decide) g_ok (Nat.le_of_ble_eq_true rfl) rfl ?_
  intro X A _ C hR hQ hA _
  exact s_unpack_0 C hQ hA hR  S hp
end M_unpackc
def p_place  (S : ms) (K : Int32 → ms → Prop) : Prop :=
  K ((upd S.1 0 0) 10) (upd S.1 0 0, S.2.1, S.2.2)
section M_place
variable {D : va_G} {z : Nat → ClassId} {A : Nat → Prop} {X : cx} {L0 : fw} {K : Int32 → ms → Prop} {o : Nat} {ad : Nat → Nat}
set_option maxRecDepth 100000 in
set_option maxHeartbeats 1000000 in
theorem s_place_0 (C : fcx gG D z A X R_M c_M_place 1 (some .int)) (hQ : X.2.2.2.2.2.2.2.2.2.2 = eQ gG D z X.2.2.2.2.2.2.2.1 X.2.2.2.2.1 L0 0 0 (pM_i K o ad)) (hA : A = owA gG L0 X.2.2.2.2.1.heap.size) (hR : X.2.2.2.1 = { frames := 1, cells := 1, slots := 6, locals := 100 })  (S : ms) (hp : p_place  S K) : aw gG D z A X 1 0 [some (.ref o)] [] [(0, ly_M, (o, ad, S.1, S.2.1, S.2.2))] 0 0 := by
  unfold p_place at hp
  refine a_aload_n C d_place_0 rfl rfl ?_
  refine a_iconst (v := 0) C d_place_1 (by decide) ?_
  refine a_putI (ty := .int) C 0 0 d_place_2 rfl rfl rfl (Nat.le_of_ble_eq_true rfl) f_M_146 (Nat.le_of_ble_eq_true rfl) rfl rfl rfl rfl ?_
  refine aw_eq (lo' := _) (st' := _) (L' := [(0, ly_M, (o, ad, upd S.1 0 0, S.2.1, S.2.2))]) rfl rfl rfl ?_
  refine a_aload_n C d_place_5 rfl rfl ?_
  refine a_getI C 0 10 d_place_6 rfl rfl rfl (Nat.le_of_ble_eq_true rfl) f_M_34 (Nat.le_of_ble_eq_true rfl) ?_
  exact a_iret (ty := .int) C hQ hA d_place_9 rfl rfl ⟨_, (upd S.1 0 0, S.2.1, S.2.2), hp, rfl, rfl⟩
end M_place
section M_placec
variable {D : va_G} {z : Nat → ClassId} {o : Nat} {ad : Nat → Nat}
set_option maxRecDepth 100000 in
theorem ct_place {l : Launch}  (S : ms) {K : Int32 → ms → Prop} (hp : p_place  S K) : ct gG D z l n_M_place c_M_place 1 (some .int) 1 100 [.ref o] [(0, ly_M, (o, ad, S.1, S.2.1, S.2.2))] 0 0 (pM_i K o ad) := by
  refine ct_of (lo := [some (.ref o)]) (by decide) g_ok (Nat.le_of_ble_eq_true rfl) rfl ?_
  intro X A _ C hR hQ hA _
  exact s_place_0 C hQ hA hR  S hp
end M_placec
def b_about_75 (s0 : Int32) (S : ms) (K : Int32 → ms → Prop) : Prop :=
  K s0 S
def b_about_28 (x1 : Int32) (s1 : Int32) (S : ms) (K : Int32 → ms → Prop) : Prop :=
  (((upd S.1 0 s1) 0) ≤ 0 → ((¬ x1 = 0 → ((¬ x1 = 1 → (vp_in 1 3 ∧ (b_about_75 (S.2.1 14 (1 : Int32).toNatClampNeg) (upd S.1 0 s1, S.2.1, S.2.2) K))) ∧ (x1 = 1 → (vp_in 1 3 ∧ (b_about_75 (S.2.1 13 (1 : Int32).toNatClampNeg) (upd S.1 0 s1, S.2.1, S.2.2) K))))) ∧ (x1 = 0 → (vp_in 1 3 ∧ (b_about_75 (S.2.1 12 (1 : Int32).toNatClampNeg) (upd S.1 0 s1, S.2.1, S.2.2) K))))) ∧ (¬ (((upd S.1 0 s1) 0) ≤ 0) → (b_about_75 0 (upd S.1 0 s1, S.2.1, S.2.2) K))
def b_about_10 (x1 : Int32) (S : ms) (K : Int32 → ms → Prop) : Prop :=
  b_about_28 x1 1 S K
def p_about (x1 : Int32) (S : ms) (K : Int32 → ms → Prop) : Prop :=
  (x1 < 0 → (b_about_10 x1 S K)) ∧ (¬ (x1 < 0) → ((x1 ≤ 2 → (vp_in 1 3 ∧ (((S.2.1 11 (1 : Int32).toNatClampNeg) = 0 → (b_about_28 x1 2 S K)) ∧ (¬ ((S.2.1 11 (1 : Int32).toNatClampNeg) = 0) → (b_about_28 x1 0 S K))))) ∧ (¬ (x1 ≤ 2) → (b_about_10 x1 S K))))
section M_about
variable {D : va_G} {z : Nat → ClassId} {A : Nat → Prop} {X : cx} {L0 : fw} {K : Int32 → ms → Prop} {o : Nat} {ad : Nat → Nat}
set_option maxRecDepth 100000 in
set_option maxHeartbeats 1000000 in
theorem s_about_75 (C : fcx gG D z A X R_M c_M_about 2 (some .int)) (hQ : X.2.2.2.2.2.2.2.2.2.2 = eQ gG D z X.2.2.2.2.2.2.2.1 X.2.2.2.2.1 L0 0 0 (pM_i K o ad)) (hA : A = owA gG L0 X.2.2.2.2.1.heap.size) (hR : X.2.2.2.1 = { frames := 1, cells := 1, slots := 6, locals := 100 }) (s0 : Int32) (S : ms) (hp : b_about_75 s0 S K) : aw gG D z A X 2 75 [some (.ref o), none] [.int s0] [(0, ly_M, (o, ad, S.1, S.2.1, S.2.2))] 0 0 := by
  unfold b_about_75 at hp
  exact a_iret (ty := .int) C hQ hA d_about_75 rfl rfl ⟨_, S, hp, rfl, rfl⟩
set_option maxRecDepth 100000 in
set_option maxHeartbeats 1000000 in
theorem s_about_28 (C : fcx gG D z A X R_M c_M_about 2 (some .int)) (hQ : X.2.2.2.2.2.2.2.2.2.2 = eQ gG D z X.2.2.2.2.2.2.2.1 X.2.2.2.2.1 L0 0 0 (pM_i K o ad)) (hA : A = owA gG L0 X.2.2.2.2.1.heap.size) (hR : X.2.2.2.1 = { frames := 1, cells := 1, slots := 6, locals := 100 }) (x1 : Int32) (s1 : Int32) (S : ms) (hp : b_about_28 x1 s1 S K) : aw gG D z A X 2 28 [some (.ref o), some (.int x1)] [.int s1, .ref o] [(0, ly_M, (o, ad, S.1, S.2.1, S.2.2))] 0 0 := by
  unfold b_about_28 at hp
  refine a_putI (ty := .int) C 0 0 d_about_28 rfl rfl rfl (Nat.le_of_ble_eq_true rfl) f_M_146 (Nat.le_of_ble_eq_true rfl) rfl rfl rfl rfl ?_
  refine aw_eq (lo' := _) (st' := _) (L' := [(0, ly_M, (o, ad, upd S.1 0 s1, S.2.1, S.2.2))]) rfl rfl rfl ?_
  refine a_aload_n C d_about_31 rfl rfl ?_
  refine a_getI C 0 0 d_about_32 rfl rfl rfl (Nat.le_of_ble_eq_true rfl) f_M_146 (Nat.le_of_ble_eq_true rfl) ?_
  refine a_if_le (tgt := 42) C d_about_35 (by decide) ⟨fun hc => ?_, fun hc => ?_⟩
  · have hp := hp.1 hc
    refine a_iload_n C d_about_42 rfl rfl ?_
    refine a_if_ne (tgt := 55) C d_about_43 (by decide) ⟨fun hc => ?_, fun hc => ?_⟩
    · have hp := hp.1 hc
      refine a_iload_n C d_about_55 rfl rfl ?_
      refine a_iconst (v := 1) C d_about_56 (by decide) ?_
      refine a_icmp_ne (tgt := 69) C d_about_57 (by decide) ⟨fun hc => ?_, fun hc => ?_⟩
      · have hp := hp.1 hc
        refine a_aload_n C d_about_69 rfl rfl ?_
        refine a_getR C 0 14 d_about_70 rfl rfl rfl (Nat.le_of_ble_eq_true rfl) f_M_47 ⟨Nat.le_of_ble_eq_true rfl, Nat.le_of_ble_eq_true rfl⟩ ?_
        refine a_iconst (v := 1) C d_about_73 (by decide) ?_
        refine a_iald C 0 14 d_about_74 rfl rfl rfl hp.1 ?_
        have hp := hp.2
        refine aw_lo (lo' := [some (.ref o), none]) ⟨.inr rfl, .inl rfl, trivial⟩ ?_
        exact s_about_75 C hQ hA hR (S.2.1 14 (1 : Int32).toNatClampNeg) (upd S.1 0 s1, S.2.1, S.2.2)  hp
      · have hp := hp.2 hc
        refine a_aload_n C d_about_60 rfl rfl ?_
        refine a_getR C 0 13 d_about_61 rfl rfl rfl (Nat.le_of_ble_eq_true rfl) f_M_44 ⟨Nat.le_of_ble_eq_true rfl, Nat.le_of_ble_eq_true rfl⟩ ?_
        refine a_iconst (v := 1) C d_about_64 (by decide) ?_
        refine a_iald C 0 13 d_about_65 rfl rfl rfl hp.1 ?_
        have hp := hp.2
        refine a_goto (tgt := 75) C d_about_66 (by decide) ?_
        refine aw_lo (lo' := [some (.ref o), none]) ⟨.inr rfl, .inl rfl, trivial⟩ ?_
        exact s_about_75 C hQ hA hR (S.2.1 13 (1 : Int32).toNatClampNeg) (upd S.1 0 s1, S.2.1, S.2.2)  hp
    · have hp := hp.2 hc
      refine a_aload_n C d_about_46 rfl rfl ?_
      refine a_getR C 0 12 d_about_47 rfl rfl rfl (Nat.le_of_ble_eq_true rfl) f_M_41 ⟨Nat.le_of_ble_eq_true rfl, Nat.le_of_ble_eq_true rfl⟩ ?_
      refine a_iconst (v := 1) C d_about_50 (by decide) ?_
      refine a_iald C 0 12 d_about_51 rfl rfl rfl hp.1 ?_
      have hp := hp.2
      refine a_goto (tgt := 75) C d_about_52 (by decide) ?_
      refine aw_lo (lo' := [some (.ref o), none]) ⟨.inr rfl, .inl rfl, trivial⟩ ?_
      exact s_about_75 C hQ hA hR (S.2.1 12 (1 : Int32).toNatClampNeg) (upd S.1 0 s1, S.2.1, S.2.2)  hp
  · have hp := hp.2 hc
    refine a_iconst (v := 0) C d_about_38 (by decide) ?_
    refine a_goto (tgt := 75) C d_about_39 (by decide) ?_
    refine aw_lo (lo' := [some (.ref o), none]) ⟨.inr rfl, .inl rfl, trivial⟩ ?_
    exact s_about_75 C hQ hA hR 0 (upd S.1 0 s1, S.2.1, S.2.2)  hp
set_option maxRecDepth 100000 in
set_option maxHeartbeats 1000000 in
theorem s_about_10 (C : fcx gG D z A X R_M c_M_about 2 (some .int)) (hQ : X.2.2.2.2.2.2.2.2.2.2 = eQ gG D z X.2.2.2.2.2.2.2.1 X.2.2.2.2.1 L0 0 0 (pM_i K o ad)) (hA : A = owA gG L0 X.2.2.2.2.1.heap.size) (hR : X.2.2.2.1 = { frames := 1, cells := 1, slots := 6, locals := 100 }) (x1 : Int32) (S : ms) (hp : b_about_10 x1 S K) : aw gG D z A X 2 10 [some (.ref o), some (.int x1)] [.ref o] [(0, ly_M, (o, ad, S.1, S.2.1, S.2.2))] 0 0 := by
  unfold b_about_10 at hp
  refine a_iconst (v := 1) C d_about_10 (by decide) ?_
  refine a_goto (tgt := 28) C d_about_11 (by decide) ?_
  refine aw_lo (lo' := [some (.ref o), some (.int x1)]) ⟨.inr rfl, .inr rfl, trivial⟩ ?_
  exact s_about_28 C hQ hA hR x1 1 S  hp
set_option maxRecDepth 100000 in
set_option maxHeartbeats 1000000 in
theorem s_about_0 (C : fcx gG D z A X R_M c_M_about 2 (some .int)) (hQ : X.2.2.2.2.2.2.2.2.2.2 = eQ gG D z X.2.2.2.2.2.2.2.1 X.2.2.2.2.1 L0 0 0 (pM_i K o ad)) (hA : A = owA gG L0 X.2.2.2.2.1.heap.size) (hR : X.2.2.2.1 = { frames := 1, cells := 1, slots := 6, locals := 100 }) (x1 : Int32) (S : ms) (hp : p_about x1 S K) : aw gG D z A X 2 0 [some (.ref o), some (.int x1)] [] [(0, ly_M, (o, ad, S.1, S.2.1, S.2.2))] 0 0 := by
  unfold p_about at hp
  refine a_aload_n C d_about_0 rfl rfl ?_
  refine a_iload_n C d_about_1 rfl rfl ?_
  refine a_if_lt (tgt := 10) C d_about_2 (by decide) ⟨fun hc => ?_, fun hc => ?_⟩
  · have hp := hp.1 hc
    refine aw_lo (lo' := [some (.ref o), some (.int x1)]) ⟨.inr rfl, .inr rfl, trivial⟩ ?_
    exact s_about_10 C hQ hA hR x1 S  hp
  · have hp := hp.2 hc
    refine a_iload_n C d_about_5 rfl rfl ?_
    refine a_iconst (v := 2) C d_about_6 (by decide) ?_
    refine a_icmp_le (tgt := 14) C d_about_7 (by decide) ⟨fun hc => ?_, fun hc => ?_⟩
    · have hp := hp.1 hc
      refine a_aload_n C d_about_14 rfl rfl ?_
      refine a_getR C 0 11 d_about_15 rfl rfl rfl (Nat.le_of_ble_eq_true rfl) f_M_37 ⟨Nat.le_of_ble_eq_true rfl, Nat.le_of_ble_eq_true rfl⟩ ?_
      refine a_iconst (v := 1) C d_about_18 (by decide) ?_
      refine a_zald C 0 11 d_about_19 rfl rfl rfl hp.1 ?_
      have hp := hp.2
      refine a_if_eq (tgt := 27) C d_about_20 (by decide) ⟨fun hc => ?_, fun hc => ?_⟩
      · have hp := hp.1 hc
        refine a_iconst (v := 2) C d_about_27 (by decide) ?_
        refine aw_lo (lo' := [some (.ref o), some (.int x1)]) ⟨.inr rfl, .inr rfl, trivial⟩ ?_
        exact s_about_28 C hQ hA hR x1 2 S  hp
      · have hp := hp.2 hc
        refine a_iconst (v := 0) C d_about_23 (by decide) ?_
        refine a_goto (tgt := 28) C d_about_24 (by decide) ?_
        refine aw_lo (lo' := [some (.ref o), some (.int x1)]) ⟨.inr rfl, .inr rfl, trivial⟩ ?_
        exact s_about_28 C hQ hA hR x1 0 S  hp
    · have hp := hp.2 hc
      refine aw_lo (lo' := [some (.ref o), some (.int x1)]) ⟨.inr rfl, .inr rfl, trivial⟩ ?_
      exact s_about_10 C hQ hA hR x1 S  hp
end M_about
section M_aboutc
variable {D : va_G} {z : Nat → ClassId} {o : Nat} {ad : Nat → Nat}
set_option maxRecDepth 100000 in
theorem ct_about {l : Launch} (x1 : Int32) (S : ms) {K : Int32 → ms → Prop} (hp : p_about x1 S K) : ct gG D z l n_M_about c_M_about 2 (some .int) 1 100 [.ref o, .int x1] [(0, ly_M, (o, ad, S.1, S.2.1, S.2.2))] 0 0 (pM_i K o ad) := by
  refine ct_of (lo := [some (.ref o), some (.int x1)]) (by decide) g_ok (Nat.le_of_ble_eq_true rfl) rfl ?_
  intro X A _ C hR hQ hA _
  exact s_about_0 C hQ hA hR x1 S hp
end M_aboutc
def p_layerSample (x1 : Int32) (x2 : Int32) (x3 : Int32) (S : ms) (K : Int32 → ms → Prop) : Prop :=
  vp_in (3 + x3) 9 ∧ (p_greatest 1 1 S (fun v13 S13 => ¬ v13 = 0 ∧ (vp_in (3 + x3) 9 ∧ (p_greatest 1 0 (S13.1, S13.2.1, S13.2.2) (fun v32 S32 => ¬ v32 = 0 ∧ (vp_in ((64 * ((64 * x3) + ((x2 * (S13.2.1 16 (3 + x3).toNatClampNeg)) / v32))) + ((x1 * (S.2.1 15 (3 + x3).toNatClampNeg)) / v13)) 12288 ∧ (K (S32.2.1 20 ((64 * ((64 * x3) + ((x2 * (S13.2.1 16 (3 + x3).toNatClampNeg)) / v32))) + ((x1 * (S.2.1 15 (3 + x3).toNatClampNeg)) / v13)).toNatClampNeg) (S32.1, S32.2.1, S32.2.2))))))))
section M_layerSample
variable {D : va_G} {z : Nat → ClassId} {A : Nat → Prop} {X : cx} {L0 : fw} {K : Int32 → ms → Prop} {o : Nat} {ad : Nat → Nat}
set_option maxRecDepth 100000 in
set_option maxHeartbeats 1000000 in
theorem s_layerSample_0 (C : fcx gG D z A X R_M c_M_layerSample 6 (some .int)) (hQ : X.2.2.2.2.2.2.2.2.2.2 = eQ gG D z X.2.2.2.2.2.2.2.1 X.2.2.2.2.1 L0 0 0 (pM_i K o ad)) (hA : A = owA gG L0 X.2.2.2.2.1.heap.size) (hR : X.2.2.2.1 = { frames := 2, cells := 1, slots := 6, locals := 200 }) (x1 : Int32) (x2 : Int32) (x3 : Int32) (S : ms) (hp : p_layerSample x1 x2 x3 S K) : aw gG D z A X 6 0 [some (.ref o), some (.int x1), some (.int x2), some (.int x3), none, none] [] [(0, ly_M, (o, ad, S.1, S.2.1, S.2.2))] 0 0 := by
  unfold p_layerSample at hp
  refine a_iload_n C d_layerSample_0 rfl rfl ?_
  refine a_aload_n C d_layerSample_1 rfl rfl ?_
  refine a_getR C 0 15 d_layerSample_2 rfl rfl rfl (Nat.le_of_ble_eq_true rfl) f_M_50 ⟨Nat.le_of_ble_eq_true rfl, Nat.le_of_ble_eq_true rfl⟩ ?_
  refine a_iconst (v := 3) C d_layerSample_5 (by decide) ?_
  refine a_iload_n C d_layerSample_6 rfl rfl ?_
  refine a_iadd C d_layerSample_7 ?_
  refine a_iald C 0 15 d_layerSample_8 rfl rfl rfl hp.1 ?_
  have hp := hp.2
  refine a_imul C d_layerSample_9 ?_
  refine a_aload_n C d_layerSample_10 rfl rfl ?_
  refine a_iconst (v := 1) C d_layerSample_11 (by decide) ?_
  refine a_iconst (v := 1) C d_layerSample_12 (by decide) ?_
  refine a_call (Lr := []) (rest := [.int (x1 * (S.2.1 15 (3 + x3).toNatClampNeg))]) (av := .ref o :: [.int 1, .int 1]) C [0] [] d_layerSample_13 (ct_greatest 1 1 S hp) cd_M_greatest i_M (Nat.le_of_ble_eq_true rfl) (by rw [hR]; exact Nat.le_of_ble_eq_true rfl) (by rw [hR]; exact Nat.le_of_ble_eq_true rfl) (by rw [hR]; exact Nat.le_of_ble_eq_true rfl) (by rw [hR]; exact Nat.le_of_ble_eq_true rfl) rfl rfl (by decide) (by decide) (by decide) (inv_V C 0 d_layerSample_13 l_M_173 im_M_greatest se_M_greatest cd_M_greatest ⟨by decide, by decide⟩ ln_M_greatest rfl rfl rfl rfl rfl) (fun oc L1 hL => ?_)
  obtain ⟨v13, S13, hp, rfl, rfl⟩ := hL
  refine ⟨_, rfl, ?_⟩
  refine aw_eq (lo' := _) (st' := [.int v13, .int (x1 * (S.2.1 15 (3 + x3).toNatClampNeg))]) (L' := [(0, ly_M, (o, ad, S13.1, S13.2.1, S13.2.2))]) rfl rfl rfl ?_
  refine a_idiv C d_layerSample_16 hp.1 ?_
  have hp := hp.2
  refine a_istore (lo' := [some (.ref o), some (.int x1), some (.int x2), some (.int x3), some (.int ((x1 * (S.2.1 15 (3 + x3).toNatClampNeg)) / v13)), none]) C d_layerSample_17 (by decide) rfl ?_
  refine a_iload_n C d_layerSample_19 rfl rfl ?_
  refine a_aload_n C d_layerSample_20 rfl rfl ?_
  refine a_getR C 0 16 d_layerSample_21 rfl rfl rfl (Nat.le_of_ble_eq_true rfl) f_M_53 ⟨Nat.le_of_ble_eq_true rfl, Nat.le_of_ble_eq_true rfl⟩ ?_
  refine a_iconst (v := 3) C d_layerSample_24 (by decide) ?_
  refine a_iload_n C d_layerSample_25 rfl rfl ?_
  refine a_iadd C d_layerSample_26 ?_
  refine a_iald C 0 16 d_layerSample_27 rfl rfl rfl hp.1 ?_
  have hp := hp.2
  refine a_imul C d_layerSample_28 ?_
  refine a_aload_n C d_layerSample_29 rfl rfl ?_
  refine a_iconst (v := 1) C d_layerSample_30 (by decide) ?_
  refine a_iconst (v := 0) C d_layerSample_31 (by decide) ?_
  refine a_call (Lr := []) (rest := [.int (x2 * (S13.2.1 16 (3 + x3).toNatClampNeg))]) (av := .ref o :: [.int 1, .int 0]) C [0] [] d_layerSample_32 (ct_greatest 1 0 (S13.1, S13.2.1, S13.2.2) hp) cd_M_greatest i_M (Nat.le_of_ble_eq_true rfl) (by rw [hR]; exact Nat.le_of_ble_eq_true rfl) (by rw [hR]; exact Nat.le_of_ble_eq_true rfl) (by rw [hR]; exact Nat.le_of_ble_eq_true rfl) (by rw [hR]; exact Nat.le_of_ble_eq_true rfl) rfl rfl (by decide) (by decide) (by decide) (inv_V C 0 d_layerSample_32 l_M_173 im_M_greatest se_M_greatest cd_M_greatest ⟨by decide, by decide⟩ ln_M_greatest rfl rfl rfl rfl rfl) (fun oc L1 hL => ?_)
  obtain ⟨v32, S32, hp, rfl, rfl⟩ := hL
  refine ⟨_, rfl, ?_⟩
  refine aw_eq (lo' := _) (st' := [.int v32, .int (x2 * (S13.2.1 16 (3 + x3).toNatClampNeg))]) (L' := [(0, ly_M, (o, ad, S32.1, S32.2.1, S32.2.2))]) rfl rfl rfl ?_
  refine a_idiv C d_layerSample_35 hp.1 ?_
  have hp := hp.2
  refine a_istore (lo' := [some (.ref o), some (.int x1), some (.int x2), some (.int x3), some (.int ((x1 * (S.2.1 15 (3 + x3).toNatClampNeg)) / v13)), some (.int ((x2 * (S13.2.1 16 (3 + x3).toNatClampNeg)) / v32))]) C d_layerSample_36 (by decide) rfl ?_
  refine a_aload_n C d_layerSample_38 rfl rfl ?_
  refine a_getR C 0 20 d_layerSample_39 rfl rfl rfl (Nat.le_of_ble_eq_true rfl) f_M_66 ⟨Nat.le_of_ble_eq_true rfl, Nat.le_of_ble_eq_true rfl⟩ ?_
  refine a_bipush (v := 64) C d_layerSample_42 (by decide) ?_
  refine a_bipush (v := 64) C d_layerSample_44 (by decide) ?_
  refine a_iload_n C d_layerSample_46 rfl rfl ?_
  refine a_imul C d_layerSample_47 ?_
  refine a_iload C d_layerSample_48 rfl ?_
  refine a_iadd C d_layerSample_50 ?_
  refine a_imul C d_layerSample_51 ?_
  refine a_iload C d_layerSample_52 rfl ?_
  refine a_iadd C d_layerSample_54 ?_
  refine a_iald C 0 20 d_layerSample_55 rfl rfl rfl hp.1 ?_
  have hp := hp.2
  exact a_iret (ty := .int) C hQ hA d_layerSample_56 rfl rfl ⟨_, (S32.1, S32.2.1, S32.2.2), hp, rfl, rfl⟩
end M_layerSample
section M_layerSamplec
variable {D : va_G} {z : Nat → ClassId} {o : Nat} {ad : Nat → Nat}
set_option maxRecDepth 100000 in
theorem ct_layerSample {l : Launch} (x1 : Int32) (x2 : Int32) (x3 : Int32) (S : ms) {K : Int32 → ms → Prop} (hp : p_layerSample x1 x2 x3 S K) : ct gG D z l n_M_layerSample c_M_layerSample 6 (some .int) 2 200 [.ref o, .int x1, .int x2, .int x3] [(0, ly_M, (o, ad, S.1, S.2.1, S.2.2))] 0 0 (pM_i K o ad) := by
  refine ct_of (lo := [some (.ref o), some (.int x1), some (.int x2), some (.int x3), none, none]) (by decide) g_ok (Nat.le_of_ble_eq_true rfl) rfl ?_
  intro X A _ C hR hQ hA _
  exact s_layerSample_0 C hQ hA hR x1 x2 x3 S hp
end M_layerSamplec
def b_sampleAt_142 (s0 : Int32) (S : ms) (K : Int32 → ms → Prop) : Prop :=
  K s0 S
def b_sampleAt_115 (s0 : Int32) (S : ms) (K : Int32 → ms → Prop) : Prop :=
  (0 ≤ s0 → ((s0 ≤ 255 → (b_sampleAt_142 s0 S K)) ∧ (¬ (s0 ≤ 255) → (b_sampleAt_142 255 S K)))) ∧ (¬ (0 ≤ s0) → (b_sampleAt_142 0 S K))
def p_sampleAt (x1 : Int32) (x2 : Int32) (x3 : Int32) (S : ms) (K : Int32 → ms → Prop) : Prop :=
  p_layerSample x1 x2 0 S (fun v4 S4 => vp_in 1 3 ∧ ((¬ (S4.2.1 14 (1 : Int32).toNatClampNeg) = 1 → (p_layerSample x1 x2 1 (S4.1, S4.2.1, S4.2.2) (fun v26 S26 => p_layerSample x1 x2 2 (S26.1, S26.2.1, S26.2.2) (fun v39 S39 => (¬ x3 = 0 → ((¬ x3 = 1 → (b_sampleAt_115 (v4 + (((116130 * (v26 - 128)) + 32768) >>> (16 &&& 31 : Int32) : Int32)) (S39.1, S39.2.1, S39.2.2) K)) ∧ (x3 = 1 → (b_sampleAt_115 (v4 - ((((22554 * (v26 - 128)) + (46802 * (v39 - 128))) + 32768) >>> (16 &&& 31 : Int32) : Int32)) (S39.1, S39.2.1, S39.2.2) K)))) ∧ (x3 = 0 → (b_sampleAt_115 (v4 + (((91881 * (v39 - 128)) + 32768) >>> (16 &&& 31 : Int32) : Int32)) (S39.1, S39.2.1, S39.2.2) K)))))) ∧ ((S4.2.1 14 (1 : Int32).toNatClampNeg) = 1 → (K v4 (S4.1, S4.2.1, S4.2.2)))))
section M_sampleAt
variable {D : va_G} {z : Nat → ClassId} {A : Nat → Prop} {X : cx} {L0 : fw} {K : Int32 → ms → Prop} {o : Nat} {ad : Nat → Nat}
set_option maxRecDepth 100000 in
set_option maxHeartbeats 1000000 in
theorem s_sampleAt_142 (C : fcx gG D z A X R_M c_M_sampleAt 8 (some .int)) (hQ : X.2.2.2.2.2.2.2.2.2.2 = eQ gG D z X.2.2.2.2.2.2.2.1 X.2.2.2.2.1 L0 0 0 (pM_i K o ad)) (hA : A = owA gG L0 X.2.2.2.2.1.heap.size) (hR : X.2.2.2.1 = { frames := 3, cells := 1, slots := 6, locals := 300 }) (s0 : Int32) (S : ms) (hp : b_sampleAt_142 s0 S K) : aw gG D z A X 8 142 [some (.ref o), none, none, none, none, none, none, none] [.int s0] [(0, ly_M, (o, ad, S.1, S.2.1, S.2.2))] 0 0 := by
  unfold b_sampleAt_142 at hp
  exact a_iret (ty := .int) C hQ hA d_sampleAt_142 rfl rfl ⟨_, S, hp, rfl, rfl⟩
set_option maxRecDepth 100000 in
set_option maxHeartbeats 1000000 in
theorem s_sampleAt_115 (C : fcx gG D z A X R_M c_M_sampleAt 8 (some .int)) (hQ : X.2.2.2.2.2.2.2.2.2.2 = eQ gG D z X.2.2.2.2.2.2.2.1 X.2.2.2.2.1 L0 0 0 (pM_i K o ad)) (hA : A = owA gG L0 X.2.2.2.2.1.heap.size) (hR : X.2.2.2.1 = { frames := 3, cells := 1, slots := 6, locals := 300 }) (s0 : Int32) (S : ms) (hp : b_sampleAt_115 s0 S K) : aw gG D z A X 8 115 [some (.ref o), none, none, none, none, none, none, none] [.int s0] [(0, ly_M, (o, ad, S.1, S.2.1, S.2.2))] 0 0 := by
  unfold b_sampleAt_115 at hp
  refine a_istore (lo' := [some (.ref o), none, none, none, none, none, none, some (.int s0)]) C d_sampleAt_115 (by decide) rfl ?_
  refine a_iload C d_sampleAt_117 rfl ?_
  refine a_if_ge (tgt := 126) C d_sampleAt_119 (by decide) ⟨fun hc => ?_, fun hc => ?_⟩
  · have hp := hp.1 hc
    refine a_iload C d_sampleAt_126 rfl ?_
    refine a_sipush (v := 255) C d_sampleAt_128 (by decide) ?_
    refine a_icmp_le (tgt := 140) C d_sampleAt_131 (by decide) ⟨fun hc => ?_, fun hc => ?_⟩
    · have hp := hp.1 hc
      refine a_iload C d_sampleAt_140 rfl ?_
      refine aw_lo (lo' := [some (.ref o), none, none, none, none, none, none, none]) ⟨.inr rfl, .inr rfl, .inr rfl, .inr rfl, .inr rfl, .inr rfl, .inr rfl, .inl rfl, trivial⟩ ?_
      exact s_sampleAt_142 C hQ hA hR s0 S  hp
    · have hp := hp.2 hc
      refine a_sipush (v := 255) C d_sampleAt_134 (by decide) ?_
      refine a_goto (tgt := 142) C d_sampleAt_137 (by decide) ?_
      refine aw_lo (lo' := [some (.ref o), none, none, none, none, none, none, none]) ⟨.inr rfl, .inr rfl, .inr rfl, .inr rfl, .inr rfl, .inr rfl, .inr rfl, .inl rfl, trivial⟩ ?_
      exact s_sampleAt_142 C hQ hA hR 255 S  hp
  · have hp := hp.2 hc
    refine a_iconst (v := 0) C d_sampleAt_122 (by decide) ?_
    refine a_goto (tgt := 142) C d_sampleAt_123 (by decide) ?_
    refine aw_lo (lo' := [some (.ref o), none, none, none, none, none, none, none]) ⟨.inr rfl, .inr rfl, .inr rfl, .inr rfl, .inr rfl, .inr rfl, .inr rfl, .inl rfl, trivial⟩ ?_
    exact s_sampleAt_142 C hQ hA hR 0 S  hp
set_option maxRecDepth 100000 in
set_option maxHeartbeats 1000000 in
theorem s_sampleAt_0 (C : fcx gG D z A X R_M c_M_sampleAt 8 (some .int)) (hQ : X.2.2.2.2.2.2.2.2.2.2 = eQ gG D z X.2.2.2.2.2.2.2.1 X.2.2.2.2.1 L0 0 0 (pM_i K o ad)) (hA : A = owA gG L0 X.2.2.2.2.1.heap.size) (hR : X.2.2.2.1 = { frames := 3, cells := 1, slots := 6, locals := 300 }) (x1 : Int32) (x2 : Int32) (x3 : Int32) (S : ms) (hp : p_sampleAt x1 x2 x3 S K) : aw gG D z A X 8 0 [some (.ref o), some (.int x1), some (.int x2), some (.int x3), none, none, none, none] [] [(0, ly_M, (o, ad, S.1, S.2.1, S.2.2))] 0 0 := by
  unfold p_sampleAt at hp
  refine a_aload_n C d_sampleAt_0 rfl rfl ?_
  refine a_iload_n C d_sampleAt_1 rfl rfl ?_
  refine a_iload_n C d_sampleAt_2 rfl rfl ?_
  refine a_iconst (v := 0) C d_sampleAt_3 (by decide) ?_
  refine a_call (Lr := []) (rest := []) (av := .ref o :: [.int x1, .int x2, .int 0]) C [0] [] d_sampleAt_4 (ct_layerSample x1 x2 0 S hp) cd_M_layerSample i_M (Nat.le_of_ble_eq_true rfl) (by rw [hR]; exact Nat.le_of_ble_eq_true rfl) (by rw [hR]; exact Nat.le_of_ble_eq_true rfl) (by rw [hR]; exact Nat.le_of_ble_eq_true rfl) (by rw [hR]; exact Nat.le_of_ble_eq_true rfl) rfl rfl (by decide) (by decide) (by decide) (inv_V C 0 d_sampleAt_4 l_M_377 im_M_layerSample se_M_layerSample cd_M_layerSample ⟨by decide, by decide⟩ ln_M_layerSample rfl rfl rfl rfl rfl) (fun oc L1 hL => ?_)
  obtain ⟨v4, S4, hp, rfl, rfl⟩ := hL
  refine ⟨_, rfl, ?_⟩
  refine aw_eq (lo' := _) (st' := [.int v4]) (L' := [(0, ly_M, (o, ad, S4.1, S4.2.1, S4.2.2))]) rfl rfl rfl ?_
  refine a_istore (lo' := [some (.ref o), some (.int x1), some (.int x2), some (.int x3), some (.int v4), none, none, none]) C d_sampleAt_7 (by decide) rfl ?_
  refine a_aload_n C d_sampleAt_9 rfl rfl ?_
  refine a_getR C 0 14 d_sampleAt_10 rfl rfl rfl (Nat.le_of_ble_eq_true rfl) f_M_47 ⟨Nat.le_of_ble_eq_true rfl, Nat.le_of_ble_eq_true rfl⟩ ?_
  refine a_iconst (v := 1) C d_sampleAt_13 (by decide) ?_
  refine a_iald C 0 14 d_sampleAt_14 rfl rfl rfl hp.1 ?_
  have hp := hp.2
  refine a_iconst (v := 1) C d_sampleAt_15 (by decide) ?_
  refine a_icmp_ne (tgt := 22) C d_sampleAt_16 (by decide) ⟨fun hc => ?_, fun hc => ?_⟩
  · have hp := hp.1 hc
    refine a_aload_n C d_sampleAt_22 rfl rfl ?_
    refine a_iload_n C d_sampleAt_23 rfl rfl ?_
    refine a_iload_n C d_sampleAt_24 rfl rfl ?_
    refine a_iconst (v := 1) C d_sampleAt_25 (by decide) ?_
    refine a_call (Lr := []) (rest := []) (av := .ref o :: [.int x1, .int x2, .int 1]) C [0] [] d_sampleAt_26 (ct_layerSample x1 x2 1 (S4.1, S4.2.1, S4.2.2) hp) cd_M_layerSample i_M (Nat.le_of_ble_eq_true rfl) (by rw [hR]; exact Nat.le_of_ble_eq_true rfl) (by rw [hR]; exact Nat.le_of_ble_eq_true rfl) (by rw [hR]; exact Nat.le_of_ble_eq_true rfl) (by rw [hR]; exact Nat.le_of_ble_eq_true rfl) rfl rfl (by decide) (by decide) (by decide) (inv_V C 0 d_sampleAt_26 l_M_377 im_M_layerSample se_M_layerSample cd_M_layerSample ⟨by decide, by decide⟩ ln_M_layerSample rfl rfl rfl rfl rfl) (fun oc L1 hL => ?_)
    obtain ⟨v26, S26, hp, rfl, rfl⟩ := hL
    refine ⟨_, rfl, ?_⟩
    refine aw_eq (lo' := _) (st' := [.int v26]) (L' := [(0, ly_M, (o, ad, S26.1, S26.2.1, S26.2.2))]) rfl rfl rfl ?_
    refine a_sipush (v := 128) C d_sampleAt_29 (by decide) ?_
    refine a_isub C d_sampleAt_32 ?_
    refine a_istore (lo' := [some (.ref o), some (.int x1), some (.int x2), some (.int x3), some (.int v4), some (.int (v26 - 128)), none, none]) C d_sampleAt_33 (by decide) rfl ?_
    refine a_aload_n C d_sampleAt_35 rfl rfl ?_
    refine a_iload_n C d_sampleAt_36 rfl rfl ?_
    refine a_iload_n C d_sampleAt_37 rfl rfl ?_
    refine a_iconst (v := 2) C d_sampleAt_38 (by decide) ?_
    refine a_call (Lr := []) (rest := []) (av := .ref o :: [.int x1, .int x2, .int 2]) C [0] [] d_sampleAt_39 (ct_layerSample x1 x2 2 (S26.1, S26.2.1, S26.2.2) hp) cd_M_layerSample i_M (Nat.le_of_ble_eq_true rfl) (by rw [hR]; exact Nat.le_of_ble_eq_true rfl) (by rw [hR]; exact Nat.le_of_ble_eq_true rfl) (by rw [hR]; exact Nat.le_of_ble_eq_true rfl) (by rw [hR]; exact Nat.le_of_ble_eq_true rfl) rfl rfl (by decide) (by decide) (by decide) (inv_V C 0 d_sampleAt_39 l_M_377 im_M_layerSample se_M_layerSample cd_M_layerSample ⟨by decide, by decide⟩ ln_M_layerSample rfl rfl rfl rfl rfl) (fun oc L1 hL => ?_)
    obtain ⟨v39, S39, hp, rfl, rfl⟩ := hL
    refine ⟨_, rfl, ?_⟩
    refine aw_eq (lo' := _) (st' := [.int v39]) (L' := [(0, ly_M, (o, ad, S39.1, S39.2.1, S39.2.2))]) rfl rfl rfl ?_
    refine a_sipush (v := 128) C d_sampleAt_42 (by decide) ?_
    refine a_isub C d_sampleAt_45 ?_
    refine a_istore (lo' := [some (.ref o), some (.int x1), some (.int x2), some (.int x3), some (.int v4), some (.int (v26 - 128)), some (.int (v39 - 128)), none]) C d_sampleAt_46 (by decide) rfl ?_
    refine a_iload_n C d_sampleAt_48 rfl rfl ?_
    refine a_if_ne (tgt := 70) C d_sampleAt_49 (by decide) ⟨fun hc => ?_, fun hc => ?_⟩
    · have hp := hp.1 hc
      refine a_iload_n C d_sampleAt_70 rfl rfl ?_
      refine a_iconst (v := 1) C d_sampleAt_71 (by decide) ?_
      refine a_icmp_ne (tgt := 100) C d_sampleAt_72 (by decide) ⟨fun hc => ?_, fun hc => ?_⟩
      · have hp := hp.1 hc
        refine a_iload C d_sampleAt_100 rfl ?_
        refine a_ldcw (v := 116130) C d_sampleAt_102 k_M_382 ?_
        refine a_iload C d_sampleAt_105 rfl ?_
        refine a_imul C d_sampleAt_107 ?_
        refine a_ldc (v := 32768) C d_sampleAt_108 k_M_26 ?_
        refine a_iadd C d_sampleAt_110 ?_
        refine a_bipush (v := 16) C d_sampleAt_111 (by decide) ?_
        refine a_ishr C d_sampleAt_113 ?_
        refine a_iadd C d_sampleAt_114 ?_
        refine aw_lo (lo' := [some (.ref o), none, none, none, none, none, none, none]) ⟨.inr rfl, .inl rfl, .inl rfl, .inl rfl, .inl rfl, .inl rfl, .inl rfl, .inr rfl, trivial⟩ ?_
        exact s_sampleAt_115 C hQ hA hR (v4 + (((116130 * (v26 - 128)) + 32768) >>> (16 &&& 31 : Int32) : Int32)) (S39.1, S39.2.1, S39.2.2)  hp
      · have hp := hp.2 hc
        refine a_iload C d_sampleAt_75 rfl ?_
        refine a_sipush (v := 22554) C d_sampleAt_77 (by decide) ?_
        refine a_iload C d_sampleAt_80 rfl ?_
        refine a_imul C d_sampleAt_82 ?_
        refine a_ldcw (v := 46802) C d_sampleAt_83 k_M_381 ?_
        refine a_iload C d_sampleAt_86 rfl ?_
        refine a_imul C d_sampleAt_88 ?_
        refine a_iadd C d_sampleAt_89 ?_
        refine a_ldc (v := 32768) C d_sampleAt_90 k_M_26 ?_
        refine a_iadd C d_sampleAt_92 ?_
        refine a_bipush (v := 16) C d_sampleAt_93 (by decide) ?_
        refine a_ishr C d_sampleAt_95 ?_
        refine a_isub C d_sampleAt_96 ?_
        refine a_goto (tgt := 115) C d_sampleAt_97 (by decide) ?_
        refine aw_lo (lo' := [some (.ref o), none, none, none, none, none, none, none]) ⟨.inr rfl, .inl rfl, .inl rfl, .inl rfl, .inl rfl, .inl rfl, .inl rfl, .inr rfl, trivial⟩ ?_
        exact s_sampleAt_115 C hQ hA hR (v4 - ((((22554 * (v26 - 128)) + (46802 * (v39 - 128))) + 32768) >>> (16 &&& 31 : Int32) : Int32)) (S39.1, S39.2.1, S39.2.2)  hp
    · have hp := hp.2 hc
      refine a_iload C d_sampleAt_52 rfl ?_
      refine a_ldcw (v := 91881) C d_sampleAt_54 k_M_380 ?_
      refine a_iload C d_sampleAt_57 rfl ?_
      refine a_imul C d_sampleAt_59 ?_
      refine a_ldc (v := 32768) C d_sampleAt_60 k_M_26 ?_
      refine a_iadd C d_sampleAt_62 ?_
      refine a_bipush (v := 16) C d_sampleAt_63 (by decide) ?_
      refine a_ishr C d_sampleAt_65 ?_
      refine a_iadd C d_sampleAt_66 ?_
      refine a_goto (tgt := 115) C d_sampleAt_67 (by decide) ?_
      refine aw_lo (lo' := [some (.ref o), none, none, none, none, none, none, none]) ⟨.inr rfl, .inl rfl, .inl rfl, .inl rfl, .inl rfl, .inl rfl, .inl rfl, .inr rfl, trivial⟩ ?_
      exact s_sampleAt_115 C hQ hA hR (v4 + (((91881 * (v39 - 128)) + 32768) >>> (16 &&& 31 : Int32) : Int32)) (S39.1, S39.2.1, S39.2.2)  hp
  · have hp := hp.2 hc
    refine a_iload C d_sampleAt_19 rfl ?_
    exact a_iret (ty := .int) C hQ hA d_sampleAt_21 rfl rfl ⟨_, (S4.1, S4.2.1, S4.2.2), hp, rfl, rfl⟩
end M_sampleAt
section M_sampleAtc
variable {D : va_G} {z : Nat → ClassId} {o : Nat} {ad : Nat → Nat}
set_option maxRecDepth 100000 in
theorem ct_sampleAt {l : Launch} (x1 : Int32) (x2 : Int32) (x3 : Int32) (S : ms) {K : Int32 → ms → Prop} (hp : p_sampleAt x1 x2 x3 S K) : ct gG D z l n_M_sampleAt c_M_sampleAt 8 (some .int) 3 300 [.ref o, .int x1, .int x2, .int x3] [(0, ly_M, (o, ad, S.1, S.2.1, S.2.2))] 0 0 (pM_i K o ad) := by
  refine ct_of (lo := [some (.ref o), some (.int x1), some (.int x2), some (.int x3), none, none, none, none]) (by decide) g_ok (Nat.le_of_ble_eq_true rfl) rfl ?_
  intro X A _ C hR hQ hA _
  exact s_sampleAt_0 C hQ hA hR x1 x2 x3 S hp
end M_sampleAtc
def b_sample_86 (s0 : Int32) (S : ms) (K : Int32 → ms → Prop) : Prop :=
  K s0 S
def b_sample_65 (x1 : Int32) (x2 : Int32) (x3 : Int32) (s1 : Int32) (S : ms) (K : Int32 → ms → Prop) : Prop :=
  (((upd S.1 0 s1) 0) ≤ 0 → (p_sampleAt x1 x2 x3 (upd S.1 0 s1, S.2.1, S.2.2) (fun v83 S83 => b_sample_86 v83 (S83.1, S83.2.1, S83.2.2) K))) ∧ (¬ (((upd S.1 0 s1) 0) ≤ 0) → (b_sample_86 0 (upd S.1 0 s1, S.2.1, S.2.2) K))
def b_sample_60 (x1 : Int32) (x2 : Int32) (x3 : Int32) (S : ms) (K : Int32 → ms → Prop) : Prop :=
  b_sample_65 x1 x2 x3 2 S K
def p_sample (x1 : Int32) (x2 : Int32) (x3 : Int32) (S : ms) (K : Int32 → ms → Prop) : Prop :=
  vp_in 1 3 ∧ ((¬ (S.2.1 11 (1 : Int32).toNatClampNeg) = 0 → ((x1 < 0 → (b_sample_60 x1 x2 x3 S K)) ∧ (¬ (x1 < 0) → (vp_in 1 3 ∧ (((S.2.1 12 (1 : Int32).toNatClampNeg) ≤ x1 → (b_sample_60 x1 x2 x3 S K)) ∧ (¬ ((S.2.1 12 (1 : Int32).toNatClampNeg) ≤ x1) → ((x2 < 0 → (b_sample_60 x1 x2 x3 S K)) ∧ (¬ (x2 < 0) → (vp_in 1 3 ∧ (((S.2.1 13 (1 : Int32).toNatClampNeg) ≤ x2 → (b_sample_60 x1 x2 x3 S K)) ∧ (¬ ((S.2.1 13 (1 : Int32).toNatClampNeg) ≤ x2) → ((x3 < 0 → (b_sample_60 x1 x2 x3 S K)) ∧ (¬ (x3 < 0) → (vp_in 1 3 ∧ ((x3 < (S.2.1 14 (1 : Int32).toNatClampNeg) → (b_sample_65 x1 x2 x3 0 S K)) ∧ (¬ (x3 < (S.2.1 14 (1 : Int32).toNatClampNeg)) → (b_sample_60 x1 x2 x3 S K))))))))))))))))) ∧ ((S.2.1 11 (1 : Int32).toNatClampNeg) = 0 → (b_sample_65 x1 x2 x3 1 S K)))
section M_sample
variable {D : va_G} {z : Nat → ClassId} {A : Nat → Prop} {X : cx} {L0 : fw} {K : Int32 → ms → Prop} {o : Nat} {ad : Nat → Nat}
set_option maxRecDepth 100000 in
set_option maxHeartbeats 1000000 in
theorem s_sample_86 (C : fcx gG D z A X R_M c_M_sample 5 (some .int)) (hQ : X.2.2.2.2.2.2.2.2.2.2 = eQ gG D z X.2.2.2.2.2.2.2.1 X.2.2.2.2.1 L0 0 0 (pM_i K o ad)) (hA : A = owA gG L0 X.2.2.2.2.1.heap.size) (hR : X.2.2.2.1 = { frames := 4, cells := 1, slots := 6, locals := 400 }) (s0 : Int32) (S : ms) (hp : b_sample_86 s0 S K) : aw gG D z A X 5 86 [some (.ref o), none, none, none, none] [.int s0] [(0, ly_M, (o, ad, S.1, S.2.1, S.2.2))] 0 0 := by
  unfold b_sample_86 at hp
  exact a_iret (ty := .int) C hQ hA d_sample_86 rfl rfl ⟨_, S, hp, rfl, rfl⟩
set_option maxRecDepth 100000 in
set_option maxHeartbeats 1000000 in
theorem s_sample_65 (C : fcx gG D z A X R_M c_M_sample 5 (some .int)) (hQ : X.2.2.2.2.2.2.2.2.2.2 = eQ gG D z X.2.2.2.2.2.2.2.1 X.2.2.2.2.1 L0 0 0 (pM_i K o ad)) (hA : A = owA gG L0 X.2.2.2.2.1.heap.size) (hR : X.2.2.2.1 = { frames := 4, cells := 1, slots := 6, locals := 400 }) (x1 : Int32) (x2 : Int32) (x3 : Int32) (s1 : Int32) (S : ms) (hp : b_sample_65 x1 x2 x3 s1 S K) : aw gG D z A X 5 65 [some (.ref o), some (.int x1), some (.int x2), some (.int x3), none] [.int s1, .ref o] [(0, ly_M, (o, ad, S.1, S.2.1, S.2.2))] 0 0 := by
  unfold b_sample_65 at hp
  refine a_putI (ty := .int) C 0 0 d_sample_65 rfl rfl rfl (Nat.le_of_ble_eq_true rfl) f_M_146 (Nat.le_of_ble_eq_true rfl) rfl rfl rfl rfl ?_
  refine aw_eq (lo' := _) (st' := _) (L' := [(0, ly_M, (o, ad, upd S.1 0 s1, S.2.1, S.2.2))]) rfl rfl rfl ?_
  refine a_aload_n C d_sample_68 rfl rfl ?_
  refine a_getI C 0 0 d_sample_69 rfl rfl rfl (Nat.le_of_ble_eq_true rfl) f_M_146 (Nat.le_of_ble_eq_true rfl) ?_
  refine a_if_le (tgt := 79) C d_sample_72 (by decide) ⟨fun hc => ?_, fun hc => ?_⟩
  · have hp := hp.1 hc
    refine a_aload_n C d_sample_79 rfl rfl ?_
    refine a_iload_n C d_sample_80 rfl rfl ?_
    refine a_iload_n C d_sample_81 rfl rfl ?_
    refine a_iload_n C d_sample_82 rfl rfl ?_
    refine a_call (Lr := []) (rest := []) (av := .ref o :: [.int x1, .int x2, .int x3]) C [0] [] d_sample_83 (ct_sampleAt x1 x2 x3 (upd S.1 0 s1, S.2.1, S.2.2) hp) cd_M_sampleAt i_M (Nat.le_of_ble_eq_true rfl) (by rw [hR]; exact Nat.le_of_ble_eq_true rfl) (by rw [hR]; exact Nat.le_of_ble_eq_true rfl) (by rw [hR]; exact Nat.le_of_ble_eq_true rfl) (by rw [hR]; exact Nat.le_of_ble_eq_true rfl) rfl rfl (by decide) (by decide) (by decide) (inv_V C 0 d_sample_83 l_M_383 im_M_sampleAt se_M_sampleAt cd_M_sampleAt ⟨by decide, by decide⟩ ln_M_sampleAt rfl rfl rfl rfl rfl) (fun oc L1 hL => ?_)
    obtain ⟨v83, S83, hp, rfl, rfl⟩ := hL
    refine ⟨_, rfl, ?_⟩
    refine aw_eq (lo' := _) (st' := [.int v83]) (L' := [(0, ly_M, (o, ad, S83.1, S83.2.1, S83.2.2))]) rfl rfl rfl ?_
    refine aw_lo (lo' := [some (.ref o), none, none, none, none]) ⟨.inr rfl, .inl rfl, .inl rfl, .inl rfl, .inr rfl, trivial⟩ ?_
    exact s_sample_86 C hQ hA hR v83 (S83.1, S83.2.1, S83.2.2)  hp
  · have hp := hp.2 hc
    refine a_iconst (v := 0) C d_sample_75 (by decide) ?_
    refine a_goto (tgt := 86) C d_sample_76 (by decide) ?_
    refine aw_lo (lo' := [some (.ref o), none, none, none, none]) ⟨.inr rfl, .inl rfl, .inl rfl, .inl rfl, .inr rfl, trivial⟩ ?_
    exact s_sample_86 C hQ hA hR 0 (upd S.1 0 s1, S.2.1, S.2.2)  hp
set_option maxRecDepth 100000 in
set_option maxHeartbeats 1000000 in
theorem s_sample_60 (C : fcx gG D z A X R_M c_M_sample 5 (some .int)) (hQ : X.2.2.2.2.2.2.2.2.2.2 = eQ gG D z X.2.2.2.2.2.2.2.1 X.2.2.2.2.1 L0 0 0 (pM_i K o ad)) (hA : A = owA gG L0 X.2.2.2.2.1.heap.size) (hR : X.2.2.2.1 = { frames := 4, cells := 1, slots := 6, locals := 400 }) (x1 : Int32) (x2 : Int32) (x3 : Int32) (S : ms) (hp : b_sample_60 x1 x2 x3 S K) : aw gG D z A X 5 60 [some (.ref o), some (.int x1), some (.int x2), some (.int x3), none] [.ref o] [(0, ly_M, (o, ad, S.1, S.2.1, S.2.2))] 0 0 := by
  unfold b_sample_60 at hp
  refine a_iconst (v := 2) C d_sample_60 (by decide) ?_
  refine a_goto (tgt := 65) C d_sample_61 (by decide) ?_
  refine aw_lo (lo' := [some (.ref o), some (.int x1), some (.int x2), some (.int x3), none]) ⟨.inr rfl, .inr rfl, .inr rfl, .inr rfl, .inr rfl, trivial⟩ ?_
  exact s_sample_65 C hQ hA hR x1 x2 x3 2 S  hp
set_option maxRecDepth 100000 in
set_option maxHeartbeats 1000000 in
theorem s_sample_0 (C : fcx gG D z A X R_M c_M_sample 5 (some .int)) (hQ : X.2.2.2.2.2.2.2.2.2.2 = eQ gG D z X.2.2.2.2.2.2.2.1 X.2.2.2.2.1 L0 0 0 (pM_i K o ad)) (hA : A = owA gG L0 X.2.2.2.2.1.heap.size) (hR : X.2.2.2.1 = { frames := 4, cells := 1, slots := 6, locals := 400 }) (x1 : Int32) (x2 : Int32) (x3 : Int32) (S : ms) (hp : p_sample x1 x2 x3 S K) : aw gG D z A X 5 0 [some (.ref o), some (.int x1), some (.int x2), some (.int x3), none] [] [(0, ly_M, (o, ad, S.1, S.2.1, S.2.2))] 0 0 := by
  unfold p_sample at hp
  refine a_aload_n C d_sample_0 rfl rfl ?_
  refine a_getR C 0 11 d_sample_1 rfl rfl rfl (Nat.le_of_ble_eq_true rfl) f_M_37 ⟨Nat.le_of_ble_eq_true rfl, Nat.le_of_ble_eq_true rfl⟩ ?_
  refine a_iconst (v := 1) C d_sample_4 (by decide) ?_
  refine a_zald C 0 11 d_sample_5 rfl rfl rfl hp.1 ?_
  have hp := hp.2
  refine a_istore (lo' := [some (.ref o), some (.int x1), some (.int x2), some (.int x3), some (.int (S.2.1 11 (1 : Int32).toNatClampNeg))]) C d_sample_6 (by decide) rfl ?_
  refine a_aload_n C d_sample_8 rfl rfl ?_
  refine a_iload C d_sample_9 rfl ?_
  refine a_if_ne (tgt := 18) C d_sample_11 (by decide) ⟨fun hc => ?_, fun hc => ?_⟩
  · have hp := hp.1 hc
    refine a_iload_n C d_sample_18 rfl rfl ?_
    refine a_if_lt (tgt := 60) C d_sample_19 (by decide) ⟨fun hc => ?_, fun hc => ?_⟩
    · have hp := hp.1 hc
      refine aw_lo (lo' := [some (.ref o), some (.int x1), some (.int x2), some (.int x3), none]) ⟨.inr rfl, .inr rfl, .inr rfl, .inr rfl, .inl rfl, trivial⟩ ?_
      exact s_sample_60 C hQ hA hR x1 x2 x3 S  hp
    · have hp := hp.2 hc
      refine a_iload_n C d_sample_22 rfl rfl ?_
      refine a_aload_n C d_sample_23 rfl rfl ?_
      refine a_getR C 0 12 d_sample_24 rfl rfl rfl (Nat.le_of_ble_eq_true rfl) f_M_41 ⟨Nat.le_of_ble_eq_true rfl, Nat.le_of_ble_eq_true rfl⟩ ?_
      refine a_iconst (v := 1) C d_sample_27 (by decide) ?_
      refine a_iald C 0 12 d_sample_28 rfl rfl rfl hp.1 ?_
      have hp := hp.2
      refine a_icmp_ge (tgt := 60) C d_sample_29 (by decide) ⟨fun hc => ?_, fun hc => ?_⟩
      · have hp := hp.1 hc
        refine aw_lo (lo' := [some (.ref o), some (.int x1), some (.int x2), some (.int x3), none]) ⟨.inr rfl, .inr rfl, .inr rfl, .inr rfl, .inl rfl, trivial⟩ ?_
        exact s_sample_60 C hQ hA hR x1 x2 x3 S  hp
      · have hp := hp.2 hc
        refine a_iload_n C d_sample_32 rfl rfl ?_
        refine a_if_lt (tgt := 60) C d_sample_33 (by decide) ⟨fun hc => ?_, fun hc => ?_⟩
        · have hp := hp.1 hc
          refine aw_lo (lo' := [some (.ref o), some (.int x1), some (.int x2), some (.int x3), none]) ⟨.inr rfl, .inr rfl, .inr rfl, .inr rfl, .inl rfl, trivial⟩ ?_
          exact s_sample_60 C hQ hA hR x1 x2 x3 S  hp
        · have hp := hp.2 hc
          refine a_iload_n C d_sample_36 rfl rfl ?_
          refine a_aload_n C d_sample_37 rfl rfl ?_
          refine a_getR C 0 13 d_sample_38 rfl rfl rfl (Nat.le_of_ble_eq_true rfl) f_M_44 ⟨Nat.le_of_ble_eq_true rfl, Nat.le_of_ble_eq_true rfl⟩ ?_
          refine a_iconst (v := 1) C d_sample_41 (by decide) ?_
          refine a_iald C 0 13 d_sample_42 rfl rfl rfl hp.1 ?_
          have hp := hp.2
          refine a_icmp_ge (tgt := 60) C d_sample_43 (by decide) ⟨fun hc => ?_, fun hc => ?_⟩
          · have hp := hp.1 hc
            refine aw_lo (lo' := [some (.ref o), some (.int x1), some (.int x2), some (.int x3), none]) ⟨.inr rfl, .inr rfl, .inr rfl, .inr rfl, .inl rfl, trivial⟩ ?_
            exact s_sample_60 C hQ hA hR x1 x2 x3 S  hp
          · have hp := hp.2 hc
            refine a_iload_n C d_sample_46 rfl rfl ?_
            refine a_if_lt (tgt := 60) C d_sample_47 (by decide) ⟨fun hc => ?_, fun hc => ?_⟩
            · have hp := hp.1 hc
              refine aw_lo (lo' := [some (.ref o), some (.int x1), some (.int x2), some (.int x3), none]) ⟨.inr rfl, .inr rfl, .inr rfl, .inr rfl, .inl rfl, trivial⟩ ?_
              exact s_sample_60 C hQ hA hR x1 x2 x3 S  hp
            · have hp := hp.2 hc
              refine a_iload_n C d_sample_50 rfl rfl ?_
              refine a_aload_n C d_sample_51 rfl rfl ?_
              refine a_getR C 0 14 d_sample_52 rfl rfl rfl (Nat.le_of_ble_eq_true rfl) f_M_47 ⟨Nat.le_of_ble_eq_true rfl, Nat.le_of_ble_eq_true rfl⟩ ?_
              refine a_iconst (v := 1) C d_sample_55 (by decide) ?_
              refine a_iald C 0 14 d_sample_56 rfl rfl rfl hp.1 ?_
              have hp := hp.2
              refine a_icmp_lt (tgt := 64) C d_sample_57 (by decide) ⟨fun hc => ?_, fun hc => ?_⟩
              · have hp := hp.1 hc
                refine a_iconst (v := 0) C d_sample_64 (by decide) ?_
                refine aw_lo (lo' := [some (.ref o), some (.int x1), some (.int x2), some (.int x3), none]) ⟨.inr rfl, .inr rfl, .inr rfl, .inr rfl, .inl rfl, trivial⟩ ?_
                exact s_sample_65 C hQ hA hR x1 x2 x3 0 S  hp
              · have hp := hp.2 hc
                refine aw_lo (lo' := [some (.ref o), some (.int x1), some (.int x2), some (.int x3), none]) ⟨.inr rfl, .inr rfl, .inr rfl, .inr rfl, .inl rfl, trivial⟩ ?_
                exact s_sample_60 C hQ hA hR x1 x2 x3 S  hp
  · have hp := hp.2 hc
    refine a_iconst (v := 1) C d_sample_14 (by decide) ?_
    refine a_goto (tgt := 65) C d_sample_15 (by decide) ?_
    refine aw_lo (lo' := [some (.ref o), some (.int x1), some (.int x2), some (.int x3), none]) ⟨.inr rfl, .inr rfl, .inr rfl, .inr rfl, .inl rfl, trivial⟩ ?_
    exact s_sample_65 C hQ hA hR x1 x2 x3 1 S  hp
end M_sample
section M_samplec
variable {D : va_G} {z : Nat → ClassId} {o : Nat} {ad : Nat → Nat}
set_option maxRecDepth 100000 in
theorem ct_sample {l : Launch} (x1 : Int32) (x2 : Int32) (x3 : Int32) (S : ms) {K : Int32 → ms → Prop} (hp : p_sample x1 x2 x3 S K) : ct gG D z l n_M_sample c_M_sample 5 (some .int) 4 400 [.ref o, .int x1, .int x2, .int x3] [(0, ly_M, (o, ad, S.1, S.2.1, S.2.2))] 0 0 (pM_i K o ad) := by
  refine ct_of (lo := [some (.ref o), some (.int x1), some (.int x2), some (.int x3), none]) (by decide) g_ok (Nat.le_of_ble_eq_true rfl) rfl ?_
  intro X A _ C hR hQ hA _
  exact s_sample_0 C hQ hA hR x1 x2 x3 S hp
end M_samplec
def b_level_148 (s0 : Int32) (S : ms) (K : Int32 → ms → Prop) : Prop :=
  K s0 S
def b_level_123 (x1 : Int32) (x2 : Int32) (x3 : Int32) (x4 : Int32) (x5 : Int32) (s1 : Int32) (S : ms) (K : Int32 → ms → Prop) : Prop :=
  (x5 = 0 → (b_level_148 0 (upd S.1 0 s1, S.2.1, S.2.2) K)) ∧ (¬ (x5 = 0) → (p_levelCell x1 x2 x3 x4 (fun v140 => vp_in v140 36864 ∧ (b_level_148 (S.2.1 19 v140.toNatClampNeg) (upd S.1 0 s1, S.2.1, S.2.2) K))))
def b_level_110 (x1 : Int32) (x2 : Int32) (x3 : Int32) (x4 : Int32) (s0 : Int32) (S : ms) (K : Int32 → ms → Prop) : Prop :=
  (s0 = 0 → (b_level_123 x1 x2 x3 x4 s0 3 S K)) ∧ (¬ (s0 = 0) → (b_level_123 x1 x2 x3 x4 s0 0 S K))
def b_level_109 (x1 : Int32) (x2 : Int32) (x3 : Int32) (x4 : Int32) (S : ms) (K : Int32 → ms → Prop) : Prop :=
  b_level_110 x1 x2 x3 x4 0 S K
def b_level_73 (x1 : Int32) (x2 : Int32) (x3 : Int32) (x4 : Int32) (s0 : Int32) (S : ms) (K : Int32 → ms → Prop) : Prop :=
  (s0 = 0 → (b_level_109 x1 x2 x3 x4 S K)) ∧ (¬ (s0 = 0) → (vp_in ((3 * x1) + x2) 9 ∧ (vp_in ((3 * x1) + x2) 9 ∧ ((((S.2.1 17 ((3 * x1) + x2).toNatClampNeg) * (S.2.1 18 ((3 * x1) + x2).toNatClampNeg)) ≤ x3 → (b_level_109 x1 x2 x3 x4 S K)) ∧ (¬ (((S.2.1 17 ((3 * x1) + x2).toNatClampNeg) * (S.2.1 18 ((3 * x1) + x2).toNatClampNeg)) ≤ x3) → (b_level_110 x1 x2 x3 x4 1 S K))))))
def b_level_72 (x1 : Int32) (x2 : Int32) (x3 : Int32) (x4 : Int32) (S : ms) (K : Int32 → ms → Prop) : Prop :=
  b_level_73 x1 x2 x3 x4 0 S K
def b_level_33 (s1 : Int32) (S : ms) (K : Int32 → ms → Prop) : Prop :=
  K 0 (upd S.1 0 s1, S.2.1, S.2.2)
def b_level_28  (S : ms) (K : Int32 → ms → Prop) : Prop :=
  b_level_33 1 S K
def b_level_18 (x1 : Int32) (S : ms) (K : Int32 → ms → Prop) : Prop :=
  (x1 < 0 → (b_level_28 S K)) ∧ (¬ (x1 < 0) → ((x1 ≤ 1 → (b_level_33 2 S K)) ∧ (¬ (x1 ≤ 1) → (b_level_28 S K))))
def p_level (x1 : Int32) (x2 : Int32) (x3 : Int32) (x4 : Int32) (S : ms) (K : Int32 → ms → Prop) : Prop :=
  (x1 < 0 → (b_level_18 x1 S K)) ∧ (¬ (x1 < 0) → ((1 < x1 → (b_level_18 x1 S K)) ∧ (¬ (1 < x1) → (vp_in x1 3 ∧ ((¬ (S.2.1 11 x1.toNatClampNeg) = 0 → ((x2 < 0 → (b_level_72 x1 x2 x3 x4 S K)) ∧ (¬ (x2 < 0) → (vp_in x1 3 ∧ (((S.2.1 14 x1.toNatClampNeg) ≤ x2 → (b_level_72 x1 x2 x3 x4 S K)) ∧ (¬ ((S.2.1 14 x1.toNatClampNeg) ≤ x2) → ((x4 < 0 → (b_level_72 x1 x2 x3 x4 S K)) ∧ (¬ (x4 < 0) → ((64 ≤ x4 → (b_level_72 x1 x2 x3 x4 S K)) ∧ (¬ (64 ≤ x4) → ((x3 < 0 → (b_level_72 x1 x2 x3 x4 S K)) ∧ (¬ (x3 < 0) → (b_level_73 x1 x2 x3 x4 1 S K))))))))))))) ∧ ((S.2.1 11 x1.toNatClampNeg) = 0 → (b_level_18 x1 S K)))))))
section M_level
variable {D : va_G} {z : Nat → ClassId} {A : Nat → Prop} {X : cx} {L0 : fw} {K : Int32 → ms → Prop} {o : Nat} {ad : Nat → Nat}
set_option maxRecDepth 100000 in
set_option maxHeartbeats 1000000 in
theorem s_level_148 (C : fcx gG D z A X R_M c_M_level 6 (some .int)) (hQ : X.2.2.2.2.2.2.2.2.2.2 = eQ gG D z X.2.2.2.2.2.2.2.1 X.2.2.2.2.1 L0 0 0 (pM_i K o ad)) (hA : A = owA gG L0 X.2.2.2.2.1.heap.size) (hR : X.2.2.2.1 = { frames := 2, cells := 1, slots := 6, locals := 200 }) (s0 : Int32) (S : ms) (hp : b_level_148 s0 S K) : aw gG D z A X 6 148 [some (.ref o), none, none, none, none, none] [.int s0] [(0, ly_M, (o, ad, S.1, S.2.1, S.2.2))] 0 0 := by
  unfold b_level_148 at hp
  exact a_iret (ty := .int) C hQ hA d_level_148 rfl rfl ⟨_, S, hp, rfl, rfl⟩
set_option maxRecDepth 100000 in
set_option maxHeartbeats 1000000 in
theorem s_level_123 (C : fcx gG D z A X R_M c_M_level 6 (some .int)) (hQ : X.2.2.2.2.2.2.2.2.2.2 = eQ gG D z X.2.2.2.2.2.2.2.1 X.2.2.2.2.1 L0 0 0 (pM_i K o ad)) (hA : A = owA gG L0 X.2.2.2.2.1.heap.size) (hR : X.2.2.2.1 = { frames := 2, cells := 1, slots := 6, locals := 200 }) (x1 : Int32) (x2 : Int32) (x3 : Int32) (x4 : Int32) (x5 : Int32) (s1 : Int32) (S : ms) (hp : b_level_123 x1 x2 x3 x4 x5 s1 S K) : aw gG D z A X 6 123 [some (.ref o), some (.int x1), some (.int x2), some (.int x3), some (.int x4), some (.int x5)] [.int s1, .ref o] [(0, ly_M, (o, ad, S.1, S.2.1, S.2.2))] 0 0 := by
  unfold b_level_123 at hp
  refine a_putI (ty := .int) C 0 0 d_level_123 rfl rfl rfl (Nat.le_of_ble_eq_true rfl) f_M_146 (Nat.le_of_ble_eq_true rfl) rfl rfl rfl rfl ?_
  refine aw_eq (lo' := _) (st' := _) (L' := [(0, ly_M, (o, ad, upd S.1 0 s1, S.2.1, S.2.2))]) rfl rfl rfl ?_
  refine a_iload C d_level_126 rfl ?_
  refine a_if_eq (tgt := 147) C d_level_128 (by decide) ⟨fun hc => ?_, fun hc => ?_⟩
  · have hp := hp.1 hc
    refine a_iconst (v := 0) C d_level_147 (by decide) ?_
    refine aw_lo (lo' := [some (.ref o), none, none, none, none, none]) ⟨.inr rfl, .inl rfl, .inl rfl, .inl rfl, .inl rfl, .inl rfl, trivial⟩ ?_
    exact s_level_148 C hQ hA hR 0 (upd S.1 0 s1, S.2.1, S.2.2)  hp
  · have hp := hp.2 hc
    refine a_aload_n C d_level_131 rfl rfl ?_
    refine a_getR C 0 19 d_level_132 rfl rfl rfl (Nat.le_of_ble_eq_true rfl) f_M_63 ⟨Nat.le_of_ble_eq_true rfl, Nat.le_of_ble_eq_true rfl⟩ ?_
    refine a_iload_n C d_level_135 rfl rfl ?_
    refine a_iload_n C d_level_136 rfl rfl ?_
    refine a_iload_n C d_level_137 rfl rfl ?_
    refine a_iload C d_level_138 rfl ?_
    refine a_call (Lr := [(0, ly_M, (o, ad, upd S.1 0 s1, S.2.1, S.2.2))]) (rest := [.ref (ad 19)]) (av := [.int x1, .int x2, .int x3, .int x4]) C [] [0] d_level_140 (ct_levelCell x1 x2 x3 x4 hp) cd_M_levelCell i_M (Nat.le_of_ble_eq_true rfl) (by rw [hR]; exact Nat.le_of_ble_eq_true rfl) (by rw [hR]; exact Nat.le_of_ble_eq_true rfl) (by rw [hR]; exact Nat.le_of_ble_eq_true rfl) (by rw [hR]; exact Nat.le_of_ble_eq_true rfl) rfl rfl (by decide) (by decide) (by decide) (inv_S C d_level_140 l_M_193 st_M_levelCell i_M cd_M_levelCell ⟨by decide, by decide⟩ ln_M_levelCell rfl) (fun oc L1 hL => ?_)
    obtain ⟨v140, hp, rfl, rfl⟩ := hL
    refine ⟨_, rfl, ?_⟩
    refine aw_eq (lo' := _) (st' := [.int v140, .ref (ad 19)]) (L' := [(0, ly_M, (o, ad, upd S.1 0 s1, S.2.1, S.2.2))]) rfl rfl rfl ?_
    refine a_iald C 0 19 d_level_143 rfl rfl rfl hp.1 ?_
    have hp := hp.2
    refine a_goto (tgt := 148) C d_level_144 (by decide) ?_
    refine aw_lo (lo' := [some (.ref o), none, none, none, none, none]) ⟨.inr rfl, .inl rfl, .inl rfl, .inl rfl, .inl rfl, .inl rfl, trivial⟩ ?_
    exact s_level_148 C hQ hA hR (S.2.1 19 v140.toNatClampNeg) (upd S.1 0 s1, S.2.1, S.2.2)  hp
set_option maxRecDepth 100000 in
set_option maxHeartbeats 1000000 in
theorem s_level_110 (C : fcx gG D z A X R_M c_M_level 6 (some .int)) (hQ : X.2.2.2.2.2.2.2.2.2.2 = eQ gG D z X.2.2.2.2.2.2.2.1 X.2.2.2.2.1 L0 0 0 (pM_i K o ad)) (hA : A = owA gG L0 X.2.2.2.2.1.heap.size) (hR : X.2.2.2.1 = { frames := 2, cells := 1, slots := 6, locals := 200 }) (x1 : Int32) (x2 : Int32) (x3 : Int32) (x4 : Int32) (s0 : Int32) (S : ms) (hp : b_level_110 x1 x2 x3 x4 s0 S K) : aw gG D z A X 6 110 [some (.ref o), some (.int x1), some (.int x2), some (.int x3), some (.int x4), none] [.int s0] [(0, ly_M, (o, ad, S.1, S.2.1, S.2.2))] 0 0 := by
  unfold b_level_110 at hp
  refine a_istore (lo' := [some (.ref o), some (.int x1), some (.int x2), some (.int x3), some (.int x4), some (.int s0)]) C d_level_110 (by decide) rfl ?_
  refine a_aload_n C d_level_112 rfl rfl ?_
  refine a_iload C d_level_113 rfl ?_
  refine a_if_eq (tgt := 122) C d_level_115 (by decide) ⟨fun hc => ?_, fun hc => ?_⟩
  · have hp := hp.1 hc
    refine a_iconst (v := 3) C d_level_122 (by decide) ?_
    refine aw_lo (lo' := [some (.ref o), some (.int x1), some (.int x2), some (.int x3), some (.int x4), some (.int s0)]) ⟨.inr rfl, .inr rfl, .inr rfl, .inr rfl, .inr rfl, .inr rfl, trivial⟩ ?_
    exact s_level_123 C hQ hA hR x1 x2 x3 x4 s0 3 S  hp
  · have hp := hp.2 hc
    refine a_iconst (v := 0) C d_level_118 (by decide) ?_
    refine a_goto (tgt := 123) C d_level_119 (by decide) ?_
    refine aw_lo (lo' := [some (.ref o), some (.int x1), some (.int x2), some (.int x3), some (.int x4), some (.int s0)]) ⟨.inr rfl, .inr rfl, .inr rfl, .inr rfl, .inr rfl, .inr rfl, trivial⟩ ?_
    exact s_level_123 C hQ hA hR x1 x2 x3 x4 s0 0 S  hp
set_option maxRecDepth 100000 in
set_option maxHeartbeats 1000000 in
theorem s_level_109 (C : fcx gG D z A X R_M c_M_level 6 (some .int)) (hQ : X.2.2.2.2.2.2.2.2.2.2 = eQ gG D z X.2.2.2.2.2.2.2.1 X.2.2.2.2.1 L0 0 0 (pM_i K o ad)) (hA : A = owA gG L0 X.2.2.2.2.1.heap.size) (hR : X.2.2.2.1 = { frames := 2, cells := 1, slots := 6, locals := 200 }) (x1 : Int32) (x2 : Int32) (x3 : Int32) (x4 : Int32) (S : ms) (hp : b_level_109 x1 x2 x3 x4 S K) : aw gG D z A X 6 109 [some (.ref o), some (.int x1), some (.int x2), some (.int x3), some (.int x4), none] [] [(0, ly_M, (o, ad, S.1, S.2.1, S.2.2))] 0 0 := by
  unfold b_level_109 at hp
  refine a_iconst (v := 0) C d_level_109 (by decide) ?_
  refine aw_lo (lo' := [some (.ref o), some (.int x1), some (.int x2), some (.int x3), some (.int x4), none]) ⟨.inr rfl, .inr rfl, .inr rfl, .inr rfl, .inr rfl, .inr rfl, trivial⟩ ?_
  exact s_level_110 C hQ hA hR x1 x2 x3 x4 0 S  hp
set_option maxRecDepth 100000 in
set_option maxHeartbeats 1000000 in
theorem s_level_73 (C : fcx gG D z A X R_M c_M_level 6 (some .int)) (hQ : X.2.2.2.2.2.2.2.2.2.2 = eQ gG D z X.2.2.2.2.2.2.2.1 X.2.2.2.2.1 L0 0 0 (pM_i K o ad)) (hA : A = owA gG L0 X.2.2.2.2.1.heap.size) (hR : X.2.2.2.1 = { frames := 2, cells := 1, slots := 6, locals := 200 }) (x1 : Int32) (x2 : Int32) (x3 : Int32) (x4 : Int32) (s0 : Int32) (S : ms) (hp : b_level_73 x1 x2 x3 x4 s0 S K) : aw gG D z A X 6 73 [some (.ref o), some (.int x1), some (.int x2), some (.int x3), some (.int x4), none] [.int s0] [(0, ly_M, (o, ad, S.1, S.2.1, S.2.2))] 0 0 := by
  unfold b_level_73 at hp
  refine a_istore (lo' := [some (.ref o), some (.int x1), some (.int x2), some (.int x3), some (.int x4), some (.int s0)]) C d_level_73 (by decide) rfl ?_
  refine a_iload C d_level_75 rfl ?_
  refine a_if_eq (tgt := 109) C d_level_77 (by decide) ⟨fun hc => ?_, fun hc => ?_⟩
  · have hp := hp.1 hc
    refine aw_lo (lo' := [some (.ref o), some (.int x1), some (.int x2), some (.int x3), some (.int x4), none]) ⟨.inr rfl, .inr rfl, .inr rfl, .inr rfl, .inr rfl, .inl rfl, trivial⟩ ?_
    exact s_level_109 C hQ hA hR x1 x2 x3 x4 S  hp
  · have hp := hp.2 hc
    refine a_iload_n C d_level_80 rfl rfl ?_
    refine a_aload_n C d_level_81 rfl rfl ?_
    refine a_getR C 0 17 d_level_82 rfl rfl rfl (Nat.le_of_ble_eq_true rfl) f_M_56 ⟨Nat.le_of_ble_eq_true rfl, Nat.le_of_ble_eq_true rfl⟩ ?_
    refine a_iconst (v := 3) C d_level_85 (by decide) ?_
    refine a_iload_n C d_level_86 rfl rfl ?_
    refine a_imul C d_level_87 ?_
    refine a_iload_n C d_level_88 rfl rfl ?_
    refine a_iadd C d_level_89 ?_
    refine a_iald C 0 17 d_level_90 rfl rfl rfl hp.1 ?_
    have hp := hp.2
    refine a_aload_n C d_level_91 rfl rfl ?_
    refine a_getR C 0 18 d_level_92 rfl rfl rfl (Nat.le_of_ble_eq_true rfl) f_M_59 ⟨Nat.le_of_ble_eq_true rfl, Nat.le_of_ble_eq_true rfl⟩ ?_
    refine a_iconst (v := 3) C d_level_95 (by decide) ?_
    refine a_iload_n C d_level_96 rfl rfl ?_
    refine a_imul C d_level_97 ?_
    refine a_iload_n C d_level_98 rfl rfl ?_
    refine a_iadd C d_level_99 ?_
    refine a_iald C 0 18 d_level_100 rfl rfl rfl hp.1 ?_
    have hp := hp.2
    refine a_imul C d_level_101 ?_
    refine a_icmp_ge (tgt := 109) C d_level_102 (by decide) ⟨fun hc => ?_, fun hc => ?_⟩
    · have hp := hp.1 hc
      refine aw_lo (lo' := [some (.ref o), some (.int x1), some (.int x2), some (.int x3), some (.int x4), none]) ⟨.inr rfl, .inr rfl, .inr rfl, .inr rfl, .inr rfl, .inl rfl, trivial⟩ ?_
      exact s_level_109 C hQ hA hR x1 x2 x3 x4 S  hp
    · have hp := hp.2 hc
      refine a_iconst (v := 1) C d_level_105 (by decide) ?_
      refine a_goto (tgt := 110) C d_level_106 (by decide) ?_
      refine aw_lo (lo' := [some (.ref o), some (.int x1), some (.int x2), some (.int x3), some (.int x4), none]) ⟨.inr rfl, .inr rfl, .inr rfl, .inr rfl, .inr rfl, .inl rfl, trivial⟩ ?_
      exact s_level_110 C hQ hA hR x1 x2 x3 x4 1 S  hp
set_option maxRecDepth 100000 in
set_option maxHeartbeats 1000000 in
theorem s_level_72 (C : fcx gG D z A X R_M c_M_level 6 (some .int)) (hQ : X.2.2.2.2.2.2.2.2.2.2 = eQ gG D z X.2.2.2.2.2.2.2.1 X.2.2.2.2.1 L0 0 0 (pM_i K o ad)) (hA : A = owA gG L0 X.2.2.2.2.1.heap.size) (hR : X.2.2.2.1 = { frames := 2, cells := 1, slots := 6, locals := 200 }) (x1 : Int32) (x2 : Int32) (x3 : Int32) (x4 : Int32) (S : ms) (hp : b_level_72 x1 x2 x3 x4 S K) : aw gG D z A X 6 72 [some (.ref o), some (.int x1), some (.int x2), some (.int x3), some (.int x4), none] [] [(0, ly_M, (o, ad, S.1, S.2.1, S.2.2))] 0 0 := by
  unfold b_level_72 at hp
  refine a_iconst (v := 0) C d_level_72 (by decide) ?_
  refine aw_lo (lo' := [some (.ref o), some (.int x1), some (.int x2), some (.int x3), some (.int x4), none]) ⟨.inr rfl, .inr rfl, .inr rfl, .inr rfl, .inr rfl, .inr rfl, trivial⟩ ?_
  exact s_level_73 C hQ hA hR x1 x2 x3 x4 0 S  hp
set_option maxRecDepth 100000 in
set_option maxHeartbeats 1000000 in
theorem s_level_33 (C : fcx gG D z A X R_M c_M_level 6 (some .int)) (hQ : X.2.2.2.2.2.2.2.2.2.2 = eQ gG D z X.2.2.2.2.2.2.2.1 X.2.2.2.2.1 L0 0 0 (pM_i K o ad)) (hA : A = owA gG L0 X.2.2.2.2.1.heap.size) (hR : X.2.2.2.1 = { frames := 2, cells := 1, slots := 6, locals := 200 }) (s1 : Int32) (S : ms) (hp : b_level_33 s1 S K) : aw gG D z A X 6 33 [some (.ref o), none, none, none, none, none] [.int s1, .ref o] [(0, ly_M, (o, ad, S.1, S.2.1, S.2.2))] 0 0 := by
  unfold b_level_33 at hp
  refine a_putI (ty := .int) C 0 0 d_level_33 rfl rfl rfl (Nat.le_of_ble_eq_true rfl) f_M_146 (Nat.le_of_ble_eq_true rfl) rfl rfl rfl rfl ?_
  refine aw_eq (lo' := _) (st' := _) (L' := [(0, ly_M, (o, ad, upd S.1 0 s1, S.2.1, S.2.2))]) rfl rfl rfl ?_
  refine a_iconst (v := 0) C d_level_36 (by decide) ?_
  exact a_iret (ty := .int) C hQ hA d_level_37 rfl rfl ⟨_, (upd S.1 0 s1, S.2.1, S.2.2), hp, rfl, rfl⟩
set_option maxRecDepth 100000 in
set_option maxHeartbeats 1000000 in
theorem s_level_28 (C : fcx gG D z A X R_M c_M_level 6 (some .int)) (hQ : X.2.2.2.2.2.2.2.2.2.2 = eQ gG D z X.2.2.2.2.2.2.2.1 X.2.2.2.2.1 L0 0 0 (pM_i K o ad)) (hA : A = owA gG L0 X.2.2.2.2.1.heap.size) (hR : X.2.2.2.1 = { frames := 2, cells := 1, slots := 6, locals := 200 })  (S : ms) (hp : b_level_28  S K) : aw gG D z A X 6 28 [some (.ref o), none, none, none, none, none] [.ref o] [(0, ly_M, (o, ad, S.1, S.2.1, S.2.2))] 0 0 := by
  unfold b_level_28 at hp
  refine a_iconst (v := 1) C d_level_28 (by decide) ?_
  refine a_goto (tgt := 33) C d_level_29 (by decide) ?_
  refine aw_lo (lo' := [some (.ref o), none, none, none, none, none]) ⟨.inr rfl, .inr rfl, .inr rfl, .inr rfl, .inr rfl, .inr rfl, trivial⟩ ?_
  exact s_level_33 C hQ hA hR 1 S  hp
set_option maxRecDepth 100000 in
set_option maxHeartbeats 1000000 in
theorem s_level_18 (C : fcx gG D z A X R_M c_M_level 6 (some .int)) (hQ : X.2.2.2.2.2.2.2.2.2.2 = eQ gG D z X.2.2.2.2.2.2.2.1 X.2.2.2.2.1 L0 0 0 (pM_i K o ad)) (hA : A = owA gG L0 X.2.2.2.2.1.heap.size) (hR : X.2.2.2.1 = { frames := 2, cells := 1, slots := 6, locals := 200 }) (x1 : Int32) (S : ms) (hp : b_level_18 x1 S K) : aw gG D z A X 6 18 [some (.ref o), some (.int x1), none, none, none, none] [] [(0, ly_M, (o, ad, S.1, S.2.1, S.2.2))] 0 0 := by
  unfold b_level_18 at hp
  refine a_aload_n C d_level_18 rfl rfl ?_
  refine a_iload_n C d_level_19 rfl rfl ?_
  refine a_if_lt (tgt := 28) C d_level_20 (by decide) ⟨fun hc => ?_, fun hc => ?_⟩
  · have hp := hp.1 hc
    refine aw_lo (lo' := [some (.ref o), none, none, none, none, none]) ⟨.inr rfl, .inl rfl, .inr rfl, .inr rfl, .inr rfl, .inr rfl, trivial⟩ ?_
    exact s_level_28 C hQ hA hR S  hp
  · have hp := hp.2 hc
    refine a_iload_n C d_level_23 rfl rfl ?_
    refine a_iconst (v := 1) C d_level_24 (by decide) ?_
    refine a_icmp_le (tgt := 32) C d_level_25 (by decide) ⟨fun hc => ?_, fun hc => ?_⟩
    · have hp := hp.1 hc
      refine a_iconst (v := 2) C d_level_32 (by decide) ?_
      refine aw_lo (lo' := [some (.ref o), none, none, none, none, none]) ⟨.inr rfl, .inl rfl, .inr rfl, .inr rfl, .inr rfl, .inr rfl, trivial⟩ ?_
      exact s_level_33 C hQ hA hR 2 S  hp
    · have hp := hp.2 hc
      refine aw_lo (lo' := [some (.ref o), none, none, none, none, none]) ⟨.inr rfl, .inl rfl, .inr rfl, .inr rfl, .inr rfl, .inr rfl, trivial⟩ ?_
      exact s_level_28 C hQ hA hR S  hp
set_option maxRecDepth 100000 in
set_option maxHeartbeats 1000000 in
theorem s_level_0 (C : fcx gG D z A X R_M c_M_level 6 (some .int)) (hQ : X.2.2.2.2.2.2.2.2.2.2 = eQ gG D z X.2.2.2.2.2.2.2.1 X.2.2.2.2.1 L0 0 0 (pM_i K o ad)) (hA : A = owA gG L0 X.2.2.2.2.1.heap.size) (hR : X.2.2.2.1 = { frames := 2, cells := 1, slots := 6, locals := 200 }) (x1 : Int32) (x2 : Int32) (x3 : Int32) (x4 : Int32) (S : ms) (hp : p_level x1 x2 x3 x4 S K) : aw gG D z A X 6 0 [some (.ref o), some (.int x1), some (.int x2), some (.int x3), some (.int x4), none] [] [(0, ly_M, (o, ad, S.1, S.2.1, S.2.2))] 0 0 := by
  unfold p_level at hp
  refine a_iload_n C d_level_0 rfl rfl ?_
  refine a_if_lt (tgt := 18) C d_level_1 (by decide) ⟨fun hc => ?_, fun hc => ?_⟩
  · have hp := hp.1 hc
    refine aw_lo (lo' := [some (.ref o), some (.int x1), none, none, none, none]) ⟨.inr rfl, .inr rfl, .inl rfl, .inl rfl, .inl rfl, .inr rfl, trivial⟩ ?_
    exact s_level_18 C hQ hA hR x1 S  hp
  · have hp := hp.2 hc
    refine a_iload_n C d_level_4 rfl rfl ?_
    refine a_iconst (v := 1) C d_level_5 (by decide) ?_
    refine a_icmp_gt (tgt := 18) C d_level_6 (by decide) ⟨fun hc => ?_, fun hc => ?_⟩
    · have hp := hp.1 hc
      refine aw_lo (lo' := [some (.ref o), some (.int x1), none, none, none, none]) ⟨.inr rfl, .inr rfl, .inl rfl, .inl rfl, .inl rfl, .inr rfl, trivial⟩ ?_
      exact s_level_18 C hQ hA hR x1 S  hp
    · have hp := hp.2 hc
      refine a_aload_n C d_level_9 rfl rfl ?_
      refine a_getR C 0 11 d_level_10 rfl rfl rfl (Nat.le_of_ble_eq_true rfl) f_M_37 ⟨Nat.le_of_ble_eq_true rfl, Nat.le_of_ble_eq_true rfl⟩ ?_
      refine a_iload_n C d_level_13 rfl rfl ?_
      refine a_zald C 0 11 d_level_14 rfl rfl rfl hp.1 ?_
      have hp := hp.2
      refine a_if_ne (tgt := 38) C d_level_15 (by decide) ⟨fun hc => ?_, fun hc => ?_⟩
      · have hp := hp.1 hc
        refine a_iload_n C d_level_38 rfl rfl ?_
        refine a_if_lt (tgt := 72) C d_level_39 (by decide) ⟨fun hc => ?_, fun hc => ?_⟩
        · have hp := hp.1 hc
          refine aw_lo (lo' := [some (.ref o), some (.int x1), some (.int x2), some (.int x3), some (.int x4), none]) ⟨.inr rfl, .inr rfl, .inr rfl, .inr rfl, .inr rfl, .inr rfl, trivial⟩ ?_
          exact s_level_72 C hQ hA hR x1 x2 x3 x4 S  hp
        · have hp := hp.2 hc
          refine a_iload_n C d_level_42 rfl rfl ?_
          refine a_aload_n C d_level_43 rfl rfl ?_
          refine a_getR C 0 14 d_level_44 rfl rfl rfl (Nat.le_of_ble_eq_true rfl) f_M_47 ⟨Nat.le_of_ble_eq_true rfl, Nat.le_of_ble_eq_true rfl⟩ ?_
          refine a_iload_n C d_level_47 rfl rfl ?_
          refine a_iald C 0 14 d_level_48 rfl rfl rfl hp.1 ?_
          have hp := hp.2
          refine a_icmp_ge (tgt := 72) C d_level_49 (by decide) ⟨fun hc => ?_, fun hc => ?_⟩
          · have hp := hp.1 hc
            refine aw_lo (lo' := [some (.ref o), some (.int x1), some (.int x2), some (.int x3), some (.int x4), none]) ⟨.inr rfl, .inr rfl, .inr rfl, .inr rfl, .inr rfl, .inr rfl, trivial⟩ ?_
            exact s_level_72 C hQ hA hR x1 x2 x3 x4 S  hp
          · have hp := hp.2 hc
            refine a_iload C d_level_52 rfl ?_
            refine a_if_lt (tgt := 72) C d_level_54 (by decide) ⟨fun hc => ?_, fun hc => ?_⟩
            · have hp := hp.1 hc
              refine aw_lo (lo' := [some (.ref o), some (.int x1), some (.int x2), some (.int x3), some (.int x4), none]) ⟨.inr rfl, .inr rfl, .inr rfl, .inr rfl, .inr rfl, .inr rfl, trivial⟩ ?_
              exact s_level_72 C hQ hA hR x1 x2 x3 x4 S  hp
            · have hp := hp.2 hc
              refine a_iload C d_level_57 rfl ?_
              refine a_bipush (v := 64) C d_level_59 (by decide) ?_
              refine a_icmp_ge (tgt := 72) C d_level_61 (by decide) ⟨fun hc => ?_, fun hc => ?_⟩
              · have hp := hp.1 hc
                refine aw_lo (lo' := [some (.ref o), some (.int x1), some (.int x2), some (.int x3), some (.int x4), none]) ⟨.inr rfl, .inr rfl, .inr rfl, .inr rfl, .inr rfl, .inr rfl, trivial⟩ ?_
                exact s_level_72 C hQ hA hR x1 x2 x3 x4 S  hp
              · have hp := hp.2 hc
                refine a_iload_n C d_level_64 rfl rfl ?_
                refine a_if_lt (tgt := 72) C d_level_65 (by decide) ⟨fun hc => ?_, fun hc => ?_⟩
                · have hp := hp.1 hc
                  refine aw_lo (lo' := [some (.ref o), some (.int x1), some (.int x2), some (.int x3), some (.int x4), none]) ⟨.inr rfl, .inr rfl, .inr rfl, .inr rfl, .inr rfl, .inr rfl, trivial⟩ ?_
                  exact s_level_72 C hQ hA hR x1 x2 x3 x4 S  hp
                · have hp := hp.2 hc
                  refine a_iconst (v := 1) C d_level_68 (by decide) ?_
                  refine a_goto (tgt := 73) C d_level_69 (by decide) ?_
                  refine aw_lo (lo' := [some (.ref o), some (.int x1), some (.int x2), some (.int x3), some (.int x4), none]) ⟨.inr rfl, .inr rfl, .inr rfl, .inr rfl, .inr rfl, .inr rfl, trivial⟩ ?_
                  exact s_level_73 C hQ hA hR x1 x2 x3 x4 1 S  hp
      · have hp := hp.2 hc
        refine aw_lo (lo' := [some (.ref o), some (.int x1), none, none, none, none]) ⟨.inr rfl, .inr rfl, .inl rfl, .inl rfl, .inl rfl, .inr rfl, trivial⟩ ?_
        exact s_level_18 C hQ hA hR x1 S  hp
end M_level
section M_levelc
variable {D : va_G} {z : Nat → ClassId} {o : Nat} {ad : Nat → Nat}
set_option maxRecDepth 100000 in
theorem ct_level {l : Launch} (x1 : Int32) (x2 : Int32) (x3 : Int32) (x4 : Int32) (S : ms) {K : Int32 → ms → Prop} (hp : p_level x1 x2 x3 x4 S K) : ct gG D z l n_M_level c_M_level 6 (some .int) 2 200 [.ref o, .int x1, .int x2, .int x3, .int x4] [(0, ly_M, (o, ad, S.1, S.2.1, S.2.2))] 0 0 (pM_i K o ad) := by
  refine ct_of (lo := [some (.ref o), some (.int x1), some (.int x2), some (.int x3), some (.int x4), none]) (by decide) g_ok (Nat.le_of_ble_eq_true rfl) rfl ?_
  intro X A _ C hR hQ hA _
  exact s_level_0 C hQ hA hR x1 x2 x3 x4 S hp
end M_levelc
def b_take_70 (x1 : Int32) (x2 : Int32) (x3 : Int32) (S : ms) (R50 : Int32 → ms → Prop) (R60 : Int32 → Int32 → ms → Prop) (R70 : Int32 → Int32 → Int32 → ms → Prop) (K : ms → Prop) : Prop :=
  ((S.1 3) ≤ x3 → (R60 x1 (x2 + 1) S)) ∧ (¬ ((S.1 3) ≤ x3) → (p_cell x2 x1 x3 (fun v85 => p_sampleAt x2 x1 x3 S (fun v92 S92 => vp_in v85 12288 ∧ (R70 x1 x2 (x3 + 1) (S92.1, va_up S92.2.1 4 (upd (S92.2.1 4) v85.toNatClampNeg v92), S92.2.2))))))
def e_take_70 (x1 : Int32) (x2 : Int32) (x3 : Int32) (S : ms) (R50 : Int32 → ms → Prop) (R60 : Int32 → Int32 → ms → Prop) (K : ms → Prop) : Prop :=
  ∃ (I : Int32 → Int32 → Int32 → ms → Prop) (μ : Int32 → Int32 → Int32 → ms → Nat), I x1 x2 x3 S ∧ ∀ yx1 yx2 yx3 yS, I yx1 yx2 yx3 yS → b_take_70 yx1 yx2 yx3 yS R50 R60 (fun zx1 zx2 zx3 zS => I zx1 zx2 zx3 zS ∧ μ zx1 zx2 zx3 zS < μ yx1 yx2 yx3 yS) K
def b_take_60 (x1 : Int32) (x2 : Int32) (S : ms) (R50 : Int32 → ms → Prop) (R60 : Int32 → Int32 → ms → Prop) (K : ms → Prop) : Prop :=
  ((S.1 1) ≤ x2 → (R50 (x1 + 1) S)) ∧ (¬ ((S.1 1) ≤ x2) → (e_take_70 x1 x2 0 S R50 R60 K))
def e_take_60 (x1 : Int32) (x2 : Int32) (S : ms) (R50 : Int32 → ms → Prop) (K : ms → Prop) : Prop :=
  ∃ (I : Int32 → Int32 → ms → Prop) (μ : Int32 → Int32 → ms → Nat), I x1 x2 S ∧ ∀ yx1 yx2 yS, I yx1 yx2 yS → b_take_60 yx1 yx2 yS R50 (fun zx1 zx2 zS => I zx1 zx2 zS ∧ μ zx1 zx2 zS < μ yx1 yx2 yS) K
def b_take_50 (x1 : Int32) (S : ms) (R50 : Int32 → ms → Prop) (K : ms → Prop) : Prop :=
  ((S.1 2) ≤ x1 → (K S)) ∧ (¬ ((S.1 2) ≤ x1) → (e_take_60 x1 0 S R50 K))
def e_take_50 (x1 : Int32) (S : ms) (K : ms → Prop) : Prop :=
  ∃ (I : Int32 → ms → Prop) (μ : Int32 → ms → Nat), I x1 S ∧ ∀ yx1 yS, I yx1 yS → b_take_50 yx1 yS (fun zx1 zS => I zx1 zS ∧ μ zx1 zS < μ yx1 yS) K
def b_take_15 (s1 : Int32) (S : ms) (K : ms → Prop) : Prop :=
  (((upd S.1 0 s1) 0) ≤ 0 → (vp_in 1 3 ∧ (vp_in 1 3 ∧ (vp_in 1 3 ∧ (p_canvas (S.2.1 12 (1 : Int32).toNatClampNeg) (S.2.1 13 (1 : Int32).toNatClampNeg) (S.2.1 14 (1 : Int32).toNatClampNeg) (upd S.1 0 s1, S.2.1, S.2.2) (fun S45 => e_take_50 0 (S45.1, S45.2.1, S45.2.2) K)))))) ∧ (¬ (((upd S.1 0 s1) 0) ≤ 0) → (K (upd S.1 0 s1, S.2.1, S.2.2)))
def p_take  (S : ms) (K : ms → Prop) : Prop :=
  vp_in 1 3 ∧ (((S.2.1 11 (1 : Int32).toNatClampNeg) = 0 → (b_take_15 1 S K)) ∧ (¬ ((S.2.1 11 (1 : Int32).toNatClampNeg) = 0) → (b_take_15 0 S K)))
section M_take
variable {D : va_G} {z : Nat → ClassId} {A : Nat → Prop} {X : cx} {L0 : fw} {K : ms → Prop} {o : Nat} {ad : Nat → Nat}
set_option maxRecDepth 100000 in
set_option maxHeartbeats 1000000 in
theorem s_take_70 (C : fcx gG D z A X R_M c_M_take 4 (none)) (hQ : X.2.2.2.2.2.2.2.2.2.2 = eQ gG D z X.2.2.2.2.2.2.2.1 X.2.2.2.2.1 L0 0 0 (pM_v K o ad)) (hA : A = owA gG L0 X.2.2.2.2.1.heap.size) (hR : X.2.2.2.1 = { frames := 4, cells := 1, slots := 6, locals := 400 }) (x1 : Int32) (x2 : Int32) (x3 : Int32) (S : ms) (R50 : Int32 → ms → Prop) (hR50 : ∀ yx1 yS, R50 yx1 yS → aw gG D z A X 4 50 [some (.ref o), some (.int yx1), none, none] [] [(0, ly_M, (o, ad, yS.1, yS.2.1, yS.2.2))] 0 0) (R60 : Int32 → Int32 → ms → Prop) (hR60 : ∀ yx1 yx2 yS, R60 yx1 yx2 yS → aw gG D z A X 4 60 [some (.ref o), some (.int yx1), some (.int yx2), none] [] [(0, ly_M, (o, ad, yS.1, yS.2.1, yS.2.2))] 0 0) (R70 : Int32 → Int32 → Int32 → ms → Prop) (hR70 : ∀ yx1 yx2 yx3 yS, R70 yx1 yx2 yx3 yS → aw gG D z A X 4 70 [some (.ref o), some (.int yx1), some (.int yx2), some (.int yx3)] [] [(0, ly_M, (o, ad, yS.1, yS.2.1, yS.2.2))] 0 0) (hp : b_take_70 x1 x2 x3 S R50 R60 R70 K) : aw gG D z A X 4 70 [some (.ref o), some (.int x1), some (.int x2), some (.int x3)] [] [(0, ly_M, (o, ad, S.1, S.2.1, S.2.2))] 0 0 := by
  unfold b_take_70 at hp
  refine a_iload_n C d_take_70 rfl rfl ?_
  refine a_aload_n C d_take_71 rfl rfl ?_
  refine a_getI C 0 3 d_take_72 rfl rfl rfl (Nat.le_of_ble_eq_true rfl) f_M_16 (Nat.le_of_ble_eq_true rfl) ?_
  refine a_icmp_ge (tgt := 102) C d_take_75 (by decide) ⟨fun hc => ?_, fun hc => ?_⟩
  · have hp := hp.1 hc
    refine a_iinc (v := x2 + 1) (lo' := [some (.ref o), some (.int x1), some (.int (x2 + 1)), some (.int x3)]) C d_take_102 rfl rfl (by decide) rfl ?_
    refine a_goto (tgt := 60) C d_take_105 (by decide) ?_
    refine aw_lo (lo' := [some (.ref o), some (.int x1), some (.int (x2 + 1)), none]) ⟨.inr rfl, .inr rfl, .inr rfl, .inl rfl, trivial⟩ ?_
    exact hR60 x1 (x2 + 1) S hp
  · have hp := hp.2 hc
    refine a_aload_n C d_take_78 rfl rfl ?_
    refine a_getR C 0 4 d_take_79 rfl rfl rfl (Nat.le_of_ble_eq_true rfl) f_M_19 ⟨Nat.le_of_ble_eq_true rfl, Nat.le_of_ble_eq_true rfl⟩ ?_
    refine a_iload_n C d_take_82 rfl rfl ?_
    refine a_iload_n C d_take_83 rfl rfl ?_
    refine a_iload_n C d_take_84 rfl rfl ?_
    refine a_call (Lr := [(0, ly_M, (o, ad, S.1, S.2.1, S.2.2))]) (rest := [.ref (ad 4)]) (av := [.int x2, .int x1, .int x3]) C [] [0] d_take_85 (ct_cell x2 x1 x3 hp) cd_M_cell i_M (Nat.le_of_ble_eq_true rfl) (by rw [hR]; exact Nat.le_of_ble_eq_true rfl) (by rw [hR]; exact Nat.le_of_ble_eq_true rfl) (by rw [hR]; exact Nat.le_of_ble_eq_true rfl) (by rw [hR]; exact Nat.le_of_ble_eq_true rfl) rfl rfl (by decide) (by decide) (by decide) (inv_S C d_take_85 l_M_161 st_M_cell i_M cd_M_cell ⟨by decide, by decide⟩ ln_M_cell rfl) (fun oc L1 hL => ?_)
    obtain ⟨v85, hp, rfl, rfl⟩ := hL
    refine ⟨_, rfl, ?_⟩
    refine aw_eq (lo' := _) (st' := [.int v85, .ref (ad 4)]) (L' := [(0, ly_M, (o, ad, S.1, S.2.1, S.2.2))]) rfl rfl rfl ?_
    refine a_aload_n C d_take_88 rfl rfl ?_
    refine a_iload_n C d_take_89 rfl rfl ?_
    refine a_iload_n C d_take_90 rfl rfl ?_
    refine a_iload_n C d_take_91 rfl rfl ?_
    refine a_call (Lr := []) (rest := [.int v85, .ref (ad 4)]) (av := .ref o :: [.int x2, .int x1, .int x3]) C [0] [] d_take_92 (ct_sampleAt x2 x1 x3 S hp) cd_M_sampleAt i_M (Nat.le_of_ble_eq_true rfl) (by rw [hR]; exact Nat.le_of_ble_eq_true rfl) (by rw [hR]; exact Nat.le_of_ble_eq_true rfl) (by rw [hR]; exact Nat.le_of_ble_eq_true rfl) (by rw [hR]; exact Nat.le_of_ble_eq_true rfl) rfl rfl (by decide) (by decide) (by decide) (inv_V C 0 d_take_92 l_M_383 im_M_sampleAt se_M_sampleAt cd_M_sampleAt ⟨by decide, by decide⟩ ln_M_sampleAt rfl rfl rfl rfl rfl) (fun oc L1 hL => ?_)
    obtain ⟨v92, S92, hp, rfl, rfl⟩ := hL
    refine ⟨_, rfl, ?_⟩
    refine aw_eq (lo' := _) (st' := [.int v92, .int v85, .ref (ad 4)]) (L' := [(0, ly_M, (o, ad, S92.1, S92.2.1, S92.2.2))]) rfl rfl rfl ?_
    refine a_iast C 0 4 d_take_95 rfl rfl rfl hp.1 ?_
    have hp := hp.2
    refine aw_eq (lo' := _) (st' := _) (L' := [(0, ly_M, (o, ad, S92.1, va_up S92.2.1 4 (upd (S92.2.1 4) v85.toNatClampNeg v92), S92.2.2))]) rfl rfl rfl ?_
    refine a_iinc (v := x3 + 1) (lo' := [some (.ref o), some (.int x1), some (.int x2), some (.int (x3 + 1))]) C d_take_96 rfl rfl (by decide) rfl ?_
    refine a_goto (tgt := 70) C d_take_99 (by decide) ?_
    refine aw_lo (lo' := [some (.ref o), some (.int x1), some (.int x2), some (.int (x3 + 1))]) ⟨.inr rfl, .inr rfl, .inr rfl, .inr rfl, trivial⟩ ?_
    exact hR70 x1 x2 (x3 + 1) (S92.1, va_up S92.2.1 4 (upd (S92.2.1 4) v85.toNatClampNeg v92), S92.2.2) hp
set_option maxRecDepth 100000 in
set_option maxHeartbeats 1000000 in
theorem se_take_70 (C : fcx gG D z A X R_M c_M_take 4 (none)) (hQ : X.2.2.2.2.2.2.2.2.2.2 = eQ gG D z X.2.2.2.2.2.2.2.1 X.2.2.2.2.1 L0 0 0 (pM_v K o ad)) (hA : A = owA gG L0 X.2.2.2.2.1.heap.size) (hR : X.2.2.2.1 = { frames := 4, cells := 1, slots := 6, locals := 400 }) (x1 : Int32) (x2 : Int32) (x3 : Int32) (S : ms) (R50 : Int32 → ms → Prop) (hR50 : ∀ yx1 yS, R50 yx1 yS → aw gG D z A X 4 50 [some (.ref o), some (.int yx1), none, none] [] [(0, ly_M, (o, ad, yS.1, yS.2.1, yS.2.2))] 0 0) (R60 : Int32 → Int32 → ms → Prop) (hR60 : ∀ yx1 yx2 yS, R60 yx1 yx2 yS → aw gG D z A X 4 60 [some (.ref o), some (.int yx1), some (.int yx2), none] [] [(0, ly_M, (o, ad, yS.1, yS.2.1, yS.2.2))] 0 0) (hp : e_take_70 x1 x2 x3 S R50 R60 K) : aw gG D z A X 4 70 [some (.ref o), some (.int x1), some (.int x2), some (.int x3)] [] [(0, ly_M, (o, ad, S.1, S.2.1, S.2.2))] 0 0 := by
  obtain ⟨I, μ, h0, hs⟩ := hp
  have key : ∀ (n : Nat) (yx1 : Int32) (yx2 : Int32) (yx3 : Int32) (yS : ms), μ yx1 yx2 yx3 yS < n → I yx1 yx2 yx3 yS → aw gG D z A X 4 70 [some (.ref o), some (.int yx1), some (.int yx2), some (.int yx3)] [] [(0, ly_M, (o, ad, yS.1, yS.2.1, yS.2.2))] 0 0 := by
    intro n
    induction n with
    | zero => intro yx1 yx2 yx3 yS h; omega
    | succ n ih =>
      intro yx1 yx2 yx3 yS hn hI
      exact s_take_70 C hQ hA hR yx1 yx2 yx3 yS R50 hR50 R60 hR60 _ (fun zx1 zx2 zx3 zS hw => ih zx1 zx2 zx3 zS (by omega) hw.1) (hs yx1 yx2 yx3 yS hI)
  exact key (μ x1 x2 x3 S + 1) x1 x2 x3 S (Nat.lt_succ_self _) h0
set_option maxRecDepth 100000 in
set_option maxHeartbeats 1000000 in
theorem s_take_60 (C : fcx gG D z A X R_M c_M_take 4 (none)) (hQ : X.2.2.2.2.2.2.2.2.2.2 = eQ gG D z X.2.2.2.2.2.2.2.1 X.2.2.2.2.1 L0 0 0 (pM_v K o ad)) (hA : A = owA gG L0 X.2.2.2.2.1.heap.size) (hR : X.2.2.2.1 = { frames := 4, cells := 1, slots := 6, locals := 400 }) (x1 : Int32) (x2 : Int32) (S : ms) (R50 : Int32 → ms → Prop) (hR50 : ∀ yx1 yS, R50 yx1 yS → aw gG D z A X 4 50 [some (.ref o), some (.int yx1), none, none] [] [(0, ly_M, (o, ad, yS.1, yS.2.1, yS.2.2))] 0 0) (R60 : Int32 → Int32 → ms → Prop) (hR60 : ∀ yx1 yx2 yS, R60 yx1 yx2 yS → aw gG D z A X 4 60 [some (.ref o), some (.int yx1), some (.int yx2), none] [] [(0, ly_M, (o, ad, yS.1, yS.2.1, yS.2.2))] 0 0) (hp : b_take_60 x1 x2 S R50 R60 K) : aw gG D z A X 4 60 [some (.ref o), some (.int x1), some (.int x2), none] [] [(0, ly_M, (o, ad, S.1, S.2.1, S.2.2))] 0 0 := by
  unfold b_take_60 at hp
  refine a_iload_n C d_take_60 rfl rfl ?_
  refine a_aload_n C d_take_61 rfl rfl ?_
  refine a_getI C 0 1 d_take_62 rfl rfl rfl (Nat.le_of_ble_eq_true rfl) f_M_7 (Nat.le_of_ble_eq_true rfl) ?_
  refine a_icmp_ge (tgt := 108) C d_take_65 (by decide) ⟨fun hc => ?_, fun hc => ?_⟩
  · have hp := hp.1 hc
    refine a_iinc (v := x1 + 1) (lo' := [some (.ref o), some (.int (x1 + 1)), some (.int x2), none]) C d_take_108 rfl rfl (by decide) rfl ?_
    refine a_goto (tgt := 50) C d_take_111 (by decide) ?_
    refine aw_lo (lo' := [some (.ref o), some (.int (x1 + 1)), none, none]) ⟨.inr rfl, .inr rfl, .inl rfl, .inr rfl, trivial⟩ ?_
    exact hR50 (x1 + 1) S hp
  · have hp := hp.2 hc
    refine a_iconst (v := 0) C d_take_68 (by decide) ?_
    refine a_istore_n (lo' := [some (.ref o), some (.int x1), some (.int x2), some (.int 0)]) C d_take_69 rfl (by decide) rfl ?_
    refine aw_lo (lo' := [some (.ref o), some (.int x1), some (.int x2), some (.int 0)]) ⟨.inr rfl, .inr rfl, .inr rfl, .inr rfl, trivial⟩ ?_
    exact se_take_70 C hQ hA hR x1 x2 0 S R50 hR50 R60 hR60 hp
set_option maxRecDepth 100000 in
set_option maxHeartbeats 1000000 in
theorem se_take_60 (C : fcx gG D z A X R_M c_M_take 4 (none)) (hQ : X.2.2.2.2.2.2.2.2.2.2 = eQ gG D z X.2.2.2.2.2.2.2.1 X.2.2.2.2.1 L0 0 0 (pM_v K o ad)) (hA : A = owA gG L0 X.2.2.2.2.1.heap.size) (hR : X.2.2.2.1 = { frames := 4, cells := 1, slots := 6, locals := 400 }) (x1 : Int32) (x2 : Int32) (S : ms) (R50 : Int32 → ms → Prop) (hR50 : ∀ yx1 yS, R50 yx1 yS → aw gG D z A X 4 50 [some (.ref o), some (.int yx1), none, none] [] [(0, ly_M, (o, ad, yS.1, yS.2.1, yS.2.2))] 0 0) (hp : e_take_60 x1 x2 S R50 K) : aw gG D z A X 4 60 [some (.ref o), some (.int x1), some (.int x2), none] [] [(0, ly_M, (o, ad, S.1, S.2.1, S.2.2))] 0 0 := by
  obtain ⟨I, μ, h0, hs⟩ := hp
  have key : ∀ (n : Nat) (yx1 : Int32) (yx2 : Int32) (yS : ms), μ yx1 yx2 yS < n → I yx1 yx2 yS → aw gG D z A X 4 60 [some (.ref o), some (.int yx1), some (.int yx2), none] [] [(0, ly_M, (o, ad, yS.1, yS.2.1, yS.2.2))] 0 0 := by
    intro n
    induction n with
    | zero => intro yx1 yx2 yS h; omega
    | succ n ih =>
      intro yx1 yx2 yS hn hI
      exact s_take_60 C hQ hA hR yx1 yx2 yS R50 hR50 _ (fun zx1 zx2 zS hw => ih zx1 zx2 zS (by omega) hw.1) (hs yx1 yx2 yS hI)
  exact key (μ x1 x2 S + 1) x1 x2 S (Nat.lt_succ_self _) h0
set_option maxRecDepth 100000 in
set_option maxHeartbeats 1000000 in
theorem s_take_50 (C : fcx gG D z A X R_M c_M_take 4 (none)) (hQ : X.2.2.2.2.2.2.2.2.2.2 = eQ gG D z X.2.2.2.2.2.2.2.1 X.2.2.2.2.1 L0 0 0 (pM_v K o ad)) (hA : A = owA gG L0 X.2.2.2.2.1.heap.size) (hR : X.2.2.2.1 = { frames := 4, cells := 1, slots := 6, locals := 400 }) (x1 : Int32) (S : ms) (R50 : Int32 → ms → Prop) (hR50 : ∀ yx1 yS, R50 yx1 yS → aw gG D z A X 4 50 [some (.ref o), some (.int yx1), none, none] [] [(0, ly_M, (o, ad, yS.1, yS.2.1, yS.2.2))] 0 0) (hp : b_take_50 x1 S R50 K) : aw gG D z A X 4 50 [some (.ref o), some (.int x1), none, none] [] [(0, ly_M, (o, ad, S.1, S.2.1, S.2.2))] 0 0 := by
  unfold b_take_50 at hp
  refine a_iload_n C d_take_50 rfl rfl ?_
  refine a_aload_n C d_take_51 rfl rfl ?_
  refine a_getI C 0 2 d_take_52 rfl rfl rfl (Nat.le_of_ble_eq_true rfl) f_M_13 (Nat.le_of_ble_eq_true rfl) ?_
  refine a_icmp_ge (tgt := 114) C d_take_55 (by decide) ⟨fun hc => ?_, fun hc => ?_⟩
  · have hp := hp.1 hc
    exact a_vret C hQ hA d_take_114 rfl ⟨S, hp, rfl, rfl⟩
  · have hp := hp.2 hc
    refine a_iconst (v := 0) C d_take_58 (by decide) ?_
    refine a_istore_n (lo' := [some (.ref o), some (.int x1), some (.int 0), none]) C d_take_59 rfl (by decide) rfl ?_
    refine aw_lo (lo' := [some (.ref o), some (.int x1), some (.int 0), none]) ⟨.inr rfl, .inr rfl, .inr rfl, .inr rfl, trivial⟩ ?_
    exact se_take_60 C hQ hA hR x1 0 S R50 hR50 hp
set_option maxRecDepth 100000 in
set_option maxHeartbeats 1000000 in
theorem se_take_50 (C : fcx gG D z A X R_M c_M_take 4 (none)) (hQ : X.2.2.2.2.2.2.2.2.2.2 = eQ gG D z X.2.2.2.2.2.2.2.1 X.2.2.2.2.1 L0 0 0 (pM_v K o ad)) (hA : A = owA gG L0 X.2.2.2.2.1.heap.size) (hR : X.2.2.2.1 = { frames := 4, cells := 1, slots := 6, locals := 400 }) (x1 : Int32) (S : ms) (hp : e_take_50 x1 S K) : aw gG D z A X 4 50 [some (.ref o), some (.int x1), none, none] [] [(0, ly_M, (o, ad, S.1, S.2.1, S.2.2))] 0 0 := by
  obtain ⟨I, μ, h0, hs⟩ := hp
  have key : ∀ (n : Nat) (yx1 : Int32) (yS : ms), μ yx1 yS < n → I yx1 yS → aw gG D z A X 4 50 [some (.ref o), some (.int yx1), none, none] [] [(0, ly_M, (o, ad, yS.1, yS.2.1, yS.2.2))] 0 0 := by
    intro n
    induction n with
    | zero => intro yx1 yS h; omega
    | succ n ih =>
      intro yx1 yS hn hI
      exact s_take_50 C hQ hA hR yx1 yS _ (fun zx1 zS hw => ih zx1 zS (by omega) hw.1) (hs yx1 yS hI)
  exact key (μ x1 S + 1) x1 S (Nat.lt_succ_self _) h0
set_option maxRecDepth 100000 in
set_option maxHeartbeats 1000000 in
theorem s_take_15 (C : fcx gG D z A X R_M c_M_take 4 (none)) (hQ : X.2.2.2.2.2.2.2.2.2.2 = eQ gG D z X.2.2.2.2.2.2.2.1 X.2.2.2.2.1 L0 0 0 (pM_v K o ad)) (hA : A = owA gG L0 X.2.2.2.2.1.heap.size) (hR : X.2.2.2.1 = { frames := 4, cells := 1, slots := 6, locals := 400 }) (s1 : Int32) (S : ms) (hp : b_take_15 s1 S K) : aw gG D z A X 4 15 [some (.ref o), none, none, none] [.int s1, .ref o] [(0, ly_M, (o, ad, S.1, S.2.1, S.2.2))] 0 0 := by
  unfold b_take_15 at hp
  refine a_putI (ty := .int) C 0 0 d_take_15 rfl rfl rfl (Nat.le_of_ble_eq_true rfl) f_M_146 (Nat.le_of_ble_eq_true rfl) rfl rfl rfl rfl ?_
  refine aw_eq (lo' := _) (st' := _) (L' := [(0, ly_M, (o, ad, upd S.1 0 s1, S.2.1, S.2.2))]) rfl rfl rfl ?_
  refine a_aload_n C d_take_18 rfl rfl ?_
  refine a_getI C 0 0 d_take_19 rfl rfl rfl (Nat.le_of_ble_eq_true rfl) f_M_146 (Nat.le_of_ble_eq_true rfl) ?_
  refine a_if_le (tgt := 26) C d_take_22 (by decide) ⟨fun hc => ?_, fun hc => ?_⟩
  · have hp := hp.1 hc
    refine a_aload_n C d_take_26 rfl rfl ?_
    refine a_aload_n C d_take_27 rfl rfl ?_
    refine a_getR C 0 12 d_take_28 rfl rfl rfl (Nat.le_of_ble_eq_true rfl) f_M_41 ⟨Nat.le_of_ble_eq_true rfl, Nat.le_of_ble_eq_true rfl⟩ ?_
    refine a_iconst (v := 1) C d_take_31 (by decide) ?_
    refine a_iald C 0 12 d_take_32 rfl rfl rfl hp.1 ?_
    have hp := hp.2
    refine a_aload_n C d_take_33 rfl rfl ?_
    refine a_getR C 0 13 d_take_34 rfl rfl rfl (Nat.le_of_ble_eq_true rfl) f_M_44 ⟨Nat.le_of_ble_eq_true rfl, Nat.le_of_ble_eq_true rfl⟩ ?_
    refine a_iconst (v := 1) C d_take_37 (by decide) ?_
    refine a_iald C 0 13 d_take_38 rfl rfl rfl hp.1 ?_
    have hp := hp.2
    refine a_aload_n C d_take_39 rfl rfl ?_
    refine a_getR C 0 14 d_take_40 rfl rfl rfl (Nat.le_of_ble_eq_true rfl) f_M_47 ⟨Nat.le_of_ble_eq_true rfl, Nat.le_of_ble_eq_true rfl⟩ ?_
    refine a_iconst (v := 1) C d_take_43 (by decide) ?_
    refine a_iald C 0 14 d_take_44 rfl rfl rfl hp.1 ?_
    have hp := hp.2
    refine a_call (Lr := []) (rest := []) (av := .ref o :: [.int (S.2.1 12 (1 : Int32).toNatClampNeg), .int (S.2.1 13 (1 : Int32).toNatClampNeg), .int (S.2.1 14 (1 : Int32).toNatClampNeg)]) C [0] [] d_take_45 (ct_canvas (S.2.1 12 (1 : Int32).toNatClampNeg) (S.2.1 13 (1 : Int32).toNatClampNeg) (S.2.1 14 (1 : Int32).toNatClampNeg) (upd S.1 0 s1, S.2.1, S.2.2) hp) cd_M_canvas i_M (Nat.le_of_ble_eq_true rfl) (by rw [hR]; exact Nat.le_of_ble_eq_true rfl) (by rw [hR]; exact Nat.le_of_ble_eq_true rfl) (by rw [hR]; exact Nat.le_of_ble_eq_true rfl) (by rw [hR]; exact Nat.le_of_ble_eq_true rfl) rfl rfl (by decide) (by decide) (by decide) (inv_V C 0 d_take_45 l_M_386 im_M_canvas se_M_canvas cd_M_canvas ⟨by decide, by decide⟩ ln_M_canvas rfl rfl rfl rfl rfl) (fun oc L1 hL => ?_)
    obtain ⟨S45, hp, rfl, rfl⟩ := hL
    refine ⟨_, rfl, ?_⟩
    refine aw_eq (lo' := _) (st' := []) (L' := [(0, ly_M, (o, ad, S45.1, S45.2.1, S45.2.2))]) rfl rfl rfl ?_
    refine a_iconst (v := 0) C d_take_48 (by decide) ?_
    refine a_istore_n (lo' := [some (.ref o), some (.int 0), none, none]) C d_take_49 rfl (by decide) rfl ?_
    refine aw_lo (lo' := [some (.ref o), some (.int 0), none, none]) ⟨.inr rfl, .inr rfl, .inr rfl, .inr rfl, trivial⟩ ?_
    exact se_take_50 C hQ hA hR 0 (S45.1, S45.2.1, S45.2.2)  hp
  · have hp := hp.2 hc
    exact a_vret C hQ hA d_take_25 rfl ⟨(upd S.1 0 s1, S.2.1, S.2.2), hp, rfl, rfl⟩
set_option maxRecDepth 100000 in
set_option maxHeartbeats 1000000 in
theorem s_take_0 (C : fcx gG D z A X R_M c_M_take 4 (none)) (hQ : X.2.2.2.2.2.2.2.2.2.2 = eQ gG D z X.2.2.2.2.2.2.2.1 X.2.2.2.2.1 L0 0 0 (pM_v K o ad)) (hA : A = owA gG L0 X.2.2.2.2.1.heap.size) (hR : X.2.2.2.1 = { frames := 4, cells := 1, slots := 6, locals := 400 })  (S : ms) (hp : p_take  S K) : aw gG D z A X 4 0 [some (.ref o), none, none, none] [] [(0, ly_M, (o, ad, S.1, S.2.1, S.2.2))] 0 0 := by
  unfold p_take at hp
  refine a_aload_n C d_take_0 rfl rfl ?_
  refine a_aload_n C d_take_1 rfl rfl ?_
  refine a_getR C 0 11 d_take_2 rfl rfl rfl (Nat.le_of_ble_eq_true rfl) f_M_37 ⟨Nat.le_of_ble_eq_true rfl, Nat.le_of_ble_eq_true rfl⟩ ?_
  refine a_iconst (v := 1) C d_take_5 (by decide) ?_
  refine a_zald C 0 11 d_take_6 rfl rfl rfl hp.1 ?_
  have hp := hp.2
  refine a_if_eq (tgt := 14) C d_take_7 (by decide) ⟨fun hc => ?_, fun hc => ?_⟩
  · have hp := hp.1 hc
    refine a_iconst (v := 1) C d_take_14 (by decide) ?_
    refine aw_lo (lo' := [some (.ref o), none, none, none]) ⟨.inr rfl, .inr rfl, .inr rfl, .inr rfl, trivial⟩ ?_
    exact s_take_15 C hQ hA hR 1 S  hp
  · have hp := hp.2 hc
    refine a_iconst (v := 0) C d_take_10 (by decide) ?_
    refine a_goto (tgt := 15) C d_take_11 (by decide) ?_
    refine aw_lo (lo' := [some (.ref o), none, none, none]) ⟨.inr rfl, .inr rfl, .inr rfl, .inr rfl, trivial⟩ ?_
    exact s_take_15 C hQ hA hR 0 S  hp
end M_take
section M_takec
variable {D : va_G} {z : Nat → ClassId} {o : Nat} {ad : Nat → Nat}
set_option maxRecDepth 100000 in
theorem ct_take {l : Launch}  (S : ms) {K : ms → Prop} (hp : p_take  S K) : ct gG D z l n_M_take c_M_take 4 (none) 4 400 [.ref o] [(0, ly_M, (o, ad, S.1, S.2.1, S.2.2))] 0 0 (pM_v K o ad) := by
  refine ct_of (lo := [some (.ref o), none, none, none]) (by decide) g_ok (Nat.le_of_ble_eq_true rfl) rfl ?_
  intro X A _ C hR hQ hA _
  exact s_take_0 C hQ hA hR  S hp
end M_takec
