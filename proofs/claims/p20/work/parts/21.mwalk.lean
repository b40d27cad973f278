def b_readFrame_465  (S : ms) (K : ms → Prop) : Prop :=
  K S
def b_readFrame_426 (x2 : Int32) (x3 : Int32) (x4 : Int32) (S : ms) (K : ms → Prop) : Prop :=
  (¬ (S.1 35) = 0 → (b_readFrame_465 S K)) ∧ ((S.1 35) = 0 → (vp_in 2 3 ∧ (vp_in 2 3 ∧ (vp_in 2 3 ∧ (p_makeGrids 2 (upd S.1 43 1, va_up (va_up (va_up S.2.1 12 (upd (S.2.1 12) (2 : Int32).toNatClampNeg x3)) 13 (upd ((va_up S.2.1 12 (upd (S.2.1 12) (2 : Int32).toNatClampNeg x3)) 13) (2 : Int32).toNatClampNeg x2)) 14 (upd ((va_up (va_up S.2.1 12 (upd (S.2.1 12) (2 : Int32).toNatClampNeg x3)) 13 (upd ((va_up S.2.1 12 (upd (S.2.1 12) (2 : Int32).toNatClampNeg x3)) 13) (2 : Int32).toNatClampNeg x2)) 14) (2 : Int32).toNatClampNeg x4), S.2.2) (fun S462 => b_readFrame_465 (S462.1, S462.2.1, S462.2.2) K))))))
def b_readFrame_411 (x2 : Int32) (x3 : Int32) (x4 : Int32) (x5 : Int32) (s1 : Int32) (S : ms) (R192 : Int32 → Int32 → Int32 → Int32 → ms → Prop) (K : ms → Prop) : Prop :=
  p_must s1 ((S.1 34) - 1) S (fun S417 => R192 x2 x3 x4 (x5 + 1) (S417.1, S417.2.1, S417.2.2))
def b_readFrame_393 (x2 : Int32) (x3 : Int32) (x4 : Int32) (x5 : Int32) (s1 : Int32) (s2 : Int32) (S : ms) (R192 : Int32 → Int32 → Int32 → Int32 → ms → Prop) (K : ms → Prop) : Prop :=
  vp_in s1 3 ∧ (vp_in x5 3 ∧ ((4 ≤ ((va_up S.2.1 45 (upd (S.2.1 45) s1.toNatClampNeg s2)) 45 x5.toNatClampNeg) → (b_readFrame_411 x2 x3 x4 x5 0 (S.1, va_up S.2.1 45 (upd (S.2.1 45) s1.toNatClampNeg s2), S.2.2) R192 K)) ∧ (¬ (4 ≤ ((va_up S.2.1 45 (upd (S.2.1 45) s1.toNatClampNeg s2)) 45 x5.toNatClampNeg)) → (b_readFrame_411 x2 x3 x4 x5 1 (S.1, va_up S.2.1 45 (upd (S.2.1 45) s1.toNatClampNeg s2), S.2.2) R192 K))))
def b_readFrame_334 (x2 : Int32) (x3 : Int32) (x4 : Int32) (x5 : Int32) (x7 : Int32) (s1 : Int32) (S : ms) (R192 : Int32 → Int32 → Int32 → Int32 → ms → Prop) (K : ms → Prop) : Prop :=
  p_must s1 ((S.1 34) - 1) S (fun S340 => vp_in (6 + x5) 9 ∧ (vp_in (6 + x5) 9 ∧ ((¬ (S340.1 35) = 0 → (b_readFrame_393 x2 x3 x4 x5 x5 0 (S340.1, va_up (va_up S340.2.1 15 (upd (S340.2.1 15) (6 + x5).toNatClampNeg (x7 >>> (4 &&& 31 : Int32) : Int32))) 16 (upd ((va_up S340.2.1 15 (upd (S340.2.1 15) (6 + x5).toNatClampNeg (x7 >>> (4 &&& 31 : Int32) : Int32))) 16) (6 + x5).toNatClampNeg (x7 &&& 15)), S340.2.2) R192 K)) ∧ ((S340.1 35) = 0 → (p_next (S340.1, va_up (va_up S340.2.1 15 (upd (S340.2.1 15) (6 + x5).toNatClampNeg (x7 >>> (4 &&& 31 : Int32) : Int32))) 16 (upd ((va_up S340.2.1 15 (upd (S340.2.1 15) (6 + x5).toNatClampNeg (x7 >>> (4 &&& 31 : Int32) : Int32))) 16) (6 + x5).toNatClampNeg (x7 &&& 15)), S340.2.2) (fun v386 S386 => b_readFrame_393 x2 x3 x4 x5 x5 v386 (S386.1, S386.2.1, S386.2.2) R192 K))))))
def b_readFrame_333 (x2 : Int32) (x3 : Int32) (x4 : Int32) (x5 : Int32) (x7 : Int32) (S : ms) (R192 : Int32 → Int32 → Int32 → Int32 → ms → Prop) (K : ms → Prop) : Prop :=
  b_readFrame_334 x2 x3 x4 x5 x7 0 S R192 K
def b_readFrame_329 (x2 : Int32) (x3 : Int32) (x4 : Int32) (x5 : Int32) (x7 : Int32) (S : ms) (R192 : Int32 → Int32 → Int32 → Int32 → ms → Prop) (K : ms → Prop) : Prop :=
  b_readFrame_334 x2 x3 x4 x5 x7 1 S R192 K
def b_readFrame_311 (x2 : Int32) (x3 : Int32) (x4 : Int32) (x5 : Int32) (x7 : Int32) (S : ms) (R192 : Int32 → Int32 → Int32 → Int32 → ms → Prop) (K : ms → Prop) : Prop :=
  ((x7 &&& 15) = 1 → (b_readFrame_329 x2 x3 x4 x5 x7 S R192 K)) ∧ (¬ ((x7 &&& 15) = 1) → ((¬ (x7 &&& 15) = 2 → (b_readFrame_333 x2 x3 x4 x5 x7 S R192 K)) ∧ ((x7 &&& 15) = 2 → (b_readFrame_329 x2 x3 x4 x5 x7 S R192 K))))
def b_readFrame_292 (x2 : Int32) (x3 : Int32) (x4 : Int32) (x5 : Int32) (s0 : Int32) (S : ms) (R192 : Int32 → Int32 → Int32 → Int32 → ms → Prop) (K : ms → Prop) : Prop :=
  ((s0 >>> (4 &&& 31 : Int32) : Int32) = 1 → (b_readFrame_311 x2 x3 x4 x5 s0 S R192 K)) ∧ (¬ ((s0 >>> (4 &&& 31 : Int32) : Int32) = 1) → ((¬ (s0 >>> (4 &&& 31 : Int32) : Int32) = 2 → (b_readFrame_333 x2 x3 x4 x5 s0 S R192 K)) ∧ ((s0 >>> (4 &&& 31 : Int32) : Int32) = 2 → (b_readFrame_311 x2 x3 x4 x5 s0 S R192 K))))
def b_readFrame_257 (x2 : Int32) (x3 : Int32) (x4 : Int32) (x5 : Int32) (x7 : Int32) (s0 : Int32) (S : ms) (R192 : Int32 → Int32 → Int32 → Int32 → ms → Prop) (R223 : Int32 → Int32 → Int32 → Int32 → Int32 → Int32 → ms → Prop) (K : ms → Prop) : Prop :=
  R223 x2 x3 x4 x5 s0 (x7 + 1) S
def b_readFrame_256 (x2 : Int32) (x3 : Int32) (x4 : Int32) (x5 : Int32) (x7 : Int32) (S : ms) (R192 : Int32 → Int32 → Int32 → Int32 → ms → Prop) (R223 : Int32 → Int32 → Int32 → Int32 → Int32 → Int32 → ms → Prop) (K : ms → Prop) : Prop :=
  b_readFrame_257 x2 x3 x4 x5 x7 0 S R192 R223 K
def b_readFrame_223 (x2 : Int32) (x3 : Int32) (x4 : Int32) (x5 : Int32) (x6 : Int32) (x7 : Int32) (S : ms) (R192 : Int32 → Int32 → Int32 → Int32 → ms → Prop) (R223 : Int32 → Int32 → Int32 → Int32 → Int32 → Int32 → ms → Prop) (K : ms → Prop) : Prop :=
  (x5 ≤ x7 → (p_must x6 ((S.1 34) - 1) S (fun S274 => (¬ (S274.1 35) = 0 → (b_readFrame_292 x2 x3 x4 x5 0 (S274.1, S274.2.1, S274.2.2) R192 K)) ∧ ((S274.1 35) = 0 → (p_next (S274.1, S274.2.1, S274.2.2) (fun v285 S285 => b_readFrame_292 x2 x3 x4 x5 v285 (S285.1, S285.2.1, S285.2.2) R192 K)))))) ∧ (¬ (x5 ≤ x7) → ((x6 = 0 → (b_readFrame_256 x2 x3 x4 x5 x7 S R192 R223 K)) ∧ (¬ (x6 = 0) → (vp_in x7 3 ∧ (vp_in x5 3 ∧ (((S.2.1 44 x7.toNatClampNeg) = (S.2.1 44 x5.toNatClampNeg) → (b_readFrame_256 x2 x3 x4 x5 x7 S R192 R223 K)) ∧ (¬ ((S.2.1 44 x7.toNatClampNeg) = (S.2.1 44 x5.toNatClampNeg)) → (b_readFrame_257 x2 x3 x4 x5 x7 1 S R192 R223 K))))))))
def e_readFrame_223 (x2 : Int32) (x3 : Int32) (x4 : Int32) (x5 : Int32) (x6 : Int32) (x7 : Int32) (S : ms) (R192 : Int32 → Int32 → Int32 → Int32 → ms → Prop) (K : ms → Prop) : Prop :=
  ∃ (I : Int32 → Int32 → Int32 → Int32 → Int32 → Int32 → ms → Prop) (μ : Int32 → Int32 → Int32 → Int32 → Int32 → Int32 → ms → Nat), I x2 x3 x4 x5 x6 x7 S ∧ ∀ yx2 yx3 yx4 yx5 yx6 yx7 yS, I yx2 yx3 yx4 yx5 yx6 yx7 yS → b_readFrame_223 yx2 yx3 yx4 yx5 yx6 yx7 yS R192 (fun zx2 zx3 zx4 zx5 zx6 zx7 zS => I zx2 zx3 zx4 zx5 zx6 zx7 zS ∧ μ zx2 zx3 zx4 zx5 zx6 zx7 zS < μ yx2 yx3 yx4 yx5 yx6 yx7 yS) K
def b_readFrame_192 (x2 : Int32) (x3 : Int32) (x4 : Int32) (x5 : Int32) (S : ms) (R192 : Int32 → Int32 → Int32 → Int32 → ms → Prop) (K : ms → Prop) : Prop :=
  (x4 ≤ x5 → (b_readFrame_426 x2 x3 x4 S K)) ∧ (¬ (x4 ≤ x5) → ((¬ (S.1 35) = 0 → (b_readFrame_426 x2 x3 x4 S K)) ∧ ((S.1 35) = 0 → (p_next S (fun v213 S213 => vp_in x5 3 ∧ (e_readFrame_223 x2 x3 x4 x5 1 0 (S213.1, va_up S213.2.1 44 (upd (S213.2.1 44) x5.toNatClampNeg v213), S213.2.2) R192 K))))))
def e_readFrame_192 (x2 : Int32) (x3 : Int32) (x4 : Int32) (x5 : Int32) (S : ms) (K : ms → Prop) : Prop :=
  ∃ (I : Int32 → Int32 → Int32 → Int32 → ms → Prop) (μ : Int32 → Int32 → Int32 → Int32 → ms → Nat), I x2 x3 x4 x5 S ∧ ∀ yx2 yx3 yx4 yx5 yS, I yx2 yx3 yx4 yx5 yS → b_readFrame_192 yx2 yx3 yx4 yx5 yS (fun zx2 zx3 zx4 zx5 zS => I zx2 zx3 zx4 zx5 zS ∧ μ zx2 zx3 zx4 zx5 zS < μ yx2 yx3 yx4 yx5 yS) K
def b_readFrame_189 (x2 : Int32) (x3 : Int32) (x4 : Int32) (S : ms) (K : ms → Prop) : Prop :=
  e_readFrame_192 x2 x3 x4 0 S K
def b_readFrame_143 (x2 : Int32) (x3 : Int32) (x4 : Int32) (s1 : Int32) (S : ms) (K : ms → Prop) : Prop :=
  p_must s1 ((S.1 34) - 1) S (fun S149 => (¬ (S149.1 35) = 0 → (b_readFrame_189 x2 x3 x4 (S149.1, S149.2.1, S149.2.2) K)) ∧ ((S149.1 35) = 0 → ((((S149.1 36) - (S149.1 37)) = (8 + (3 * x4)) → (b_readFrame_189 x2 x3 x4 (S149.1, S149.2.1, S149.2.2) K)) ∧ (¬ (((S149.1 36) - (S149.1 37)) = (8 + (3 * x4))) → (p_fail 4 (S149.1 37) (S149.1, S149.2.1, S149.2.2) (fun v184 S184 => b_readFrame_189 x2 x3 x4 (S184.1, S184.2.1, S184.2.2) K))))))
def b_readFrame_138 (x2 : Int32) (x3 : Int32) (x4 : Int32) (S : ms) (K : ms → Prop) : Prop :=
  b_readFrame_143 x2 x3 x4 1 S K
def b_readFrame_123 (x2 : Int32) (x3 : Int32) (s0 : Int32) (S : ms) (K : ms → Prop) : Prop :=
  (s0 = 1 → (b_readFrame_138 x2 x3 s0 S K)) ∧ (¬ (s0 = 1) → ((¬ s0 = 3 → (b_readFrame_143 x2 x3 s0 0 S K)) ∧ (s0 = 3 → (b_readFrame_138 x2 x3 s0 S K))))
def b_readFrame_99 (x2 : Int32) (x3 : Int32) (s1 : Int32) (S : ms) (K : ms → Prop) : Prop :=
  p_must s1 ((S.1 34) - 2) S (fun S105 => (¬ (S105.1 35) = 0 → (b_readFrame_123 x2 x3 0 (S105.1, S105.2.1, S105.2.2) K)) ∧ ((S105.1 35) = 0 → (p_next (S105.1, S105.2.1, S105.2.2) (fun v116 S116 => b_readFrame_123 x2 x3 v116 (S116.1, S116.2.1, S116.2.2) K))))
def b_readFrame_98 (x2 : Int32) (x3 : Int32) (S : ms) (K : ms → Prop) : Prop :=
  b_readFrame_99 x2 x3 0 S K
def b_readFrame_82 (x2 : Int32) (s0 : Int32) (S : ms) (K : ms → Prop) : Prop :=
  (s0 ≤ 0 → (b_readFrame_98 x2 s0 S K)) ∧ (¬ (s0 ≤ 0) → ((65 ≤ s0 → (b_readFrame_98 x2 s0 S K)) ∧ (¬ (65 ≤ s0) → (b_readFrame_99 x2 s0 1 S K))))
def b_readFrame_58 (x2 : Int32) (s1 : Int32) (S : ms) (K : ms → Prop) : Prop :=
  p_must s1 ((S.1 34) - 2) S (fun S64 => (¬ (S64.1 35) = 0 → (b_readFrame_82 x2 0 (S64.1, S64.2.1, S64.2.2) K)) ∧ ((S64.1 35) = 0 → (p_nextTwo (S64.1, S64.2.1, S64.2.2) (fun v75 S75 => b_readFrame_82 x2 v75 (S75.1, S75.2.1, S75.2.2) K))))
def b_readFrame_57 (x2 : Int32) (S : ms) (K : ms → Prop) : Prop :=
  b_readFrame_58 x2 0 S K
def b_readFrame_41 (s0 : Int32) (S : ms) (K : ms → Prop) : Prop :=
  (s0 ≤ 0 → (b_readFrame_57 s0 S K)) ∧ (¬ (s0 ≤ 0) → ((65 ≤ s0 → (b_readFrame_57 s0 S K)) ∧ (¬ (65 ≤ s0) → (b_readFrame_58 s0 1 S K))))
def b_readFrame_17 (s1 : Int32) (S : ms) (K : ms → Prop) : Prop :=
  p_must s1 ((S.1 34) - 1) S (fun S23 => (¬ (S23.1 35) = 0 → (b_readFrame_41 0 (S23.1, S23.2.1, S23.2.2) K)) ∧ ((S23.1 35) = 0 → (p_nextTwo (S23.1, S23.2.1, S23.2.2) (fun v34 S34 => b_readFrame_41 v34 (S34.1, S34.2.1, S34.2.2) K))))
def p_readFrame  (S : ms) (K : ms → Prop) : Prop :=
  p_next S (fun v1 S1 => (¬ v1 = 8 → (b_readFrame_17 0 (S1.1, S1.2.1, S1.2.2) K)) ∧ (v1 = 8 → (b_readFrame_17 1 (S1.1, S1.2.1, S1.2.2) K)))
section M_readFrame
variable {D : va_G} {z : Nat → ClassId} {A : Nat → Prop} {X : cx} {L0 : fw} {K : ms → Prop} {o : Nat} {ad : Nat → Nat}
set_option maxRecDepth 100000 in
set_option maxHeartbeats 1000000 in
theorem s_readFrame_465 (C : fcx gG D z A X R_M c_M_readFrame 8 (none)) (hQ : X.2.2.2.2.2.2.2.2.2.2 = eQ gG D z X.2.2.2.2.2.2.2.1 X.2.2.2.2.1 L0 0 0 (pM_v K o ad)) (hA : A = owA gG L0 X.2.2.2.2.1.heap.size) (hR : X.2.2.2.1 = { frames := 4, cells := 1, slots := 6, locals := 400 })  (S : ms) (hp : b_readFrame_465  S K) : aw gG D z A X 8 465 [some (.ref o), none, none, none, none, none, none, none] [] [(0, ly_M, (o, ad, S.1, S.2.1, S.2.2))] 0 0 := by
  unfold b_readFrame_465 at hp
  exact a_vret C hQ hA d_readFrame_465 rfl ⟨S, hp, rfl, rfl⟩
set_option maxRecDepth 100000 in
set_option maxHeartbeats 1000000 in
theorem s_readFrame_426 (C : fcx gG D z A X R_M c_M_readFrame 8 (none)) (hQ : X.2.2.2.2.2.2.2.2.2.2 = eQ gG D z X.2.2.2.2.2.2.2.1 X.2.2.2.2.1 L0 0 0 (pM_v K o ad)) (hA : A = owA gG L0 X.2.2.2.2.1.heap.size) (hR : X.2.2.2.1 = { frames := 4, cells := 1, slots := 6, locals := 400 }) (x2 : Int32) (x3 : Int32) (x4 : Int32) (S : ms) (hp : b_readFrame_426 x2 x3 x4 S K) : aw gG D z A X 8 426 [some (.ref o), none, some (.int x2), some (.int x3), some (.int x4), none, none, none] [] [(0, ly_M, (o, ad, S.1, S.2.1, S.2.2))] 0 0 := by
  unfold b_readFrame_426 at hp
  refine a_aload_n C d_readFrame_426 rfl rfl ?_
  refine a_getI C 0 35 d_readFrame_427 rfl rfl rfl (Nat.le_of_ble_eq_true rfl) f_M_265 (Nat.le_of_ble_eq_true rfl) ?_
  refine a_if_ne (tgt := 465) C d_readFrame_430 (by decide) ⟨fun hc => ?_, fun hc => ?_⟩
  · have hp := hp.1 hc
    refine aw_lo (lo' := [some (.ref o), none, none, none, none, none, none, none]) ⟨.inr rfl, .inr rfl, .inl rfl, .inl rfl, .inl rfl, .inr rfl, .inr rfl, .inr rfl, trivial⟩ ?_
    exact s_readFrame_465 C hQ hA hR S  hp
  · have hp := hp.2 hc
    refine a_aload_n C d_readFrame_433 rfl rfl ?_
    refine a_iconst (v := 1) C d_readFrame_434 (by decide) ?_
    refine a_putI (ty := .boolean) C 0 43 d_readFrame_435 rfl rfl rfl (Nat.le_of_ble_eq_true rfl) f_M_295 (Nat.le_of_ble_eq_true rfl) rfl rfl rfl rfl ?_
    refine aw_eq (lo' := _) (st' := _) (L' := [(0, ly_M, (o, ad, upd S.1 43 1, S.2.1, S.2.2))]) rfl rfl rfl ?_
    refine a_aload_n C d_readFrame_438 rfl rfl ?_
    refine a_getR C 0 12 d_readFrame_439 rfl rfl rfl (Nat.le_of_ble_eq_true rfl) f_M_41 ⟨Nat.le_of_ble_eq_true rfl, Nat.le_of_ble_eq_true rfl⟩ ?_
    refine a_iconst (v := 2) C d_readFrame_442 (by decide) ?_
    refine a_iload_n C d_readFrame_443 rfl rfl ?_
    refine a_iast C 0 12 d_readFrame_444 rfl rfl rfl hp.1 ?_
    have hp := hp.2
    refine aw_eq (lo' := _) (st' := _) (L' := [(0, ly_M, (o, ad, upd S.1 43 1, va_up S.2.1 12 (upd (S.2.1 12) (2 : Int32).toNatClampNeg x3), S.2.2))]) rfl rfl rfl ?_
    refine a_aload_n C d_readFrame_445 rfl rfl ?_
    refine a_getR C 0 13 d_readFrame_446 rfl rfl rfl (Nat.le_of_ble_eq_true rfl) f_M_44 ⟨Nat.le_of_ble_eq_true rfl, Nat.le_of_ble_eq_true rfl⟩ ?_
    refine a_iconst (v := 2) C d_readFrame_449 (by decide) ?_
    refine a_iload_n C d_readFrame_450 rfl rfl ?_
    refine a_iast C 0 13 d_readFrame_451 rfl rfl rfl hp.1 ?_
    have hp := hp.2
    refine aw_eq (lo' := _) (st' := _) (L' := [(0, ly_M, (o, ad, upd S.1 43 1, va_up (va_up S.2.1 12 (upd (S.2.1 12) (2 : Int32).toNatClampNeg x3)) 13 (upd ((va_up S.2.1 12 (upd (S.2.1 12) (2 : Int32).toNatClampNeg x3)) 13) (2 : Int32).toNatClampNeg x2), S.2.2))]) rfl rfl rfl ?_
    refine a_aload_n C d_readFrame_452 rfl rfl ?_
    refine a_getR C 0 14 d_readFrame_453 rfl rfl rfl (Nat.le_of_ble_eq_true rfl) f_M_47 ⟨Nat.le_of_ble_eq_true rfl, Nat.le_of_ble_eq_true rfl⟩ ?_
    refine a_iconst (v := 2) C d_readFrame_456 (by decide) ?_
    refine a_iload C d_readFrame_457 rfl ?_
    refine a_iast C 0 14 d_readFrame_459 rfl rfl rfl hp.1 ?_
    have hp := hp.2
    refine aw_eq (lo' := _) (st' := _) (L' := [(0, ly_M, (o, ad, upd S.1 43 1, va_up (va_up (va_up S.2.1 12 (upd (S.2.1 12) (2 : Int32).toNatClampNeg x3)) 13 (upd ((va_up S.2.1 12 (upd (S.2.1 12) (2 : Int32).toNatClampNeg x3)) 13) (2 : Int32).toNatClampNeg x2)) 14 (upd ((va_up (va_up S.2.1 12 (upd (S.2.1 12) (2 : Int32).toNatClampNeg x3)) 13 (upd ((va_up S.2.1 12 (upd (S.2.1 12) (2 : Int32).toNatClampNeg x3)) 13) (2 : Int32).toNatClampNeg x2)) 14) (2 : Int32).toNatClampNeg x4), S.2.2))]) rfl rfl rfl ?_
    refine a_aload_n C d_readFrame_460 rfl rfl ?_
    refine a_iconst (v := 2) C d_readFrame_461 (by decide) ?_
    refine a_call (Lr := []) (rest := []) (av := .ref o :: [.int 2]) C [0] [] d_readFrame_462 (ct_makeGrids 2 (upd S.1 43 1, va_up (va_up (va_up S.2.1 12 (upd (S.2.1 12) (2 : Int32).toNatClampNeg x3)) 13 (upd ((va_up S.2.1 12 (upd (S.2.1 12) (2 : Int32).toNatClampNeg x3)) 13) (2 : Int32).toNatClampNeg x2)) 14 (upd ((va_up (va_up S.2.1 12 (upd (S.2.1 12) (2 : Int32).toNatClampNeg x3)) 13 (upd ((va_up S.2.1 12 (upd (S.2.1 12) (2 : Int32).toNatClampNeg x3)) 13) (2 : Int32).toNatClampNeg x2)) 14) (2 : Int32).toNatClampNeg x4), S.2.2) hp) cd_M_makeGrids i_M (Nat.le_of_ble_eq_true rfl) (by rw [hR]; exact Nat.le_of_ble_eq_true rfl) (by rw [hR]; exact Nat.le_of_ble_eq_true rfl) (by rw [hR]; exact Nat.le_of_ble_eq_true rfl) (by rw [hR]; exact Nat.le_of_ble_eq_true rfl) rfl rfl (by decide) (by decide) (by decide) (inv_V C 0 d_readFrame_462 l_M_243 im_M_makeGrids se_M_makeGrids cd_M_makeGrids ⟨by decide, by decide⟩ ln_M_makeGrids rfl rfl rfl rfl rfl) (fun oc L1 hL => ?_)
    obtain ⟨S462, hp, rfl, rfl⟩ := hL
    refine ⟨_, rfl, ?_⟩
    refine aw_eq (lo' := _) (st' := []) (L' := [(0, ly_M, (o, ad, S462.1, S462.2.1, S462.2.2))]) rfl rfl rfl ?_
    refine aw_lo (lo' := [some (.ref o), none, none, none, none, none, none, none]) ⟨.inr rfl, .inr rfl, .inl rfl, .inl rfl, .inl rfl, .inr rfl, .inr rfl, .inr rfl, trivial⟩ ?_
    exact s_readFrame_465 C hQ hA hR (S462.1, S462.2.1, S462.2.2)  hp
set_option maxRecDepth 100000 in
set_option maxHeartbeats 1000000 in
theorem s_readFrame_411 (C : fcx gG D z A X R_M c_M_readFrame 8 (none)) (hQ : X.2.2.2.2.2.2.2.2.2.2 = eQ gG D z X.2.2.2.2.2.2.2.1 X.2.2.2.2.1 L0 0 0 (pM_v K o ad)) (hA : A = owA gG L0 X.2.2.2.2.1.heap.size) (hR : X.2.2.2.1 = { frames := 4, cells := 1, slots := 6, locals := 400 }) (x2 : Int32) (x3 : Int32) (x4 : Int32) (x5 : Int32) (s1 : Int32) (S : ms) (R192 : Int32 → Int32 → Int32 → Int32 → ms → Prop) (hR192 : ∀ yx2 yx3 yx4 yx5 yS, R192 yx2 yx3 yx4 yx5 yS → aw gG D z A X 8 192 [some (.ref o), none, some (.int yx2), some (.int yx3), some (.int yx4), some (.int yx5), none, none] [] [(0, ly_M, (o, ad, yS.1, yS.2.1, yS.2.2))] 0 0) (hp : b_readFrame_411 x2 x3 x4 x5 s1 S R192 K) : aw gG D z A X 8 411 [some (.ref o), none, some (.int x2), some (.int x3), some (.int x4), some (.int x5), none, none] [.int s1, .ref o] [(0, ly_M, (o, ad, S.1, S.2.1, S.2.2))] 0 0 := by
  unfold b_readFrame_411 at hp
  refine a_aload_n C d_readFrame_411 rfl rfl ?_
  refine a_getI C 0 34 d_readFrame_412 rfl rfl rfl (Nat.le_of_ble_eq_true rfl) f_M_268 (Nat.le_of_ble_eq_true rfl) ?_
  refine a_iconst (v := 1) C d_readFrame_415 (by decide) ?_
  refine a_isub C d_readFrame_416 ?_
  refine a_call (Lr := []) (rest := []) (av := .ref o :: [.int s1, .int ((S.1 34) - 1)]) C [0] [] d_readFrame_417 (ct_must s1 ((S.1 34) - 1) S hp) cd_M_must i_M (Nat.le_of_ble_eq_true rfl) (by rw [hR]; exact Nat.le_of_ble_eq_true rfl) (by rw [hR]; exact Nat.le_of_ble_eq_true rfl) (by rw [hR]; exact Nat.le_of_ble_eq_true rfl) (by rw [hR]; exact Nat.le_of_ble_eq_true rfl) rfl rfl (by decide) (by decide) (by decide) (inv_V C 0 d_readFrame_417 l_M_291 im_M_must se_M_must cd_M_must ⟨by decide, by decide⟩ ln_M_must rfl rfl rfl rfl rfl) (fun oc L1 hL => ?_)
  obtain ⟨S417, hp, rfl, rfl⟩ := hL
  refine ⟨_, rfl, ?_⟩
  refine aw_eq (lo' := _) (st' := []) (L' := [(0, ly_M, (o, ad, S417.1, S417.2.1, S417.2.2))]) rfl rfl rfl ?_
  refine a_iinc (v := x5 + 1) (lo' := [some (.ref o), none, some (.int x2), some (.int x3), some (.int x4), some (.int (x5 + 1)), none, none]) C d_readFrame_420 rfl rfl (by decide) rfl ?_
  refine a_goto (tgt := 192) C d_readFrame_423 (by decide) ?_
  refine aw_lo (lo' := [some (.ref o), none, some (.int x2), some (.int x3), some (.int x4), some (.int (x5 + 1)), none, none]) ⟨.inr rfl, .inr rfl, .inr rfl, .inr rfl, .inr rfl, .inr rfl, .inr rfl, .inr rfl, trivial⟩ ?_
  exact hR192 x2 x3 x4 (x5 + 1) (S417.1, S417.2.1, S417.2.2) hp
set_option maxRecDepth 100000 in
set_option maxHeartbeats 1000000 in
theorem s_readFrame_393 (C : fcx gG D z A X R_M c_M_readFrame 8 (none)) (hQ : X.2.2.2.2.2.2.2.2.2.2 = eQ gG D z X.2.2.2.2.2.2.2.1 X.2.2.2.2.1 L0 0 0 (pM_v K o ad)) (hA : A = owA gG L0 X.2.2.2.2.1.heap.size) (hR : X.2.2.2.1 = { frames := 4, cells := 1, slots := 6, locals := 400 }) (x2 : Int32) (x3 : Int32) (x4 : Int32) (x5 : Int32) (s1 : Int32) (s2 : Int32) (S : ms) (R192 : Int32 → Int32 → Int32 → Int32 → ms → Prop) (hR192 : ∀ yx2 yx3 yx4 yx5 yS, R192 yx2 yx3 yx4 yx5 yS → aw gG D z A X 8 192 [some (.ref o), none, some (.int yx2), some (.int yx3), some (.int yx4), some (.int yx5), none, none] [] [(0, ly_M, (o, ad, yS.1, yS.2.1, yS.2.2))] 0 0) (hp : b_readFrame_393 x2 x3 x4 x5 s1 s2 S R192 K) : aw gG D z A X 8 393 [some (.ref o), none, some (.int x2), some (.int x3), some (.int x4), some (.int x5), none, none] [.int s2, .int s1, .ref (ad 45)] [(0, ly_M, (o, ad, S.1, S.2.1, S.2.2))] 0 0 := by
  unfold b_readFrame_393 at hp
  refine a_iast C 0 45 d_readFrame_393 rfl rfl rfl hp.1 ?_
  have hp := hp.2
  refine aw_eq (lo' := _) (st' := _) (L' := [(0, ly_M, (o, ad, S.1, va_up S.2.1 45 (upd (S.2.1 45) s1.toNatClampNeg s2), S.2.2))]) rfl rfl rfl ?_
  refine a_aload_n C d_readFrame_394 rfl rfl ?_
  refine a_aload_n C d_readFrame_395 rfl rfl ?_
  refine a_getR C 0 45 d_readFrame_396 rfl rfl rfl (Nat.le_of_ble_eq_true rfl) f_M_121 ⟨Nat.le_of_ble_eq_true rfl, Nat.le_of_ble_eq_true rfl⟩ ?_
  refine a_iload C d_readFrame_399 rfl ?_
  refine a_iald C 0 45 d_readFrame_401 rfl rfl rfl hp.1 ?_
  have hp := hp.2
  refine a_iconst (v := 4) C d_readFrame_402 (by decide) ?_
  refine a_icmp_ge (tgt := 410) C d_readFrame_403 (by decide) ⟨fun hc => ?_, fun hc => ?_⟩
  · have hp := hp.1 hc
    refine a_iconst (v := 0) C d_readFrame_410 (by decide) ?_
    refine aw_lo (lo' := [some (.ref o), none, some (.int x2), some (.int x3), some (.int x4), some (.int x5), none, none]) ⟨.inr rfl, .inr rfl, .inr rfl, .inr rfl, .inr rfl, .inr rfl, .inr rfl, .inr rfl, trivial⟩ ?_
    exact s_readFrame_411 C hQ hA hR x2 x3 x4 x5 0 (S.1, va_up S.2.1 45 (upd (S.2.1 45) s1.toNatClampNeg s2), S.2.2) R192 hR192 hp
  · have hp := hp.2 hc
    refine a_iconst (v := 1) C d_readFrame_406 (by decide) ?_
    refine a_goto (tgt := 411) C d_readFrame_407 (by decide) ?_
    refine aw_lo (lo' := [some (.ref o), none, some (.int x2), some (.int x3), some (.int x4), some (.int x5), none, none]) ⟨.inr rfl, .inr rfl, .inr rfl, .inr rfl, .inr rfl, .inr rfl, .inr rfl, .inr rfl, trivial⟩ ?_
    exact s_readFrame_411 C hQ hA hR x2 x3 x4 x5 1 (S.1, va_up S.2.1 45 (upd (S.2.1 45) s1.toNatClampNeg s2), S.2.2) R192 hR192 hp
set_option maxRecDepth 100000 in
set_option maxHeartbeats 1000000 in
theorem s_readFrame_334 (C : fcx gG D z A X R_M c_M_readFrame 8 (none)) (hQ : X.2.2.2.2.2.2.2.2.2.2 = eQ gG D z X.2.2.2.2.2.2.2.1 X.2.2.2.2.1 L0 0 0 (pM_v K o ad)) (hA : A = owA gG L0 X.2.2.2.2.1.heap.size) (hR : X.2.2.2.1 = { frames := 4, cells := 1, slots := 6, locals := 400 }) (x2 : Int32) (x3 : Int32) (x4 : Int32) (x5 : Int32) (x7 : Int32) (s1 : Int32) (S : ms) (R192 : Int32 → Int32 → Int32 → Int32 → ms → Prop) (hR192 : ∀ yx2 yx3 yx4 yx5 yS, R192 yx2 yx3 yx4 yx5 yS → aw gG D z A X 8 192 [some (.ref o), none, some (.int yx2), some (.int yx3), some (.int yx4), some (.int yx5), none, none] [] [(0, ly_M, (o, ad, yS.1, yS.2.1, yS.2.2))] 0 0) (hp : b_readFrame_334 x2 x3 x4 x5 x7 s1 S R192 K) : aw gG D z A X 8 334 [some (.ref o), none, some (.int x2), some (.int x3), some (.int x4), some (.int x5), none, some (.int x7)] [.int s1, .ref o] [(0, ly_M, (o, ad, S.1, S.2.1, S.2.2))] 0 0 := by
  unfold b_readFrame_334 at hp
  refine a_aload_n C d_readFrame_334 rfl rfl ?_
  refine a_getI C 0 34 d_readFrame_335 rfl rfl rfl (Nat.le_of_ble_eq_true rfl) f_M_268 (Nat.le_of_ble_eq_true rfl) ?_
  refine a_iconst (v := 1) C d_readFrame_338 (by decide) ?_
  refine a_isub C d_readFrame_339 ?_
  refine a_call (Lr := []) (rest := []) (av := .ref o :: [.int s1, .int ((S.1 34) - 1)]) C [0] [] d_readFrame_340 (ct_must s1 ((S.1 34) - 1) S hp) cd_M_must i_M (Nat.le_of_ble_eq_true rfl) (by rw [hR]; exact Nat.le_of_ble_eq_true rfl) (by rw [hR]; exact Nat.le_of_ble_eq_true rfl) (by rw [hR]; exact Nat.le_of_ble_eq_true rfl) (by rw [hR]; exact Nat.le_of_ble_eq_true rfl) rfl rfl (by decide) (by decide) (by decide) (inv_V C 0 d_readFrame_340 l_M_291 im_M_must se_M_must cd_M_must ⟨by decide, by decide⟩ ln_M_must rfl rfl rfl rfl rfl) (fun oc L1 hL => ?_)
  obtain ⟨S340, hp, rfl, rfl⟩ := hL
  refine ⟨_, rfl, ?_⟩
  refine aw_eq (lo' := _) (st' := []) (L' := [(0, ly_M, (o, ad, S340.1, S340.2.1, S340.2.2))]) rfl rfl rfl ?_
  refine a_aload_n C d_readFrame_343 rfl rfl ?_
  refine a_getR C 0 15 d_readFrame_344 rfl rfl rfl (Nat.le_of_ble_eq_true rfl) f_M_50 ⟨Nat.le_of_ble_eq_true rfl, Nat.le_of_ble_eq_true rfl⟩ ?_
  refine a_bipush (v := 6) C d_readFrame_347 (by decide) ?_
  refine a_iload C d_readFrame_349 rfl ?_
  refine a_iadd C d_readFrame_351 ?_
  refine a_iload C d_readFrame_352 rfl ?_
  refine a_iconst (v := 4) C d_readFrame_354 (by decide) ?_
  refine a_ishr C d_readFrame_355 ?_
  refine a_iast C 0 15 d_readFrame_356 rfl rfl rfl hp.1 ?_
  have hp := hp.2
  refine aw_eq (lo' := _) (st' := _) (L' := [(0, ly_M, (o, ad, S340.1, va_up S340.2.1 15 (upd (S340.2.1 15) (6 + x5).toNatClampNeg (x7 >>> (4 &&& 31 : Int32) : Int32)), S340.2.2))]) rfl rfl rfl ?_
  refine a_aload_n C d_readFrame_357 rfl rfl ?_
  refine a_getR C 0 16 d_readFrame_358 rfl rfl rfl (Nat.le_of_ble_eq_true rfl) f_M_53 ⟨Nat.le_of_ble_eq_true rfl, Nat.le_of_ble_eq_true rfl⟩ ?_
  refine a_bipush (v := 6) C d_readFrame_361 (by decide) ?_
  refine a_iload C d_readFrame_363 rfl ?_
  refine a_iadd C d_readFrame_365 ?_
  refine a_iload C d_readFrame_366 rfl ?_
  refine a_bipush (v := 15) C d_readFrame_368 (by decide) ?_
  refine a_iand C d_readFrame_370 ?_
  refine a_iast C 0 16 d_readFrame_371 rfl rfl rfl hp.1 ?_
  have hp := hp.2
  refine aw_eq (lo' := _) (st' := _) (L' := [(0, ly_M, (o, ad, S340.1, va_up (va_up S340.2.1 15 (upd (S340.2.1 15) (6 + x5).toNatClampNeg (x7 >>> (4 &&& 31 : Int32) : Int32))) 16 (upd ((va_up S340.2.1 15 (upd (S340.2.1 15) (6 + x5).toNatClampNeg (x7 >>> (4 &&& 31 : Int32) : Int32))) 16) (6 + x5).toNatClampNeg (x7 &&& 15)), S340.2.2))]) rfl rfl rfl ?_
  refine a_aload_n C d_readFrame_372 rfl rfl ?_
  refine a_getR C 0 45 d_readFrame_373 rfl rfl rfl (Nat.le_of_ble_eq_true rfl) f_M_121 ⟨Nat.le_of_ble_eq_true rfl, Nat.le_of_ble_eq_true rfl⟩ ?_
  refine a_iload C d_readFrame_376 rfl ?_
  refine a_aload_n C d_readFrame_378 rfl rfl ?_
  refine a_getI C 0 35 d_readFrame_379 rfl rfl rfl (Nat.le_of_ble_eq_true rfl) f_M_265 (Nat.le_of_ble_eq_true rfl) ?_
  refine a_if_ne (tgt := 392) C d_readFrame_382 (by decide) ⟨fun hc => ?_, fun hc => ?_⟩
  · have hp := hp.1 hc
    refine a_iconst (v := 0) C d_readFrame_392 (by decide) ?_
    refine aw_lo (lo' := [some (.ref o), none, some (.int x2), some (.int x3), some (.int x4), some (.int x5), none, none]) ⟨.inr rfl, .inr rfl, .inr rfl, .inr rfl, .inr rfl, .inr rfl, .inr rfl, .inl rfl, trivial⟩ ?_
    exact s_readFrame_393 C hQ hA hR x2 x3 x4 x5 x5 0 (S340.1, va_up (va_up S340.2.1 15 (upd (S340.2.1 15) (6 + x5).toNatClampNeg (x7 >>> (4 &&& 31 : Int32) : Int32))) 16 (upd ((va_up S340.2.1 15 (upd (S340.2.1 15) (6 + x5).toNatClampNeg (x7 >>> (4 &&& 31 : Int32) : Int32))) 16) (6 + x5).toNatClampNeg (x7 &&& 15)), S340.2.2) R192 hR192 hp
  · have hp := hp.2 hc
    refine a_aload_n C d_readFrame_385 rfl rfl ?_
    refine a_call (Lr := []) (rest := [.int x5, .ref (ad 45)]) (av := .ref o :: []) C [0] [] d_readFrame_386 (ct_next (S340.1, va_up (va_up S340.2.1 15 (upd (S340.2.1 15) (6 + x5).toNatClampNeg (x7 >>> (4 &&& 31 : Int32) : Int32))) 16 (upd ((va_up S340.2.1 15 (upd (S340.2.1 15) (6 + x5).toNatClampNeg (x7 >>> (4 &&& 31 : Int32) : Int32))) 16) (6 + x5).toNatClampNeg (x7 &&& 15)), S340.2.2) hp) cd_M_next i_M (Nat.le_of_ble_eq_true rfl) (by rw [hR]; exact Nat.le_of_ble_eq_true rfl) (by rw [hR]; exact Nat.le_of_ble_eq_true rfl) (by rw [hR]; exact Nat.le_of_ble_eq_true rfl) (by rw [hR]; exact Nat.le_of_ble_eq_true rfl) rfl rfl (by decide) (by decide) (by decide) (inv_V C 0 d_readFrame_386 l_M_281 im_M_next se_M_next cd_M_next ⟨by decide, by decide⟩ ln_M_next rfl rfl rfl rfl rfl) (fun oc L1 hL => ?_)
    obtain ⟨v386, S386, hp, rfl, rfl⟩ := hL
    refine ⟨_, rfl, ?_⟩
    refine aw_eq (lo' := _) (st' := [.int v386, .int x5, .ref (ad 45)]) (L' := [(0, ly_M, (o, ad, S386.1, S386.2.1, S386.2.2))]) rfl rfl rfl ?_
    refine a_goto (tgt := 393) C d_readFrame_389 (by decide) ?_
    refine aw_lo (lo' := [some (.ref o), none, some (.int x2), some (.int x3), some (.int x4), some (.int x5), none, none]) ⟨.inr rfl, .inr rfl, .inr rfl, .inr rfl, .inr rfl, .inr rfl, .inr rfl, .inl rfl, trivial⟩ ?_
    exact s_readFrame_393 C hQ hA hR x2 x3 x4 x5 x5 v386 (S386.1, S386.2.1, S386.2.2) R192 hR192 hp
set_option maxRecDepth 100000 in
set_option maxHeartbeats 1000000 in
theorem s_readFrame_333 (C : fcx gG D z A X R_M c_M_readFrame 8 (none)) (hQ : X.2.2.2.2.2.2.2.2.2.2 = eQ gG D z X.2.2.2.2.2.2.2.1 X.2.2.2.2.1 L0 0 0 (pM_v K o ad)) (hA : A = owA gG L0 X.2.2.2.2.1.heap.size) (hR : X.2.2.2.1 = { frames := 4, cells := 1, slots := 6, locals := 400 }) (x2 : Int32) (x3 : Int32) (x4 : Int32) (x5 : Int32) (x7 : Int32) (S : ms) (R192 : Int32 → Int32 → Int32 → Int32 → ms → Prop) (hR192 : ∀ yx2 yx3 yx4 yx5 yS, R192 yx2 yx3 yx4 yx5 yS → aw gG D z A X 8 192 [some (.ref o), none, some (.int yx2), some (.int yx3), some (.int yx4), some (.int yx5), none, none] [] [(0, ly_M, (o, ad, yS.1, yS.2.1, yS.2.2))] 0 0) (hp : b_readFrame_333 x2 x3 x4 x5 x7 S R192 K) : aw gG D z A X 8 333 [some (.ref o), none, some (.int x2), some (.int x3), some (.int x4), some (.int x5), none, some (.int x7)] [.ref o] [(0, ly_M, (o, ad, S.1, S.2.1, S.2.2))] 0 0 := by
  unfold b_readFrame_333 at hp
  refine a_iconst (v := 0) C d_readFrame_333 (by decide) ?_
  refine aw_lo (lo' := [some (.ref o), none, some (.int x2), some (.int x3), some (.int x4), some (.int x5), none, some (.int x7)]) ⟨.inr rfl, .inr rfl, .inr rfl, .inr rfl, .inr rfl, .inr rfl, .inr rfl, .inr rfl, trivial⟩ ?_
  exact s_readFrame_334 C hQ hA hR x2 x3 x4 x5 x7 0 S R192 hR192 hp
set_option maxRecDepth 100000 in
set_option maxHeartbeats 1000000 in
theorem s_readFrame_329 (C : fcx gG D z A X R_M c_M_readFrame 8 (none)) (hQ : X.2.2.2.2.2.2.2.2.2.2 = eQ gG D z X.2.2.2.2.2.2.2.1 X.2.2.2.2.1 L0 0 0 (pM_v K o ad)) (hA : A = owA gG L0 X.2.2.2.2.1.heap.size) (hR : X.2.2.2.1 = { frames := 4, cells := 1, slots := 6, locals := 400 }) (x2 : Int32) (x3 : Int32) (x4 : Int32) (x5 : Int32) (x7 : Int32) (S : ms) (R192 : Int32 → Int32 → Int32 → Int32 → ms → Prop) (hR192 : ∀ yx2 yx3 yx4 yx5 yS, R192 yx2 yx3 yx4 yx5 yS → aw gG D z A X 8 192 [some (.ref o), none, some (.int yx2), some (.int yx3), some (.int yx4), some (.int yx5), none, none] [] [(0, ly_M, (o, ad, yS.1, yS.2.1, yS.2.2))] 0 0) (hp : b_readFrame_329 x2 x3 x4 x5 x7 S R192 K) : aw gG D z A X 8 329 [some (.ref o), none, some (.int x2), some (.int x3), some (.int x4), some (.int x5), none, some (.int x7)] [.ref o] [(0, ly_M, (o, ad, S.1, S.2.1, S.2.2))] 0 0 := by
  unfold b_readFrame_329 at hp
  refine a_iconst (v := 1) C d_readFrame_329 (by decide) ?_
  refine a_goto (tgt := 334) C d_readFrame_330 (by decide) ?_
  refine aw_lo (lo' := [some (.ref o), none, some (.int x2), some (.int x3), some (.int x4), some (.int x5), none, some (.int x7)]) ⟨.inr rfl, .inr rfl, .inr rfl, .inr rfl, .inr rfl, .inr rfl, .inr rfl, .inr rfl, trivial⟩ ?_
  exact s_readFrame_334 C hQ hA hR x2 x3 x4 x5 x7 1 S R192 hR192 hp
set_option maxRecDepth 100000 in
set_option maxHeartbeats 1000000 in
theorem s_readFrame_311 (C : fcx gG D z A X R_M c_M_readFrame 8 (none)) (hQ : X.2.2.2.2.2.2.2.2.2.2 = eQ gG D z X.2.2.2.2.2.2.2.1 X.2.2.2.2.1 L0 0 0 (pM_v K o ad)) (hA : A = owA gG L0 X.2.2.2.2.1.heap.size) (hR : X.2.2.2.1 = { frames := 4, cells := 1, slots := 6, locals := 400 }) (x2 : Int32) (x3 : Int32) (x4 : Int32) (x5 : Int32) (x7 : Int32) (S : ms) (R192 : Int32 → Int32 → Int32 → Int32 → ms → Prop) (hR192 : ∀ yx2 yx3 yx4 yx5 yS, R192 yx2 yx3 yx4 yx5 yS → aw gG D z A X 8 192 [some (.ref o), none, some (.int yx2), some (.int yx3), some (.int yx4), some (.int yx5), none, none] [] [(0, ly_M, (o, ad, yS.1, yS.2.1, yS.2.2))] 0 0) (hp : b_readFrame_311 x2 x3 x4 x5 x7 S R192 K) : aw gG D z A X 8 311 [some (.ref o), none, some (.int x2), some (.int x3), some (.int x4), some (.int x5), none, some (.int x7)] [.ref o] [(0, ly_M, (o, ad, S.1, S.2.1, S.2.2))] 0 0 := by
  unfold b_readFrame_311 at hp
  refine a_iload C d_readFrame_311 rfl ?_
  refine a_bipush (v := 15) C d_readFrame_313 (by decide) ?_
  refine a_iand C d_readFrame_315 ?_
  refine a_iconst (v := 1) C d_readFrame_316 (by decide) ?_
  refine a_icmp_eq (tgt := 329) C d_readFrame_317 (by decide) ⟨fun hc => ?_, fun hc => ?_⟩
  · have hp := hp.1 hc
    refine aw_lo (lo' := [some (.ref o), none, some (.int x2), some (.int x3), some (.int x4), some (.int x5), none, some (.int x7)]) ⟨.inr rfl, .inr rfl, .inr rfl, .inr rfl, .inr rfl, .inr rfl, .inr rfl, .inr rfl, trivial⟩ ?_
    exact s_readFrame_329 C hQ hA hR x2 x3 x4 x5 x7 S R192 hR192 hp
  · have hp := hp.2 hc
    refine a_iload C d_readFrame_320 rfl ?_
    refine a_bipush (v := 15) C d_readFrame_322 (by decide) ?_
    refine a_iand C d_readFrame_324 ?_
    refine a_iconst (v := 2) C d_readFrame_325 (by decide) ?_
    refine a_icmp_ne (tgt := 333) C d_readFrame_326 (by decide) ⟨fun hc => ?_, fun hc => ?_⟩
    · have hp := hp.1 hc
      refine aw_lo (lo' := [some (.ref o), none, some (.int x2), some (.int x3), some (.int x4), some (.int x5), none, some (.int x7)]) ⟨.inr rfl, .inr rfl, .inr rfl, .inr rfl, .inr rfl, .inr rfl, .inr rfl, .inr rfl, trivial⟩ ?_
      exact s_readFrame_333 C hQ hA hR x2 x3 x4 x5 x7 S R192 hR192 hp
    · have hp := hp.2 hc
      refine aw_lo (lo' := [some (.ref o), none, some (.int x2), some (.int x3), some (.int x4), some (.int x5), none, some (.int x7)]) ⟨.inr rfl, .inr rfl, .inr rfl, .inr rfl, .inr rfl, .inr rfl, .inr rfl, .inr rfl, trivial⟩ ?_
      exact s_readFrame_329 C hQ hA hR x2 x3 x4 x5 x7 S R192 hR192 hp
set_option maxRecDepth 100000 in
set_option maxHeartbeats 1000000 in
theorem s_readFrame_292 (C : fcx gG D z A X R_M c_M_readFrame 8 (none)) (hQ : X.2.2.2.2.2.2.2.2.2.2 = eQ gG D z X.2.2.2.2.2.2.2.1 X.2.2.2.2.1 L0 0 0 (pM_v K o ad)) (hA : A = owA gG L0 X.2.2.2.2.1.heap.size) (hR : X.2.2.2.1 = { frames := 4, cells := 1, slots := 6, locals := 400 }) (x2 : Int32) (x3 : Int32) (x4 : Int32) (x5 : Int32) (s0 : Int32) (S : ms) (R192 : Int32 → Int32 → Int32 → Int32 → ms → Prop) (hR192 : ∀ yx2 yx3 yx4 yx5 yS, R192 yx2 yx3 yx4 yx5 yS → aw gG D z A X 8 192 [some (.ref o), none, some (.int yx2), some (.int yx3), some (.int yx4), some (.int yx5), none, none] [] [(0, ly_M, (o, ad, yS.1, yS.2.1, yS.2.2))] 0 0) (hp : b_readFrame_292 x2 x3 x4 x5 s0 S R192 K) : aw gG D z A X 8 292 [some (.ref o), none, some (.int x2), some (.int x3), some (.int x4), some (.int x5), none, none] [.int s0] [(0, ly_M, (o, ad, S.1, S.2.1, S.2.2))] 0 0 := by
  unfold b_readFrame_292 at hp
  refine a_istore (lo' := [some (.ref o), none, some (.int x2), some (.int x3), some (.int x4), some (.int x5), none, some (.int s0)]) C d_readFrame_292 (by decide) rfl ?_
  refine a_aload_n C d_readFrame_294 rfl rfl ?_
  refine a_iload C d_readFrame_295 rfl ?_
  refine a_iconst (v := 4) C d_readFrame_297 (by decide) ?_
  refine a_ishr C d_readFrame_298 ?_
  refine a_iconst (v := 1) C d_readFrame_299 (by decide) ?_
  refine a_icmp_eq (tgt := 311) C d_readFrame_300 (by decide) ⟨fun hc => ?_, fun hc => ?_⟩
  · have hp := hp.1 hc
    refine aw_lo (lo' := [some (.ref o), none, some (.int x2), some (.int x3), some (.int x4), some (.int x5), none, some (.int s0)]) ⟨.inr rfl, .inr rfl, .inr rfl, .inr rfl, .inr rfl, .inr rfl, .inr rfl, .inr rfl, trivial⟩ ?_
    exact s_readFrame_311 C hQ hA hR x2 x3 x4 x5 s0 S R192 hR192 hp
  · have hp := hp.2 hc
    refine a_iload C d_readFrame_303 rfl ?_
    refine a_iconst (v := 4) C d_readFrame_305 (by decide) ?_
    refine a_ishr C d_readFrame_306 ?_
    refine a_iconst (v := 2) C d_readFrame_307 (by decide) ?_
    refine a_icmp_ne (tgt := 333) C d_readFrame_308 (by decide) ⟨fun hc => ?_, fun hc => ?_⟩
    · have hp := hp.1 hc
      refine aw_lo (lo' := [some (.ref o), none, some (.int x2), some (.int x3), some (.int x4), some (.int x5), none, some (.int s0)]) ⟨.inr rfl, .inr rfl, .inr rfl, .inr rfl, .inr rfl, .inr rfl, .inr rfl, .inr rfl, trivial⟩ ?_
      exact s_readFrame_333 C hQ hA hR x2 x3 x4 x5 s0 S R192 hR192 hp
    · have hp := hp.2 hc
      refine aw_lo (lo' := [some (.ref o), none, some (.int x2), some (.int x3), some (.int x4), some (.int x5), none, some (.int s0)]) ⟨.inr rfl, .inr rfl, .inr rfl, .inr rfl, .inr rfl, .inr rfl, .inr rfl, .inr rfl, trivial⟩ ?_
      exact s_readFrame_311 C hQ hA hR x2 x3 x4 x5 s0 S R192 hR192 hp
set_option maxRecDepth 100000 in
set_option maxHeartbeats 1000000 in
theorem s_readFrame_257 (C : fcx gG D z A X R_M c_M_readFrame 8 (none)) (hQ : X.2.2.2.2.2.2.2.2.2.2 = eQ gG D z X.2.2.2.2.2.2.2.1 X.2.2.2.2.1 L0 0 0 (pM_v K o ad)) (hA : A = owA gG L0 X.2.2.2.2.1.heap.size) (hR : X.2.2.2.1 = { frames := 4, cells := 1, slots := 6, locals := 400 }) (x2 : Int32) (x3 : Int32) (x4 : Int32) (x5 : Int32) (x7 : Int32) (s0 : Int32) (S : ms) (R192 : Int32 → Int32 → Int32 → Int32 → ms → Prop) (hR192 : ∀ yx2 yx3 yx4 yx5 yS, R192 yx2 yx3 yx4 yx5 yS → aw gG D z A X 8 192 [some (.ref o), none, some (.int yx2), some (.int yx3), some (.int yx4), some (.int yx5), none, none] [] [(0, ly_M, (o, ad, yS.1, yS.2.1, yS.2.2))] 0 0) (R223 : Int32 → Int32 → Int32 → Int32 → Int32 → Int32 → ms → Prop) (hR223 : ∀ yx2 yx3 yx4 yx5 yx6 yx7 yS, R223 yx2 yx3 yx4 yx5 yx6 yx7 yS → aw gG D z A X 8 223 [some (.ref o), none, some (.int yx2), some (.int yx3), some (.int yx4), some (.int yx5), some (.int yx6), some (.int yx7)] [] [(0, ly_M, (o, ad, yS.1, yS.2.1, yS.2.2))] 0 0) (hp : b_readFrame_257 x2 x3 x4 x5 x7 s0 S R192 R223 K) : aw gG D z A X 8 257 [some (.ref o), none, some (.int x2), some (.int x3), some (.int x4), some (.int x5), none, some (.int x7)] [.int s0] [(0, ly_M, (o, ad, S.1, S.2.1, S.2.2))] 0 0 := by
  unfold b_readFrame_257 at hp
  refine a_istore (lo' := [some (.ref o), none, some (.int x2), some (.int x3), some (.int x4), some (.int x5), some (.int s0), some (.int x7)]) C d_readFrame_257 (by decide) rfl ?_
  refine a_iinc (v := x7 + 1) (lo' := [some (.ref o), none, some (.int x2), some (.int x3), some (.int x4), some (.int x5), some (.int s0), some (.int (x7 + 1))]) C d_readFrame_259 rfl rfl (by decide) rfl ?_
  refine a_goto (tgt := 223) C d_readFrame_262 (by decide) ?_
  refine aw_lo (lo' := [some (.ref o), none, some (.int x2), some (.int x3), some (.int x4), some (.int x5), some (.int s0), some (.int (x7 + 1))]) ⟨.inr rfl, .inr rfl, .inr rfl, .inr rfl, .inr rfl, .inr rfl, .inr rfl, .inr rfl, trivial⟩ ?_
  exact hR223 x2 x3 x4 x5 s0 (x7 + 1) S hp
set_option maxRecDepth 100000 in
set_option maxHeartbeats 1000000 in
theorem s_readFrame_256 (C : fcx gG D z A X R_M c_M_readFrame 8 (none)) (hQ : X.2.2.2.2.2.2.2.2.2.2 = eQ gG D z X.2.2.2.2.2.2.2.1 X.2.2.2.2.1 L0 0 0 (pM_v K o ad)) (hA : A = owA gG L0 X.2.2.2.2.1.heap.size) (hR : X.2.2.2.1 = { frames := 4, cells := 1, slots := 6, locals := 400 }) (x2 : Int32) (x3 : Int32) (x4 : Int32) (x5 : Int32) (x7 : Int32) (S : ms) (R192 : Int32 → Int32 → Int32 → Int32 → ms → Prop) (hR192 : ∀ yx2 yx3 yx4 yx5 yS, R192 yx2 yx3 yx4 yx5 yS → aw gG D z A X 8 192 [some (.ref o), none, some (.int yx2), some (.int yx3), some (.int yx4), some (.int yx5), none, none] [] [(0, ly_M, (o, ad, yS.1, yS.2.1, yS.2.2))] 0 0) (R223 : Int32 → Int32 → Int32 → Int32 → Int32 → Int32 → ms → Prop) (hR223 : ∀ yx2 yx3 yx4 yx5 yx6 yx7 yS, R223 yx2 yx3 yx4 yx5 yx6 yx7 yS → aw gG D z A X 8 223 [some (.ref o), none, some (.int yx2), some (.int yx3), some (.int yx4), some (.int yx5), some (.int yx6), some (.int yx7)] [] [(0, ly_M, (o, ad, yS.1, yS.2.1, yS.2.2))] 0 0) (hp : b_readFrame_256 x2 x3 x4 x5 x7 S R192 R223 K) : aw gG D z A X 8 256 [some (.ref o), none, some (.int x2), some (.int x3), some (.int x4), some (.int x5), none, some (.int x7)] [] [(0, ly_M, (o, ad, S.1, S.2.1, S.2.2))] 0 0 := by
  unfold b_readFrame_256 at hp
  refine a_iconst (v := 0) C d_readFrame_256 (by decide) ?_
  refine aw_lo (lo' := [some (.ref o), none, some (.int x2), some (.int x3), some (.int x4), some (.int x5), none, some (.int x7)]) ⟨.inr rfl, .inr rfl, .inr rfl, .inr rfl, .inr rfl, .inr rfl, .inr rfl, .inr rfl, trivial⟩ ?_
  exact s_readFrame_257 C hQ hA hR x2 x3 x4 x5 x7 0 S R192 hR192 R223 hR223 hp
set_option maxRecDepth 100000 in
set_option maxHeartbeats 1000000 in
theorem s_readFrame_223 (C : fcx gG D z A X R_M c_M_readFrame 8 (none)) (hQ : X.2.2.2.2.2.2.2.2.2.2 = eQ gG D z X.2.2.2.2.2.2.2.1 X.2.2.2.2.1 L0 0 0 (pM_v K o ad)) (hA : A = owA gG L0 X.2.2.2.2.1.heap.size) (hR : X.2.2.2.1 = { frames := 4, cells := 1, slots := 6, locals := 400 }) (x2 : Int32) (x3 : Int32) (x4 : Int32) (x5 : Int32) (x6 : Int32) (x7 : Int32) (S : ms) (R192 : Int32 → Int32 → Int32 → Int32 → ms → Prop) (hR192 : ∀ yx2 yx3 yx4 yx5 yS, R192 yx2 yx3 yx4 yx5 yS → aw gG D z A X 8 192 [some (.ref o), none, some (.int yx2), some (.int yx3), some (.int yx4), some (.int yx5), none, none] [] [(0, ly_M, (o, ad, yS.1, yS.2.1, yS.2.2))] 0 0) (R223 : Int32 → Int32 → Int32 → Int32 → Int32 → Int32 → ms → Prop) (hR223 : ∀ yx2 yx3 yx4 yx5 yx6 yx7 yS, R223 yx2 yx3 yx4 yx5 yx6 yx7 yS → aw gG D z A X 8 223 [some (.ref o), none, some (.int yx2), some (.int yx3), some (.int yx4), some (.int yx5), some (.int yx6), some (.int yx7)] [] [(0, ly_M, (o, ad, yS.1, yS.2.1, yS.2.2))] 0 0) (hp : b_readFrame_223 x2 x3 x4 x5 x6 x7 S R192 R223 K) : aw gG D z A X 8 223 [some (.ref o), none, some (.int x2), some (.int x3), some (.int x4), some (.int x5), some (.int x6), some (.int x7)] [] [(0, ly_M, (o, ad, S.1, S.2.1, S.2.2))] 0 0 := by
  unfold b_readFrame_223 at hp
  refine a_iload C d_readFrame_223 rfl ?_
  refine a_iload C d_readFrame_225 rfl ?_
  refine a_icmp_ge (tgt := 265) C d_readFrame_227 (by decide) ⟨fun hc => ?_, fun hc => ?_⟩
  · have hp := hp.1 hc
    refine a_aload_n C d_readFrame_265 rfl rfl ?_
    refine a_iload C d_readFrame_266 rfl ?_
    refine a_aload_n C d_readFrame_268 rfl rfl ?_
    refine a_getI C 0 34 d_readFrame_269 rfl rfl rfl (Nat.le_of_ble_eq_true rfl) f_M_268 (Nat.le_of_ble_eq_true rfl) ?_
    refine a_iconst (v := 1) C d_readFrame_272 (by decide) ?_
    refine a_isub C d_readFrame_273 ?_
    refine a_call (Lr := []) (rest := []) (av := .ref o :: [.int x6, .int ((S.1 34) - 1)]) C [0] [] d_readFrame_274 (ct_must x6 ((S.1 34) - 1) S hp) cd_M_must i_M (Nat.le_of_ble_eq_true rfl) (by rw [hR]; exact Nat.le_of_ble_eq_true rfl) (by rw [hR]; exact Nat.le_of_ble_eq_true rfl) (by rw [hR]; exact Nat.le_of_ble_eq_true rfl) (by rw [hR]; exact Nat.le_of_ble_eq_true rfl) rfl rfl (by decide) (by decide) (by decide) (inv_V C 0 d_readFrame_274 l_M_291 im_M_must se_M_must cd_M_must ⟨by decide, by decide⟩ ln_M_must rfl rfl rfl rfl rfl) (fun oc L1 hL => ?_)
    obtain ⟨S274, hp, rfl, rfl⟩ := hL
    refine ⟨_, rfl, ?_⟩
    refine aw_eq (lo' := _) (st' := []) (L' := [(0, ly_M, (o, ad, S274.1, S274.2.1, S274.2.2))]) rfl rfl rfl ?_
    refine a_aload_n C d_readFrame_277 rfl rfl ?_
    refine a_getI C 0 35 d_readFrame_278 rfl rfl rfl (Nat.le_of_ble_eq_true rfl) f_M_265 (Nat.le_of_ble_eq_true rfl) ?_
    refine a_if_ne (tgt := 291) C d_readFrame_281 (by decide) ⟨fun hc => ?_, fun hc => ?_⟩
    · have hp := hp.1 hc
      refine a_iconst (v := 0) C d_readFrame_291 (by decide) ?_
      refine aw_lo (lo' := [some (.ref o), none, some (.int x2), some (.int x3), some (.int x4), some (.int x5), none, none]) ⟨.inr rfl, .inr rfl, .inr rfl, .inr rfl, .inr rfl, .inr rfl, .inl rfl, .inl rfl, trivial⟩ ?_
      exact s_readFrame_292 C hQ hA hR x2 x3 x4 x5 0 (S274.1, S274.2.1, S274.2.2) R192 hR192 hp
    · have hp := hp.2 hc
      refine a_aload_n C d_readFrame_284 rfl rfl ?_
      refine a_call (Lr := []) (rest := []) (av := .ref o :: []) C [0] [] d_readFrame_285 (ct_next (S274.1, S274.2.1, S274.2.2) hp) cd_M_next i_M (Nat.le_of_ble_eq_true rfl) (by rw [hR]; exact Nat.le_of_ble_eq_true rfl) (by rw [hR]; exact Nat.le_of_ble_eq_true rfl) (by rw [hR]; exact Nat.le_of_ble_eq_true rfl) (by rw [hR]; exact Nat.le_of_ble_eq_true rfl) rfl rfl (by decide) (by decide) (by decide) (inv_V C 0 d_readFrame_285 l_M_281 im_M_next se_M_next cd_M_next ⟨by decide, by decide⟩ ln_M_next rfl rfl rfl rfl rfl) (fun oc L1 hL => ?_)
      obtain ⟨v285, S285, hp, rfl, rfl⟩ := hL
      refine ⟨_, rfl, ?_⟩
      refine aw_eq (lo' := _) (st' := [.int v285]) (L' := [(0, ly_M, (o, ad, S285.1, S285.2.1, S285.2.2))]) rfl rfl rfl ?_
      refine a_goto (tgt := 292) C d_readFrame_288 (by decide) ?_
      refine aw_lo (lo' := [some (.ref o), none, some (.int x2), some (.int x3), some (.int x4), some (.int x5), none, none]) ⟨.inr rfl, .inr rfl, .inr rfl, .inr rfl, .inr rfl, .inr rfl, .inl rfl, .inl rfl, trivial⟩ ?_
      exact s_readFrame_292 C hQ hA hR x2 x3 x4 x5 v285 (S285.1, S285.2.1, S285.2.2) R192 hR192 hp
  · have hp := hp.2 hc
    refine a_iload C d_readFrame_230 rfl ?_
    refine a_if_eq (tgt := 256) C d_readFrame_232 (by decide) ⟨fun hc => ?_, fun hc => ?_⟩
    · have hp := hp.1 hc
      refine aw_lo (lo' := [some (.ref o), none, some (.int x2), some (.int x3), some (.int x4), some (.int x5), none, some (.int x7)]) ⟨.inr rfl, .inr rfl, .inr rfl, .inr rfl, .inr rfl, .inr rfl, .inl rfl, .inr rfl, trivial⟩ ?_
      exact s_readFrame_256 C hQ hA hR x2 x3 x4 x5 x7 S R192 hR192 R223 hR223 hp
    · have hp := hp.2 hc
      refine a_aload_n C d_readFrame_235 rfl rfl ?_
      refine a_getR C 0 44 d_readFrame_236 rfl rfl rfl (Nat.le_of_ble_eq_true rfl) f_M_118 ⟨Nat.le_of_ble_eq_true rfl, Nat.le_of_ble_eq_true rfl⟩ ?_
      refine a_iload C d_readFrame_239 rfl ?_
      refine a_iald C 0 44 d_readFrame_241 rfl rfl rfl hp.1 ?_
      have hp := hp.2
      refine a_aload_n C d_readFrame_242 rfl rfl ?_
      refine a_getR C 0 44 d_readFrame_243 rfl rfl rfl (Nat.le_of_ble_eq_true rfl) f_M_118 ⟨Nat.le_of_ble_eq_true rfl, Nat.le_of_ble_eq_true rfl⟩ ?_
      refine a_iload C d_readFrame_246 rfl ?_
      refine a_iald C 0 44 d_readFrame_248 rfl rfl rfl hp.1 ?_
      have hp := hp.2
      refine a_icmp_eq (tgt := 256) C d_readFrame_249 (by decide) ⟨fun hc => ?_, fun hc => ?_⟩
      · have hp := hp.1 hc
        refine aw_lo (lo' := [some (.ref o), none, some (.int x2), some (.int x3), some (.int x4), some (.int x5), none, some (.int x7)]) ⟨.inr rfl, .inr rfl, .inr rfl, .inr rfl, .inr rfl, .inr rfl, .inl rfl, .inr rfl, trivial⟩ ?_
        exact s_readFrame_256 C hQ hA hR x2 x3 x4 x5 x7 S R192 hR192 R223 hR223 hp
      · have hp := hp.2 hc
        refine a_iconst (v := 1) C d_readFrame_252 (by decide) ?_
        refine a_goto (tgt := 257) C d_readFrame_253 (by decide) ?_
        refine aw_lo (lo' := [some (.ref o), none, some (.int x2), some (.int x3), some (.int x4), some (.int x5), none, some (.int x7)]) ⟨.inr rfl, .inr rfl, .inr rfl, .inr rfl, .inr rfl, .inr rfl, .inl rfl, .inr rfl, trivial⟩ ?_
        exact s_readFrame_257 C hQ hA hR x2 x3 x4 x5 x7 1 S R192 hR192 R223 hR223 hp
set_option maxRecDepth 100000 in
set_option maxHeartbeats 1000000 in
theorem se_readFrame_223 (C : fcx gG D z A X R_M c_M_readFrame 8 (none)) (hQ : X.2.2.2.2.2.2.2.2.2.2 = eQ gG D z X.2.2.2.2.2.2.2.1 X.2.2.2.2.1 L0 0 0 (pM_v K o ad)) (hA : A = owA gG L0 X.2.2.2.2.1.heap.size) (hR : X.2.2.2.1 = { frames := 4, cells := 1, slots := 6, locals := 400 }) (x2 : Int32) (x3 : Int32) (x4 : Int32) (x5 : Int32) (x6 : Int32) (x7 : Int32) (S : ms) (R192 : Int32 → Int32 → Int32 → Int32 → ms → Prop) (hR192 : ∀ yx2 yx3 yx4 yx5 yS, R192 yx2 yx3 yx4 yx5 yS → aw gG D z A X 8 192 [some (.ref o), none, some (.int yx2), some (.int yx3), some (.int yx4), some (.int yx5), none, none] [] [(0, ly_M, (o, ad, yS.1, yS.2.1, yS.2.2))] 0 0) (hp : e_readFrame_223 x2 x3 x4 x5 x6 x7 S R192 K) : aw gG D z A X 8 223 [some (.ref o), none, some (.int x2), some (.int x3), some (.int x4), some (.int x5), some (.int x6), some (.int x7)] [] [(0, ly_M, (o, ad, S.1, S.2.1, S.2.2))] 0 0 := by
  obtain ⟨I, μ, h0, hs⟩ := hp
  have key : ∀ (n : Nat) (yx2 : Int32) (yx3 : Int32) (yx4 : Int32) (yx5 : Int32) (yx6 : Int32) (yx7 : Int32) (yS : ms), μ yx2 yx3 yx4 yx5 yx6 yx7 yS < n → I yx2 yx3 yx4 yx5 yx6 yx7 yS → aw gG D z A X 8 223 [some (.ref o), none, some (.int yx2), some (.int yx3), some (.int yx4), some (.int yx5), some (.int yx6), some (.int yx7)] [] [(0, ly_M, (o, ad, yS.1, yS.2.1, yS.2.2))] 0 0 := by
    intro n
    induction n with
    | zero => intro yx2 yx3 yx4 yx5 yx6 yx7 yS h; omega
    | succ n ih =>
      intro yx2 yx3 yx4 yx5 yx6 yx7 yS hn hI
      exact s_readFrame_223 C hQ hA hR yx2 yx3 yx4 yx5 yx6 yx7 yS R192 hR192 _ (fun zx2 zx3 zx4 zx5 zx6 zx7 zS hw => ih zx2 zx3 zx4 zx5 zx6 zx7 zS (by omega) hw.1) (hs yx2 yx3 yx4 yx5 yx6 yx7 yS hI)
  exact key (μ x2 x3 x4 x5 x6 x7 S + 1) x2 x3 x4 x5 x6 x7 S (Nat.lt_succ_self _) h0
set_option maxRecDepth 100000 in
set_option maxHeartbeats 1000000 in
theorem s_readFrame_192 (C : fcx gG D z A X R_M c_M_readFrame 8 (none)) (hQ : X.2.2.2.2.2.2.2.2.2.2 = eQ gG D z X.2.2.2.2.2.2.2.1 X.2.2.2.2.1 L0 0 0 (pM_v K o ad)) (hA : A = owA gG L0 X.2.2.2.2.1.heap.size) (hR : X.2.2.2.1 = { frames := 4, cells := 1, slots := 6, locals := 400 }) (x2 : Int32) (x3 : Int32) (x4 : Int32) (x5 : Int32) (S : ms) (R192 : Int32 → Int32 → Int32 → Int32 → ms → Prop) (hR192 : ∀ yx2 yx3 yx4 yx5 yS, R192 yx2 yx3 yx4 yx5 yS → aw gG D z A X 8 192 [some (.ref o), none, some (.int yx2), some (.int yx3), some (.int yx4), some (.int yx5), none, none] [] [(0, ly_M, (o, ad, yS.1, yS.2.1, yS.2.2))] 0 0) (hp : b_readFrame_192 x2 x3 x4 x5 S R192 K) : aw gG D z A X 8 192 [some (.ref o), none, some (.int x2), some (.int x3), some (.int x4), some (.int x5), none, none] [] [(0, ly_M, (o, ad, S.1, S.2.1, S.2.2))] 0 0 := by
  unfold b_readFrame_192 at hp
  refine a_iload C d_readFrame_192 rfl ?_
  refine a_iload C d_readFrame_194 rfl ?_
  refine a_icmp_ge (tgt := 426) C d_readFrame_196 (by decide) ⟨fun hc => ?_, fun hc => ?_⟩
  · have hp := hp.1 hc
    refine aw_lo (lo' := [some (.ref o), none, some (.int x2), some (.int x3), some (.int x4), none, none, none]) ⟨.inr rfl, .inr rfl, .inr rfl, .inr rfl, .inr rfl, .inl rfl, .inr rfl, .inr rfl, trivial⟩ ?_
    exact s_readFrame_426 C hQ hA hR x2 x3 x4 S  hp
  · have hp := hp.2 hc
    refine a_aload_n C d_readFrame_199 rfl rfl ?_
    refine a_getI C 0 35 d_readFrame_200 rfl rfl rfl (Nat.le_of_ble_eq_true rfl) f_M_265 (Nat.le_of_ble_eq_true rfl) ?_
    refine a_if_ne (tgt := 426) C d_readFrame_203 (by decide) ⟨fun hc => ?_, fun hc => ?_⟩
    · have hp := hp.1 hc
      refine aw_lo (lo' := [some (.ref o), none, some (.int x2), some (.int x3), some (.int x4), none, none, none]) ⟨.inr rfl, .inr rfl, .inr rfl, .inr rfl, .inr rfl, .inl rfl, .inr rfl, .inr rfl, trivial⟩ ?_
      exact s_readFrame_426 C hQ hA hR x2 x3 x4 S  hp
    · have hp := hp.2 hc
      refine a_aload_n C d_readFrame_206 rfl rfl ?_
      refine a_getR C 0 44 d_readFrame_207 rfl rfl rfl (Nat.le_of_ble_eq_true rfl) f_M_118 ⟨Nat.le_of_ble_eq_true rfl, Nat.le_of_ble_eq_true rfl⟩ ?_
      refine a_iload C d_readFrame_210 rfl ?_
      refine a_aload_n C d_readFrame_212 rfl rfl ?_
      refine a_call (Lr := []) (rest := [.int x5, .ref (ad 44)]) (av := .ref o :: []) C [0] [] d_readFrame_213 (ct_next S hp) cd_M_next i_M (Nat.le_of_ble_eq_true rfl) (by rw [hR]; exact Nat.le_of_ble_eq_true rfl) (by rw [hR]; exact Nat.le_of_ble_eq_true rfl) (by rw [hR]; exact Nat.le_of_ble_eq_true rfl) (by rw [hR]; exact Nat.le_of_ble_eq_true rfl) rfl rfl (by decide) (by decide) (by decide) (inv_V C 0 d_readFrame_213 l_M_281 im_M_next se_M_next cd_M_next ⟨by decide, by decide⟩ ln_M_next rfl rfl rfl rfl rfl) (fun oc L1 hL => ?_)
      obtain ⟨v213, S213, hp, rfl, rfl⟩ := hL
      refine ⟨_, rfl, ?_⟩
      refine aw_eq (lo' := _) (st' := [.int v213, .int x5, .ref (ad 44)]) (L' := [(0, ly_M, (o, ad, S213.1, S213.2.1, S213.2.2))]) rfl rfl rfl ?_
      refine a_iast C 0 44 d_readFrame_216 rfl rfl rfl hp.1 ?_
      have hp := hp.2
      refine aw_eq (lo' := _) (st' := _) (L' := [(0, ly_M, (o, ad, S213.1, va_up S213.2.1 44 (upd (S213.2.1 44) x5.toNatClampNeg v213), S213.2.2))]) rfl rfl rfl ?_
      refine a_iconst (v := 1) C d_readFrame_217 (by decide) ?_
      refine a_istore (lo' := [some (.ref o), none, some (.int x2), some (.int x3), some (.int x4), some (.int x5), some (.int 1), none]) C d_readFrame_218 (by decide) rfl ?_
      refine a_iconst (v := 0) C d_readFrame_220 (by decide) ?_
      refine a_istore (lo' := [some (.ref o), none, some (.int x2), some (.int x3), some (.int x4), some (.int x5), some (.int 1), some (.int 0)]) C d_readFrame_221 (by decide) rfl ?_
      refine aw_lo (lo' := [some (.ref o), none, some (.int x2), some (.int x3), some (.int x4), some (.int x5), some (.int 1), some (.int 0)]) ⟨.inr rfl, .inr rfl, .inr rfl, .inr rfl, .inr rfl, .inr rfl, .inr rfl, .inr rfl, trivial⟩ ?_
      exact se_readFrame_223 C hQ hA hR x2 x3 x4 x5 1 0 (S213.1, va_up S213.2.1 44 (upd (S213.2.1 44) x5.toNatClampNeg v213), S213.2.2) R192 hR192 hp
set_option maxRecDepth 100000 in
set_option maxHeartbeats 1000000 in
theorem se_readFrame_192 (C : fcx gG D z A X R_M c_M_readFrame 8 (none)) (hQ : X.2.2.2.2.2.2.2.2.2.2 = eQ gG D z X.2.2.2.2.2.2.2.1 X.2.2.2.2.1 L0 0 0 (pM_v K o ad)) (hA : A = owA gG L0 X.2.2.2.2.1.heap.size) (hR : X.2.2.2.1 = { frames := 4, cells := 1, slots := 6, locals := 400 }) (x2 : Int32) (x3 : Int32) (x4 : Int32) (x5 : Int32) (S : ms) (hp : e_readFrame_192 x2 x3 x4 x5 S K) : aw gG D z A X 8 192 [some (.ref o), none, some (.int x2), some (.int x3), some (.int x4), some (.int x5), none, none] [] [(0, ly_M, (o, ad, S.1, S.2.1, S.2.2))] 0 0 := by
  obtain ⟨I, μ, h0, hs⟩ := hp
  have key : ∀ (n : Nat) (yx2 : Int32) (yx3 : Int32) (yx4 : Int32) (yx5 : Int32) (yS : ms), μ yx2 yx3 yx4 yx5 yS < n → I yx2 yx3 yx4 yx5 yS → aw gG D z A X 8 192 [some (.ref o), none, some (.int yx2), some (.int yx3), some (.int yx4), some (.int yx5), none, none] [] [(0, ly_M, (o, ad, yS.1, yS.2.1, yS.2.2))] 0 0 := by
    intro n
    induction n with
    | zero => intro yx2 yx3 yx4 yx5 yS h; omega
    | succ n ih =>
      intro yx2 yx3 yx4 yx5 yS hn hI
      exact s_readFrame_192 C hQ hA hR yx2 yx3 yx4 yx5 yS _ (fun zx2 zx3 zx4 zx5 zS hw => ih zx2 zx3 zx4 zx5 zS (by omega) hw.1) (hs yx2 yx3 yx4 yx5 yS hI)
  exact key (μ x2 x3 x4 x5 S + 1) x2 x3 x4 x5 S (Nat.lt_succ_self _) h0
set_option maxRecDepth 100000 in
set_option maxHeartbeats 1000000 in
theorem s_readFrame_189 (C : fcx gG D z A X R_M c_M_readFrame 8 (none)) (hQ : X.2.2.2.2.2.2.2.2.2.2 = eQ gG D z X.2.2.2.2.2.2.2.1 X.2.2.2.2.1 L0 0 0 (pM_v K o ad)) (hA : A = owA gG L0 X.2.2.2.2.1.heap.size) (hR : X.2.2.2.1 = { frames := 4, cells := 1, slots := 6, locals := 400 }) (x2 : Int32) (x3 : Int32) (x4 : Int32) (S : ms) (hp : b_readFrame_189 x2 x3 x4 S K) : aw gG D z A X 8 189 [some (.ref o), none, some (.int x2), some (.int x3), some (.int x4), none, none, none] [] [(0, ly_M, (o, ad, S.1, S.2.1, S.2.2))] 0 0 := by
  unfold b_readFrame_189 at hp
  refine a_iconst (v := 0) C d_readFrame_189 (by decide) ?_
  refine a_istore (lo' := [some (.ref o), none, some (.int x2), some (.int x3), some (.int x4), some (.int 0), none, none]) C d_readFrame_190 (by decide) rfl ?_
  refine aw_lo (lo' := [some (.ref o), none, some (.int x2), some (.int x3), some (.int x4), some (.int 0), none, none]) ⟨.inr rfl, .inr rfl, .inr rfl, .inr rfl, .inr rfl, .inr rfl, .inr rfl, .inr rfl, trivial⟩ ?_
  exact se_readFrame_192 C hQ hA hR x2 x3 x4 0 S  hp
set_option maxRecDepth 100000 in
set_option maxHeartbeats 1000000 in
theorem s_readFrame_143 (C : fcx gG D z A X R_M c_M_readFrame 8 (none)) (hQ : X.2.2.2.2.2.2.2.2.2.2 = eQ gG D z X.2.2.2.2.2.2.2.1 X.2.2.2.2.1 L0 0 0 (pM_v K o ad)) (hA : A = owA gG L0 X.2.2.2.2.1.heap.size) (hR : X.2.2.2.1 = { frames := 4, cells := 1, slots := 6, locals := 400 }) (x2 : Int32) (x3 : Int32) (x4 : Int32) (s1 : Int32) (S : ms) (hp : b_readFrame_143 x2 x3 x4 s1 S K) : aw gG D z A X 8 143 [some (.ref o), none, some (.int x2), some (.int x3), some (.int x4), none, none, none] [.int s1, .ref o] [(0, ly_M, (o, ad, S.1, S.2.1, S.2.2))] 0 0 := by
  unfold b_readFrame_143 at hp
  refine a_aload_n C d_readFrame_143 rfl rfl ?_
  refine a_getI C 0 34 d_readFrame_144 rfl rfl rfl (Nat.le_of_ble_eq_true rfl) f_M_268 (Nat.le_of_ble_eq_true rfl) ?_
  refine a_iconst (v := 1) C d_readFrame_147 (by decide) ?_
  refine a_isub C d_readFrame_148 ?_
  refine a_call (Lr := []) (rest := []) (av := .ref o :: [.int s1, .int ((S.1 34) - 1)]) C [0] [] d_readFrame_149 (ct_must s1 ((S.1 34) - 1) S hp) cd_M_must i_M (Nat.le_of_ble_eq_true rfl) (by rw [hR]; exact Nat.le_of_ble_eq_true rfl) (by rw [hR]; exact Nat.le_of_ble_eq_true rfl) (by rw [hR]; exact Nat.le_of_ble_eq_true rfl) (by rw [hR]; exact Nat.le_of_ble_eq_true rfl) rfl rfl (by decide) (by decide) (by decide) (inv_V C 0 d_readFrame_149 l_M_291 im_M_must se_M_must cd_M_must ⟨by decide, by decide⟩ ln_M_must rfl rfl rfl rfl rfl) (fun oc L1 hL => ?_)
  obtain ⟨S149, hp, rfl, rfl⟩ := hL
  refine ⟨_, rfl, ?_⟩
  refine aw_eq (lo' := _) (st' := []) (L' := [(0, ly_M, (o, ad, S149.1, S149.2.1, S149.2.2))]) rfl rfl rfl ?_
  refine a_aload_n C d_readFrame_152 rfl rfl ?_
  refine a_getI C 0 35 d_readFrame_153 rfl rfl rfl (Nat.le_of_ble_eq_true rfl) f_M_265 (Nat.le_of_ble_eq_true rfl) ?_
  refine a_if_ne (tgt := 189) C d_readFrame_156 (by decide) ⟨fun hc => ?_, fun hc => ?_⟩
  · have hp := hp.1 hc
    refine aw_lo (lo' := [some (.ref o), none, some (.int x2), some (.int x3), some (.int x4), none, none, none]) ⟨.inr rfl, .inr rfl, .inr rfl, .inr rfl, .inr rfl, .inr rfl, .inr rfl, .inr rfl, trivial⟩ ?_
    exact s_readFrame_189 C hQ hA hR x2 x3 x4 (S149.1, S149.2.1, S149.2.2)  hp
  · have hp := hp.2 hc
    refine a_aload_n C d_readFrame_159 rfl rfl ?_
    refine a_getI C 0 36 d_readFrame_160 rfl rfl rfl (Nat.le_of_ble_eq_true rfl) f_M_275 (Nat.le_of_ble_eq_true rfl) ?_
    refine a_aload_n C d_readFrame_163 rfl rfl ?_
    refine a_getI C 0 37 d_readFrame_164 rfl rfl rfl (Nat.le_of_ble_eq_true rfl) f_M_278 (Nat.le_of_ble_eq_true rfl) ?_
    refine a_isub C d_readFrame_167 ?_
    refine a_bipush (v := 8) C d_readFrame_168 (by decide) ?_
    refine a_iconst (v := 3) C d_readFrame_170 (by decide) ?_
    refine a_iload C d_readFrame_171 rfl ?_
    refine a_imul C d_readFrame_173 ?_
    refine a_iadd C d_readFrame_174 ?_
    refine a_icmp_eq (tgt := 189) C d_readFrame_175 (by decide) ⟨fun hc => ?_, fun hc => ?_⟩
    · have hp := hp.1 hc
      refine aw_lo (lo' := [some (.ref o), none, some (.int x2), some (.int x3), some (.int x4), none, none, none]) ⟨.inr rfl, .inr rfl, .inr rfl, .inr rfl, .inr rfl, .inr rfl, .inr rfl, .inr rfl, trivial⟩ ?_
      exact s_readFrame_189 C hQ hA hR x2 x3 x4 (S149.1, S149.2.1, S149.2.2)  hp
    · have hp := hp.2 hc
      refine a_aload_n C d_readFrame_178 rfl rfl ?_
      refine a_iconst (v := 4) C d_readFrame_179 (by decide) ?_
      refine a_aload_n C d_readFrame_180 rfl rfl ?_
      refine a_getI C 0 37 d_readFrame_181 rfl rfl rfl (Nat.le_of_ble_eq_true rfl) f_M_278 (Nat.le_of_ble_eq_true rfl) ?_
      refine a_call (Lr := []) (rest := []) (av := .ref o :: [.int 4, .int (S149.1 37)]) C [0] [] d_readFrame_184 (ct_fail 4 (S149.1 37) (S149.1, S149.2.1, S149.2.2) hp) cd_M_fail i_M (Nat.le_of_ble_eq_true rfl) (by rw [hR]; exact Nat.le_of_ble_eq_true rfl) (by rw [hR]; exact Nat.le_of_ble_eq_true rfl) (by rw [hR]; exact Nat.le_of_ble_eq_true rfl) (by rw [hR]; exact Nat.le_of_ble_eq_true rfl) rfl rfl (by decide) (by decide) (by decide) (inv_V C 0 d_readFrame_184 l_M_271 im_M_fail se_M_fail cd_M_fail ⟨by decide, by decide⟩ ln_M_fail rfl rfl rfl rfl rfl) (fun oc L1 hL => ?_)
      obtain ⟨v184, S184, hp, rfl, rfl⟩ := hL
      refine ⟨_, rfl, ?_⟩
      refine aw_eq (lo' := _) (st' := [.int v184]) (L' := [(0, ly_M, (o, ad, S184.1, S184.2.1, S184.2.2))]) rfl rfl rfl ?_
      refine a_istore (lo' := [some (.ref o), none, some (.int x2), some (.int x3), some (.int x4), some (.int v184), none, none]) C d_readFrame_187 (by decide) rfl ?_
      refine aw_lo (lo' := [some (.ref o), none, some (.int x2), some (.int x3), some (.int x4), none, none, none]) ⟨.inr rfl, .inr rfl, .inr rfl, .inr rfl, .inr rfl, .inl rfl, .inr rfl, .inr rfl, trivial⟩ ?_
      exact s_readFrame_189 C hQ hA hR x2 x3 x4 (S184.1, S184.2.1, S184.2.2)  hp
set_option maxRecDepth 100000 in
set_option maxHeartbeats 1000000 in
theorem s_readFrame_138 (C : fcx gG D z A X R_M c_M_readFrame 8 (none)) (hQ : X.2.2.2.2.2.2.2.2.2.2 = eQ gG D z X.2.2.2.2.2.2.2.1 X.2.2.2.2.1 L0 0 0 (pM_v K o ad)) (hA : A = owA gG L0 X.2.2.2.2.1.heap.size) (hR : X.2.2.2.1 = { frames := 4, cells := 1, slots := 6, locals := 400 }) (x2 : Int32) (x3 : Int32) (x4 : Int32) (S : ms) (hp : b_readFrame_138 x2 x3 x4 S K) : aw gG D z A X 8 138 [some (.ref o), none, some (.int x2), some (.int x3), some (.int x4), none, none, none] [.ref o] [(0, ly_M, (o, ad, S.1, S.2.1, S.2.2))] 0 0 := by
  unfold b_readFrame_138 at hp
  refine a_iconst (v := 1) C d_readFrame_138 (by decide) ?_
  refine a_goto (tgt := 143) C d_readFrame_139 (by decide) ?_
  refine aw_lo (lo' := [some (.ref o), none, some (.int x2), some (.int x3), some (.int x4), none, none, none]) ⟨.inr rfl, .inr rfl, .inr rfl, .inr rfl, .inr rfl, .inr rfl, .inr rfl, .inr rfl, trivial⟩ ?_
  exact s_readFrame_143 C hQ hA hR x2 x3 x4 1 S  hp
set_option maxRecDepth 100000 in
set_option maxHeartbeats 1000000 in
theorem s_readFrame_123 (C : fcx gG D z A X R_M c_M_readFrame 8 (none)) (hQ : X.2.2.2.2.2.2.2.2.2.2 = eQ gG D z X.2.2.2.2.2.2.2.1 X.2.2.2.2.1 L0 0 0 (pM_v K o ad)) (hA : A = owA gG L0 X.2.2.2.2.1.heap.size) (hR : X.2.2.2.1 = { frames := 4, cells := 1, slots := 6, locals := 400 }) (x2 : Int32) (x3 : Int32) (s0 : Int32) (S : ms) (hp : b_readFrame_123 x2 x3 s0 S K) : aw gG D z A X 8 123 [some (.ref o), none, some (.int x2), some (.int x3), none, none, none, none] [.int s0] [(0, ly_M, (o, ad, S.1, S.2.1, S.2.2))] 0 0 := by
  unfold b_readFrame_123 at hp
  refine a_istore (lo' := [some (.ref o), none, some (.int x2), some (.int x3), some (.int s0), none, none, none]) C d_readFrame_123 (by decide) rfl ?_
  refine a_aload_n C d_readFrame_125 rfl rfl ?_
  refine a_iload C d_readFrame_126 rfl ?_
  refine a_iconst (v := 1) C d_readFrame_128 (by decide) ?_
  refine a_icmp_eq (tgt := 138) C d_readFrame_129 (by decide) ⟨fun hc => ?_, fun hc => ?_⟩
  · have hp := hp.1 hc
    refine aw_lo (lo' := [some (.ref o), none, some (.int x2), some (.int x3), some (.int s0), none, none, none]) ⟨.inr rfl, .inr rfl, .inr rfl, .inr rfl, .inr rfl, .inr rfl, .inr rfl, .inr rfl, trivial⟩ ?_
    exact s_readFrame_138 C hQ hA hR x2 x3 s0 S  hp
  · have hp := hp.2 hc
    refine a_iload C d_readFrame_132 rfl ?_
    refine a_iconst (v := 3) C d_readFrame_134 (by decide) ?_
    refine a_icmp_ne (tgt := 142) C d_readFrame_135 (by decide) ⟨fun hc => ?_, fun hc => ?_⟩
    · have hp := hp.1 hc
      refine a_iconst (v := 0) C d_readFrame_142 (by decide) ?_
      refine aw_lo (lo' := [some (.ref o), none, some (.int x2), some (.int x3), some (.int s0), none, none, none]) ⟨.inr rfl, .inr rfl, .inr rfl, .inr rfl, .inr rfl, .inr rfl, .inr rfl, .inr rfl, trivial⟩ ?_
      exact s_readFrame_143 C hQ hA hR x2 x3 s0 0 S  hp
    · have hp := hp.2 hc
      refine aw_lo (lo' := [some (.ref o), none, some (.int x2), some (.int x3), some (.int s0), none, none, none]) ⟨.inr rfl, .inr rfl, .inr rfl, .inr rfl, .inr rfl, .inr rfl, .inr rfl, .inr rfl, trivial⟩ ?_
      exact s_readFrame_138 C hQ hA hR x2 x3 s0 S  hp
set_option maxRecDepth 100000 in
set_option maxHeartbeats 1000000 in
theorem s_readFrame_99 (C : fcx gG D z A X R_M c_M_readFrame 8 (none)) (hQ : X.2.2.2.2.2.2.2.2.2.2 = eQ gG D z X.2.2.2.2.2.2.2.1 X.2.2.2.2.1 L0 0 0 (pM_v K o ad)) (hA : A = owA gG L0 X.2.2.2.2.1.heap.size) (hR : X.2.2.2.1 = { frames := 4, cells := 1, slots := 6, locals := 400 }) (x2 : Int32) (x3 : Int32) (s1 : Int32) (S : ms) (hp : b_readFrame_99 x2 x3 s1 S K) : aw gG D z A X 8 99 [some (.ref o), none, some (.int x2), some (.int x3), none, none, none, none] [.int s1, .ref o] [(0, ly_M, (o, ad, S.1, S.2.1, S.2.2))] 0 0 := by
  unfold b_readFrame_99 at hp
  refine a_aload_n C d_readFrame_99 rfl rfl ?_
  refine a_getI C 0 34 d_readFrame_100 rfl rfl rfl (Nat.le_of_ble_eq_true rfl) f_M_268 (Nat.le_of_ble_eq_true rfl) ?_
  refine a_iconst (v := 2) C d_readFrame_103 (by decide) ?_
  refine a_isub C d_readFrame_104 ?_
  refine a_call (Lr := []) (rest := []) (av := .ref o :: [.int s1, .int ((S.1 34) - 2)]) C [0] [] d_readFrame_105 (ct_must s1 ((S.1 34) - 2) S hp) cd_M_must i_M (Nat.le_of_ble_eq_true rfl) (by rw [hR]; exact Nat.le_of_ble_eq_true rfl) (by rw [hR]; exact Nat.le_of_ble_eq_true rfl) (by rw [hR]; exact Nat.le_of_ble_eq_true rfl) (by rw [hR]; exact Nat.le_of_ble_eq_true rfl) rfl rfl (by decide) (by decide) (by decide) (inv_V C 0 d_readFrame_105 l_M_291 im_M_must se_M_must cd_M_must ⟨by decide, by decide⟩ ln_M_must rfl rfl rfl rfl rfl) (fun oc L1 hL => ?_)
  obtain ⟨S105, hp, rfl, rfl⟩ := hL
  refine ⟨_, rfl, ?_⟩
  refine aw_eq (lo' := _) (st' := []) (L' := [(0, ly_M, (o, ad, S105.1, S105.2.1, S105.2.2))]) rfl rfl rfl ?_
  refine a_aload_n C d_readFrame_108 rfl rfl ?_
  refine a_getI C 0 35 d_readFrame_109 rfl rfl rfl (Nat.le_of_ble_eq_true rfl) f_M_265 (Nat.le_of_ble_eq_true rfl) ?_
  refine a_if_ne (tgt := 122) C d_readFrame_112 (by decide) ⟨fun hc => ?_, fun hc => ?_⟩
  · have hp := hp.1 hc
    refine a_iconst (v := 0) C d_readFrame_122 (by decide) ?_
    refine aw_lo (lo' := [some (.ref o), none, some (.int x2), some (.int x3), none, none, none, none]) ⟨.inr rfl, .inr rfl, .inr rfl, .inr rfl, .inr rfl, .inr rfl, .inr rfl, .inr rfl, trivial⟩ ?_
    exact s_readFrame_123 C hQ hA hR x2 x3 0 (S105.1, S105.2.1, S105.2.2)  hp
  · have hp := hp.2 hc
    refine a_aload_n C d_readFrame_115 rfl rfl ?_
    refine a_call (Lr := []) (rest := []) (av := .ref o :: []) C [0] [] d_readFrame_116 (ct_next (S105.1, S105.2.1, S105.2.2) hp) cd_M_next i_M (Nat.le_of_ble_eq_true rfl) (by rw [hR]; exact Nat.le_of_ble_eq_true rfl) (by rw [hR]; exact Nat.le_of_ble_eq_true rfl) (by rw [hR]; exact Nat.le_of_ble_eq_true rfl) (by rw [hR]; exact Nat.le_of_ble_eq_true rfl) rfl rfl (by decide) (by decide) (by decide) (inv_V C 0 d_readFrame_116 l_M_281 im_M_next se_M_next cd_M_next ⟨by decide, by decide⟩ ln_M_next rfl rfl rfl rfl rfl) (fun oc L1 hL => ?_)
    obtain ⟨v116, S116, hp, rfl, rfl⟩ := hL
    refine ⟨_, rfl, ?_⟩
    refine aw_eq (lo' := _) (st' := [.int v116]) (L' := [(0, ly_M, (o, ad, S116.1, S116.2.1, S116.2.2))]) rfl rfl rfl ?_
    refine a_goto (tgt := 123) C d_readFrame_119 (by decide) ?_
    refine aw_lo (lo' := [some (.ref o), none, some (.int x2), some (.int x3), none, none, none, none]) ⟨.inr rfl, .inr rfl, .inr rfl, .inr rfl, .inr rfl, .inr rfl, .inr rfl, .inr rfl, trivial⟩ ?_
    exact s_readFrame_123 C hQ hA hR x2 x3 v116 (S116.1, S116.2.1, S116.2.2)  hp
set_option maxRecDepth 100000 in
set_option maxHeartbeats 1000000 in
theorem s_readFrame_98 (C : fcx gG D z A X R_M c_M_readFrame 8 (none)) (hQ : X.2.2.2.2.2.2.2.2.2.2 = eQ gG D z X.2.2.2.2.2.2.2.1 X.2.2.2.2.1 L0 0 0 (pM_v K o ad)) (hA : A = owA gG L0 X.2.2.2.2.1.heap.size) (hR : X.2.2.2.1 = { frames := 4, cells := 1, slots := 6, locals := 400 }) (x2 : Int32) (x3 : Int32) (S : ms) (hp : b_readFrame_98 x2 x3 S K) : aw gG D z A X 8 98 [some (.ref o), none, some (.int x2), some (.int x3), none, none, none, none] [.ref o] [(0, ly_M, (o, ad, S.1, S.2.1, S.2.2))] 0 0 := by
  unfold b_readFrame_98 at hp
  refine a_iconst (v := 0) C d_readFrame_98 (by decide) ?_
  refine aw_lo (lo' := [some (.ref o), none, some (.int x2), some (.int x3), none, none, none, none]) ⟨.inr rfl, .inr rfl, .inr rfl, .inr rfl, .inr rfl, .inr rfl, .inr rfl, .inr rfl, trivial⟩ ?_
  exact s_readFrame_99 C hQ hA hR x2 x3 0 S  hp
set_option maxRecDepth 100000 in
set_option maxHeartbeats 1000000 in
theorem s_readFrame_82 (C : fcx gG D z A X R_M c_M_readFrame 8 (none)) (hQ : X.2.2.2.2.2.2.2.2.2.2 = eQ gG D z X.2.2.2.2.2.2.2.1 X.2.2.2.2.1 L0 0 0 (pM_v K o ad)) (hA : A = owA gG L0 X.2.2.2.2.1.heap.size) (hR : X.2.2.2.1 = { frames := 4, cells := 1, slots := 6, locals := 400 }) (x2 : Int32) (s0 : Int32) (S : ms) (hp : b_readFrame_82 x2 s0 S K) : aw gG D z A X 8 82 [some (.ref o), none, some (.int x2), none, none, none, none, none] [.int s0] [(0, ly_M, (o, ad, S.1, S.2.1, S.2.2))] 0 0 := by
  unfold b_readFrame_82 at hp
  refine a_istore_n (lo' := [some (.ref o), none, some (.int x2), some (.int s0), none, none, none, none]) C d_readFrame_82 rfl (by decide) rfl ?_
  refine a_aload_n C d_readFrame_83 rfl rfl ?_
  refine a_iload_n C d_readFrame_84 rfl rfl ?_
  refine a_if_le (tgt := 98) C d_readFrame_85 (by decide) ⟨fun hc => ?_, fun hc => ?_⟩
  · have hp := hp.1 hc
    refine aw_lo (lo' := [some (.ref o), none, some (.int x2), some (.int s0), none, none, none, none]) ⟨.inr rfl, .inr rfl, .inr rfl, .inr rfl, .inr rfl, .inr rfl, .inr rfl, .inr rfl, trivial⟩ ?_
    exact s_readFrame_98 C hQ hA hR x2 s0 S  hp
  · have hp := hp.2 hc
    refine a_iload_n C d_readFrame_88 rfl rfl ?_
    refine a_bipush (v := 65) C d_readFrame_89 (by decide) ?_
    refine a_icmp_ge (tgt := 98) C d_readFrame_91 (by decide) ⟨fun hc => ?_, fun hc => ?_⟩
    · have hp := hp.1 hc
      refine aw_lo (lo' := [some (.ref o), none, some (.int x2), some (.int s0), none, none, none, none]) ⟨.inr rfl, .inr rfl, .inr rfl, .inr rfl, .inr rfl, .inr rfl, .inr rfl, .inr rfl, trivial⟩ ?_
      exact s_readFrame_98 C hQ hA hR x2 s0 S  hp
    · have hp := hp.2 hc
      refine a_iconst (v := 1) C d_readFrame_94 (by decide) ?_
      refine a_goto (tgt := 99) C d_readFrame_95 (by decide) ?_
      refine aw_lo (lo' := [some (.ref o), none, some (.int x2), some (.int s0), none, none, none, none]) ⟨.inr rfl, .inr rfl, .inr rfl, .inr rfl, .inr rfl, .inr rfl, .inr rfl, .inr rfl, trivial⟩ ?_
      exact s_readFrame_99 C hQ hA hR x2 s0 1 S  hp
set_option maxRecDepth 100000 in
set_option maxHeartbeats 1000000 in
theorem s_readFrame_58 (C : fcx gG D z A X R_M c_M_readFrame 8 (none)) (hQ : X.2.2.2.2.2.2.2.2.2.2 = eQ gG D z X.2.2.2.2.2.2.2.1 X.2.2.2.2.1 L0 0 0 (pM_v K o ad)) (hA : A = owA gG L0 X.2.2.2.2.1.heap.size) (hR : X.2.2.2.1 = { frames := 4, cells := 1, slots := 6, locals := 400 }) (x2 : Int32) (s1 : Int32) (S : ms) (hp : b_readFrame_58 x2 s1 S K) : aw gG D z A X 8 58 [some (.ref o), none, some (.int x2), none, none, none, none, none] [.int s1, .ref o] [(0, ly_M, (o, ad, S.1, S.2.1, S.2.2))] 0 0 := by
  unfold b_readFrame_58 at hp
  refine a_aload_n C d_readFrame_58 rfl rfl ?_
  refine a_getI C 0 34 d_readFrame_59 rfl rfl rfl (Nat.le_of_ble_eq_true rfl) f_M_268 (Nat.le_of_ble_eq_true rfl) ?_
  refine a_iconst (v := 2) C d_readFrame_62 (by decide) ?_
  refine a_isub C d_readFrame_63 ?_
  refine a_call (Lr := []) (rest := []) (av := .ref o :: [.int s1, .int ((S.1 34) - 2)]) C [0] [] d_readFrame_64 (ct_must s1 ((S.1 34) - 2) S hp) cd_M_must i_M (Nat.le_of_ble_eq_true rfl) (by rw [hR]; exact Nat.le_of_ble_eq_true rfl) (by rw [hR]; exact Nat.le_of_ble_eq_true rfl) (by rw [hR]; exact Nat.le_of_ble_eq_true rfl) (by rw [hR]; exact Nat.le_of_ble_eq_true rfl) rfl rfl (by decide) (by decide) (by decide) (inv_V C 0 d_readFrame_64 l_M_291 im_M_must se_M_must cd_M_must ⟨by decide, by decide⟩ ln_M_must rfl rfl rfl rfl rfl) (fun oc L1 hL => ?_)
  obtain ⟨S64, hp, rfl, rfl⟩ := hL
  refine ⟨_, rfl, ?_⟩
  refine aw_eq (lo' := _) (st' := []) (L' := [(0, ly_M, (o, ad, S64.1, S64.2.1, S64.2.2))]) rfl rfl rfl ?_
  refine a_aload_n C d_readFrame_67 rfl rfl ?_
  refine a_getI C 0 35 d_readFrame_68 rfl rfl rfl (Nat.le_of_ble_eq_true rfl) f_M_265 (Nat.le_of_ble_eq_true rfl) ?_
  refine a_if_ne (tgt := 81) C d_readFrame_71 (by decide) ⟨fun hc => ?_, fun hc => ?_⟩
  · have hp := hp.1 hc
    refine a_iconst (v := 0) C d_readFrame_81 (by decide) ?_
    refine aw_lo (lo' := [some (.ref o), none, some (.int x2), none, none, none, none, none]) ⟨.inr rfl, .inr rfl, .inr rfl, .inr rfl, .inr rfl, .inr rfl, .inr rfl, .inr rfl, trivial⟩ ?_
    exact s_readFrame_82 C hQ hA hR x2 0 (S64.1, S64.2.1, S64.2.2)  hp
  · have hp := hp.2 hc
    refine a_aload_n C d_readFrame_74 rfl rfl ?_
    refine a_call (Lr := []) (rest := []) (av := .ref o :: []) C [0] [] d_readFrame_75 (ct_nextTwo (S64.1, S64.2.1, S64.2.2) hp) cd_M_nextTwo i_M (Nat.le_of_ble_eq_true rfl) (by rw [hR]; exact Nat.le_of_ble_eq_true rfl) (by rw [hR]; exact Nat.le_of_ble_eq_true rfl) (by rw [hR]; exact Nat.le_of_ble_eq_true rfl) (by rw [hR]; exact Nat.le_of_ble_eq_true rfl) rfl rfl (by decide) (by decide) (by decide) (inv_V C 0 d_readFrame_75 l_M_285 im_M_nextTwo se_M_nextTwo cd_M_nextTwo ⟨by decide, by decide⟩ ln_M_nextTwo rfl rfl rfl rfl rfl) (fun oc L1 hL => ?_)
    obtain ⟨v75, S75, hp, rfl, rfl⟩ := hL
    refine ⟨_, rfl, ?_⟩
    refine aw_eq (lo' := _) (st' := [.int v75]) (L' := [(0, ly_M, (o, ad, S75.1, S75.2.1, S75.2.2))]) rfl rfl rfl ?_
    refine a_goto (tgt := 82) C d_readFrame_78 (by decide) ?_
    refine aw_lo (lo' := [some (.ref o), none, some (.int x2), none, none, none, none, none]) ⟨.inr rfl, .inr rfl, .inr rfl, .inr rfl, .inr rfl, .inr rfl, .inr rfl, .inr rfl, trivial⟩ ?_
    exact s_readFrame_82 C hQ hA hR x2 v75 (S75.1, S75.2.1, S75.2.2)  hp
set_option maxRecDepth 100000 in
set_option maxHeartbeats 1000000 in
theorem s_readFrame_57 (C : fcx gG D z A X R_M c_M_readFrame 8 (none)) (hQ : X.2.2.2.2.2.2.2.2.2.2 = eQ gG D z X.2.2.2.2.2.2.2.1 X.2.2.2.2.1 L0 0 0 (pM_v K o ad)) (hA : A = owA gG L0 X.2.2.2.2.1.heap.size) (hR : X.2.2.2.1 = { frames := 4, cells := 1, slots := 6, locals := 400 }) (x2 : Int32) (S : ms) (hp : b_readFrame_57 x2 S K) : aw gG D z A X 8 57 [some (.ref o), none, some (.int x2), none, none, none, none, none] [.ref o] [(0, ly_M, (o, ad, S.1, S.2.1, S.2.2))] 0 0 := by
  unfold b_readFrame_57 at hp
  refine a_iconst (v := 0) C d_readFrame_57 (by decide) ?_
  refine aw_lo (lo' := [some (.ref o), none, some (.int x2), none, none, none, none, none]) ⟨.inr rfl, .inr rfl, .inr rfl, .inr rfl, .inr rfl, .inr rfl, .inr rfl, .inr rfl, trivial⟩ ?_
  exact s_readFrame_58 C hQ hA hR x2 0 S  hp
set_option maxRecDepth 100000 in
set_option maxHeartbeats 1000000 in
theorem s_readFrame_41 (C : fcx gG D z A X R_M c_M_readFrame 8 (none)) (hQ : X.2.2.2.2.2.2.2.2.2.2 = eQ gG D z X.2.2.2.2.2.2.2.1 X.2.2.2.2.1 L0 0 0 (pM_v K o ad)) (hA : A = owA gG L0 X.2.2.2.2.1.heap.size) (hR : X.2.2.2.1 = { frames := 4, cells := 1, slots := 6, locals := 400 }) (s0 : Int32) (S : ms) (hp : b_readFrame_41 s0 S K) : aw gG D z A X 8 41 [some (.ref o), none, none, none, none, none, none, none] [.int s0] [(0, ly_M, (o, ad, S.1, S.2.1, S.2.2))] 0 0 := by
  unfold b_readFrame_41 at hp
  refine a_istore_n (lo' := [some (.ref o), none, some (.int s0), none, none, none, none, none]) C d_readFrame_41 rfl (by decide) rfl ?_
  refine a_aload_n C d_readFrame_42 rfl rfl ?_
  refine a_iload_n C d_readFrame_43 rfl rfl ?_
  refine a_if_le (tgt := 57) C d_readFrame_44 (by decide) ⟨fun hc => ?_, fun hc => ?_⟩
  · have hp := hp.1 hc
    refine aw_lo (lo' := [some (.ref o), none, some (.int s0), none, none, none, none, none]) ⟨.inr rfl, .inr rfl, .inr rfl, .inr rfl, .inr rfl, .inr rfl, .inr rfl, .inr rfl, trivial⟩ ?_
    exact s_readFrame_57 C hQ hA hR s0 S  hp
  · have hp := hp.2 hc
    refine a_iload_n C d_readFrame_47 rfl rfl ?_
    refine a_bipush (v := 65) C d_readFrame_48 (by decide) ?_
    refine a_icmp_ge (tgt := 57) C d_readFrame_50 (by decide) ⟨fun hc => ?_, fun hc => ?_⟩
    · have hp := hp.1 hc
      refine aw_lo (lo' := [some (.ref o), none, some (.int s0), none, none, none, none, none]) ⟨.inr rfl, .inr rfl, .inr rfl, .inr rfl, .inr rfl, .inr rfl, .inr rfl, .inr rfl, trivial⟩ ?_
      exact s_readFrame_57 C hQ hA hR s0 S  hp
    · have hp := hp.2 hc
      refine a_iconst (v := 1) C d_readFrame_53 (by decide) ?_
      refine a_goto (tgt := 58) C d_readFrame_54 (by decide) ?_
      refine aw_lo (lo' := [some (.ref o), none, some (.int s0), none, none, none, none, none]) ⟨.inr rfl, .inr rfl, .inr rfl, .inr rfl, .inr rfl, .inr rfl, .inr rfl, .inr rfl, trivial⟩ ?_
      exact s_readFrame_58 C hQ hA hR s0 1 S  hp
set_option maxRecDepth 100000 in
set_option maxHeartbeats 1000000 in
theorem s_readFrame_17 (C : fcx gG D z A X R_M c_M_readFrame 8 (none)) (hQ : X.2.2.2.2.2.2.2.2.2.2 = eQ gG D z X.2.2.2.2.2.2.2.1 X.2.2.2.2.1 L0 0 0 (pM_v K o ad)) (hA : A = owA gG L0 X.2.2.2.2.1.heap.size) (hR : X.2.2.2.1 = { frames := 4, cells := 1, slots := 6, locals := 400 }) (s1 : Int32) (S : ms) (hp : b_readFrame_17 s1 S K) : aw gG D z A X 8 17 [some (.ref o), none, none, none, none, none, none, none] [.int s1, .ref o] [(0, ly_M, (o, ad, S.1, S.2.1, S.2.2))] 0 0 := by
  unfold b_readFrame_17 at hp
  refine a_aload_n C d_readFrame_17 rfl rfl ?_
  refine a_getI C 0 34 d_readFrame_18 rfl rfl rfl (Nat.le_of_ble_eq_true rfl) f_M_268 (Nat.le_of_ble_eq_true rfl) ?_
  refine a_iconst (v := 1) C d_readFrame_21 (by decide) ?_
  refine a_isub C d_readFrame_22 ?_
  refine a_call (Lr := []) (rest := []) (av := .ref o :: [.int s1, .int ((S.1 34) - 1)]) C [0] [] d_readFrame_23 (ct_must s1 ((S.1 34) - 1) S hp) cd_M_must i_M (Nat.le_of_ble_eq_true rfl) (by rw [hR]; exact Nat.le_of_ble_eq_true rfl) (by rw [hR]; exact Nat.le_of_ble_eq_true rfl) (by rw [hR]; exact Nat.le_of_ble_eq_true rfl) (by rw [hR]; exact Nat.le_of_ble_eq_true rfl) rfl rfl (by decide) (by decide) (by decide) (inv_V C 0 d_readFrame_23 l_M_291 im_M_must se_M_must cd_M_must ⟨by decide, by decide⟩ ln_M_must rfl rfl rfl rfl rfl) (fun oc L1 hL => ?_)
  obtain ⟨S23, hp, rfl, rfl⟩ := hL
  refine ⟨_, rfl, ?_⟩
  refine aw_eq (lo' := _) (st' := []) (L' := [(0, ly_M, (o, ad, S23.1, S23.2.1, S23.2.2))]) rfl rfl rfl ?_
  refine a_aload_n C d_readFrame_26 rfl rfl ?_
  refine a_getI C 0 35 d_readFrame_27 rfl rfl rfl (Nat.le_of_ble_eq_true rfl) f_M_265 (Nat.le_of_ble_eq_true rfl) ?_
  refine a_if_ne (tgt := 40) C d_readFrame_30 (by decide) ⟨fun hc => ?_, fun hc => ?_⟩
  · have hp := hp.1 hc
    refine a_iconst (v := 0) C d_readFrame_40 (by decide) ?_
    refine aw_lo (lo' := [some (.ref o), none, none, none, none, none, none, none]) ⟨.inr rfl, .inr rfl, .inr rfl, .inr rfl, .inr rfl, .inr rfl, .inr rfl, .inr rfl, trivial⟩ ?_
    exact s_readFrame_41 C hQ hA hR 0 (S23.1, S23.2.1, S23.2.2)  hp
  · have hp := hp.2 hc
    refine a_aload_n C d_readFrame_33 rfl rfl ?_
    refine a_call (Lr := []) (rest := []) (av := .ref o :: []) C [0] [] d_readFrame_34 (ct_nextTwo (S23.1, S23.2.1, S23.2.2) hp) cd_M_nextTwo i_M (Nat.le_of_ble_eq_true rfl) (by rw [hR]; exact Nat.le_of_ble_eq_true rfl) (by rw [hR]; exact Nat.le_of_ble_eq_true rfl) (by rw [hR]; exact Nat.le_of_ble_eq_true rfl) (by rw [hR]; exact Nat.le_of_ble_eq_true rfl) rfl rfl (by decide) (by decide) (by decide) (inv_V C 0 d_readFrame_34 l_M_285 im_M_nextTwo se_M_nextTwo cd_M_nextTwo ⟨by decide, by decide⟩ ln_M_nextTwo rfl rfl rfl rfl rfl) (fun oc L1 hL => ?_)
    obtain ⟨v34, S34, hp, rfl, rfl⟩ := hL
    refine ⟨_, rfl, ?_⟩
    refine aw_eq (lo' := _) (st' := [.int v34]) (L' := [(0, ly_M, (o, ad, S34.1, S34.2.1, S34.2.2))]) rfl rfl rfl ?_
    refine a_goto (tgt := 41) C d_readFrame_37 (by decide) ?_
    refine aw_lo (lo' := [some (.ref o), none, none, none, none, none, none, none]) ⟨.inr rfl, .inr rfl, .inr rfl, .inr rfl, .inr rfl, .inr rfl, .inr rfl, .inr rfl, trivial⟩ ?_
    exact s_readFrame_41 C hQ hA hR v34 (S34.1, S34.2.1, S34.2.2)  hp
set_option maxRecDepth 100000 in
set_option maxHeartbeats 1000000 in
theorem s_readFrame_0 (C : fcx gG D z A X R_M c_M_readFrame 8 (none)) (hQ : X.2.2.2.2.2.2.2.2.2.2 = eQ gG D z X.2.2.2.2.2.2.2.1 X.2.2.2.2.1 L0 0 0 (pM_v K o ad)) (hA : A = owA gG L0 X.2.2.2.2.1.heap.size) (hR : X.2.2.2.1 = { frames := 4, cells := 1, slots := 6, locals := 400 })  (S : ms) (hp : p_readFrame  S K) : aw gG D z A X 8 0 [some (.ref o), none, none, none, none, none, none, none] [] [(0, ly_M, (o, ad, S.1, S.2.1, S.2.2))] 0 0 := by
  unfold p_readFrame at hp
  refine a_aload_n C d_readFrame_0 rfl rfl ?_
  refine a_call (Lr := []) (rest := []) (av := .ref o :: []) C [0] [] d_readFrame_1 (ct_next S hp) cd_M_next i_M (Nat.le_of_ble_eq_true rfl) (by rw [hR]; exact Nat.le_of_ble_eq_true rfl) (by rw [hR]; exact Nat.le_of_ble_eq_true rfl) (by rw [hR]; exact Nat.le_of_ble_eq_true rfl) (by rw [hR]; exact Nat.le_of_ble_eq_true rfl) rfl rfl (by decide) (by decide) (by decide) (inv_V C 0 d_readFrame_1 l_M_281 im_M_next se_M_next cd_M_next ⟨by decide, by decide⟩ ln_M_next rfl rfl rfl rfl rfl) (fun oc L1 hL => ?_)
  obtain ⟨v1, S1, hp, rfl, rfl⟩ := hL
  refine ⟨_, rfl, ?_⟩
  refine aw_eq (lo' := _) (st' := [.int v1]) (L' := [(0, ly_M, (o, ad, S1.1, S1.2.1, S1.2.2))]) rfl rfl rfl ?_
  refine a_istore_n (lo' := [some (.ref o), some (.int v1), none, none, none, none, none, none]) C d_readFrame_4 rfl (by decide) rfl ?_
  refine a_aload_n C d_readFrame_5 rfl rfl ?_
  refine a_iload_n C d_readFrame_6 rfl rfl ?_
  refine a_bipush (v := 8) C d_readFrame_7 (by decide) ?_
  refine a_icmp_ne (tgt := 16) C d_readFrame_9 (by decide) ⟨fun hc => ?_, fun hc => ?_⟩
  · have hp := hp.1 hc
    refine a_iconst (v := 0) C d_readFrame_16 (by decide) ?_
    refine aw_lo (lo' := [some (.ref o), none, none, none, none, none, none, none]) ⟨.inr rfl, .inl rfl, .inr rfl, .inr rfl, .inr rfl, .inr rfl, .inr rfl, .inr rfl, trivial⟩ ?_
    exact s_readFrame_17 C hQ hA hR 0 (S1.1, S1.2.1, S1.2.2)  hp
  · have hp := hp.2 hc
    refine a_iconst (v := 1) C d_readFrame_12 (by decide) ?_
    refine a_goto (tgt := 17) C d_readFrame_13 (by decide) ?_
    refine aw_lo (lo' := [some (.ref o), none, none, none, none, none, none, none]) ⟨.inr rfl, .inl rfl, .inr rfl, .inr rfl, .inr rfl, .inr rfl, .inr rfl, .inr rfl, trivial⟩ ?_
    exact s_readFrame_17 C hQ hA hR 1 (S1.1, S1.2.1, S1.2.2)  hp
end M_readFrame
section M_readFramec
variable {D : va_G} {z : Nat → ClassId} {o : Nat} {ad : Nat → Nat}
set_option maxRecDepth 100000 in
theorem ct_readFrame {l : Launch}  (S : ms) {K : ms → Prop} (hp : p_readFrame  S K) : ct gG D z l n_M_readFrame c_M_readFrame 8 (none) 4 400 [.ref o] [(0, ly_M, (o, ad, S.1, S.2.1, S.2.2))] 0 0 (pM_v K o ad) := by
  refine ct_of (lo := [some (.ref o), none, none, none, none, none, none, none]) (by decide) g_ok (Nat.le_of_ble_eq_true rfl) rfl ?_
  intro X A _ C hR hQ hA _
  exact s_readFrame_0 C hQ hA hR  S hp
end M_readFramec
def b_layerNamed_29 (x1 : Int32) (x3 : Int32) (s0 : Int32) (S : ms) (R4 : Int32 → Int32 → Int32 → ms → Prop) (K : Int32 → ms → Prop) : Prop :=
  R4 x1 s0 (x3 + 1) S
def b_layerNamed_4 (x1 : Int32) (x2 : Int32) (x3 : Int32) (S : ms) (R4 : Int32 → Int32 → Int32 → ms → Prop) (K : Int32 → ms → Prop) : Prop :=
  vp_in 2 3 ∧ (((S.2.1 14 (2 : Int32).toNatClampNeg) ≤ x3 → (K x2 S)) ∧ (¬ ((S.2.1 14 (2 : Int32).toNatClampNeg) ≤ x3) → (vp_in x3 3 ∧ ((¬ (S.2.1 44 x3.toNatClampNeg) = x1 → (b_layerNamed_29 x1 x3 x2 S R4 K)) ∧ ((S.2.1 44 x3.toNatClampNeg) = x1 → (b_layerNamed_29 x1 x3 x3 S R4 K))))))
def e_layerNamed_4 (x1 : Int32) (x2 : Int32) (x3 : Int32) (S : ms) (K : Int32 → ms → Prop) : Prop :=
  ∃ (I : Int32 → Int32 → Int32 → ms → Prop) (μ : Int32 → Int32 → Int32 → ms → Nat), I x1 x2 x3 S ∧ ∀ yx1 yx2 yx3 yS, I yx1 yx2 yx3 yS → b_layerNamed_4 yx1 yx2 yx3 yS (fun zx1 zx2 zx3 zS => I zx1 zx2 zx3 zS ∧ μ zx1 zx2 zx3 zS < μ yx1 yx2 yx3 yS) K
def p_layerNamed (x1 : Int32) (S : ms) (K : Int32 → ms → Prop) : Prop :=
  e_layerNamed_4 x1 (-1) 0 S K
section M_layerNamed
variable {D : va_G} {z : Nat → ClassId} {A : Nat → Prop} {X : cx} {L0 : fw} {K : Int32 → ms → Prop} {o : Nat} {ad : Nat → Nat}
set_option maxRecDepth 100000 in
set_option maxHeartbeats 1000000 in
theorem s_layerNamed_29 (C : fcx gG D z A X R_M c_M_layerNamed 4 (some .int)) (hQ : X.2.2.2.2.2.2.2.2.2.2 = eQ gG D z X.2.2.2.2.2.2.2.1 X.2.2.2.2.1 L0 0 0 (pM_i K o ad)) (hA : A = owA gG L0 X.2.2.2.2.1.heap.size) (hR : X.2.2.2.1 = { frames := 1, cells := 1, slots := 6, locals := 100 }) (x1 : Int32) (x3 : Int32) (s0 : Int32) (S : ms) (R4 : Int32 → Int32 → Int32 → ms → Prop) (hR4 : ∀ yx1 yx2 yx3 yS, R4 yx1 yx2 yx3 yS → aw gG D z A X 4 4 [some (.ref o), some (.int yx1), some (.int yx2), some (.int yx3)] [] [(0, ly_M, (o, ad, yS.1, yS.2.1, yS.2.2))] 0 0) (hp : b_layerNamed_29 x1 x3 s0 S R4 K) : aw gG D z A X 4 29 [some (.ref o), some (.int x1), none, some (.int x3)] [.int s0] [(0, ly_M, (o, ad, S.1, S.2.1, S.2.2))] 0 0 := by
  unfold b_layerNamed_29 at hp
  refine a_istore_n (lo' := [some (.ref o), some (.int x1), some (.int s0), some (.int x3)]) C d_layerNamed_29 rfl (by decide) rfl ?_
  refine a_iinc (v := x3 + 1) (lo' := [some (.ref o), some (.int x1), some (.int s0), some (.int (x3 + 1))]) C d_layerNamed_30 rfl rfl (by decide) rfl ?_
  refine a_goto (tgt := 4) C d_layerNamed_33 (by decide) ?_
  refine aw_lo (lo' := [some (.ref o), some (.int x1), some (.int s0), some (.int (x3 + 1))]) ⟨.inr rfl, .inr rfl, .inr rfl, .inr rfl, trivial⟩ ?_
  exact hR4 x1 s0 (x3 + 1) S hp
set_option maxRecDepth 100000 in
set_option maxHeartbeats 1000000 in
theorem s_layerNamed_4 (C : fcx gG D z A X R_M c_M_layerNamed 4 (some .int)) (hQ : X.2.2.2.2.2.2.2.2.2.2 = eQ gG D z X.2.2.2.2.2.2.2.1 X.2.2.2.2.1 L0 0 0 (pM_i K o ad)) (hA : A = owA gG L0 X.2.2.2.2.1.heap.size) (hR : X.2.2.2.1 = { frames := 1, cells := 1, slots := 6, locals := 100 }) (x1 : Int32) (x2 : Int32) (x3 : Int32) (S : ms) (R4 : Int32 → Int32 → Int32 → ms → Prop) (hR4 : ∀ yx1 yx2 yx3 yS, R4 yx1 yx2 yx3 yS → aw gG D z A X 4 4 [some (.ref o), some (.int yx1), some (.int yx2), some (.int yx3)] [] [(0, ly_M, (o, ad, yS.1, yS.2.1, yS.2.2))] 0 0) (hp : b_layerNamed_4 x1 x2 x3 S R4 K) : aw gG D z A X 4 4 [some (.ref o), some (.int x1), some (.int x2), some (.int x3)] [] [(0, ly_M, (o, ad, S.1, S.2.1, S.2.2))] 0 0 := by
  unfold b_layerNamed_4 at hp
  refine a_iload_n C d_layerNamed_4 rfl rfl ?_
  refine a_aload_n C d_layerNamed_5 rfl rfl ?_
  refine a_getR C 0 14 d_layerNamed_6 rfl rfl rfl (Nat.le_of_ble_eq_true rfl) f_M_47 ⟨Nat.le_of_ble_eq_true rfl, Nat.le_of_ble_eq_true rfl⟩ ?_
  refine a_iconst (v := 2) C d_layerNamed_9 (by decide) ?_
  refine a_iald C 0 14 d_layerNamed_10 rfl rfl rfl hp.1 ?_
  have hp := hp.2
  refine a_icmp_ge (tgt := 36) C d_layerNamed_11 (by decide) ⟨fun hc => ?_, fun hc => ?_⟩
  · have hp := hp.1 hc
    refine a_iload_n C d_layerNamed_36 rfl rfl ?_
    exact a_iret (ty := .int) C hQ hA d_layerNamed_37 rfl rfl ⟨_, S, hp, rfl, rfl⟩
  · have hp := hp.2 hc
    refine a_aload_n C d_layerNamed_14 rfl rfl ?_
    refine a_getR C 0 44 d_layerNamed_15 rfl rfl rfl (Nat.le_of_ble_eq_true rfl) f_M_118 ⟨Nat.le_of_ble_eq_true rfl, Nat.le_of_ble_eq_true rfl⟩ ?_
    refine a_iload_n C d_layerNamed_18 rfl rfl ?_
    refine a_iald C 0 44 d_layerNamed_19 rfl rfl rfl hp.1 ?_
    have hp := hp.2
    refine a_iload_n C d_layerNamed_20 rfl rfl ?_
    refine a_icmp_ne (tgt := 28) C d_layerNamed_21 (by decide) ⟨fun hc => ?_, fun hc => ?_⟩
    · have hp := hp.1 hc
      refine a_iload_n C d_layerNamed_28 rfl rfl ?_
      refine aw_lo (lo' := [some (.ref o), some (.int x1), none, some (.int x3)]) ⟨.inr rfl, .inr rfl, .inl rfl, .inr rfl, trivial⟩ ?_
      exact s_layerNamed_29 C hQ hA hR x1 x3 x2 S R4 hR4 hp
    · have hp := hp.2 hc
      refine a_iload_n C d_layerNamed_24 rfl rfl ?_
      refine a_goto (tgt := 29) C d_layerNamed_25 (by decide) ?_
      refine aw_lo (lo' := [some (.ref o), some (.int x1), none, some (.int x3)]) ⟨.inr rfl, .inr rfl, .inl rfl, .inr rfl, trivial⟩ ?_
      exact s_layerNamed_29 C hQ hA hR x1 x3 x3 S R4 hR4 hp
set_option maxRecDepth 100000 in
set_option maxHeartbeats 1000000 in
theorem se_layerNamed_4 (C : fcx gG D z A X R_M c_M_layerNamed 4 (some .int)) (hQ : X.2.2.2.2.2.2.2.2.2.2 = eQ gG D z X.2.2.2.2.2.2.2.1 X.2.2.2.2.1 L0 0 0 (pM_i K o ad)) (hA : A = owA gG L0 X.2.2.2.2.1.heap.size) (hR : X.2.2.2.1 = { frames := 1, cells := 1, slots := 6, locals := 100 }) (x1 : Int32) (x2 : Int32) (x3 : Int32) (S : ms) (hp : e_layerNamed_4 x1 x2 x3 S K) : aw gG D z A X 4 4 [some (.ref o), some (.int x1), some (.int x2), some (.int x3)] [] [(0, ly_M, (o, ad, S.1, S.2.1, S.2.2))] 0 0 := by
  obtain ⟨I, μ, h0, hs⟩ := hp
  have key : ∀ (n : Nat) (yx1 : Int32) (yx2 : Int32) (yx3 : Int32) (yS : ms), μ yx1 yx2 yx3 yS < n → I yx1 yx2 yx3 yS → aw gG D z A X 4 4 [some (.ref o), some (.int yx1), some (.int yx2), some (.int yx3)] [] [(0, ly_M, (o, ad, yS.1, yS.2.1, yS.2.2))] 0 0 := by
    intro n
    induction n with
    | zero => intro yx1 yx2 yx3 yS h; omega
    | succ n ih =>
      intro yx1 yx2 yx3 yS hn hI
      exact s_layerNamed_4 C hQ hA hR yx1 yx2 yx3 yS _ (fun zx1 zx2 zx3 zS hw => ih zx1 zx2 zx3 zS (by omega) hw.1) (hs yx1 yx2 yx3 yS hI)
  exact key (μ x1 x2 x3 S + 1) x1 x2 x3 S (Nat.lt_succ_self _) h0
set_option maxRecDepth 100000 in
set_option maxHeartbeats 1000000 in
theorem s_layerNamed_0 (C : fcx gG D z A X R_M c_M_layerNamed 4 (some .int)) (hQ : X.2.2.2.2.2.2.2.2.2.2 = eQ gG D z X.2.2.2.2.2.2.2.1 X.2.2.2.2.1 L0 0 0 (pM_i K o ad)) (hA : A = owA gG L0 X.2.2.2.2.1.heap.size) (hR : X.2.2.2.1 = { frames := 1, cells := 1, slots := 6, locals := 100 }) (x1 : Int32) (S : ms) (hp : p_layerNamed x1 S K) : aw gG D z A X 4 0 [some (.ref o), some (.int x1), none, none] [] [(0, ly_M, (o, ad, S.1, S.2.1, S.2.2))] 0 0 := by
  unfold p_layerNamed at hp
  refine a_iconst (v := (-1)) C d_layerNamed_0 (by decide) ?_
  refine a_istore_n (lo' := [some (.ref o), some (.int x1), some (.int (-1)), none]) C d_layerNamed_1 rfl (by decide) rfl ?_
  refine a_iconst (v := 0) C d_layerNamed_2 (by decide) ?_
  refine a_istore_n (lo' := [some (.ref o), some (.int x1), some (.int (-1)), some (.int 0)]) C d_layerNamed_3 rfl (by decide) rfl ?_
  refine aw_lo (lo' := [some (.ref o), some (.int x1), some (.int (-1)), some (.int 0)]) ⟨.inr rfl, .inr rfl, .inr rfl, .inr rfl, trivial⟩ ?_
  exact se_layerNamed_4 C hQ hA hR x1 (-1) 0 S  hp
end M_layerNamed
section M_layerNamedc
variable {D : va_G} {z : Nat → ClassId} {o : Nat} {ad : Nat → Nat}
set_option maxRecDepth 100000 in
theorem ct_layerNamed {l : Launch} (x1 : Int32) (S : ms) {K : Int32 → ms → Prop} (hp : p_layerNamed x1 S K) : ct gG D z l n_M_layerNamed c_M_layerNamed 4 (some .int) 1 100 [.ref o, .int x1] [(0, ly_M, (o, ad, S.1, S.2.1, S.2.2))] 0 0 (pM_i K o ad) := by
  refine ct_of (lo := [some (.ref o), some (.int x1), none, none]) (by decide) g_ok (Nat.le_of_ble_eq_true rfl) rfl ?_
  intro X A _ C hR hQ hA _
  exact s_layerNamed_0 C hQ hA hR x1 S hp
end M_layerNamedc
def b_readScanHead_557  (S : ms) (K : ms → Prop) : Prop :=
  K S
def b_readScanHead_497 (x1 : Int32) (x5 : Int32) (x6 : Int32) (S : ms) (R468 : Int32 → Int32 → ms → Prop) (R497 : Int32 → Int32 → Int32 → ms → Prop) (K : ms → Prop) : Prop :=
  (64 ≤ x6 → (R468 x1 (x5 + 1) S)) ∧ (¬ (64 ≤ x6) → (vp_in x5 3 ∧ (vp_in x5 3 ∧ (vp_in (S.2.1 50 x5.toNatClampNeg) 3 ∧ (vp_in ((64 * (S.2.1 45 (S.2.1 50 x5.toNatClampNeg).toNatClampNeg)) + x6) 256 ∧ (vp_in ((64 * (S.2.1 50 x5.toNatClampNeg)) + x6) 192 ∧ (R497 x1 x5 (x6 + 1) (S.1, va_up S.2.1 46 (upd (S.2.1 46) ((64 * (S.2.1 50 x5.toNatClampNeg)) + x6).toNatClampNeg (S.2.1 38 ((64 * (S.2.1 45 (S.2.1 50 x5.toNatClampNeg).toNatClampNeg)) + x6).toNatClampNeg)), S.2.2))))))))
def e_readScanHead_497 (x1 : Int32) (x5 : Int32) (x6 : Int32) (S : ms) (R468 : Int32 → Int32 → ms → Prop) (K : ms → Prop) : Prop :=
  ∃ (I : Int32 → Int32 → Int32 → ms → Prop) (μ : Int32 → Int32 → Int32 → ms → Nat), I x1 x5 x6 S ∧ ∀ yx1 yx5 yx6 yS, I yx1 yx5 yx6 yS → b_readScanHead_497 yx1 yx5 yx6 yS R468 (fun zx1 zx5 zx6 zS => I zx1 zx5 zx6 zS ∧ μ zx1 zx5 zx6 zS < μ yx1 yx5 yx6 yS) K
def b_readScanHead_468 (x1 : Int32) (x5 : Int32) (S : ms) (R468 : Int32 → Int32 → ms → Prop) (K : ms → Prop) : Prop :=
  (x1 ≤ x5 → (b_readScanHead_557 S K)) ∧ (¬ (x1 ≤ x5) → ((¬ (S.1 35) = 0 → (b_readScanHead_557 S K)) ∧ ((S.1 35) = 0 → (vp_in x5 3 ∧ (vp_in (S.2.1 50 x5.toNatClampNeg) 3 ∧ (e_readScanHead_497 x1 x5 0 (S.1, va_up S.2.1 47 (upd (S.2.1 47) (S.2.1 50 x5.toNatClampNeg).toNatClampNeg (vp_nar .boolean 1)), S.2.2) R468 K))))))
def e_readScanHead_468 (x1 : Int32) (x5 : Int32) (S : ms) (K : ms → Prop) : Prop :=
  ∃ (I : Int32 → Int32 → ms → Prop) (μ : Int32 → Int32 → ms → Nat), I x1 x5 S ∧ ∀ yx1 yx5 yS, I yx1 yx5 yS → b_readScanHead_468 yx1 yx5 yS (fun zx1 zx5 zS => I zx1 zx5 zS ∧ μ zx1 zx5 zS < μ yx1 yx5 yS) K
def b_readScanHead_460 (x1 : Int32) (S : ms) (K : ms → Prop) : Prop :=
  e_readScanHead_468 x1 0 (upd S.1 49 x1, S.2.1, S.2.2) K
def b_readScanHead_432 (x1 : Int32) (x2 : Int32) (x4 : Int32) (S : ms) (K : ms → Prop) : Prop :=
  (¬ (S.1 35) = 0 → (b_readScanHead_460 x1 S K)) ∧ ((S.1 35) = 0 → ((x1 ≤ 1 → (b_readScanHead_460 x1 S K)) ∧ (¬ (x1 ≤ 1) → ((x4 ≤ 10 → (b_readScanHead_460 x1 S K)) ∧ (¬ (x4 ≤ 10) → (p_fail 6 x2 S (fun v455 S455 => b_readScanHead_460 x1 (S455.1, S455.2.1, S455.2.2) K)))))))
def b_readScanHead_417 (x1 : Int32) (x2 : Int32) (x4 : Int32) (x5 : Int32) (s1 : Int32) (S : ms) (R375 : Int32 → Int32 → Int32 → Int32 → ms → Prop) (K : ms → Prop) : Prop :=
  p_must s1 ((S.1 34) - 1) S (fun S423 => R375 x1 x2 x4 (x5 + 1) (S423.1, S423.2.1, S423.2.2))
def b_readScanHead_409 (x1 : Int32) (x2 : Int32) (x4 : Int32) (x5 : Int32) (s1 : Int32) (s2 : Int32) (S : ms) (R375 : Int32 → Int32 → Int32 → Int32 → ms → Prop) (K : ms → Prop) : Prop :=
  (¬ s1 = s2 → (b_readScanHead_417 x1 x2 x4 x5 0 S R375 K)) ∧ (s1 = s2 → (b_readScanHead_417 x1 x2 x4 x5 1 S R375 K))
def b_readScanHead_375 (x1 : Int32) (x2 : Int32) (x4 : Int32) (x5 : Int32) (S : ms) (R375 : Int32 → Int32 → Int32 → Int32 → ms → Prop) (K : ms → Prop) : Prop :=
  (3 ≤ x5 → (b_readScanHead_432 x1 x2 x4 S K)) ∧ (¬ (3 ≤ x5) → ((¬ (S.1 35) = 0 → (b_readScanHead_432 x1 x2 x4 S K)) ∧ ((S.1 35) = 0 → (p_next S (fun v389 S389 => (¬ x5 = 1 → (b_readScanHead_409 x1 x2 x4 x5 v389 0 (S389.1, S389.2.1, S389.2.2) R375 K)) ∧ (x5 = 1 → (b_readScanHead_409 x1 x2 x4 x5 v389 63 (S389.1, S389.2.1, S389.2.2) R375 K)))))))
def e_readScanHead_375 (x1 : Int32) (x2 : Int32) (x4 : Int32) (x5 : Int32) (S : ms) (K : ms → Prop) : Prop :=
  ∃ (I : Int32 → Int32 → Int32 → Int32 → ms → Prop) (μ : Int32 → Int32 → Int32 → Int32 → ms → Nat), I x1 x2 x4 x5 S ∧ ∀ yx1 yx2 yx4 yx5 yS, I yx1 yx2 yx4 yx5 yS → b_readScanHead_375 yx1 yx2 yx4 yx5 yS (fun zx1 zx2 zx4 zx5 zS => I zx1 zx2 zx4 zx5 zS ∧ μ zx1 zx2 zx4 zx5 zS < μ yx1 yx2 yx4 yx5 yS) K
def b_readScanHead_372 (x1 : Int32) (x2 : Int32) (x4 : Int32) (S : ms) (K : ms → Prop) : Prop :=
  e_readScanHead_375 x1 x2 x4 0 S K
def b_readScanHead_366 (x1 : Int32) (x2 : Int32) (x3 : Int32) (x4 : Int32) (x5 : Int32) (S : ms) (R79 : Int32 → Int32 → Int32 → Int32 → Int32 → ms → Prop) (K : ms → Prop) : Prop :=
  R79 x1 x2 x3 x4 (x5 + 1) S
def b_readScanHead_297 (x1 : Int32) (x2 : Int32) (x3 : Int32) (x4 : Int32) (x5 : Int32) (x7 : Int32) (x8 : Int32) (S : ms) (R79 : Int32 → Int32 → Int32 → Int32 → Int32 → ms → Prop) (K : ms → Prop) : Prop :=
  (¬ (S.1 35) = 0 → (b_readScanHead_366 x1 x2 x3 x4 x5 S R79 K)) ∧ ((S.1 35) = 0 → (vp_in x5 3 ∧ (vp_in x5 3 ∧ (vp_in x5 3 ∧ (vp_in (6 + x7) 9 ∧ (vp_in (6 + x7) 9 ∧ (b_readScanHead_366 x1 x2 x7 (x4 + (((va_up (va_up (va_up S.2.1 50 (upd (S.2.1 50) x5.toNatClampNeg x7)) 51 (upd ((va_up S.2.1 50 (upd (S.2.1 50) x5.toNatClampNeg x7)) 51) x5.toNatClampNeg (x8 >>> (4 &&& 31 : Int32) : Int32))) 52 (upd ((va_up (va_up S.2.1 50 (upd (S.2.1 50) x5.toNatClampNeg x7)) 51 (upd ((va_up S.2.1 50 (upd (S.2.1 50) x5.toNatClampNeg x7)) 51) x5.toNatClampNeg (x8 >>> (4 &&& 31 : Int32) : Int32))) 52) x5.toNatClampNeg (2 + (x8 &&& 1)))) 15 (6 + x7).toNatClampNeg) * ((va_up (va_up (va_up S.2.1 50 (upd (S.2.1 50) x5.toNatClampNeg x7)) 51 (upd ((va_up S.2.1 50 (upd (S.2.1 50) x5.toNatClampNeg x7)) 51) x5.toNatClampNeg (x8 >>> (4 &&& 31 : Int32) : Int32))) 52 (upd ((va_up (va_up S.2.1 50 (upd (S.2.1 50) x5.toNatClampNeg x7)) 51 (upd ((va_up S.2.1 50 (upd (S.2.1 50) x5.toNatClampNeg x7)) 51) x5.toNatClampNeg (x8 >>> (4 &&& 31 : Int32) : Int32))) 52) x5.toNatClampNeg (2 + (x8 &&& 1)))) 16 (6 + x7).toNatClampNeg))) x5 (S.1, va_up (va_up (va_up S.2.1 50 (upd (S.2.1 50) x5.toNatClampNeg x7)) 51 (upd ((va_up S.2.1 50 (upd (S.2.1 50) x5.toNatClampNeg x7)) 51) x5.toNatClampNeg (x8 >>> (4 &&& 31 : Int32) : Int32))) 52 (upd ((va_up (va_up S.2.1 50 (upd (S.2.1 50) x5.toNatClampNeg x7)) 51 (upd ((va_up S.2.1 50 (upd (S.2.1 50) x5.toNatClampNeg x7)) 51) x5.toNatClampNeg (x8 >>> (4 &&& 31 : Int32) : Int32))) 52) x5.toNatClampNeg (2 + (x8 &&& 1))), S.2.2) R79 K)))))))
def b_readScanHead_283 (x1 : Int32) (x2 : Int32) (x3 : Int32) (x4 : Int32) (x5 : Int32) (x7 : Int32) (x8 : Int32) (S : ms) (R79 : Int32 → Int32 → Int32 → Int32 → Int32 → ms → Prop) (K : ms → Prop) : Prop :=
  p_fail 6 ((S.1 34) - 1) S (fun v292 S292 => b_readScanHead_297 x1 x2 x3 x4 x5 x7 x8 (S292.1, S292.2.1, S292.2.2) R79 K)
def b_readScanHead_241 (x1 : Int32) (x2 : Int32) (x3 : Int32) (x4 : Int32) (x5 : Int32) (x7 : Int32) (x8 : Int32) (s1 : Int32) (S : ms) (R79 : Int32 → Int32 → Int32 → Int32 → Int32 → ms → Prop) (K : ms → Prop) : Prop :=
  p_must s1 ((S.1 34) - 1) S (fun S247 => (¬ (S247.1 35) = 0 → (b_readScanHead_297 x1 x2 x3 x4 x5 x7 x8 (S247.1, S247.2.1, S247.2.2) R79 K)) ∧ ((S247.1 35) = 0 → (vp_in (x8 >>> (4 &&& 31 : Int32) : Int32) 4 ∧ (((S247.2.1 42 (x8 >>> (4 &&& 31 : Int32) : Int32).toNatClampNeg) = 0 → (b_readScanHead_283 x1 x2 x3 x4 x5 x7 x8 (S247.1, S247.2.1, S247.2.2) R79 K)) ∧ (¬ ((S247.2.1 42 (x8 >>> (4 &&& 31 : Int32) : Int32).toNatClampNeg) = 0) → (vp_in (2 + (x8 &&& 1)) 4 ∧ ((¬ (S247.2.1 42 (2 + (x8 &&& 1)).toNatClampNeg) = 0 → (b_readScanHead_297 x1 x2 x3 x4 x5 x7 x8 (S247.1, S247.2.1, S247.2.2) R79 K)) ∧ ((S247.2.1 42 (2 + (x8 &&& 1)).toNatClampNeg) = 0 → (b_readScanHead_283 x1 x2 x3 x4 x5 x7 x8 (S247.1, S247.2.1, S247.2.2) R79 K)))))))))
def b_readScanHead_236 (x1 : Int32) (x2 : Int32) (x3 : Int32) (x4 : Int32) (x5 : Int32) (x7 : Int32) (x8 : Int32) (S : ms) (R79 : Int32 → Int32 → Int32 → Int32 → Int32 → ms → Prop) (K : ms → Prop) : Prop :=
  b_readScanHead_241 x1 x2 x3 x4 x5 x7 x8 1 S R79 K
def b_readScanHead_208 (x1 : Int32) (x2 : Int32) (x3 : Int32) (x4 : Int32) (x5 : Int32) (x7 : Int32) (s0 : Int32) (S : ms) (R79 : Int32 → Int32 → Int32 → Int32 → Int32 → ms → Prop) (K : ms → Prop) : Prop :=
  (s0 = 0 → (b_readScanHead_236 x1 x2 x3 x4 x5 x7 s0 S R79 K)) ∧ (¬ (s0 = 0) → ((s0 = 1 → (b_readScanHead_236 x1 x2 x3 x4 x5 x7 s0 S R79 K)) ∧ (¬ (s0 = 1) → ((s0 = 16 → (b_readScanHead_236 x1 x2 x3 x4 x5 x7 s0 S R79 K)) ∧ (¬ (s0 = 16) → ((¬ s0 = 17 → (b_readScanHead_241 x1 x2 x3 x4 x5 x7 s0 0 S R79 K)) ∧ (s0 = 17 → (b_readScanHead_236 x1 x2 x3 x4 x5 x7 s0 S R79 K))))))))
def b_readScanHead_193 (x1 : Int32) (x2 : Int32) (x3 : Int32) (x4 : Int32) (x5 : Int32) (x7 : Int32) (S : ms) (R79 : Int32 → Int32 → Int32 → Int32 → Int32 → ms → Prop) (K : ms → Prop) : Prop :=
  (¬ (S.1 35) = 0 → (b_readScanHead_208 x1 x2 x3 x4 x5 x7 0 S R79 K)) ∧ ((S.1 35) = 0 → (p_next S (fun v201 S201 => b_readScanHead_208 x1 x2 x3 x4 x5 x7 v201 (S201.1, S201.2.1, S201.2.2) R79 K)))
def b_readScanHead_148 (x1 : Int32) (x2 : Int32) (x3 : Int32) (x4 : Int32) (x5 : Int32) (x7 : Int32) (s1 : Int32) (S : ms) (R79 : Int32 → Int32 → Int32 → Int32 → Int32 → ms → Prop) (K : ms → Prop) : Prop :=
  p_must s1 ((S.1 34) - 1) S (fun S154 => (¬ (S154.1 35) = 0 → (b_readScanHead_193 x1 x2 x3 x4 x5 x7 (S154.1, S154.2.1, S154.2.2) R79 K)) ∧ ((S154.1 35) = 0 → (vp_in x7 3 ∧ (vp_in (S154.2.1 45 x7.toNatClampNeg) 4 ∧ ((¬ (S154.2.1 39 (S154.2.1 45 x7.toNatClampNeg).toNatClampNeg) = 0 → (b_readScanHead_193 x1 x2 x3 x4 x5 x7 (S154.1, S154.2.1, S154.2.2) R79 K)) ∧ ((S154.2.1 39 (S154.2.1 45 x7.toNatClampNeg).toNatClampNeg) = 0 → (p_fail 6 ((S154.1 34) - 1) (S154.1, S154.2.1, S154.2.2) (fun v188 S188 => b_readScanHead_193 x1 x2 x3 x4 x5 x7 (S188.1, S188.2.1, S188.2.2) R79 K))))))))
def b_readScanHead_147 (x1 : Int32) (x2 : Int32) (x3 : Int32) (x4 : Int32) (x5 : Int32) (x7 : Int32) (S : ms) (R79 : Int32 → Int32 → Int32 → Int32 → Int32 → ms → Prop) (K : ms → Prop) : Prop :=
  b_readScanHead_148 x1 x2 x3 x4 x5 x7 0 S R79 K
def b_readScanHead_139 (x1 : Int32) (x2 : Int32) (x3 : Int32) (x4 : Int32) (x5 : Int32) (x7 : Int32) (s2 : Int32) (S : ms) (R79 : Int32 → Int32 → Int32 → Int32 → Int32 → ms → Prop) (K : ms → Prop) : Prop :=
  vp_in s2 3 ∧ ((¬ (S.2.1 47 s2.toNatClampNeg) = 0 → (b_readScanHead_147 x1 x2 x3 x4 x5 x7 S R79 K)) ∧ ((S.2.1 47 s2.toNatClampNeg) = 0 → (b_readScanHead_148 x1 x2 x3 x4 x5 x7 1 S R79 K)))
def b_readScanHead_115 (x1 : Int32) (x2 : Int32) (x3 : Int32) (x4 : Int32) (x5 : Int32) (s0 : Int32) (S : ms) (R79 : Int32 → Int32 → Int32 → Int32 → Int32 → ms → Prop) (K : ms → Prop) : Prop :=
  (s0 ≤ x3 → (b_readScanHead_147 x1 x2 x3 x4 x5 s0 S R79 K)) ∧ (¬ (s0 ≤ x3) → ((0 ≤ s0 → (b_readScanHead_139 x1 x2 x3 x4 x5 s0 s0 S R79 K)) ∧ (¬ (0 ≤ s0) → (b_readScanHead_139 x1 x2 x3 x4 x5 s0 0 S R79 K))))
def b_readScanHead_79 (x1 : Int32) (x2 : Int32) (x3 : Int32) (x4 : Int32) (x5 : Int32) (S : ms) (R79 : Int32 → Int32 → Int32 → Int32 → Int32 → ms → Prop) (K : ms → Prop) : Prop :=
  (x1 ≤ x5 → (b_readScanHead_372 x1 x2 x4 S K)) ∧ (¬ (x1 ≤ x5) → ((¬ (S.1 35) = 0 → (b_readScanHead_372 x1 x2 x4 S K)) ∧ ((S.1 35) = 0 → (p_next S (fun v93 S93 => (¬ (S93.1 35) = 0 → (b_readScanHead_115 x1 x2 x3 x4 x5 (-1) (S93.1, S93.2.1, S93.2.2) R79 K)) ∧ ((S93.1 35) = 0 → (p_layerNamed v93 (S93.1, S93.2.1, S93.2.2) (fun v108 S108 => b_readScanHead_115 x1 x2 x3 x4 x5 v108 (S108.1, S108.2.1, S108.2.2) R79 K))))))))
def e_readScanHead_79 (x1 : Int32) (x2 : Int32) (x3 : Int32) (x4 : Int32) (x5 : Int32) (S : ms) (K : ms → Prop) : Prop :=
  ∃ (I : Int32 → Int32 → Int32 → Int32 → Int32 → ms → Prop) (μ : Int32 → Int32 → Int32 → Int32 → Int32 → ms → Nat), I x1 x2 x3 x4 x5 S ∧ ∀ yx1 yx2 yx3 yx4 yx5 yS, I yx1 yx2 yx3 yx4 yx5 yS → b_readScanHead_79 yx1 yx2 yx3 yx4 yx5 yS (fun zx1 zx2 zx3 zx4 zx5 zS => I zx1 zx2 zx3 zx4 zx5 zS ∧ μ zx1 zx2 zx3 zx4 zx5 zS < μ yx1 yx2 yx3 yx4 yx5 yS) K
def b_readScanHead_71 (x1 : Int32) (x2 : Int32) (S : ms) (K : ms → Prop) : Prop :=
  e_readScanHead_79 x1 x2 (-1) 0 0 S K
def b_readScanHead_32 (x1 : Int32) (x2 : Int32) (s1 : Int32) (S : ms) (K : ms → Prop) : Prop :=
  p_must s1 x2 S (fun S33 => (¬ (S33.1 35) = 0 → (b_readScanHead_71 x1 x2 (S33.1, S33.2.1, S33.2.2) K)) ∧ ((S33.1 35) = 0 → ((((S33.1 36) - (S33.1 37)) = (6 + (2 * x1)) → (b_readScanHead_71 x1 x2 (S33.1, S33.2.1, S33.2.2) K)) ∧ (¬ (((S33.1 36) - (S33.1 37)) = (6 + (2 * x1))) → (p_fail 4 (S33.1 37) (S33.1, S33.2.1, S33.2.2) (fun v67 S67 => b_readScanHead_71 x1 x2 (S67.1, S67.2.1, S67.2.2) K))))))
def b_readScanHead_31 (x1 : Int32) (x2 : Int32) (S : ms) (K : ms → Prop) : Prop :=
  b_readScanHead_32 x1 x2 0 S K
def p_readScanHead  (S : ms) (K : ms → Prop) : Prop :=
  p_next S (fun v1 S1 => (v1 ≤ 0 → (b_readScanHead_31 v1 ((S1.1 34) - 1) (S1.1, S1.2.1, S1.2.2) K)) ∧ (¬ (v1 ≤ 0) → (vp_in 2 3 ∧ (((S1.2.1 14 (2 : Int32).toNatClampNeg) < v1 → (b_readScanHead_31 v1 ((S1.1 34) - 1) (S1.1, S1.2.1, S1.2.2) K)) ∧ (¬ ((S1.2.1 14 (2 : Int32).toNatClampNeg) < v1) → (b_readScanHead_32 v1 ((S1.1 34) - 1) 1 (S1.1, S1.2.1, S1.2.2) K))))))
section M_readScanHead
variable {D : va_G} {z : Nat → ClassId} {A : Nat → Prop} {X : cx} {L0 : fw} {K : ms → Prop} {o : Nat} {ad : Nat → Nat}
set_option maxRecDepth 100000 in
set_option maxHeartbeats 1000000 in
theorem s_readScanHead_557 (C : fcx gG D z A X R_M c_M_readScanHead 10 (none)) (hQ : X.2.2.2.2.2.2.2.2.2.2 = eQ gG D z X.2.2.2.2.2.2.2.1 X.2.2.2.2.1 L0 0 0 (pM_v K o ad)) (hA : A = owA gG L0 X.2.2.2.2.1.heap.size) (hR : X.2.2.2.1 = { frames := 3, cells := 1, slots := 6, locals := 300 })  (S : ms) (hp : b_readScanHead_557  S K) : aw gG D z A X 10 557 [some (.ref o), none, none, none, none, none, none, none, none, none] [] [(0, ly_M, (o, ad, S.1, S.2.1, S.2.2))] 0 0 := by
  unfold b_readScanHead_557 at hp
  exact a_vret C hQ hA d_readScanHead_557 rfl ⟨S, hp, rfl, rfl⟩
set_option maxRecDepth 100000 in
set_option maxHeartbeats 1000000 in
theorem s_readScanHead_497 (C : fcx gG D z A X R_M c_M_readScanHead 10 (none)) (hQ : X.2.2.2.2.2.2.2.2.2.2 = eQ gG D z X.2.2.2.2.2.2.2.1 X.2.2.2.2.1 L0 0 0 (pM_v K o ad)) (hA : A = owA gG L0 X.2.2.2.2.1.heap.size) (hR : X.2.2.2.1 = { frames := 3, cells := 1, slots := 6, locals := 300 }) (x1 : Int32) (x5 : Int32) (x6 : Int32) (S : ms) (R468 : Int32 → Int32 → ms → Prop) (hR468 : ∀ yx1 yx5 yS, R468 yx1 yx5 yS → aw gG D z A X 10 468 [some (.ref o), some (.int yx1), none, none, none, some (.int yx5), none, none, none, none] [] [(0, ly_M, (o, ad, yS.1, yS.2.1, yS.2.2))] 0 0) (R497 : Int32 → Int32 → Int32 → ms → Prop) (hR497 : ∀ yx1 yx5 yx6 yS, R497 yx1 yx5 yx6 yS → aw gG D z A X 10 497 [some (.ref o), some (.int yx1), none, none, none, some (.int yx5), some (.int yx6), none, none, none] [] [(0, ly_M, (o, ad, yS.1, yS.2.1, yS.2.2))] 0 0) (hp : b_readScanHead_497 x1 x5 x6 S R468 R497 K) : aw gG D z A X 10 497 [some (.ref o), some (.int x1), none, none, none, some (.int x5), some (.int x6), none, none, none] [] [(0, ly_M, (o, ad, S.1, S.2.1, S.2.2))] 0 0 := by
  unfold b_readScanHead_497 at hp
  refine a_iload C d_readScanHead_497 rfl ?_
  refine a_bipush (v := 64) C d_readScanHead_499 (by decide) ?_
  refine a_icmp_ge (tgt := 551) C d_readScanHead_501 (by decide) ⟨fun hc => ?_, fun hc => ?_⟩
  · have hp := hp.1 hc
    refine a_iinc (v := x5 + 1) (lo' := [some (.ref o), some (.int x1), none, none, none, some (.int (x5 + 1)), some (.int x6), none, none, none]) C d_readScanHead_551 rfl rfl (by decide) rfl ?_
    refine a_goto (tgt := 468) C d_readScanHead_554 (by decide) ?_
    refine aw_lo (lo' := [some (.ref o), some (.int x1), none, none, none, some (.int (x5 + 1)), none, none, none, none]) ⟨.inr rfl, .inr rfl, .inr rfl, .inr rfl, .inr rfl, .inr rfl, .inl rfl, .inr rfl, .inr rfl, .inr rfl, trivial⟩ ?_
    exact hR468 x1 (x5 + 1) S hp
  · have hp := hp.2 hc
    refine a_aload_n C d_readScanHead_504 rfl rfl ?_
    refine a_getR C 0 46 d_readScanHead_505 rfl rfl rfl (Nat.le_of_ble_eq_true rfl) f_M_124 ⟨Nat.le_of_ble_eq_true rfl, Nat.le_of_ble_eq_true rfl⟩ ?_
    refine a_bipush (v := 64) C d_readScanHead_508 (by decide) ?_
    refine a_aload_n C d_readScanHead_510 rfl rfl ?_
    refine a_getR C 0 50 d_readScanHead_511 rfl rfl rfl (Nat.le_of_ble_eq_true rfl) f_M_130 ⟨Nat.le_of_ble_eq_true rfl, Nat.le_of_ble_eq_true rfl⟩ ?_
    refine a_iload C d_readScanHead_514 rfl ?_
    refine a_iald C 0 50 d_readScanHead_516 rfl rfl rfl hp.1 ?_
    have hp := hp.2
    refine a_imul C d_readScanHead_517 ?_
    refine a_iload C d_readScanHead_518 rfl ?_
    refine a_iadd C d_readScanHead_520 ?_
    refine a_aload_n C d_readScanHead_521 rfl rfl ?_
    refine a_getR C 0 38 d_readScanHead_522 rfl rfl rfl (Nat.le_of_ble_eq_true rfl) f_M_103 ⟨Nat.le_of_ble_eq_true rfl, Nat.le_of_ble_eq_true rfl⟩ ?_
    refine a_bipush (v := 64) C d_readScanHead_525 (by decide) ?_
    refine a_aload_n C d_readScanHead_527 rfl rfl ?_
    refine a_getR C 0 45 d_readScanHead_528 rfl rfl rfl (Nat.le_of_ble_eq_true rfl) f_M_121 ⟨Nat.le_of_ble_eq_true rfl, Nat.le_of_ble_eq_true rfl⟩ ?_
    refine a_aload_n C d_readScanHead_531 rfl rfl ?_
    refine a_getR C 0 50 d_readScanHead_532 rfl rfl rfl (Nat.le_of_ble_eq_true rfl) f_M_130 ⟨Nat.le_of_ble_eq_true rfl, Nat.le_of_ble_eq_true rfl⟩ ?_
    refine a_iload C d_readScanHead_535 rfl ?_
    refine a_iald C 0 50 d_readScanHead_537 rfl rfl rfl hp.1 ?_
    have hp := hp.2
    refine a_iald C 0 45 d_readScanHead_538 rfl rfl rfl hp.1 ?_
    have hp := hp.2
    refine a_imul C d_readScanHead_539 ?_
    refine a_iload C d_readScanHead_540 rfl ?_
    refine a_iadd C d_readScanHead_542 ?_
    refine a_iald C 0 38 d_readScanHead_543 rfl rfl rfl hp.1 ?_
    have hp := hp.2
    refine a_iast C 0 46 d_readScanHead_544 rfl rfl rfl hp.1 ?_
    have hp := hp.2
    refine aw_eq (lo' := _) (st' := _) (L' := [(0, ly_M, (o, ad, S.1, va_up S.2.1 46 (upd (S.2.1 46) ((64 * (S.2.1 50 x5.toNatClampNeg)) + x6).toNatClampNeg (S.2.1 38 ((64 * (S.2.1 45 (S.2.1 50 x5.toNatClampNeg).toNatClampNeg)) + x6).toNatClampNeg)), S.2.2))]) rfl rfl rfl ?_
    refine a_iinc (v := x6 + 1) (lo' := [some (.ref o), some (.int x1), none, none, none, some (.int x5), some (.int (x6 + 1)), none, none, none]) C d_readScanHead_545 rfl rfl (by decide) rfl ?_
    refine a_goto (tgt := 497) C d_readScanHead_548 (by decide) ?_
    refine aw_lo (lo' := [some (.ref o), some (.int x1), none, none, none, some (.int x5), some (.int (x6 + 1)), none, none, none]) ⟨.inr rfl, .inr rfl, .inr rfl, .inr rfl, .inr rfl, .inr rfl, .inr rfl, .inr rfl, .inr rfl, .inr rfl, trivial⟩ ?_
    exact hR497 x1 x5 (x6 + 1) (S.1, va_up S.2.1 46 (upd (S.2.1 46) ((64 * (S.2.1 50 x5.toNatClampNeg)) + x6).toNatClampNeg (S.2.1 38 ((64 * (S.2.1 45 (S.2.1 50 x5.toNatClampNeg).toNatClampNeg)) + x6).toNatClampNeg)), S.2.2) hp
set_option maxRecDepth 100000 in
set_option maxHeartbeats 1000000 in
theorem se_readScanHead_497 (C : fcx gG D z A X R_M c_M_readScanHead 10 (none)) (hQ : X.2.2.2.2.2.2.2.2.2.2 = eQ gG D z X.2.2.2.2.2.2.2.1 X.2.2.2.2.1 L0 0 0 (pM_v K o ad)) (hA : A = owA gG L0 X.2.2.2.2.1.heap.size) (hR : X.2.2.2.1 = { frames := 3, cells := 1, slots := 6, locals := 300 }) (x1 : Int32) (x5 : Int32) (x6 : Int32) (S : ms) (R468 : Int32 → Int32 → ms → Prop) (hR468 : ∀ yx1 yx5 yS, R468 yx1 yx5 yS → aw gG D z A X 10 468 [some (.ref o), some (.int yx1), none, none, none, some (.int yx5), none, none, none, none] [] [(0, ly_M, (o, ad, yS.1, yS.2.1, yS.2.2))] 0 0) (hp : e_readScanHead_497 x1 x5 x6 S R468 K) : aw gG D z A X 10 497 [some (.ref o), some (.int x1), none, none, none, some (.int x5), some (.int x6), none, none, none] [] [(0, ly_M, (o, ad, S.1, S.2.1, S.2.2))] 0 0 := by
  obtain ⟨I, μ, h0, hs⟩ := hp
  have key : ∀ (n : Nat) (yx1 : Int32) (yx5 : Int32) (yx6 : Int32) (yS : ms), μ yx1 yx5 yx6 yS < n → I yx1 yx5 yx6 yS → aw gG D z A X 10 497 [some (.ref o), some (.int yx1), none, none, none, some (.int yx5), some (.int yx6), none, none, none] [] [(0, ly_M, (o, ad, yS.1, yS.2.1, yS.2.2))] 0 0 := by
    intro n
    induction n with
    | zero => intro yx1 yx5 yx6 yS h; omega
    | succ n ih =>
      intro yx1 yx5 yx6 yS hn hI
      exact s_readScanHead_497 C hQ hA hR yx1 yx5 yx6 yS R468 hR468 _ (fun zx1 zx5 zx6 zS hw => ih zx1 zx5 zx6 zS (by omega) hw.1) (hs yx1 yx5 yx6 yS hI)
  exact key (μ x1 x5 x6 S + 1) x1 x5 x6 S (Nat.lt_succ_self _) h0
set_option maxRecDepth 100000 in
set_option maxHeartbeats 1000000 in
theorem s_readScanHead_468 (C : fcx gG D z A X R_M c_M_readScanHead 10 (none)) (hQ : X.2.2.2.2.2.2.2.2.2.2 = eQ gG D z X.2.2.2.2.2.2.2.1 X.2.2.2.2.1 L0 0 0 (pM_v K o ad)) (hA : A = owA gG L0 X.2.2.2.2.1.heap.size) (hR : X.2.2.2.1 = { frames := 3, cells := 1, slots := 6, locals := 300 }) (x1 : Int32) (x5 : Int32) (S : ms) (R468 : Int32 → Int32 → ms → Prop) (hR468 : ∀ yx1 yx5 yS, R468 yx1 yx5 yS → aw gG D z A X 10 468 [some (.ref o), some (.int yx1), none, none, none, some (.int yx5), none, none, none, none] [] [(0, ly_M, (o, ad, yS.1, yS.2.1, yS.2.2))] 0 0) (hp : b_readScanHead_468 x1 x5 S R468 K) : aw gG D z A X 10 468 [some (.ref o), some (.int x1), none, none, none, some (.int x5), none, none, none, none] [] [(0, ly_M, (o, ad, S.1, S.2.1, S.2.2))] 0 0 := by
  unfold b_readScanHead_468 at hp
  refine a_iload C d_readScanHead_468 rfl ?_
  refine a_iload_n C d_readScanHead_470 rfl rfl ?_
  refine a_icmp_ge (tgt := 557) C d_readScanHead_471 (by decide) ⟨fun hc => ?_, fun hc => ?_⟩
  · have hp := hp.1 hc
    refine aw_lo (lo' := [some (.ref o), none, none, none, none, none, none, none, none, none]) ⟨.inr rfl, .inl rfl, .inr rfl, .inr rfl, .inr rfl, .inl rfl, .inr rfl, .inr rfl, .inr rfl, .inr rfl, trivial⟩ ?_
    exact s_readScanHead_557 C hQ hA hR S  hp
  · have hp := hp.2 hc
    refine a_aload_n C d_readScanHead_474 rfl rfl ?_
    refine a_getI C 0 35 d_readScanHead_475 rfl rfl rfl (Nat.le_of_ble_eq_true rfl) f_M_265 (Nat.le_of_ble_eq_true rfl) ?_
    refine a_if_ne (tgt := 557) C d_readScanHead_478 (by decide) ⟨fun hc => ?_, fun hc => ?_⟩
    · have hp := hp.1 hc
      refine aw_lo (lo' := [some (.ref o), none, none, none, none, none, none, none, none, none]) ⟨.inr rfl, .inl rfl, .inr rfl, .inr rfl, .inr rfl, .inl rfl, .inr rfl, .inr rfl, .inr rfl, .inr rfl, trivial⟩ ?_
      exact s_readScanHead_557 C hQ hA hR S  hp
    · have hp := hp.2 hc
      refine a_aload_n C d_readScanHead_481 rfl rfl ?_
      refine a_getR C 0 47 d_readScanHead_482 rfl rfl rfl (Nat.le_of_ble_eq_true rfl) f_M_127 ⟨Nat.le_of_ble_eq_true rfl, Nat.le_of_ble_eq_true rfl⟩ ?_
      refine a_aload_n C d_readScanHead_485 rfl rfl ?_
      refine a_getR C 0 50 d_readScanHead_486 rfl rfl rfl (Nat.le_of_ble_eq_true rfl) f_M_130 ⟨Nat.le_of_ble_eq_true rfl, Nat.le_of_ble_eq_true rfl⟩ ?_
      refine a_iload C d_readScanHead_489 rfl ?_
      refine a_iald C 0 50 d_readScanHead_491 rfl rfl rfl hp.1 ?_
      have hp := hp.2
      refine a_iconst (v := 1) C d_readScanHead_492 (by decide) ?_
      refine a_zast C 0 47 d_readScanHead_493 rfl rfl rfl hp.1 ?_
      have hp := hp.2
      refine aw_eq (lo' := _) (st' := _) (L' := [(0, ly_M, (o, ad, S.1, va_up S.2.1 47 (upd (S.2.1 47) (S.2.1 50 x5.toNatClampNeg).toNatClampNeg (vp_nar .boolean 1)), S.2.2))]) rfl rfl rfl ?_
      refine a_iconst (v := 0) C d_readScanHead_494 (by decide) ?_
      refine a_istore (lo' := [some (.ref o), some (.int x1), none, none, none, some (.int x5), some (.int 0), none, none, none]) C d_readScanHead_495 (by decide) rfl ?_
      refine aw_lo (lo' := [some (.ref o), some (.int x1), none, none, none, some (.int x5), some (.int 0), none, none, none]) ⟨.inr rfl, .inr rfl, .inr rfl, .inr rfl, .inr rfl, .inr rfl, .inr rfl, .inr rfl, .inr rfl, .inr rfl, trivial⟩ ?_
      exact se_readScanHead_497 C hQ hA hR x1 x5 0 (S.1, va_up S.2.1 47 (upd (S.2.1 47) (S.2.1 50 x5.toNatClampNeg).toNatClampNeg (vp_nar .boolean 1)), S.2.2) R468 hR468 hp
set_option maxRecDepth 100000 in
set_option maxHeartbeats 1000000 in
theorem se_readScanHead_468 (C : fcx gG D z A X R_M c_M_readScanHead 10 (none)) (hQ : X.2.2.2.2.2.2.2.2.2.2 = eQ gG D z X.2.2.2.2.2.2.2.1 X.2.2.2.2.1 L0 0 0 (pM_v K o ad)) (hA : A = owA gG L0 X.2.2.2.2.1.heap.size) (hR : X.2.2.2.1 = { frames := 3, cells := 1, slots := 6, locals := 300 }) (x1 : Int32) (x5 : Int32) (S : ms) (hp : e_readScanHead_468 x1 x5 S K) : aw gG D z A X 10 468 [some (.ref o), some (.int x1), none, none, none, some (.int x5), none, none, none, none] [] [(0, ly_M, (o, ad, S.1, S.2.1, S.2.2))] 0 0 := by
  obtain ⟨I, μ, h0, hs⟩ := hp
  have key : ∀ (n : Nat) (yx1 : Int32) (yx5 : Int32) (yS : ms), μ yx1 yx5 yS < n → I yx1 yx5 yS → aw gG D z A X 10 468 [some (.ref o), some (.int yx1), none, none, none, some (.int yx5), none, none, none, none] [] [(0, ly_M, (o, ad, yS.1, yS.2.1, yS.2.2))] 0 0 := by
    intro n
    induction n with
    | zero => intro yx1 yx5 yS h; omega
    | succ n ih =>
      intro yx1 yx5 yS hn hI
      exact s_readScanHead_468 C hQ hA hR yx1 yx5 yS _ (fun zx1 zx5 zS hw => ih zx1 zx5 zS (by omega) hw.1) (hs yx1 yx5 yS hI)
  exact key (μ x1 x5 S + 1) x1 x5 S (Nat.lt_succ_self _) h0
set_option maxRecDepth 100000 in
set_option maxHeartbeats 1000000 in
theorem s_readScanHead_460 (C : fcx gG D z A X R_M c_M_readScanHead 10 (none)) (hQ : X.2.2.2.2.2.2.2.2.2.2 = eQ gG D z X.2.2.2.2.2.2.2.1 X.2.2.2.2.1 L0 0 0 (pM_v K o ad)) (hA : A = owA gG L0 X.2.2.2.2.1.heap.size) (hR : X.2.2.2.1 = { frames := 3, cells := 1, slots := 6, locals := 300 }) (x1 : Int32) (S : ms) (hp : b_readScanHead_460 x1 S K) : aw gG D z A X 10 460 [some (.ref o), some (.int x1), none, none, none, none, none, none, none, none] [] [(0, ly_M, (o, ad, S.1, S.2.1, S.2.2))] 0 0 := by
  unfold b_readScanHead_460 at hp
  refine a_aload_n C d_readScanHead_460 rfl rfl ?_
  refine a_iload_n C d_readScanHead_461 rfl rfl ?_
  refine a_putI (ty := .int) C 0 49 d_readScanHead_462 rfl rfl rfl (Nat.le_of_ble_eq_true rfl) f_M_302 (Nat.le_of_ble_eq_true rfl) rfl rfl rfl rfl ?_
  refine aw_eq (lo' := _) (st' := _) (L' := [(0, ly_M, (o, ad, upd S.1 49 x1, S.2.1, S.2.2))]) rfl rfl rfl ?_
  refine a_iconst (v := 0) C d_readScanHead_465 (by decide) ?_
  refine a_istore (lo' := [some (.ref o), some (.int x1), none, none, none, some (.int 0), none, none, none, none]) C d_readScanHead_466 (by decide) rfl ?_
  refine aw_lo (lo' := [some (.ref o), some (.int x1), none, none, none, some (.int 0), none, none, none, none]) ⟨.inr rfl, .inr rfl, .inr rfl, .inr rfl, .inr rfl, .inr rfl, .inr rfl, .inr rfl, .inr rfl, .inr rfl, trivial⟩ ?_
  exact se_readScanHead_468 C hQ hA hR x1 0 (upd S.1 49 x1, S.2.1, S.2.2)  hp
set_option maxRecDepth 100000 in
set_option maxHeartbeats 1000000 in
theorem s_readScanHead_432 (C : fcx gG D z A X R_M c_M_readScanHead 10 (none)) (hQ : X.2.2.2.2.2.2.2.2.2.2 = eQ gG D z X.2.2.2.2.2.2.2.1 X.2.2.2.2.1 L0 0 0 (pM_v K o ad)) (hA : A = owA gG L0 X.2.2.2.2.1.heap.size) (hR : X.2.2.2.1 = { frames := 3, cells := 1, slots := 6, locals := 300 }) (x1 : Int32) (x2 : Int32) (x4 : Int32) (S : ms) (hp : b_readScanHead_432 x1 x2 x4 S K) : aw gG D z A X 10 432 [some (.ref o), some (.int x1), some (.int x2), none, some (.int x4), none, none, none, none, none] [] [(0, ly_M, (o, ad, S.1, S.2.1, S.2.2))] 0 0 := by
  unfold b_readScanHead_432 at hp
  refine a_aload_n C d_readScanHead_432 rfl rfl ?_
  refine a_getI C 0 35 d_readScanHead_433 rfl rfl rfl (Nat.le_of_ble_eq_true rfl) f_M_265 (Nat.le_of_ble_eq_true rfl) ?_
  refine a_if_ne (tgt := 460) C d_readScanHead_436 (by decide) ⟨fun hc => ?_, fun hc => ?_⟩
  · have hp := hp.1 hc
    refine aw_lo (lo' := [some (.ref o), some (.int x1), none, none, none, none, none, none, none, none]) ⟨.inr rfl, .inr rfl, .inl rfl, .inr rfl, .inl rfl, .inr rfl, .inr rfl, .inr rfl, .inr rfl, .inr rfl, trivial⟩ ?_
    exact s_readScanHead_460 C hQ hA hR x1 S  hp
  · have hp := hp.2 hc
    refine a_iload_n C d_readScanHead_439 rfl rfl ?_
    refine a_iconst (v := 1) C d_readScanHead_440 (by decide) ?_
    refine a_icmp_le (tgt := 460) C d_readScanHead_441 (by decide) ⟨fun hc => ?_, fun hc => ?_⟩
    · have hp := hp.1 hc
      refine aw_lo (lo' := [some (.ref o), some (.int x1), none, none, none, none, none, none, none, none]) ⟨.inr rfl, .inr rfl, .inl rfl, .inr rfl, .inl rfl, .inr rfl, .inr rfl, .inr rfl, .inr rfl, .inr rfl, trivial⟩ ?_
      exact s_readScanHead_460 C hQ hA hR x1 S  hp
    · have hp := hp.2 hc
      refine a_iload C d_readScanHead_444 rfl ?_
      refine a_bipush (v := 10) C d_readScanHead_446 (by decide) ?_
      refine a_icmp_le (tgt := 460) C d_readScanHead_448 (by decide) ⟨fun hc => ?_, fun hc => ?_⟩
      · have hp := hp.1 hc
        refine aw_lo (lo' := [some (.ref o), some (.int x1), none, none, none, none, none, none, none, none]) ⟨.inr rfl, .inr rfl, .inl rfl, .inr rfl, .inl rfl, .inr rfl, .inr rfl, .inr rfl, .inr rfl, .inr rfl, trivial⟩ ?_
        exact s_readScanHead_460 C hQ hA hR x1 S  hp
      · have hp := hp.2 hc
        refine a_aload_n C d_readScanHead_451 rfl rfl ?_
        refine a_bipush (v := 6) C d_readScanHead_452 (by decide) ?_
        refine a_iload_n C d_readScanHead_454 rfl rfl ?_
        refine a_call (Lr := []) (rest := []) (av := .ref o :: [.int 6, .int x2]) C [0] [] d_readScanHead_455 (ct_fail 6 x2 S hp) cd_M_fail i_M (Nat.le_of_ble_eq_true rfl) (by rw [hR]; exact Nat.le_of_ble_eq_true rfl) (by rw [hR]; exact Nat.le_of_ble_eq_true rfl) (by rw [hR]; exact Nat.le_of_ble_eq_true rfl) (by rw [hR]; exact Nat.le_of_ble_eq_true rfl) rfl rfl (by decide) (by decide) (by decide) (inv_V C 0 d_readScanHead_455 l_M_271 im_M_fail se_M_fail cd_M_fail ⟨by decide, by decide⟩ ln_M_fail rfl rfl rfl rfl rfl) (fun oc L1 hL => ?_)
        obtain ⟨v455, S455, hp, rfl, rfl⟩ := hL
        refine ⟨_, rfl, ?_⟩
        refine aw_eq (lo' := _) (st' := [.int v455]) (L' := [(0, ly_M, (o, ad, S455.1, S455.2.1, S455.2.2))]) rfl rfl rfl ?_
        refine a_istore (lo' := [some (.ref o), some (.int x1), some (.int x2), none, some (.int x4), some (.int v455), none, none, none, none]) C d_readScanHead_458 (by decide) rfl ?_
        refine aw_lo (lo' := [some (.ref o), some (.int x1), none, none, none, none, none, none, none, none]) ⟨.inr rfl, .inr rfl, .inl rfl, .inr rfl, .inl rfl, .inl rfl, .inr rfl, .inr rfl, .inr rfl, .inr rfl, trivial⟩ ?_
        exact s_readScanHead_460 C hQ hA hR x1 (S455.1, S455.2.1, S455.2.2)  hp
set_option maxRecDepth 100000 in
set_option maxHeartbeats 1000000 in
theorem s_readScanHead_417 (C : fcx gG D z A X R_M c_M_readScanHead 10 (none)) (hQ : X.2.2.2.2.2.2.2.2.2.2 = eQ gG D z X.2.2.2.2.2.2.2.1 X.2.2.2.2.1 L0 0 0 (pM_v K o ad)) (hA : A = owA gG L0 X.2.2.2.2.1.heap.size) (hR : X.2.2.2.1 = { frames := 3, cells := 1, slots := 6, locals := 300 }) (x1 : Int32) (x2 : Int32) (x4 : Int32) (x5 : Int32) (s1 : Int32) (S : ms) (R375 : Int32 → Int32 → Int32 → Int32 → ms → Prop) (hR375 : ∀ yx1 yx2 yx4 yx5 yS, R375 yx1 yx2 yx4 yx5 yS → aw gG D z A X 10 375 [some (.ref o), some (.int yx1), some (.int yx2), none, some (.int yx4), some (.int yx5), none, none, none, none] [] [(0, ly_M, (o, ad, yS.1, yS.2.1, yS.2.2))] 0 0) (hp : b_readScanHead_417 x1 x2 x4 x5 s1 S R375 K) : aw gG D z A X 10 417 [some (.ref o), some (.int x1), some (.int x2), none, some (.int x4), some (.int x5), none, none, none, none] [.int s1, .ref o] [(0, ly_M, (o, ad, S.1, S.2.1, S.2.2))] 0 0 := by
  unfold b_readScanHead_417 at hp
  refine a_aload_n C d_readScanHead_417 rfl rfl ?_
  refine a_getI C 0 34 d_readScanHead_418 rfl rfl rfl (Nat.le_of_ble_eq_true rfl) f_M_268 (Nat.le_of_ble_eq_true rfl) ?_
  refine a_iconst (v := 1) C d_readScanHead_421 (by decide) ?_
  refine a_isub C d_readScanHead_422 ?_
  refine a_call (Lr := []) (rest := []) (av := .ref o :: [.int s1, .int ((S.1 34) - 1)]) C [0] [] d_readScanHead_423 (ct_must s1 ((S.1 34) - 1) S hp) cd_M_must i_M (Nat.le_of_ble_eq_true rfl) (by rw [hR]; exact Nat.le_of_ble_eq_true rfl) (by rw [hR]; exact Nat.le_of_ble_eq_true rfl) (by rw [hR]; exact Nat.le_of_ble_eq_true rfl) (by rw [hR]; exact Nat.le_of_ble_eq_true rfl) rfl rfl (by decide) (by decide) (by decide) (inv_V C 0 d_readScanHead_423 l_M_291 im_M_must se_M_must cd_M_must ⟨by decide, by decide⟩ ln_M_must rfl rfl rfl rfl rfl) (fun oc L1 hL => ?_)
  obtain ⟨S423, hp, rfl, rfl⟩ := hL
  refine ⟨_, rfl, ?_⟩
  refine aw_eq (lo' := _) (st' := []) (L' := [(0, ly_M, (o, ad, S423.1, S423.2.1, S423.2.2))]) rfl rfl rfl ?_
  refine a_iinc (v := x5 + 1) (lo' := [some (.ref o), some (.int x1), some (.int x2), none, some (.int x4), some (.int (x5 + 1)), none, none, none, none]) C d_readScanHead_426 rfl rfl (by decide) rfl ?_
  refine a_goto (tgt := 375) C d_readScanHead_429 (by decide) ?_
  refine aw_lo (lo' := [some (.ref o), some (.int x1), some (.int x2), none, some (.int x4), some (.int (x5 + 1)), none, none, none, none]) ⟨.inr rfl, .inr rfl, .inr rfl, .inr rfl, .inr rfl, .inr rfl, .inr rfl, .inr rfl, .inr rfl, .inr rfl, trivial⟩ ?_
  exact hR375 x1 x2 x4 (x5 + 1) (S423.1, S423.2.1, S423.2.2) hp
set_option maxRecDepth 100000 in
set_option maxHeartbeats 1000000 in
theorem s_readScanHead_409 (C : fcx gG D z A X R_M c_M_readScanHead 10 (none)) (hQ : X.2.2.2.2.2.2.2.2.2.2 = eQ gG D z X.2.2.2.2.2.2.2.1 X.2.2.2.2.1 L0 0 0 (pM_v K o ad)) (hA : A = owA gG L0 X.2.2.2.2.1.heap.size) (hR : X.2.2.2.1 = { frames := 3, cells := 1, slots := 6, locals := 300 }) (x1 : Int32) (x2 : Int32) (x4 : Int32) (x5 : Int32) (s1 : Int32) (s2 : Int32) (S : ms) (R375 : Int32 → Int32 → Int32 → Int32 → ms → Prop) (hR375 : ∀ yx1 yx2 yx4 yx5 yS, R375 yx1 yx2 yx4 yx5 yS → aw gG D z A X 10 375 [some (.ref o), some (.int yx1), some (.int yx2), none, some (.int yx4), some (.int yx5), none, none, none, none] [] [(0, ly_M, (o, ad, yS.1, yS.2.1, yS.2.2))] 0 0) (hp : b_readScanHead_409 x1 x2 x4 x5 s1 s2 S R375 K) : aw gG D z A X 10 409 [some (.ref o), some (.int x1), some (.int x2), none, some (.int x4), some (.int x5), none, none, none, none] [.int s2, .int s1, .ref o] [(0, ly_M, (o, ad, S.1, S.2.1, S.2.2))] 0 0 := by
  unfold b_readScanHead_409 at hp
  refine a_icmp_ne (tgt := 416) C d_readScanHead_409 (by decide) ⟨fun hc => ?_, fun hc => ?_⟩
  · have hp := hp.1 hc
    refine a_iconst (v := 0) C d_readScanHead_416 (by decide) ?_
    refine aw_lo (lo' := [some (.ref o), some (.int x1), some (.int x2), none, some (.int x4), some (.int x5), none, none, none, none]) ⟨.inr rfl, .inr rfl, .inr rfl, .inr rfl, .inr rfl, .inr rfl, .inr rfl, .inr rfl, .inr rfl, .inr rfl, trivial⟩ ?_
    exact s_readScanHead_417 C hQ hA hR x1 x2 x4 x5 0 S R375 hR375 hp
  · have hp := hp.2 hc
    refine a_iconst (v := 1) C d_readScanHead_412 (by decide) ?_
    refine a_goto (tgt := 417) C d_readScanHead_413 (by decide) ?_
    refine aw_lo (lo' := [some (.ref o), some (.int x1), some (.int x2), none, some (.int x4), some (.int x5), none, none, none, none]) ⟨.inr rfl, .inr rfl, .inr rfl, .inr rfl, .inr rfl, .inr rfl, .inr rfl, .inr rfl, .inr rfl, .inr rfl, trivial⟩ ?_
    exact s_readScanHead_417 C hQ hA hR x1 x2 x4 x5 1 S R375 hR375 hp
set_option maxRecDepth 100000 in
set_option maxHeartbeats 1000000 in
theorem s_readScanHead_375 (C : fcx gG D z A X R_M c_M_readScanHead 10 (none)) (hQ : X.2.2.2.2.2.2.2.2.2.2 = eQ gG D z X.2.2.2.2.2.2.2.1 X.2.2.2.2.1 L0 0 0 (pM_v K o ad)) (hA : A = owA gG L0 X.2.2.2.2.1.heap.size) (hR : X.2.2.2.1 = { frames := 3, cells := 1, slots := 6, locals := 300 }) (x1 : Int32) (x2 : Int32) (x4 : Int32) (x5 : Int32) (S : ms) (R375 : Int32 → Int32 → Int32 → Int32 → ms → Prop) (hR375 : ∀ yx1 yx2 yx4 yx5 yS, R375 yx1 yx2 yx4 yx5 yS → aw gG D z A X 10 375 [some (.ref o), some (.int yx1), some (.int yx2), none, some (.int yx4), some (.int yx5), none, none, none, none] [] [(0, ly_M, (o, ad, yS.1, yS.2.1, yS.2.2))] 0 0) (hp : b_readScanHead_375 x1 x2 x4 x5 S R375 K) : aw gG D z A X 10 375 [some (.ref o), some (.int x1), some (.int x2), none, some (.int x4), some (.int x5), none, none, none, none] [] [(0, ly_M, (o, ad, S.1, S.2.1, S.2.2))] 0 0 := by
  unfold b_readScanHead_375 at hp
  refine a_iload C d_readScanHead_375 rfl ?_
  refine a_iconst (v := 3) C d_readScanHead_377 (by decide) ?_
  refine a_icmp_ge (tgt := 432) C d_readScanHead_378 (by decide) ⟨fun hc => ?_, fun hc => ?_⟩
  · have hp := hp.1 hc
    refine aw_lo (lo' := [some (.ref o), some (.int x1), some (.int x2), none, some (.int x4), none, none, none, none, none]) ⟨.inr rfl, .inr rfl, .inr rfl, .inr rfl, .inr rfl, .inl rfl, .inr rfl, .inr rfl, .inr rfl, .inr rfl, trivial⟩ ?_
    exact s_readScanHead_432 C hQ hA hR x1 x2 x4 S  hp
  · have hp := hp.2 hc
    refine a_aload_n C d_readScanHead_381 rfl rfl ?_
    refine a_getI C 0 35 d_readScanHead_382 rfl rfl rfl (Nat.le_of_ble_eq_true rfl) f_M_265 (Nat.le_of_ble_eq_true rfl) ?_
    refine a_if_ne (tgt := 432) C d_readScanHead_385 (by decide) ⟨fun hc => ?_, fun hc => ?_⟩
    · have hp := hp.1 hc
      refine aw_lo (lo' := [some (.ref o), some (.int x1), some (.int x2), none, some (.int x4), none, none, none, none, none]) ⟨.inr rfl, .inr rfl, .inr rfl, .inr rfl, .inr rfl, .inl rfl, .inr rfl, .inr rfl, .inr rfl, .inr rfl, trivial⟩ ?_
      exact s_readScanHead_432 C hQ hA hR x1 x2 x4 S  hp
    · have hp := hp.2 hc
      refine a_aload_n C d_readScanHead_388 rfl rfl ?_
      refine a_call (Lr := []) (rest := []) (av := .ref o :: []) C [0] [] d_readScanHead_389 (ct_next S hp) cd_M_next i_M (Nat.le_of_ble_eq_true rfl) (by rw [hR]; exact Nat.le_of_ble_eq_true rfl) (by rw [hR]; exact Nat.le_of_ble_eq_true rfl) (by rw [hR]; exact Nat.le_of_ble_eq_true rfl) (by rw [hR]; exact Nat.le_of_ble_eq_true rfl) rfl rfl (by decide) (by decide) (by decide) (inv_V C 0 d_readScanHead_389 l_M_281 im_M_next se_M_next cd_M_next ⟨by decide, by decide⟩ ln_M_next rfl rfl rfl rfl rfl) (fun oc L1 hL => ?_)
      obtain ⟨v389, S389, hp, rfl, rfl⟩ := hL
      refine ⟨_, rfl, ?_⟩
      refine aw_eq (lo' := _) (st' := [.int v389]) (L' := [(0, ly_M, (o, ad, S389.1, S389.2.1, S389.2.2))]) rfl rfl rfl ?_
      refine a_istore (lo' := [some (.ref o), some (.int x1), some (.int x2), none, some (.int x4), some (.int x5), some (.int v389), none, none, none]) C d_readScanHead_392 (by decide) rfl ?_
      refine a_aload_n C d_readScanHead_394 rfl rfl ?_
      refine a_iload C d_readScanHead_395 rfl ?_
      refine a_iload C d_readScanHead_397 rfl ?_
      refine a_iconst (v := 1) C d_readScanHead_399 (by decide) ?_
      refine a_icmp_ne (tgt := 408) C d_readScanHead_400 (by decide) ⟨fun hc => ?_, fun hc => ?_⟩
      · have hp := hp.1 hc
        refine a_iconst (v := 0) C d_readScanHead_408 (by decide) ?_
        refine aw_lo (lo' := [some (.ref o), some (.int x1), some (.int x2), none, some (.int x4), some (.int x5), none, none, none, none]) ⟨.inr rfl, .inr rfl, .inr rfl, .inr rfl, .inr rfl, .inr rfl, .inl rfl, .inr rfl, .inr rfl, .inr rfl, trivial⟩ ?_
        exact s_readScanHead_409 C hQ hA hR x1 x2 x4 x5 v389 0 (S389.1, S389.2.1, S389.2.2) R375 hR375 hp
      · have hp := hp.2 hc
        refine a_bipush (v := 63) C d_readScanHead_403 (by decide) ?_
        refine a_goto (tgt := 409) C d_readScanHead_405 (by decide) ?_
        refine aw_lo (lo' := [some (.ref o), some (.int x1), some (.int x2), none, some (.int x4), some (.int x5), none, none, none, none]) ⟨.inr rfl, .inr rfl, .inr rfl, .inr rfl, .inr rfl, .inr rfl, .inl rfl, .inr rfl, .inr rfl, .inr rfl, trivial⟩ ?_
        exact s_readScanHead_409 C hQ hA hR x1 x2 x4 x5 v389 63 (S389.1, S389.2.1, S389.2.2) R375 hR375 hp
set_option maxRecDepth 100000 in
set_option maxHeartbeats 1000000 in
theorem se_readScanHead_375 (C : fcx gG D z A X R_M c_M_readScanHead 10 (none)) (hQ : X.2.2.2.2.2.2.2.2.2.2 = eQ gG D z X.2.2.2.2.2.2.2.1 X.2.2.2.2.1 L0 0 0 (pM_v K o ad)) (hA : A = owA gG L0 X.2.2.2.2.1.heap.size) (hR : X.2.2.2.1 = { frames := 3, cells := 1, slots := 6, locals := 300 }) (x1 : Int32) (x2 : Int32) (x4 : Int32) (x5 : Int32) (S : ms) (hp : e_readScanHead_375 x1 x2 x4 x5 S K) : aw gG D z A X 10 375 [some (.ref o), some (.int x1), some (.int x2), none, some (.int x4), some (.int x5), none, none, none, none] [] [(0, ly_M, (o, ad, S.1, S.2.1, S.2.2))] 0 0 := by
  obtain ⟨I, μ, h0, hs⟩ := hp
  have key : ∀ (n : Nat) (yx1 : Int32) (yx2 : Int32) (yx4 : Int32) (yx5 : Int32) (yS : ms), μ yx1 yx2 yx4 yx5 yS < n → I yx1 yx2 yx4 yx5 yS → aw gG D z A X 10 375 [some (.ref o), some (.int yx1), some (.int yx2), none, some (.int yx4), some (.int yx5), none, none, none, none] [] [(0, ly_M, (o, ad, yS.1, yS.2.1, yS.2.2))] 0 0 := by
    intro n
    induction n with
    | zero => intro yx1 yx2 yx4 yx5 yS h; omega
    | succ n ih =>
      intro yx1 yx2 yx4 yx5 yS hn hI
      exact s_readScanHead_375 C hQ hA hR yx1 yx2 yx4 yx5 yS _ (fun zx1 zx2 zx4 zx5 zS hw => ih zx1 zx2 zx4 zx5 zS (by omega) hw.1) (hs yx1 yx2 yx4 yx5 yS hI)
  exact key (μ x1 x2 x4 x5 S + 1) x1 x2 x4 x5 S (Nat.lt_succ_self _) h0
set_option maxRecDepth 100000 in
set_option maxHeartbeats 1000000 in
theorem s_readScanHead_372 (C : fcx gG D z A X R_M c_M_readScanHead 10 (none)) (hQ : X.2.2.2.2.2.2.2.2.2.2 = eQ gG D z X.2.2.2.2.2.2.2.1 X.2.2.2.2.1 L0 0 0 (pM_v K o ad)) (hA : A = owA gG L0 X.2.2.2.2.1.heap.size) (hR : X.2.2.2.1 = { frames := 3, cells := 1, slots := 6, locals := 300 }) (x1 : Int32) (x2 : Int32) (x4 : Int32) (S : ms) (hp : b_readScanHead_372 x1 x2 x4 S K) : aw gG D z A X 10 372 [some (.ref o), some (.int x1), some (.int x2), none, some (.int x4), none, none, none, none, none] [] [(0, ly_M, (o, ad, S.1, S.2.1, S.2.2))] 0 0 := by
  unfold b_readScanHead_372 at hp
  refine a_iconst (v := 0) C d_readScanHead_372 (by decide) ?_
  refine a_istore (lo' := [some (.ref o), some (.int x1), some (.int x2), none, some (.int x4), some (.int 0), none, none, none, none]) C d_readScanHead_373 (by decide) rfl ?_
  refine aw_lo (lo' := [some (.ref o), some (.int x1), some (.int x2), none, some (.int x4), some (.int 0), none, none, none, none]) ⟨.inr rfl, .inr rfl, .inr rfl, .inr rfl, .inr rfl, .inr rfl, .inr rfl, .inr rfl, .inr rfl, .inr rfl, trivial⟩ ?_
  exact se_readScanHead_375 C hQ hA hR x1 x2 x4 0 S  hp
set_option maxRecDepth 100000 in
set_option maxHeartbeats 1000000 in
theorem s_readScanHead_366 (C : fcx gG D z A X R_M c_M_readScanHead 10 (none)) (hQ : X.2.2.2.2.2.2.2.2.2.2 = eQ gG D z X.2.2.2.2.2.2.2.1 X.2.2.2.2.1 L0 0 0 (pM_v K o ad)) (hA : A = owA gG L0 X.2.2.2.2.1.heap.size) (hR : X.2.2.2.1 = { frames := 3, cells := 1, slots := 6, locals := 300 }) (x1 : Int32) (x2 : Int32) (x3 : Int32) (x4 : Int32) (x5 : Int32) (S : ms) (R79 : Int32 → Int32 → Int32 → Int32 → Int32 → ms → Prop) (hR79 : ∀ yx1 yx2 yx3 yx4 yx5 yS, R79 yx1 yx2 yx3 yx4 yx5 yS → aw gG D z A X 10 79 [some (.ref o), some (.int yx1), some (.int yx2), some (.int yx3), some (.int yx4), some (.int yx5), none, none, none, none] [] [(0, ly_M, (o, ad, yS.1, yS.2.1, yS.2.2))] 0 0) (hp : b_readScanHead_366 x1 x2 x3 x4 x5 S R79 K) : aw gG D z A X 10 366 [some (.ref o), some (.int x1), some (.int x2), some (.int x3), some (.int x4), some (.int x5), none, none, none, none] [] [(0, ly_M, (o, ad, S.1, S.2.1, S.2.2))] 0 0 := by
  unfold b_readScanHead_366 at hp
  refine a_iinc (v := x5 + 1) (lo' := [some (.ref o), some (.int x1), some (.int x2), some (.int x3), some (.int x4), some (.int (x5 + 1)), none, none, none, none]) C d_readScanHead_366 rfl rfl (by decide) rfl ?_
  refine a_goto (tgt := 79) C d_readScanHead_369 (by decide) ?_
  refine aw_lo (lo' := [some (.ref o), some (.int x1), some (.int x2), some (.int x3), some (.int x4), some (.int (x5 + 1)), none, none, none, none]) ⟨.inr rfl, .inr rfl, .inr rfl, .inr rfl, .inr rfl, .inr rfl, .inr rfl, .inr rfl, .inr rfl, .inr rfl, trivial⟩ ?_
  exact hR79 x1 x2 x3 x4 (x5 + 1) S hp
set_option maxRecDepth 100000 in
set_option maxHeartbeats 1000000 in
theorem s_readScanHead_297 (C : fcx gG D z A X R_M c_M_readScanHead 10 (none)) (hQ : X.2.2.2.2.2.2.2.2.2.2 = eQ gG D z X.2.2.2.2.2.2.2.1 X.2.2.2.2.1 L0 0 0 (pM_v K o ad)) (hA : A = owA gG L0 X.2.2.2.2.1.heap.size) (hR : X.2.2.2.1 = { frames := 3, cells := 1, slots := 6, locals := 300 }) (x1 : Int32) (x2 : Int32) (x3 : Int32) (x4 : Int32) (x5 : Int32) (x7 : Int32) (x8 : Int32) (S : ms) (R79 : Int32 → Int32 → Int32 → Int32 → Int32 → ms → Prop) (hR79 : ∀ yx1 yx2 yx3 yx4 yx5 yS, R79 yx1 yx2 yx3 yx4 yx5 yS → aw gG D z A X 10 79 [some (.ref o), some (.int yx1), some (.int yx2), some (.int yx3), some (.int yx4), some (.int yx5), none, none, none, none] [] [(0, ly_M, (o, ad, yS.1, yS.2.1, yS.2.2))] 0 0) (hp : b_readScanHead_297 x1 x2 x3 x4 x5 x7 x8 S R79 K) : aw gG D z A X 10 297 [some (.ref o), some (.int x1), some (.int x2), some (.int x3), some (.int x4), some (.int x5), none, some (.int x7), some (.int x8), none] [] [(0, ly_M, (o, ad, S.1, S.2.1, S.2.2))] 0 0 := by
  unfold b_readScanHead_297 at hp
  refine a_aload_n C d_readScanHead_297 rfl rfl ?_
  refine a_getI C 0 35 d_readScanHead_298 rfl rfl rfl (Nat.le_of_ble_eq_true rfl) f_M_265 (Nat.le_of_ble_eq_true rfl) ?_
  refine a_if_ne (tgt := 366) C d_readScanHead_301 (by decide) ⟨fun hc => ?_, fun hc => ?_⟩
  · have hp := hp.1 hc
    refine aw_lo (lo' := [some (.ref o), some (.int x1), some (.int x2), some (.int x3), some (.int x4), some (.int x5), none, none, none, none]) ⟨.inr rfl, .inr rfl, .inr rfl, .inr rfl, .inr rfl, .inr rfl, .inr rfl, .inl rfl, .inl rfl, .inr rfl, trivial⟩ ?_
    exact s_readScanHead_366 C hQ hA hR x1 x2 x3 x4 x5 S R79 hR79 hp
  · have hp := hp.2 hc
    refine a_aload_n C d_readScanHead_304 rfl rfl ?_
    refine a_getR C 0 50 d_readScanHead_305 rfl rfl rfl (Nat.le_of_ble_eq_true rfl) f_M_130 ⟨Nat.le_of_ble_eq_true rfl, Nat.le_of_ble_eq_true rfl⟩ ?_
    refine a_iload C d_readScanHead_308 rfl ?_
    refine a_iload C d_readScanHead_310 rfl ?_
    refine a_iast C 0 50 d_readScanHead_312 rfl rfl rfl hp.1 ?_
    have hp := hp.2
    refine aw_eq (lo' := _) (st' := _) (L' := [(0, ly_M, (o, ad, S.1, va_up S.2.1 50 (upd (S.2.1 50) x5.toNatClampNeg x7), S.2.2))]) rfl rfl rfl ?_
    refine a_aload_n C d_readScanHead_313 rfl rfl ?_
    refine a_getR C 0 51 d_readScanHead_314 rfl rfl rfl (Nat.le_of_ble_eq_true rfl) f_M_133 ⟨Nat.le_of_ble_eq_true rfl, Nat.le_of_ble_eq_true rfl⟩ ?_
    refine a_iload C d_readScanHead_317 rfl ?_
    refine a_iload C d_readScanHead_319 rfl ?_
    refine a_iconst (v := 4) C d_readScanHead_321 (by decide) ?_
    refine a_ishr C d_readScanHead_322 ?_
    refine a_iast C 0 51 d_readScanHead_323 rfl rfl rfl hp.1 ?_
    have hp := hp.2
    refine aw_eq (lo' := _) (st' := _) (L' := [(0, ly_M, (o, ad, S.1, va_up (va_up S.2.1 50 (upd (S.2.1 50) x5.toNatClampNeg x7)) 51 (upd ((va_up S.2.1 50 (upd (S.2.1 50) x5.toNatClampNeg x7)) 51) x5.toNatClampNeg (x8 >>> (4 &&& 31 : Int32) : Int32)), S.2.2))]) rfl rfl rfl ?_
    refine a_aload_n C d_readScanHead_324 rfl rfl ?_
    refine a_getR C 0 52 d_readScanHead_325 rfl rfl rfl (Nat.le_of_ble_eq_true rfl) f_M_136 ⟨Nat.le_of_ble_eq_true rfl, Nat.le_of_ble_eq_true rfl⟩ ?_
    refine a_iload C d_readScanHead_328 rfl ?_
    refine a_iconst (v := 2) C d_readScanHead_330 (by decide) ?_
    refine a_iload C d_readScanHead_331 rfl ?_
    refine a_iconst (v := 1) C d_readScanHead_333 (by decide) ?_
    refine a_iand C d_readScanHead_334 ?_
    refine a_iadd C d_readScanHead_335 ?_
    refine a_iast C 0 52 d_readScanHead_336 rfl rfl rfl hp.1 ?_
    have hp := hp.2
    refine aw_eq (lo' := _) (st' := _) (L' := [(0, ly_M, (o, ad, S.1, va_up (va_up (va_up S.2.1 50 (upd (S.2.1 50) x5.toNatClampNeg x7)) 51 (upd ((va_up S.2.1 50 (upd (S.2.1 50) x5.toNatClampNeg x7)) 51) x5.toNatClampNeg (x8 >>> (4 &&& 31 : Int32) : Int32))) 52 (upd ((va_up (va_up S.2.1 50 (upd (S.2.1 50) x5.toNatClampNeg x7)) 51 (upd ((va_up S.2.1 50 (upd (S.2.1 50) x5.toNatClampNeg x7)) 51) x5.toNatClampNeg (x8 >>> (4 &&& 31 : Int32) : Int32))) 52) x5.toNatClampNeg (2 + (x8 &&& 1))), S.2.2))]) rfl rfl rfl ?_
    refine a_iload C d_readScanHead_337 rfl ?_
    refine a_istore_n (lo' := [some (.ref o), some (.int x1), some (.int x2), some (.int x7), some (.int x4), some (.int x5), none, some (.int x7), some (.int x8), none]) C d_readScanHead_339 rfl (by decide) rfl ?_
    refine a_iload C d_readScanHead_340 rfl ?_
    refine a_aload_n C d_readScanHead_342 rfl rfl ?_
    refine a_getR C 0 15 d_readScanHead_343 rfl rfl rfl (Nat.le_of_ble_eq_true rfl) f_M_50 ⟨Nat.le_of_ble_eq_true rfl, Nat.le_of_ble_eq_true rfl⟩ ?_
    refine a_bipush (v := 6) C d_readScanHead_346 (by decide) ?_
    refine a_iload C d_readScanHead_348 rfl ?_
    refine a_iadd C d_readScanHead_350 ?_
    refine a_iald C 0 15 d_readScanHead_351 rfl rfl rfl hp.1 ?_
    have hp := hp.2
    refine a_aload_n C d_readScanHead_352 rfl rfl ?_
    refine a_getR C 0 16 d_readScanHead_353 rfl rfl rfl (Nat.le_of_ble_eq_true rfl) f_M_53 ⟨Nat.le_of_ble_eq_true rfl, Nat.le_of_ble_eq_true rfl⟩ ?_
    refine a_bipush (v := 6) C d_readScanHead_356 (by decide) ?_
    refine a_iload C d_readScanHead_358 rfl ?_
    refine a_iadd C d_readScanHead_360 ?_
    refine a_iald C 0 16 d_readScanHead_361 rfl rfl rfl hp.1 ?_
    have hp := hp.2
    refine a_imul C d_readScanHead_362 ?_
    refine a_iadd C d_readScanHead_363 ?_
    refine a_istore (lo' := [some (.ref o), some (.int x1), some (.int x2), some (.int x7), some (.int (x4 + (((va_up (va_up (va_up S.2.1 50 (upd (S.2.1 50) x5.toNatClampNeg x7)) 51 (upd ((va_up S.2.1 50 (upd (S.2.1 50) x5.toNatClampNeg x7)) 51) x5.toNatClampNeg (x8 >>> (4 &&& 31 : Int32) : Int32))) 52 (upd ((va_up (va_up S.2.1 50 (upd (S.2.1 50) x5.toNatClampNeg x7)) 51 (upd ((va_up S.2.1 50 (upd (S.2.1 50) x5.toNatClampNeg x7)) 51) x5.toNatClampNeg (x8 >>> (4 &&& 31 : Int32) : Int32))) 52) x5.toNatClampNeg (2 + (x8 &&& 1)))) 15 (6 + x7).toNatClampNeg) * ((va_up (va_up (va_up S.2.1 50 (upd (S.2.1 50) x5.toNatClampNeg x7)) 51 (upd ((va_up S.2.1 50 (upd (S.2.1 50) x5.toNatClampNeg x7)) 51) x5.toNatClampNeg (x8 >>> (4 &&& 31 : Int32) : Int32))) 52 (upd ((va_up (va_up S.2.1 50 (upd (S.2.1 50) x5.toNatClampNeg x7)) 51 (upd ((va_up S.2.1 50 (upd (S.2.1 50) x5.toNatClampNeg x7)) 51) x5.toNatClampNeg (x8 >>> (4 &&& 31 : Int32) : Int32))) 52) x5.toNatClampNeg (2 + (x8 &&& 1)))) 16 (6 + x7).toNatClampNeg)))), some (.int x5), none, some (.int x7), some (.int x8), none]) C d_readScanHead_364 (by decide) rfl ?_
    refine aw_lo (lo' := [some (.ref o), some (.int x1), some (.int x2), some (.int x7), some (.int (x4 + (((va_up (va_up (va_up S.2.1 50 (upd (S.2.1 50) x5.toNatClampNeg x7)) 51 (upd ((va_up S.2.1 50 (upd (S.2.1 50) x5.toNatClampNeg x7)) 51) x5.toNatClampNeg (x8 >>> (4 &&& 31 : Int32) : Int32))) 52 (upd ((va_up (va_up S.2.1 50 (upd (S.2.1 50) x5.toNatClampNeg x7)) 51 (upd ((va_up S.2.1 50 (upd (S.2.1 50) x5.toNatClampNeg x7)) 51) x5.toNatClampNeg (x8 >>> (4 &&& 31 : Int32) : Int32))) 52) x5.toNatClampNeg (2 + (x8 &&& 1)))) 15 (6 + x7).toNatClampNeg) * ((va_up (va_up (va_up S.2.1 50 (upd (S.2.1 50) x5.toNatClampNeg x7)) 51 (upd ((va_up S.2.1 50 (upd (S.2.1 50) x5.toNatClampNeg x7)) 51) x5.toNatClampNeg (x8 >>> (4 &&& 31 : Int32) : Int32))) 52 (upd ((va_up (va_up S.2.1 50 (upd (S.2.1 50) x5.toNatClampNeg x7)) 51 (upd ((va_up S.2.1 50 (upd (S.2.1 50) x5.toNatClampNeg x7)) 51) x5.toNatClampNeg (x8 >>> (4 &&& 31 : Int32) : Int32))) 52) x5.toNatClampNeg (2 + (x8 &&& 1)))) 16 (6 + x7).toNatClampNeg)))), some (.int x5), none, none, none, none]) ⟨.inr rfl, .inr rfl, .inr rfl, .inr rfl, .inr rfl, .inr rfl, .inr rfl, .inl rfl, .inl rfl, .inr rfl, trivial⟩ ?_
    exact s_readScanHead_366 C hQ hA hR x1 x2 x7 (x4 + (((va_up (va_up (va_up S.2.1 50 (upd (S.2.1 50) x5.toNatClampNeg x7)) 51 (upd ((va_up S.2.1 50 (upd (S.2.1 50) x5.toNatClampNeg x7)) 51) x5.toNatClampNeg (x8 >>> (4 &&& 31 : Int32) : Int32))) 52 (upd ((va_up (va_up S.2.1 50 (upd (S.2.1 50) x5.toNatClampNeg x7)) 51 (upd ((va_up S.2.1 50 (upd (S.2.1 50) x5.toNatClampNeg x7)) 51) x5.toNatClampNeg (x8 >>> (4 &&& 31 : Int32) : Int32))) 52) x5.toNatClampNeg (2 + (x8 &&& 1)))) 15 (6 + x7).toNatClampNeg) * ((va_up (va_up (va_up S.2.1 50 (upd (S.2.1 50) x5.toNatClampNeg x7)) 51 (upd ((va_up S.2.1 50 (upd (S.2.1 50) x5.toNatClampNeg x7)) 51) x5.toNatClampNeg (x8 >>> (4 &&& 31 : Int32) : Int32))) 52 (upd ((va_up (va_up S.2.1 50 (upd (S.2.1 50) x5.toNatClampNeg x7)) 51 (upd ((va_up S.2.1 50 (upd (S.2.1 50) x5.toNatClampNeg x7)) 51) x5.toNatClampNeg (x8 >>> (4 &&& 31 : Int32) : Int32))) 52) x5.toNatClampNeg (2 + (x8 &&& 1)))) 16 (6 + x7).toNatClampNeg))) x5 (S.1, va_up (va_up (va_up S.2.1 50 (upd (S.2.1 50) x5.toNatClampNeg x7)) 51 (upd ((va_up S.2.1 50 (upd (S.2.1 50) x5.toNatClampNeg x7)) 51) x5.toNatClampNeg (x8 >>> (4 &&& 31 : Int32) : Int32))) 52 (upd ((va_up (va_up S.2.1 50 (upd (S.2.1 50) x5.toNatClampNeg x7)) 51 (upd ((va_up S.2.1 50 (upd (S.2.1 50) x5.toNatClampNeg x7)) 51) x5.toNatClampNeg (x8 >>> (4 &&& 31 : Int32) : Int32))) 52) x5.toNatClampNeg (2 + (x8 &&& 1))), S.2.2) R79 hR79 hp
set_option maxRecDepth 100000 in
set_option maxHeartbeats 1000000 in
theorem s_readScanHead_283 (C : fcx gG D z A X R_M c_M_readScanHead 10 (none)) (hQ : X.2.2.2.2.2.2.2.2.2.2 = eQ gG D z X.2.2.2.2.2.2.2.1 X.2.2.2.2.1 L0 0 0 (pM_v K o ad)) (hA : A = owA gG L0 X.2.2.2.2.1.heap.size) (hR : X.2.2.2.1 = { frames := 3, cells := 1, slots := 6, locals := 300 }) (x1 : Int32) (x2 : Int32) (x3 : Int32) (x4 : Int32) (x5 : Int32) (x7 : Int32) (x8 : Int32) (S : ms) (R79 : Int32 → Int32 → Int32 → Int32 → Int32 → ms → Prop) (hR79 : ∀ yx1 yx2 yx3 yx4 yx5 yS, R79 yx1 yx2 yx3 yx4 yx5 yS → aw gG D z A X 10 79 [some (.ref o), some (.int yx1), some (.int yx2), some (.int yx3), some (.int yx4), some (.int yx5), none, none, none, none] [] [(0, ly_M, (o, ad, yS.1, yS.2.1, yS.2.2))] 0 0) (hp : b_readScanHead_283 x1 x2 x3 x4 x5 x7 x8 S R79 K) : aw gG D z A X 10 283 [some (.ref o), some (.int x1), some (.int x2), some (.int x3), some (.int x4), some (.int x5), none, some (.int x7), some (.int x8), none] [] [(0, ly_M, (o, ad, S.1, S.2.1, S.2.2))] 0 0 := by
  unfold b_readScanHead_283 at hp
  refine a_aload_n C d_readScanHead_283 rfl rfl ?_
  refine a_bipush (v := 6) C d_readScanHead_284 (by decide) ?_
  refine a_aload_n C d_readScanHead_286 rfl rfl ?_
  refine a_getI C 0 34 d_readScanHead_287 rfl rfl rfl (Nat.le_of_ble_eq_true rfl) f_M_268 (Nat.le_of_ble_eq_true rfl) ?_
  refine a_iconst (v := 1) C d_readScanHead_290 (by decide) ?_
  refine a_isub C d_readScanHead_291 ?_
  refine a_call (Lr := []) (rest := []) (av := .ref o :: [.int 6, .int ((S.1 34) - 1)]) C [0] [] d_readScanHead_292 (ct_fail 6 ((S.1 34) - 1) S hp) cd_M_fail i_M (Nat.le_of_ble_eq_true rfl) (by rw [hR]; exact Nat.le_of_ble_eq_true rfl) (by rw [hR]; exact Nat.le_of_ble_eq_true rfl) (by rw [hR]; exact Nat.le_of_ble_eq_true rfl) (by rw [hR]; exact Nat.le_of_ble_eq_true rfl) rfl rfl (by decide) (by decide) (by decide) (inv_V C 0 d_readScanHead_292 l_M_271 im_M_fail se_M_fail cd_M_fail ⟨by decide, by decide⟩ ln_M_fail rfl rfl rfl rfl rfl) (fun oc L1 hL => ?_)
  obtain ⟨v292, S292, hp, rfl, rfl⟩ := hL
  refine ⟨_, rfl, ?_⟩
  refine aw_eq (lo' := _) (st' := [.int v292]) (L' := [(0, ly_M, (o, ad, S292.1, S292.2.1, S292.2.2))]) rfl rfl rfl ?_
  refine a_istore (lo' := [some (.ref o), some (.int x1), some (.int x2), some (.int x3), some (.int x4), some (.int x5), none, some (.int x7), some (.int x8), some (.int v292)]) C d_readScanHead_295 (by decide) rfl ?_
  refine aw_lo (lo' := [some (.ref o), some (.int x1), some (.int x2), some (.int x3), some (.int x4), some (.int x5), none, some (.int x7), some (.int x8), none]) ⟨.inr rfl, .inr rfl, .inr rfl, .inr rfl, .inr rfl, .inr rfl, .inr rfl, .inr rfl, .inr rfl, .inl rfl, trivial⟩ ?_
  exact s_readScanHead_297 C hQ hA hR x1 x2 x3 x4 x5 x7 x8 (S292.1, S292.2.1, S292.2.2) R79 hR79 hp
set_option maxRecDepth 100000 in
set_option maxHeartbeats 1000000 in
theorem s_readScanHead_241 (C : fcx gG D z A X R_M c_M_readScanHead 10 (none)) (hQ : X.2.2.2.2.2.2.2.2.2.2 = eQ gG D z X.2.2.2.2.2.2.2.1 X.2.2.2.2.1 L0 0 0 (pM_v K o ad)) (hA : A = owA gG L0 X.2.2.2.2.1.heap.size) (hR : X.2.2.2.1 = { frames := 3, cells := 1, slots := 6, locals := 300 }) (x1 : Int32) (x2 : Int32) (x3 : Int32) (x4 : Int32) (x5 : Int32) (x7 : Int32) (x8 : Int32) (s1 : Int32) (S : ms) (R79 : Int32 → Int32 → Int32 → Int32 → Int32 → ms → Prop) (hR79 : ∀ yx1 yx2 yx3 yx4 yx5 yS, R79 yx1 yx2 yx3 yx4 yx5 yS → aw gG D z A X 10 79 [some (.ref o), some (.int yx1), some (.int yx2), some (.int yx3), some (.int yx4), some (.int yx5), none, none, none, none] [] [(0, ly_M, (o, ad, yS.1, yS.2.1, yS.2.2))] 0 0) (hp : b_readScanHead_241 x1 x2 x3 x4 x5 x7 x8 s1 S R79 K) : aw gG D z A X 10 241 [some (.ref o), some (.int x1), some (.int x2), some (.int x3), some (.int x4), some (.int x5), none, some (.int x7), some (.int x8), none] [.int s1, .ref o] [(0, ly_M, (o, ad, S.1, S.2.1, S.2.2))] 0 0 := by
  unfold b_readScanHead_241 at hp
  refine a_aload_n C d_readScanHead_241 rfl rfl ?_
  refine a_getI C 0 34 d_readScanHead_242 rfl rfl rfl (Nat.le_of_ble_eq_true rfl) f_M_268 (Nat.le_of_ble_eq_true rfl) ?_
  refine a_iconst (v := 1) C d_readScanHead_245 (by decide) ?_
  refine a_isub C d_readScanHead_246 ?_
  refine a_call (Lr := []) (rest := []) (av := .ref o :: [.int s1, .int ((S.1 34) - 1)]) C [0] [] d_readScanHead_247 (ct_must s1 ((S.1 34) - 1) S hp) cd_M_must i_M (Nat.le_of_ble_eq_true rfl) (by rw [hR]; exact Nat.le_of_ble_eq_true rfl) (by rw [hR]; exact Nat.le_of_ble_eq_true rfl) (by rw [hR]; exact Nat.le_of_ble_eq_true rfl) (by rw [hR]; exact Nat.le_of_ble_eq_true rfl) rfl rfl (by decide) (by decide) (by decide) (inv_V C 0 d_readScanHead_247 l_M_291 im_M_must se_M_must cd_M_must ⟨by decide, by decide⟩ ln_M_must rfl rfl rfl rfl rfl) (fun oc L1 hL => ?_)
  obtain ⟨S247, hp, rfl, rfl⟩ := hL
  refine ⟨_, rfl, ?_⟩
  refine aw_eq (lo' := _) (st' := []) (L' := [(0, ly_M, (o, ad, S247.1, S247.2.1, S247.2.2))]) rfl rfl rfl ?_
  refine a_aload_n C d_readScanHead_250 rfl rfl ?_
  refine a_getI C 0 35 d_readScanHead_251 rfl rfl rfl (Nat.le_of_ble_eq_true rfl) f_M_265 (Nat.le_of_ble_eq_true rfl) ?_
  refine a_if_ne (tgt := 297) C d_readScanHead_254 (by decide) ⟨fun hc => ?_, fun hc => ?_⟩
  · have hp := hp.1 hc
    refine aw_lo (lo' := [some (.ref o), some (.int x1), some (.int x2), some (.int x3), some (.int x4), some (.int x5), none, some (.int x7), some (.int x8), none]) ⟨.inr rfl, .inr rfl, .inr rfl, .inr rfl, .inr rfl, .inr rfl, .inr rfl, .inr rfl, .inr rfl, .inr rfl, trivial⟩ ?_
    exact s_readScanHead_297 C hQ hA hR x1 x2 x3 x4 x5 x7 x8 (S247.1, S247.2.1, S247.2.2) R79 hR79 hp
  · have hp := hp.2 hc
    refine a_aload_n C d_readScanHead_257 rfl rfl ?_
    refine a_getR C 0 42 d_readScanHead_258 rfl rfl rfl (Nat.le_of_ble_eq_true rfl) f_M_115 ⟨Nat.le_of_ble_eq_true rfl, Nat.le_of_ble_eq_true rfl⟩ ?_
    refine a_iload C d_readScanHead_261 rfl ?_
    refine a_iconst (v := 4) C d_readScanHead_263 (by decide) ?_
    refine a_ishr C d_readScanHead_264 ?_
    refine a_zald C 0 42 d_readScanHead_265 rfl rfl rfl hp.1 ?_
    have hp := hp.2
    refine a_if_eq (tgt := 283) C d_readScanHead_266 (by decide) ⟨fun hc => ?_, fun hc => ?_⟩
    · have hp := hp.1 hc
      refine aw_lo (lo' := [some (.ref o), some (.int x1), some (.int x2), some (.int x3), some (.int x4), some (.int x5), none, some (.int x7), some (.int x8), none]) ⟨.inr rfl, .inr rfl, .inr rfl, .inr rfl, .inr rfl, .inr rfl, .inr rfl, .inr rfl, .inr rfl, .inr rfl, trivial⟩ ?_
      exact s_readScanHead_283 C hQ hA hR x1 x2 x3 x4 x5 x7 x8 (S247.1, S247.2.1, S247.2.2) R79 hR79 hp
    · have hp := hp.2 hc
      refine a_aload_n C d_readScanHead_269 rfl rfl ?_
      refine a_getR C 0 42 d_readScanHead_270 rfl rfl rfl (Nat.le_of_ble_eq_true rfl) f_M_115 ⟨Nat.le_of_ble_eq_true rfl, Nat.le_of_ble_eq_true rfl⟩ ?_
      refine a_iconst (v := 2) C d_readScanHead_273 (by decide) ?_
      refine a_iload C d_readScanHead_274 rfl ?_
      refine a_iconst (v := 1) C d_readScanHead_276 (by decide) ?_
      refine a_iand C d_readScanHead_277 ?_
      refine a_iadd C d_readScanHead_278 ?_
      refine a_zald C 0 42 d_readScanHead_279 rfl rfl rfl hp.1 ?_
      have hp := hp.2
      refine a_if_ne (tgt := 297) C d_readScanHead_280 (by decide) ⟨fun hc => ?_, fun hc => ?_⟩
      · have hp := hp.1 hc
        refine aw_lo (lo' := [some (.ref o), some (.int x1), some (.int x2), some (.int x3), some (.int x4), some (.int x5), none, some (.int x7), some (.int x8), none]) ⟨.inr rfl, .inr rfl, .inr rfl, .inr rfl, .inr rfl, .inr rfl, .inr rfl, .inr rfl, .inr rfl, .inr rfl, trivial⟩ ?_
        exact s_readScanHead_297 C hQ hA hR x1 x2 x3 x4 x5 x7 x8 (S247.1, S247.2.1, S247.2.2) R79 hR79 hp
      · have hp := hp.2 hc
        refine aw_lo (lo' := [some (.ref o), some (.int x1), some (.int x2), some (.int x3), some (.int x4), some (.int x5), none, some (.int x7), some (.int x8), none]) ⟨.inr rfl, .inr rfl, .inr rfl, .inr rfl, .inr rfl, .inr rfl, .inr rfl, .inr rfl, .inr rfl, .inr rfl, trivial⟩ ?_
        exact s_readScanHead_283 C hQ hA hR x1 x2 x3 x4 x5 x7 x8 (S247.1, S247.2.1, S247.2.2) R79 hR79 hp
set_option maxRecDepth 100000 in
set_option maxHeartbeats 1000000 in
theorem s_readScanHead_236 (C : fcx gG D z A X R_M c_M_readScanHead 10 (none)) (hQ : X.2.2.2.2.2.2.2.2.2.2 = eQ gG D z X.2.2.2.2.2.2.2.1 X.2.2.2.2.1 L0 0 0 (pM_v K o ad)) (hA : A = owA gG L0 X.2.2.2.2.1.heap.size) (hR : X.2.2.2.1 = { frames := 3, cells := 1, slots := 6, locals := 300 }) (x1 : Int32) (x2 : Int32) (x3 : Int32) (x4 : Int32) (x5 : Int32) (x7 : Int32) (x8 : Int32) (S : ms) (R79 : Int32 → Int32 → Int32 → Int32 → Int32 → ms → Prop) (hR79 : ∀ yx1 yx2 yx3 yx4 yx5 yS, R79 yx1 yx2 yx3 yx4 yx5 yS → aw gG D z A X 10 79 [some (.ref o), some (.int yx1), some (.int yx2), some (.int yx3), some (.int yx4), some (.int yx5), none, none, none, none] [] [(0, ly_M, (o, ad, yS.1, yS.2.1, yS.2.2))] 0 0) (hp : b_readScanHead_236 x1 x2 x3 x4 x5 x7 x8 S R79 K) : aw gG D z A X 10 236 [some (.ref o), some (.int x1), some (.int x2), some (.int x3), some (.int x4), some (.int x5), none, some (.int x7), some (.int x8), none] [.ref o] [(0, ly_M, (o, ad, S.1, S.2.1, S.2.2))] 0 0 := by
  unfold b_readScanHead_236 at hp
  refine a_iconst (v := 1) C d_readScanHead_236 (by decide) ?_
  refine a_goto (tgt := 241) C d_readScanHead_237 (by decide) ?_
  refine aw_lo (lo' := [some (.ref o), some (.int x1), some (.int x2), some (.int x3), some (.int x4), some (.int x5), none, some (.int x7), some (.int x8), none]) ⟨.inr rfl, .inr rfl, .inr rfl, .inr rfl, .inr rfl, .inr rfl, .inr rfl, .inr rfl, .inr rfl, .inr rfl, trivial⟩ ?_
  exact s_readScanHead_241 C hQ hA hR x1 x2 x3 x4 x5 x7 x8 1 S R79 hR79 hp
set_option maxRecDepth 100000 in
set_option maxHeartbeats 1000000 in
theorem s_readScanHead_208 (C : fcx gG D z A X R_M c_M_readScanHead 10 (none)) (hQ : X.2.2.2.2.2.2.2.2.2.2 = eQ gG D z X.2.2.2.2.2.2.2.1 X.2.2.2.2.1 L0 0 0 (pM_v K o ad)) (hA : A = owA gG L0 X.2.2.2.2.1.heap.size) (hR : X.2.2.2.1 = { frames := 3, cells := 1, slots := 6, locals := 300 }) (x1 : Int32) (x2 : Int32) (x3 : Int32) (x4 : Int32) (x5 : Int32) (x7 : Int32) (s0 : Int32) (S : ms) (R79 : Int32 → Int32 → Int32 → Int32 → Int32 → ms → Prop) (hR79 : ∀ yx1 yx2 yx3 yx4 yx5 yS, R79 yx1 yx2 yx3 yx4 yx5 yS → aw gG D z A X 10 79 [some (.ref o), some (.int yx1), some (.int yx2), some (.int yx3), some (.int yx4), some (.int yx5), none, none, none, none] [] [(0, ly_M, (o, ad, yS.1, yS.2.1, yS.2.2))] 0 0) (hp : b_readScanHead_208 x1 x2 x3 x4 x5 x7 s0 S R79 K) : aw gG D z A X 10 208 [some (.ref o), some (.int x1), some (.int x2), some (.int x3), some (.int x4), some (.int x5), none, some (.int x7), none, none] [.int s0] [(0, ly_M, (o, ad, S.1, S.2.1, S.2.2))] 0 0 := by
  unfold b_readScanHead_208 at hp
  refine a_istore (lo' := [some (.ref o), some (.int x1), some (.int x2), some (.int x3), some (.int x4), some (.int x5), none, some (.int x7), some (.int s0), none]) C d_readScanHead_208 (by decide) rfl ?_
  refine a_aload_n C d_readScanHead_210 rfl rfl ?_
  refine a_iload C d_readScanHead_211 rfl ?_
  refine a_if_eq (tgt := 236) C d_readScanHead_213 (by decide) ⟨fun hc => ?_, fun hc => ?_⟩
  · have hp := hp.1 hc
    refine aw_lo (lo' := [some (.ref o), some (.int x1), some (.int x2), some (.int x3), some (.int x4), some (.int x5), none, some (.int x7), some (.int s0), none]) ⟨.inr rfl, .inr rfl, .inr rfl, .inr rfl, .inr rfl, .inr rfl, .inr rfl, .inr rfl, .inr rfl, .inr rfl, trivial⟩ ?_
    exact s_readScanHead_236 C hQ hA hR x1 x2 x3 x4 x5 x7 s0 S R79 hR79 hp
  · have hp := hp.2 hc
    refine a_iload C d_readScanHead_216 rfl ?_
    refine a_iconst (v := 1) C d_readScanHead_218 (by decide) ?_
    refine a_icmp_eq (tgt := 236) C d_readScanHead_219 (by decide) ⟨fun hc => ?_, fun hc => ?_⟩
    · have hp := hp.1 hc
      refine aw_lo (lo' := [some (.ref o), some (.int x1), some (.int x2), some (.int x3), some (.int x4), some (.int x5), none, some (.int x7), some (.int s0), none]) ⟨.inr rfl, .inr rfl, .inr rfl, .inr rfl, .inr rfl, .inr rfl, .inr rfl, .inr rfl, .inr rfl, .inr rfl, trivial⟩ ?_
      exact s_readScanHead_236 C hQ hA hR x1 x2 x3 x4 x5 x7 s0 S R79 hR79 hp
    · have hp := hp.2 hc
      refine a_iload C d_readScanHead_222 rfl ?_
      refine a_bipush (v := 16) C d_readScanHead_224 (by decide) ?_
      refine a_icmp_eq (tgt := 236) C d_readScanHead_226 (by decide) ⟨fun hc => ?_, fun hc => ?_⟩
      · have hp := hp.1 hc
        refine aw_lo (lo' := [some (.ref o), some (.int x1), some (.int x2), some (.int x3), some (.int x4), some (.int x5), none, some (.int x7), some (.int s0), none]) ⟨.inr rfl, .inr rfl, .inr rfl, .inr rfl, .inr rfl, .inr rfl, .inr rfl, .inr rfl, .inr rfl, .inr rfl, trivial⟩ ?_
        exact s_readScanHead_236 C hQ hA hR x1 x2 x3 x4 x5 x7 s0 S R79 hR79 hp
      · have hp := hp.2 hc
        refine a_iload C d_readScanHead_229 rfl ?_
        refine a_bipush (v := 17) C d_readScanHead_231 (by decide) ?_
        refine a_icmp_ne (tgt := 240) C d_readScanHead_233 (by decide) ⟨fun hc => ?_, fun hc => ?_⟩
        · have hp := hp.1 hc
          refine a_iconst (v := 0) C d_readScanHead_240 (by decide) ?_
          refine aw_lo (lo' := [some (.ref o), some (.int x1), some (.int x2), some (.int x3), some (.int x4), some (.int x5), none, some (.int x7), some (.int s0), none]) ⟨.inr rfl, .inr rfl, .inr rfl, .inr rfl, .inr rfl, .inr rfl, .inr rfl, .inr rfl, .inr rfl, .inr rfl, trivial⟩ ?_
          exact s_readScanHead_241 C hQ hA hR x1 x2 x3 x4 x5 x7 s0 0 S R79 hR79 hp
        · have hp := hp.2 hc
          refine aw_lo (lo' := [some (.ref o), some (.int x1), some (.int x2), some (.int x3), some (.int x4), some (.int x5), none, some (.int x7), some (.int s0), none]) ⟨.inr rfl, .inr rfl, .inr rfl, .inr rfl, .inr rfl, .inr rfl, .inr rfl, .inr rfl, .inr rfl, .inr rfl, trivial⟩ ?_
          exact s_readScanHead_236 C hQ hA hR x1 x2 x3 x4 x5 x7 s0 S R79 hR79 hp
set_option maxRecDepth 100000 in
set_option maxHeartbeats 1000000 in
theorem s_readScanHead_193 (C : fcx gG D z A X R_M c_M_readScanHead 10 (none)) (hQ : X.2.2.2.2.2.2.2.2.2.2 = eQ gG D z X.2.2.2.2.2.2.2.1 X.2.2.2.2.1 L0 0 0 (pM_v K o ad)) (hA : A = owA gG L0 X.2.2.2.2.1.heap.size) (hR : X.2.2.2.1 = { frames := 3, cells := 1, slots := 6, locals := 300 }) (x1 : Int32) (x2 : Int32) (x3 : Int32) (x4 : Int32) (x5 : Int32) (x7 : Int32) (S : ms) (R79 : Int32 → Int32 → Int32 → Int32 → Int32 → ms → Prop) (hR79 : ∀ yx1 yx2 yx3 yx4 yx5 yS, R79 yx1 yx2 yx3 yx4 yx5 yS → aw gG D z A X 10 79 [some (.ref o), some (.int yx1), some (.int yx2), some (.int yx3), some (.int yx4), some (.int yx5), none, none, none, none] [] [(0, ly_M, (o, ad, yS.1, yS.2.1, yS.2.2))] 0 0) (hp : b_readScanHead_193 x1 x2 x3 x4 x5 x7 S R79 K) : aw gG D z A X 10 193 [some (.ref o), some (.int x1), some (.int x2), some (.int x3), some (.int x4), some (.int x5), none, some (.int x7), none, none] [] [(0, ly_M, (o, ad, S.1, S.2.1, S.2.2))] 0 0 := by
  unfold b_readScanHead_193 at hp
  refine a_aload_n C d_readScanHead_193 rfl rfl ?_
  refine a_getI C 0 35 d_readScanHead_194 rfl rfl rfl (Nat.le_of_ble_eq_true rfl) f_M_265 (Nat.le_of_ble_eq_true rfl) ?_
  refine a_if_ne (tgt := 207) C d_readScanHead_197 (by decide) ⟨fun hc => ?_, fun hc => ?_⟩
  · have hp := hp.1 hc
    refine a_iconst (v := 0) C d_readScanHead_207 (by decide) ?_
    refine aw_lo (lo' := [some (.ref o), some (.int x1), some (.int x2), some (.int x3), some (.int x4), some (.int x5), none, some (.int x7), none, none]) ⟨.inr rfl, .inr rfl, .inr rfl, .inr rfl, .inr rfl, .inr rfl, .inr rfl, .inr rfl, .inr rfl, .inr rfl, trivial⟩ ?_
    exact s_readScanHead_208 C hQ hA hR x1 x2 x3 x4 x5 x7 0 S R79 hR79 hp
  · have hp := hp.2 hc
    refine a_aload_n C d_readScanHead_200 rfl rfl ?_
    refine a_call (Lr := []) (rest := []) (av := .ref o :: []) C [0] [] d_readScanHead_201 (ct_next S hp) cd_M_next i_M (Nat.le_of_ble_eq_true rfl) (by rw [hR]; exact Nat.le_of_ble_eq_true rfl) (by rw [hR]; exact Nat.le_of_ble_eq_true rfl) (by rw [hR]; exact Nat.le_of_ble_eq_true rfl) (by rw [hR]; exact Nat.le_of_ble_eq_true rfl) rfl rfl (by decide) (by decide) (by decide) (inv_V C 0 d_readScanHead_201 l_M_281 im_M_next se_M_next cd_M_next ⟨by decide, by decide⟩ ln_M_next rfl rfl rfl rfl rfl) (fun oc L1 hL => ?_)
    obtain ⟨v201, S201, hp, rfl, rfl⟩ := hL
    refine ⟨_, rfl, ?_⟩
    refine aw_eq (lo' := _) (st' := [.int v201]) (L' := [(0, ly_M, (o, ad, S201.1, S201.2.1, S201.2.2))]) rfl rfl rfl ?_
    refine a_goto (tgt := 208) C d_readScanHead_204 (by decide) ?_
    refine aw_lo (lo' := [some (.ref o), some (.int x1), some (.int x2), some (.int x3), some (.int x4), some (.int x5), none, some (.int x7), none, none]) ⟨.inr rfl, .inr rfl, .inr rfl, .inr rfl, .inr rfl, .inr rfl, .inr rfl, .inr rfl, .inr rfl, .inr rfl, trivial⟩ ?_
    exact s_readScanHead_208 C hQ hA hR x1 x2 x3 x4 x5 x7 v201 (S201.1, S201.2.1, S201.2.2) R79 hR79 hp
set_option maxRecDepth 100000 in
set_option maxHeartbeats 1000000 in
theorem s_readScanHead_148 (C : fcx gG D z A X R_M c_M_readScanHead 10 (none)) (hQ : X.2.2.2.2.2.2.2.2.2.2 = eQ gG D z X.2.2.2.2.2.2.2.1 X.2.2.2.2.1 L0 0 0 (pM_v K o ad)) (hA : A = owA gG L0 X.2.2.2.2.1.heap.size) (hR : X.2.2.2.1 = { frames := 3, cells := 1, slots := 6, locals := 300 }) (x1 : Int32) (x2 : Int32) (x3 : Int32) (x4 : Int32) (x5 : Int32) (x7 : Int32) (s1 : Int32) (S : ms) (R79 : Int32 → Int32 → Int32 → Int32 → Int32 → ms → Prop) (hR79 : ∀ yx1 yx2 yx3 yx4 yx5 yS, R79 yx1 yx2 yx3 yx4 yx5 yS → aw gG D z A X 10 79 [some (.ref o), some (.int yx1), some (.int yx2), some (.int yx3), some (.int yx4), some (.int yx5), none, none, none, none] [] [(0, ly_M, (o, ad, yS.1, yS.2.1, yS.2.2))] 0 0) (hp : b_readScanHead_148 x1 x2 x3 x4 x5 x7 s1 S R79 K) : aw gG D z A X 10 148 [some (.ref o), some (.int x1), some (.int x2), some (.int x3), some (.int x4), some (.int x5), none, some (.int x7), none, none] [.int s1, .ref o] [(0, ly_M, (o, ad, S.1, S.2.1, S.2.2))] 0 0 := by
  unfold b_readScanHead_148 at hp
  refine a_aload_n C d_readScanHead_148 rfl rfl ?_
  refine a_getI C 0 34 d_readScanHead_149 rfl rfl rfl (Nat.le_of_ble_eq_true rfl) f_M_268 (Nat.le_of_ble_eq_true rfl) ?_
  refine a_iconst (v := 1) C d_readScanHead_152 (by decide) ?_
  refine a_isub C d_readScanHead_153 ?_
  refine a_call (Lr := []) (rest := []) (av := .ref o :: [.int s1, .int ((S.1 34) - 1)]) C [0] [] d_readScanHead_154 (ct_must s1 ((S.1 34) - 1) S hp) cd_M_must i_M (Nat.le_of_ble_eq_true rfl) (by rw [hR]; exact Nat.le_of_ble_eq_true rfl) (by rw [hR]; exact Nat.le_of_ble_eq_true rfl) (by rw [hR]; exact Nat.le_of_ble_eq_true rfl) (by rw [hR]; exact Nat.le_of_ble_eq_true rfl) rfl rfl (by decide) (by decide) (by decide) (inv_V C 0 d_readScanHead_154 l_M_291 im_M_must se_M_must cd_M_must ⟨by decide, by decide⟩ ln_M_must rfl rfl rfl rfl rfl) (fun oc L1 hL => ?_)
  obtain ⟨S154, hp, rfl, rfl⟩ := hL
  refine ⟨_, rfl, ?_⟩
  refine aw_eq (lo' := _) (st' := []) (L' := [(0, ly_M, (o, ad, S154.1, S154.2.1, S154.2.2))]) rfl rfl rfl ?_
  refine a_aload_n C d_readScanHead_157 rfl rfl ?_
  refine a_getI C 0 35 d_readScanHead_158 rfl rfl rfl (Nat.le_of_ble_eq_true rfl) f_M_265 (Nat.le_of_ble_eq_true rfl) ?_
  refine a_if_ne (tgt := 193) C d_readScanHead_161 (by decide) ⟨fun hc => ?_, fun hc => ?_⟩
  · have hp := hp.1 hc
    refine aw_lo (lo' := [some (.ref o), some (.int x1), some (.int x2), some (.int x3), some (.int x4), some (.int x5), none, some (.int x7), none, none]) ⟨.inr rfl, .inr rfl, .inr rfl, .inr rfl, .inr rfl, .inr rfl, .inr rfl, .inr rfl, .inr rfl, .inr rfl, trivial⟩ ?_
    exact s_readScanHead_193 C hQ hA hR x1 x2 x3 x4 x5 x7 (S154.1, S154.2.1, S154.2.2) R79 hR79 hp
  · have hp := hp.2 hc
    refine a_aload_n C d_readScanHead_164 rfl rfl ?_
    refine a_getR C 0 39 d_readScanHead_165 rfl rfl rfl (Nat.le_of_ble_eq_true rfl) f_M_106 ⟨Nat.le_of_ble_eq_true rfl, Nat.le_of_ble_eq_true rfl⟩ ?_
    refine a_aload_n C d_readScanHead_168 rfl rfl ?_
    refine a_getR C 0 45 d_readScanHead_169 rfl rfl rfl (Nat.le_of_ble_eq_true rfl) f_M_121 ⟨Nat.le_of_ble_eq_true rfl, Nat.le_of_ble_eq_true rfl⟩ ?_
    refine a_iload C d_readScanHead_172 rfl ?_
    refine a_iald C 0 45 d_readScanHead_174 rfl rfl rfl hp.1 ?_
    have hp := hp.2
    refine a_zald C 0 39 d_readScanHead_175 rfl rfl rfl hp.1 ?_
    have hp := hp.2
    refine a_if_ne (tgt := 193) C d_readScanHead_176 (by decide) ⟨fun hc => ?_, fun hc => ?_⟩
    · have hp := hp.1 hc
      refine aw_lo (lo' := [some (.ref o), some (.int x1), some (.int x2), some (.int x3), some (.int x4), some (.int x5), none, some (.int x7), none, none]) ⟨.inr rfl, .inr rfl, .inr rfl, .inr rfl, .inr rfl, .inr rfl, .inr rfl, .inr rfl, .inr rfl, .inr rfl, trivial⟩ ?_
      exact s_readScanHead_193 C hQ hA hR x1 x2 x3 x4 x5 x7 (S154.1, S154.2.1, S154.2.2) R79 hR79 hp
    · have hp := hp.2 hc
      refine a_aload_n C d_readScanHead_179 rfl rfl ?_
      refine a_bipush (v := 6) C d_readScanHead_180 (by decide) ?_
      refine a_aload_n C d_readScanHead_182 rfl rfl ?_
      refine a_getI C 0 34 d_readScanHead_183 rfl rfl rfl (Nat.le_of_ble_eq_true rfl) f_M_268 (Nat.le_of_ble_eq_true rfl) ?_
      refine a_iconst (v := 1) C d_readScanHead_186 (by decide) ?_
      refine a_isub C d_readScanHead_187 ?_
      refine a_call (Lr := []) (rest := []) (av := .ref o :: [.int 6, .int ((S154.1 34) - 1)]) C [0] [] d_readScanHead_188 (ct_fail 6 ((S154.1 34) - 1) (S154.1, S154.2.1, S154.2.2) hp) cd_M_fail i_M (Nat.le_of_ble_eq_true rfl) (by rw [hR]; exact Nat.le_of_ble_eq_true rfl) (by rw [hR]; exact Nat.le_of_ble_eq_true rfl) (by rw [hR]; exact Nat.le_of_ble_eq_true rfl) (by rw [hR]; exact Nat.le_of_ble_eq_true rfl) rfl rfl (by decide) (by decide) (by decide) (inv_V C 0 d_readScanHead_188 l_M_271 im_M_fail se_M_fail cd_M_fail ⟨by decide, by decide⟩ ln_M_fail rfl rfl rfl rfl rfl) (fun oc L1 hL => ?_)
      obtain ⟨v188, S188, hp, rfl, rfl⟩ := hL
      refine ⟨_, rfl, ?_⟩
      refine aw_eq (lo' := _) (st' := [.int v188]) (L' := [(0, ly_M, (o, ad, S188.1, S188.2.1, S188.2.2))]) rfl rfl rfl ?_
      refine a_istore (lo' := [some (.ref o), some (.int x1), some (.int x2), some (.int x3), some (.int x4), some (.int x5), none, some (.int x7), some (.int v188), none]) C d_readScanHead_191 (by decide) rfl ?_
      refine aw_lo (lo' := [some (.ref o), some (.int x1), some (.int x2), some (.int x3), some (.int x4), some (.int x5), none, some (.int x7), none, none]) ⟨.inr rfl, .inr rfl, .inr rfl, .inr rfl, .inr rfl, .inr rfl, .inr rfl, .inr rfl, .inl rfl, .inr rfl, trivial⟩ ?_
      exact s_readScanHead_193 C hQ hA hR x1 x2 x3 x4 x5 x7 (S188.1, S188.2.1, S188.2.2) R79 hR79 hp
set_option maxRecDepth 100000 in
set_option maxHeartbeats 1000000 in
theorem s_readScanHead_147 (C : fcx gG D z A X R_M c_M_readScanHead 10 (none)) (hQ : X.2.2.2.2.2.2.2.2.2.2 = eQ gG D z X.2.2.2.2.2.2.2.1 X.2.2.2.2.1 L0 0 0 (pM_v K o ad)) (hA : A = owA gG L0 X.2.2.2.2.1.heap.size) (hR : X.2.2.2.1 = { frames := 3, cells := 1, slots := 6, locals := 300 }) (x1 : Int32) (x2 : Int32) (x3 : Int32) (x4 : Int32) (x5 : Int32) (x7 : Int32) (S : ms) (R79 : Int32 → Int32 → Int32 → Int32 → Int32 → ms → Prop) (hR79 : ∀ yx1 yx2 yx3 yx4 yx5 yS, R79 yx1 yx2 yx3 yx4 yx5 yS → aw gG D z A X 10 79 [some (.ref o), some (.int yx1), some (.int yx2), some (.int yx3), some (.int yx4), some (.int yx5), none, none, none, none] [] [(0, ly_M, (o, ad, yS.1, yS.2.1, yS.2.2))] 0 0) (hp : b_readScanHead_147 x1 x2 x3 x4 x5 x7 S R79 K) : aw gG D z A X 10 147 [some (.ref o), some (.int x1), some (.int x2), some (.int x3), some (.int x4), some (.int x5), none, some (.int x7), none, none] [.ref o] [(0, ly_M, (o, ad, S.1, S.2.1, S.2.2))] 0 0 := by
  unfold b_readScanHead_147 at hp
  refine a_iconst (v := 0) C d_readScanHead_147 (by decide) ?_
  refine aw_lo (lo' := [some (.ref o), some (.int x1), some (.int x2), some (.int x3), some (.int x4), some (.int x5), none, some (.int x7), none, none]) ⟨.inr rfl, .inr rfl, .inr rfl, .inr rfl, .inr rfl, .inr rfl, .inr rfl, .inr rfl, .inr rfl, .inr rfl, trivial⟩ ?_
  exact s_readScanHead_148 C hQ hA hR x1 x2 x3 x4 x5 x7 0 S R79 hR79 hp
set_option maxRecDepth 100000 in
set_option maxHeartbeats 1000000 in
theorem s_readScanHead_139 (C : fcx gG D z A X R_M c_M_readScanHead 10 (none)) (hQ : X.2.2.2.2.2.2.2.2.2.2 = eQ gG D z X.2.2.2.2.2.2.2.1 X.2.2.2.2.1 L0 0 0 (pM_v K o ad)) (hA : A = owA gG L0 X.2.2.2.2.1.heap.size) (hR : X.2.2.2.1 = { frames := 3, cells := 1, slots := 6, locals := 300 }) (x1 : Int32) (x2 : Int32) (x3 : Int32) (x4 : Int32) (x5 : Int32) (x7 : Int32) (s2 : Int32) (S : ms) (R79 : Int32 → Int32 → Int32 → Int32 → Int32 → ms → Prop) (hR79 : ∀ yx1 yx2 yx3 yx4 yx5 yS, R79 yx1 yx2 yx3 yx4 yx5 yS → aw gG D z A X 10 79 [some (.ref o), some (.int yx1), some (.int yx2), some (.int yx3), some (.int yx4), some (.int yx5), none, none, none, none] [] [(0, ly_M, (o, ad, yS.1, yS.2.1, yS.2.2))] 0 0) (hp : b_readScanHead_139 x1 x2 x3 x4 x5 x7 s2 S R79 K) : aw gG D z A X 10 139 [some (.ref o), some (.int x1), some (.int x2), some (.int x3), some (.int x4), some (.int x5), none, some (.int x7), none, none] [.int s2, .ref (ad 47), .ref o] [(0, ly_M, (o, ad, S.1, S.2.1, S.2.2))] 0 0 := by
  unfold b_readScanHead_139 at hp
  refine a_zald C 0 47 d_readScanHead_139 rfl rfl rfl hp.1 ?_
  have hp := hp.2
  refine a_if_ne (tgt := 147) C d_readScanHead_140 (by decide) ⟨fun hc => ?_, fun hc => ?_⟩
  · have hp := hp.1 hc
    refine aw_lo (lo' := [some (.ref o), some (.int x1), some (.int x2), some (.int x3), some (.int x4), some (.int x5), none, some (.int x7), none, none]) ⟨.inr rfl, .inr rfl, .inr rfl, .inr rfl, .inr rfl, .inr rfl, .inr rfl, .inr rfl, .inr rfl, .inr rfl, trivial⟩ ?_
    exact s_readScanHead_147 C hQ hA hR x1 x2 x3 x4 x5 x7 S R79 hR79 hp
  · have hp := hp.2 hc
    refine a_iconst (v := 1) C d_readScanHead_143 (by decide) ?_
    refine a_goto (tgt := 148) C d_readScanHead_144 (by decide) ?_
    refine aw_lo (lo' := [some (.ref o), some (.int x1), some (.int x2), some (.int x3), some (.int x4), some (.int x5), none, some (.int x7), none, none]) ⟨.inr rfl, .inr rfl, .inr rfl, .inr rfl, .inr rfl, .inr rfl, .inr rfl, .inr rfl, .inr rfl, .inr rfl, trivial⟩ ?_
    exact s_readScanHead_148 C hQ hA hR x1 x2 x3 x4 x5 x7 1 S R79 hR79 hp
set_option maxRecDepth 100000 in
set_option maxHeartbeats 1000000 in
theorem s_readScanHead_115 (C : fcx gG D z A X R_M c_M_readScanHead 10 (none)) (hQ : X.2.2.2.2.2.2.2.2.2.2 = eQ gG D z X.2.2.2.2.2.2.2.1 X.2.2.2.2.1 L0 0 0 (pM_v K o ad)) (hA : A = owA gG L0 X.2.2.2.2.1.heap.size) (hR : X.2.2.2.1 = { frames := 3, cells := 1, slots := 6, locals := 300 }) (x1 : Int32) (x2 : Int32) (x3 : Int32) (x4 : Int32) (x5 : Int32) (s0 : Int32) (S : ms) (R79 : Int32 → Int32 → Int32 → Int32 → Int32 → ms → Prop) (hR79 : ∀ yx1 yx2 yx3 yx4 yx5 yS, R79 yx1 yx2 yx3 yx4 yx5 yS → aw gG D z A X 10 79 [some (.ref o), some (.int yx1), some (.int yx2), some (.int yx3), some (.int yx4), some (.int yx5), none, none, none, none] [] [(0, ly_M, (o, ad, yS.1, yS.2.1, yS.2.2))] 0 0) (hp : b_readScanHead_115 x1 x2 x3 x4 x5 s0 S R79 K) : aw gG D z A X 10 115 [some (.ref o), some (.int x1), some (.int x2), some (.int x3), some (.int x4), some (.int x5), none, none, none, none] [.int s0] [(0, ly_M, (o, ad, S.1, S.2.1, S.2.2))] 0 0 := by
  unfold b_readScanHead_115 at hp
  refine a_istore (lo' := [some (.ref o), some (.int x1), some (.int x2), some (.int x3), some (.int x4), some (.int x5), none, some (.int s0), none, none]) C d_readScanHead_115 (by decide) rfl ?_
  refine a_aload_n C d_readScanHead_117 rfl rfl ?_
  refine a_iload C d_readScanHead_118 rfl ?_
  refine a_iload_n C d_readScanHead_120 rfl rfl ?_
  refine a_icmp_le (tgt := 147) C d_readScanHead_121 (by decide) ⟨fun hc => ?_, fun hc => ?_⟩
  · have hp := hp.1 hc
    refine aw_lo (lo' := [some (.ref o), some (.int x1), some (.int x2), some (.int x3), some (.int x4), some (.int x5), none, some (.int s0), none, none]) ⟨.inr rfl, .inr rfl, .inr rfl, .inr rfl, .inr rfl, .inr rfl, .inr rfl, .inr rfl, .inr rfl, .inr rfl, trivial⟩ ?_
    exact s_readScanHead_147 C hQ hA hR x1 x2 x3 x4 x5 s0 S R79 hR79 hp
  · have hp := hp.2 hc
    refine a_aload_n C d_readScanHead_124 rfl rfl ?_
    refine a_getR C 0 47 d_readScanHead_125 rfl rfl rfl (Nat.le_of_ble_eq_true rfl) f_M_127 ⟨Nat.le_of_ble_eq_true rfl, Nat.le_of_ble_eq_true rfl⟩ ?_
    refine a_iload C d_readScanHead_128 rfl ?_
    refine a_if_ge (tgt := 137) C d_readScanHead_130 (by decide) ⟨fun hc => ?_, fun hc => ?_⟩
    · have hp := hp.1 hc
      refine a_iload C d_readScanHead_137 rfl ?_
      refine aw_lo (lo' := [some (.ref o), some (.int x1), some (.int x2), some (.int x3), some (.int x4), some (.int x5), none, some (.int s0), none, none]) ⟨.inr rfl, .inr rfl, .inr rfl, .inr rfl, .inr rfl, .inr rfl, .inr rfl, .inr rfl, .inr rfl, .inr rfl, trivial⟩ ?_
      exact s_readScanHead_139 C hQ hA hR x1 x2 x3 x4 x5 s0 s0 S R79 hR79 hp
    · have hp := hp.2 hc
      refine a_iconst (v := 0) C d_readScanHead_133 (by decide) ?_
      refine a_goto (tgt := 139) C d_readScanHead_134 (by decide) ?_
      refine aw_lo (lo' := [some (.ref o), some (.int x1), some (.int x2), some (.int x3), some (.int x4), some (.int x5), none, some (.int s0), none, none]) ⟨.inr rfl, .inr rfl, .inr rfl, .inr rfl, .inr rfl, .inr rfl, .inr rfl, .inr rfl, .inr rfl, .inr rfl, trivial⟩ ?_
      exact s_readScanHead_139 C hQ hA hR x1 x2 x3 x4 x5 s0 0 S R79 hR79 hp
set_option maxRecDepth 100000 in
set_option maxHeartbeats 1000000 in
theorem s_readScanHead_79 (C : fcx gG D z A X R_M c_M_readScanHead 10 (none)) (hQ : X.2.2.2.2.2.2.2.2.2.2 = eQ gG D z X.2.2.2.2.2.2.2.1 X.2.2.2.2.1 L0 0 0 (pM_v K o ad)) (hA : A = owA gG L0 X.2.2.2.2.1.heap.size) (hR : X.2.2.2.1 = { frames := 3, cells := 1, slots := 6, locals := 300 }) (x1 : Int32) (x2 : Int32) (x3 : Int32) (x4 : Int32) (x5 : Int32) (S : ms) (R79 : Int32 → Int32 → Int32 → Int32 → Int32 → ms → Prop) (hR79 : ∀ yx1 yx2 yx3 yx4 yx5 yS, R79 yx1 yx2 yx3 yx4 yx5 yS → aw gG D z A X 10 79 [some (.ref o), some (.int yx1), some (.int yx2), some (.int yx3), some (.int yx4), some (.int yx5), none, none, none, none] [] [(0, ly_M, (o, ad, yS.1, yS.2.1, yS.2.2))] 0 0) (hp : b_readScanHead_79 x1 x2 x3 x4 x5 S R79 K) : aw gG D z A X 10 79 [some (.ref o), some (.int x1), some (.int x2), some (.int x3), some (.int x4), some (.int x5), none, none, none, none] [] [(0, ly_M, (o, ad, S.1, S.2.1, S.2.2))] 0 0 := by
  unfold b_readScanHead_79 at hp
  refine a_iload C d_readScanHead_79 rfl ?_
  refine a_iload_n C d_readScanHead_81 rfl rfl ?_
  refine a_icmp_ge (tgt := 372) C d_readScanHead_82 (by decide) ⟨fun hc => ?_, fun hc => ?_⟩
  · have hp := hp.1 hc
    refine aw_lo (lo' := [some (.ref o), some (.int x1), some (.int x2), none, some (.int x4), none, none, none, none, none]) ⟨.inr rfl, .inr rfl, .inr rfl, .inl rfl, .inr rfl, .inl rfl, .inr rfl, .inr rfl, .inr rfl, .inr rfl, trivial⟩ ?_
    exact s_readScanHead_372 C hQ hA hR x1 x2 x4 S  hp
  · have hp := hp.2 hc
    refine a_aload_n C d_readScanHead_85 rfl rfl ?_
    refine a_getI C 0 35 d_readScanHead_86 rfl rfl rfl (Nat.le_of_ble_eq_true rfl) f_M_265 (Nat.le_of_ble_eq_true rfl) ?_
    refine a_if_ne (tgt := 372) C d_readScanHead_89 (by decide) ⟨fun hc => ?_, fun hc => ?_⟩
    · have hp := hp.1 hc
      refine aw_lo (lo' := [some (.ref o), some (.int x1), some (.int x2), none, some (.int x4), none, none, none, none, none]) ⟨.inr rfl, .inr rfl, .inr rfl, .inl rfl, .inr rfl, .inl rfl, .inr rfl, .inr rfl, .inr rfl, .inr rfl, trivial⟩ ?_
      exact s_readScanHead_372 C hQ hA hR x1 x2 x4 S  hp
    · have hp := hp.2 hc
      refine a_aload_n C d_readScanHead_92 rfl rfl ?_
      refine a_call (Lr := []) (rest := []) (av := .ref o :: []) C [0] [] d_readScanHead_93 (ct_next S hp) cd_M_next i_M (Nat.le_of_ble_eq_true rfl) (by rw [hR]; exact Nat.le_of_ble_eq_true rfl) (by rw [hR]; exact Nat.le_of_ble_eq_true rfl) (by rw [hR]; exact Nat.le_of_ble_eq_true rfl) (by rw [hR]; exact Nat.le_of_ble_eq_true rfl) rfl rfl (by decide) (by decide) (by decide) (inv_V C 0 d_readScanHead_93 l_M_281 im_M_next se_M_next cd_M_next ⟨by decide, by decide⟩ ln_M_next rfl rfl rfl rfl rfl) (fun oc L1 hL => ?_)
      obtain ⟨v93, S93, hp, rfl, rfl⟩ := hL
      refine ⟨_, rfl, ?_⟩
      refine aw_eq (lo' := _) (st' := [.int v93]) (L' := [(0, ly_M, (o, ad, S93.1, S93.2.1, S93.2.2))]) rfl rfl rfl ?_
      refine a_istore (lo' := [some (.ref o), some (.int x1), some (.int x2), some (.int x3), some (.int x4), some (.int x5), some (.int v93), none, none, none]) C d_readScanHead_96 (by decide) rfl ?_
      refine a_aload_n C d_readScanHead_98 rfl rfl ?_
      refine a_getI C 0 35 d_readScanHead_99 rfl rfl rfl (Nat.le_of_ble_eq_true rfl) f_M_265 (Nat.le_of_ble_eq_true rfl) ?_
      refine a_if_ne (tgt := 114) C d_readScanHead_102 (by decide) ⟨fun hc => ?_, fun hc => ?_⟩
      · have hp := hp.1 hc
        refine a_iconst (v := (-1)) C d_readScanHead_114 (by decide) ?_
        refine aw_lo (lo' := [some (.ref o), some (.int x1), some (.int x2), some (.int x3), some (.int x4), some (.int x5), none, none, none, none]) ⟨.inr rfl, .inr rfl, .inr rfl, .inr rfl, .inr rfl, .inr rfl, .inl rfl, .inr rfl, .inr rfl, .inr rfl, trivial⟩ ?_
        exact s_readScanHead_115 C hQ hA hR x1 x2 x3 x4 x5 (-1) (S93.1, S93.2.1, S93.2.2) R79 hR79 hp
      · have hp := hp.2 hc
        refine a_aload_n C d_readScanHead_105 rfl rfl ?_
        refine a_iload C d_readScanHead_106 rfl ?_
        refine a_call (Lr := []) (rest := []) (av := .ref o :: [.int v93]) C [0] [] d_readScanHead_108 (ct_layerNamed v93 (S93.1, S93.2.1, S93.2.2) hp) cd_M_layerNamed i_M (Nat.le_of_ble_eq_true rfl) (by rw [hR]; exact Nat.le_of_ble_eq_true rfl) (by rw [hR]; exact Nat.le_of_ble_eq_true rfl) (by rw [hR]; exact Nat.le_of_ble_eq_true rfl) (by rw [hR]; exact Nat.le_of_ble_eq_true rfl) rfl rfl (by decide) (by decide) (by decide) (inv_V C 0 d_readScanHead_108 l_M_299 im_M_layerNamed se_M_layerNamed cd_M_layerNamed ⟨by decide, by decide⟩ ln_M_layerNamed rfl rfl rfl rfl rfl) (fun oc L1 hL => ?_)
        obtain ⟨v108, S108, hp, rfl, rfl⟩ := hL
        refine ⟨_, rfl, ?_⟩
        refine aw_eq (lo' := _) (st' := [.int v108]) (L' := [(0, ly_M, (o, ad, S108.1, S108.2.1, S108.2.2))]) rfl rfl rfl ?_
        refine a_goto (tgt := 115) C d_readScanHead_111 (by decide) ?_
        refine aw_lo (lo' := [some (.ref o), some (.int x1), some (.int x2), some (.int x3), some (.int x4), some (.int x5), none, none, none, none]) ⟨.inr rfl, .inr rfl, .inr rfl, .inr rfl, .inr rfl, .inr rfl, .inl rfl, .inr rfl, .inr rfl, .inr rfl, trivial⟩ ?_
        exact s_readScanHead_115 C hQ hA hR x1 x2 x3 x4 x5 v108 (S108.1, S108.2.1, S108.2.2) R79 hR79 hp
set_option maxRecDepth 100000 in
set_option maxHeartbeats 1000000 in
theorem se_readScanHead_79 (C : fcx gG D z A X R_M c_M_readScanHead 10 (none)) (hQ : X.2.2.2.2.2.2.2.2.2.2 = eQ gG D z X.2.2.2.2.2.2.2.1 X.2.2.2.2.1 L0 0 0 (pM_v K o ad)) (hA : A = owA gG L0 X.2.2.2.2.1.heap.size) (hR : X.2.2.2.1 = { frames := 3, cells := 1, slots := 6, locals := 300 }) (x1 : Int32) (x2 : Int32) (x3 : Int32) (x4 : Int32) (x5 : Int32) (S : ms) (hp : e_readScanHead_79 x1 x2 x3 x4 x5 S K) : aw gG D z A X 10 79 [some (.ref o), some (.int x1), some (.int x2), some (.int x3), some (.int x4), some (.int x5), none, none, none, none] [] [(0, ly_M, (o, ad, S.1, S.2.1, S.2.2))] 0 0 := by
  obtain ⟨I, μ, h0, hs⟩ := hp
  have key : ∀ (n : Nat) (yx1 : Int32) (yx2 : Int32) (yx3 : Int32) (yx4 : Int32) (yx5 : Int32) (yS : ms), μ yx1 yx2 yx3 yx4 yx5 yS < n → I yx1 yx2 yx3 yx4 yx5 yS → aw gG D z A X 10 79 [some (.ref o), some (.int yx1), some (.int yx2), some (.int yx3), some (.int yx4), some (.int yx5), none, none, none, none] [] [(0, ly_M, (o, ad, yS.1, yS.2.1, yS.2.2))] 0 0 := by
    intro n
    induction n with
    | zero => intro yx1 yx2 yx3 yx4 yx5 yS h; omega
    | succ n ih =>
      intro yx1 yx2 yx3 yx4 yx5 yS hn hI
      exact s_readScanHead_79 C hQ hA hR yx1 yx2 yx3 yx4 yx5 yS _ (fun zx1 zx2 zx3 zx4 zx5 zS hw => ih zx1 zx2 zx3 zx4 zx5 zS (by omega) hw.1) (hs yx1 yx2 yx3 yx4 yx5 yS hI)
  exact key (μ x1 x2 x3 x4 x5 S + 1) x1 x2 x3 x4 x5 S (Nat.lt_succ_self _) h0
set_option maxRecDepth 100000 in
set_option maxHeartbeats 1000000 in
theorem s_readScanHead_71 (C : fcx gG D z A X R_M c_M_readScanHead 10 (none)) (hQ : X.2.2.2.2.2.2.2.2.2.2 = eQ gG D z X.2.2.2.2.2.2.2.1 X.2.2.2.2.1 L0 0 0 (pM_v K o ad)) (hA : A = owA gG L0 X.2.2.2.2.1.heap.size) (hR : X.2.2.2.1 = { frames := 3, cells := 1, slots := 6, locals := 300 }) (x1 : Int32) (x2 : Int32) (S : ms) (hp : b_readScanHead_71 x1 x2 S K) : aw gG D z A X 10 71 [some (.ref o), some (.int x1), some (.int x2), none, none, none, none, none, none, none] [] [(0, ly_M, (o, ad, S.1, S.2.1, S.2.2))] 0 0 := by
  unfold b_readScanHead_71 at hp
  refine a_iconst (v := (-1)) C d_readScanHead_71 (by decide) ?_
  refine a_istore_n (lo' := [some (.ref o), some (.int x1), some (.int x2), some (.int (-1)), none, none, none, none, none, none]) C d_readScanHead_72 rfl (by decide) rfl ?_
  refine a_iconst (v := 0) C d_readScanHead_73 (by decide) ?_
  refine a_istore (lo' := [some (.ref o), some (.int x1), some (.int x2), some (.int (-1)), some (.int 0), none, none, none, none, none]) C d_readScanHead_74 (by decide) rfl ?_
  refine a_iconst (v := 0) C d_readScanHead_76 (by decide) ?_
  refine a_istore (lo' := [some (.ref o), some (.int x1), some (.int x2), some (.int (-1)), some (.int 0), some (.int 0), none, none, none, none]) C d_readScanHead_77 (by decide) rfl ?_
  refine aw_lo (lo' := [some (.ref o), some (.int x1), some (.int x2), some (.int (-1)), some (.int 0), some (.int 0), none, none, none, none]) ⟨.inr rfl, .inr rfl, .inr rfl, .inr rfl, .inr rfl, .inr rfl, .inr rfl, .inr rfl, .inr rfl, .inr rfl, trivial⟩ ?_
  exact se_readScanHead_79 C hQ hA hR x1 x2 (-1) 0 0 S  hp
set_option maxRecDepth 100000 in
set_option maxHeartbeats 1000000 in
theorem s_readScanHead_32 (C : fcx gG D z A X R_M c_M_readScanHead 10 (none)) (hQ : X.2.2.2.2.2.2.2.2.2.2 = eQ gG D z X.2.2.2.2.2.2.2.1 X.2.2.2.2.1 L0 0 0 (pM_v K o ad)) (hA : A = owA gG L0 X.2.2.2.2.1.heap.size) (hR : X.2.2.2.1 = { frames := 3, cells := 1, slots := 6, locals := 300 }) (x1 : Int32) (x2 : Int32) (s1 : Int32) (S : ms) (hp : b_readScanHead_32 x1 x2 s1 S K) : aw gG D z A X 10 32 [some (.ref o), some (.int x1), some (.int x2), none, none, none, none, none, none, none] [.int s1, .ref o] [(0, ly_M, (o, ad, S.1, S.2.1, S.2.2))] 0 0 := by
  unfold b_readScanHead_32 at hp
  refine a_iload_n C d_readScanHead_32 rfl rfl ?_
  refine a_call (Lr := []) (rest := []) (av := .ref o :: [.int s1, .int x2]) C [0] [] d_readScanHead_33 (ct_must s1 x2 S hp) cd_M_must i_M (Nat.le_of_ble_eq_true rfl) (by rw [hR]; exact Nat.le_of_ble_eq_true rfl) (by rw [hR]; exact Nat.le_of_ble_eq_true rfl) (by rw [hR]; exact Nat.le_of_ble_eq_true rfl) (by rw [hR]; exact Nat.le_of_ble_eq_true rfl) rfl rfl (by decide) (by decide) (by decide) (inv_V C 0 d_readScanHead_33 l_M_291 im_M_must se_M_must cd_M_must ⟨by decide, by decide⟩ ln_M_must rfl rfl rfl rfl rfl) (fun oc L1 hL => ?_)
  obtain ⟨S33, hp, rfl, rfl⟩ := hL
  refine ⟨_, rfl, ?_⟩
  refine aw_eq (lo' := _) (st' := []) (L' := [(0, ly_M, (o, ad, S33.1, S33.2.1, S33.2.2))]) rfl rfl rfl ?_
  refine a_aload_n C d_readScanHead_36 rfl rfl ?_
  refine a_getI C 0 35 d_readScanHead_37 rfl rfl rfl (Nat.le_of_ble_eq_true rfl) f_M_265 (Nat.le_of_ble_eq_true rfl) ?_
  refine a_if_ne (tgt := 71) C d_readScanHead_40 (by decide) ⟨fun hc => ?_, fun hc => ?_⟩
  · have hp := hp.1 hc
    refine aw_lo (lo' := [some (.ref o), some (.int x1), some (.int x2), none, none, none, none, none, none, none]) ⟨.inr rfl, .inr rfl, .inr rfl, .inr rfl, .inr rfl, .inr rfl, .inr rfl, .inr rfl, .inr rfl, .inr rfl, trivial⟩ ?_
    exact s_readScanHead_71 C hQ hA hR x1 x2 (S33.1, S33.2.1, S33.2.2)  hp
  · have hp := hp.2 hc
    refine a_aload_n C d_readScanHead_43 rfl rfl ?_
    refine a_getI C 0 36 d_readScanHead_44 rfl rfl rfl (Nat.le_of_ble_eq_true rfl) f_M_275 (Nat.le_of_ble_eq_true rfl) ?_
    refine a_aload_n C d_readScanHead_47 rfl rfl ?_
    refine a_getI C 0 37 d_readScanHead_48 rfl rfl rfl (Nat.le_of_ble_eq_true rfl) f_M_278 (Nat.le_of_ble_eq_true rfl) ?_
    refine a_isub C d_readScanHead_51 ?_
    refine a_bipush (v := 6) C d_readScanHead_52 (by decide) ?_
    refine a_iconst (v := 2) C d_readScanHead_54 (by decide) ?_
    refine a_iload_n C d_readScanHead_55 rfl rfl ?_
    refine a_imul C d_readScanHead_56 ?_
    refine a_iadd C d_readScanHead_57 ?_
    refine a_icmp_eq (tgt := 71) C d_readScanHead_58 (by decide) ⟨fun hc => ?_, fun hc => ?_⟩
    · have hp := hp.1 hc
      refine aw_lo (lo' := [some (.ref o), some (.int x1), some (.int x2), none, none, none, none, none, none, none]) ⟨.inr rfl, .inr rfl, .inr rfl, .inr rfl, .inr rfl, .inr rfl, .inr rfl, .inr rfl, .inr rfl, .inr rfl, trivial⟩ ?_
      exact s_readScanHead_71 C hQ hA hR x1 x2 (S33.1, S33.2.1, S33.2.2)  hp
    · have hp := hp.2 hc
      refine a_aload_n C d_readScanHead_61 rfl rfl ?_
      refine a_iconst (v := 4) C d_readScanHead_62 (by decide) ?_
      refine a_aload_n C d_readScanHead_63 rfl rfl ?_
      refine a_getI C 0 37 d_readScanHead_64 rfl rfl rfl (Nat.le_of_ble_eq_true rfl) f_M_278 (Nat.le_of_ble_eq_true rfl) ?_
      refine a_call (Lr := []) (rest := []) (av := .ref o :: [.int 4, .int (S33.1 37)]) C [0] [] d_readScanHead_67 (ct_fail 4 (S33.1 37) (S33.1, S33.2.1, S33.2.2) hp) cd_M_fail i_M (Nat.le_of_ble_eq_true rfl) (by rw [hR]; exact Nat.le_of_ble_eq_true rfl) (by rw [hR]; exact Nat.le_of_ble_eq_true rfl) (by rw [hR]; exact Nat.le_of_ble_eq_true rfl) (by rw [hR]; exact Nat.le_of_ble_eq_true rfl) rfl rfl (by decide) (by decide) (by decide) (inv_V C 0 d_readScanHead_67 l_M_271 im_M_fail se_M_fail cd_M_fail ⟨by decide, by decide⟩ ln_M_fail rfl rfl rfl rfl rfl) (fun oc L1 hL => ?_)
      obtain ⟨v67, S67, hp, rfl, rfl⟩ := hL
      refine ⟨_, rfl, ?_⟩
      refine aw_eq (lo' := _) (st' := [.int v67]) (L' := [(0, ly_M, (o, ad, S67.1, S67.2.1, S67.2.2))]) rfl rfl rfl ?_
      refine a_istore_n (lo' := [some (.ref o), some (.int x1), some (.int x2), some (.int v67), none, none, none, none, none, none]) C d_readScanHead_70 rfl (by decide) rfl ?_
      refine aw_lo (lo' := [some (.ref o), some (.int x1), some (.int x2), none, none, none, none, none, none, none]) ⟨.inr rfl, .inr rfl, .inr rfl, .inl rfl, .inr rfl, .inr rfl, .inr rfl, .inr rfl, .inr rfl, .inr rfl, trivial⟩ ?_
      exact s_readScanHead_71 C hQ hA hR x1 x2 (S67.1, S67.2.1, S67.2.2)  hp
set_option maxRecDepth 100000 in
set_option maxHeartbeats 1000000 in
theorem s_readScanHead_31 (C : fcx gG D z A X R_M c_M_readScanHead 10 (none)) (hQ : X.2.2.2.2.2.2.2.2.2.2 = eQ gG D z X.2.2.2.2.2.2.2.1 X.2.2.2.2.1 L0 0 0 (pM_v K o ad)) (hA : A = owA gG L0 X.2.2.2.2.1.heap.size) (hR : X.2.2.2.1 = { frames := 3, cells := 1, slots := 6, locals := 300 }) (x1 : Int32) (x2 : Int32) (S : ms) (hp : b_readScanHead_31 x1 x2 S K) : aw gG D z A X 10 31 [some (.ref o), some (.int x1), some (.int x2), none, none, none, none, none, none, none] [.ref o] [(0, ly_M, (o, ad, S.1, S.2.1, S.2.2))] 0 0 := by
  unfold b_readScanHead_31 at hp
  refine a_iconst (v := 0) C d_readScanHead_31 (by decide) ?_
  refine aw_lo (lo' := [some (.ref o), some (.int x1), some (.int x2), none, none, none, none, none, none, none]) ⟨.inr rfl, .inr rfl, .inr rfl, .inr rfl, .inr rfl, .inr rfl, .inr rfl, .inr rfl, .inr rfl, .inr rfl, trivial⟩ ?_
  exact s_readScanHead_32 C hQ hA hR x1 x2 0 S  hp
set_option maxRecDepth 100000 in
set_option maxHeartbeats 1000000 in
theorem s_readScanHead_0 (C : fcx gG D z A X R_M c_M_readScanHead 10 (none)) (hQ : X.2.2.2.2.2.2.2.2.2.2 = eQ gG D z X.2.2.2.2.2.2.2.1 X.2.2.2.2.1 L0 0 0 (pM_v K o ad)) (hA : A = owA gG L0 X.2.2.2.2.1.heap.size) (hR : X.2.2.2.1 = { frames := 3, cells := 1, slots := 6, locals := 300 })  (S : ms) (hp : p_readScanHead  S K) : aw gG D z A X 10 0 [some (.ref o), none, none, none, none, none, none, none, none, none] [] [(0, ly_M, (o, ad, S.1, S.2.1, S.2.2))] 0 0 := by
  unfold p_readScanHead at hp
  refine a_aload_n C d_readScanHead_0 rfl rfl ?_
  refine a_call (Lr := []) (rest := []) (av := .ref o :: []) C [0] [] d_readScanHead_1 (ct_next S hp) cd_M_next i_M (Nat.le_of_ble_eq_true rfl) (by rw [hR]; exact Nat.le_of_ble_eq_true rfl) (by rw [hR]; exact Nat.le_of_ble_eq_true rfl) (by rw [hR]; exact Nat.le_of_ble_eq_true rfl) (by rw [hR]; exact Nat.le_of_ble_eq_true rfl) rfl rfl (by decide) (by decide) (by decide) (inv_V C 0 d_readScanHead_1 l_M_281 im_M_next se_M_next cd_M_next ⟨by decide, by decide⟩ ln_M_next rfl rfl rfl rfl rfl) (fun oc L1 hL => ?_)
  obtain ⟨v1, S1, hp, rfl, rfl⟩ := hL
  refine ⟨_, rfl, ?_⟩
  refine aw_eq (lo' := _) (st' := [.int v1]) (L' := [(0, ly_M, (o, ad, S1.1, S1.2.1, S1.2.2))]) rfl rfl rfl ?_
  refine a_istore_n (lo' := [some (.ref o), some (.int v1), none, none, none, none, none, none, none, none]) C d_readScanHead_4 rfl (by decide) rfl ?_
  refine a_aload_n C d_readScanHead_5 rfl rfl ?_
  refine a_getI C 0 34 d_readScanHead_6 rfl rfl rfl (Nat.le_of_ble_eq_true rfl) f_M_268 (Nat.le_of_ble_eq_true rfl) ?_
  refine a_iconst (v := 1) C d_readScanHead_9 (by decide) ?_
  refine a_isub C d_readScanHead_10 ?_
  refine a_istore_n (lo' := [some (.ref o), some (.int v1), some (.int ((S1.1 34) - 1)), none, none, none, none, none, none, none]) C d_readScanHead_11 rfl (by decide) rfl ?_
  refine a_aload_n C d_readScanHead_12 rfl rfl ?_
  refine a_iload_n C d_readScanHead_13 rfl rfl ?_
  refine a_if_le (tgt := 31) C d_readScanHead_14 (by decide) ⟨fun hc => ?_, fun hc => ?_⟩
  · have hp := hp.1 hc
    refine aw_lo (lo' := [some (.ref o), some (.int v1), some (.int ((S1.1 34) - 1)), none, none, none, none, none, none, none]) ⟨.inr rfl, .inr rfl, .inr rfl, .inr rfl, .inr rfl, .inr rfl, .inr rfl, .inr rfl, .inr rfl, .inr rfl, trivial⟩ ?_
    exact s_readScanHead_31 C hQ hA hR v1 ((S1.1 34) - 1) (S1.1, S1.2.1, S1.2.2)  hp
  · have hp := hp.2 hc
    refine a_iload_n C d_readScanHead_17 rfl rfl ?_
    refine a_aload_n C d_readScanHead_18 rfl rfl ?_
    refine a_getR C 0 14 d_readScanHead_19 rfl rfl rfl (Nat.le_of_ble_eq_true rfl) f_M_47 ⟨Nat.le_of_ble_eq_true rfl, Nat.le_of_ble_eq_true rfl⟩ ?_
    refine a_iconst (v := 2) C d_readScanHead_22 (by decide) ?_
    refine a_iald C 0 14 d_readScanHead_23 rfl rfl rfl hp.1 ?_
    have hp := hp.2
    refine a_icmp_gt (tgt := 31) C d_readScanHead_24 (by decide) ⟨fun hc => ?_, fun hc => ?_⟩
    · have hp := hp.1 hc
      refine aw_lo (lo' := [some (.ref o), some (.int v1), some (.int ((S1.1 34) - 1)), none, none, none, none, none, none, none]) ⟨.inr rfl, .inr rfl, .inr rfl, .inr rfl, .inr rfl, .inr rfl, .inr rfl, .inr rfl, .inr rfl, .inr rfl, trivial⟩ ?_
      exact s_readScanHead_31 C hQ hA hR v1 ((S1.1 34) - 1) (S1.1, S1.2.1, S1.2.2)  hp
    · have hp := hp.2 hc
      refine a_iconst (v := 1) C d_readScanHead_27 (by decide) ?_
      refine a_goto (tgt := 32) C d_readScanHead_28 (by decide) ?_
      refine aw_lo (lo' := [some (.ref o), some (.int v1), some (.int ((S1.1 34) - 1)), none, none, none, none, none, none, none]) ⟨.inr rfl, .inr rfl, .inr rfl, .inr rfl, .inr rfl, .inr rfl, .inr rfl, .inr rfl, .inr rfl, .inr rfl, trivial⟩ ?_
      exact s_readScanHead_32 C hQ hA hR v1 ((S1.1 34) - 1) 1 (S1.1, S1.2.1, S1.2.2)  hp
end M_readScanHead
section M_readScanHeadc
variable {D : va_G} {z : Nat → ClassId} {o : Nat} {ad : Nat → Nat}
set_option maxRecDepth 100000 in
theorem ct_readScanHead {l : Launch}  (S : ms) {K : ms → Prop} (hp : p_readScanHead  S K) : ct gG D z l n_M_readScanHead c_M_readScanHead 10 (none) 3 300 [.ref o] [(0, ly_M, (o, ad, S.1, S.2.1, S.2.2))] 0 0 (pM_v K o ad) := by
  refine ct_of (lo := [some (.ref o), none, none, none, none, none, none, none, none, none]) (by decide) g_ok (Nat.le_of_ble_eq_true rfl) rfl ?_
  intro X A _ C hR hQ hA _
  exact s_readScanHead_0 C hQ hA hR  S hp
end M_readScanHeadc
def b_readBit_73  (S : ms) (K : Int32 → ms → Prop) : Prop :=
  ((S.1 35) ≤ 0 → (K ((((upd S.1 54 ((S.1 54) - 1)) 55) >>> (((upd S.1 54 ((S.1 54) - 1)) 54) &&& 31 : Int32) : Int32) &&& 1) (upd S.1 54 ((S.1 54) - 1), S.2.1, S.2.2))) ∧ (¬ ((S.1 35) ≤ 0) → (K 0 S))
def b_readBit_67  (S : ms) (K : Int32 → ms → Prop) : Prop :=
  b_readBit_73 (upd S.1 54 8, S.2.1, S.2.2) K
def p_readBit  (S : ms) (K : Int32 → ms → Prop) : Prop :=
  (¬ (S.1 54) = 0 → (b_readBit_73 S K)) ∧ ((S.1 54) = 0 → (p_next (upd S.1 56 (S.1 34), S.2.1, S.2.2) (fun v17 S17 => (¬ ((upd S17.1 55 v17) 35) = 0 → (b_readBit_67 (upd S17.1 55 v17, S17.2.1, S17.2.2) K)) ∧ (((upd S17.1 55 v17) 35) = 0 → ((¬ ((upd S17.1 55 v17) 55) = 255 → (b_readBit_67 (upd S17.1 55 v17, S17.2.1, S17.2.2) K)) ∧ (((upd S17.1 55 v17) 55) = 255 → (p_next (upd S17.1 55 v17, S17.2.1, S17.2.2) (fun v41 S41 => (¬ (S41.1 35) = 0 → (b_readBit_67 (S41.1, S41.2.1, S41.2.2) K)) ∧ ((S41.1 35) = 0 → ((v41 = 0 → (b_readBit_67 (S41.1, S41.2.1, S41.2.2) K)) ∧ (¬ (v41 = 0) → (p_fail 7 (S41.1 56) (S41.1, S41.2.1, S41.2.2) (fun v63 S63 => b_readBit_67 (S63.1, S63.2.1, S63.2.2) K)))))))))))))
section M_readBit
variable {D : va_G} {z : Nat → ClassId} {A : Nat → Prop} {X : cx} {L0 : fw} {K : Int32 → ms → Prop} {o : Nat} {ad : Nat → Nat}
set_option maxRecDepth 100000 in
set_option maxHeartbeats 1000000 in
theorem s_readBit_73 (C : fcx gG D z A X R_M c_M_readBit 3 (some .int)) (hQ : X.2.2.2.2.2.2.2.2.2.2 = eQ gG D z X.2.2.2.2.2.2.2.1 X.2.2.2.2.1 L0 0 0 (pM_i K o ad)) (hA : A = owA gG L0 X.2.2.2.2.1.heap.size) (hR : X.2.2.2.1 = { frames := 3, cells := 1, slots := 6, locals := 300 })  (S : ms) (hp : b_readBit_73  S K) : aw gG D z A X 3 73 [some (.ref o), none, none] [] [(0, ly_M, (o, ad, S.1, S.2.1, S.2.2))] 0 0 := by
  unfold b_readBit_73 at hp
  refine a_aload_n C d_readBit_73 rfl rfl ?_
  refine a_getI C 0 35 d_readBit_74 rfl rfl rfl (Nat.le_of_ble_eq_true rfl) f_M_265 (Nat.le_of_ble_eq_true rfl) ?_
  refine a_if_le (tgt := 82) C d_readBit_77 (by decide) ⟨fun hc => ?_, fun hc => ?_⟩
  · have hp := hp.1 hc
    refine a_aload_n C d_readBit_82 rfl rfl ?_
    refine a_dup C d_readBit_83 rfl ?_
    refine a_getI C 0 54 d_readBit_84 rfl rfl rfl (Nat.le_of_ble_eq_true rfl) f_M_305 (Nat.le_of_ble_eq_true rfl) ?_
    refine a_iconst (v := 1) C d_readBit_87 (by decide) ?_
    refine a_isub C d_readBit_88 ?_
    refine a_putI (ty := .int) C 0 54 d_readBit_89 rfl rfl rfl (Nat.le_of_ble_eq_true rfl) f_M_305 (Nat.le_of_ble_eq_true rfl) rfl rfl rfl rfl ?_
    refine aw_eq (lo' := _) (st' := _) (L' := [(0, ly_M, (o, ad, upd S.1 54 ((S.1 54) - 1), S.2.1, S.2.2))]) rfl rfl rfl ?_
    refine a_aload_n C d_readBit_92 rfl rfl ?_
    refine a_getI C 0 55 d_readBit_93 rfl rfl rfl (Nat.le_of_ble_eq_true rfl) f_M_311 (Nat.le_of_ble_eq_true rfl) ?_
    refine a_aload_n C d_readBit_96 rfl rfl ?_
    refine a_getI C 0 54 d_readBit_97 rfl rfl rfl (Nat.le_of_ble_eq_true rfl) f_M_305 (Nat.le_of_ble_eq_true rfl) ?_
    refine a_ishr C d_readBit_100 ?_
    refine a_iconst (v := 1) C d_readBit_101 (by decide) ?_
    refine a_iand C d_readBit_102 ?_
    exact a_iret (ty := .int) C hQ hA d_readBit_103 rfl rfl ⟨_, (upd S.1 54 ((S.1 54) - 1), S.2.1, S.2.2), hp, rfl, rfl⟩
  · have hp := hp.2 hc
    refine a_iconst (v := 0) C d_readBit_80 (by decide) ?_
    exact a_iret (ty := .int) C hQ hA d_readBit_81 rfl rfl ⟨_, S, hp, rfl, rfl⟩
set_option maxRecDepth 100000 in
set_option maxHeartbeats 1000000 in
theorem s_readBit_67 (C : fcx gG D z A X R_M c_M_readBit 3 (some .int)) (hQ : X.2.2.2.2.2.2.2.2.2.2 = eQ gG D z X.2.2.2.2.2.2.2.1 X.2.2.2.2.1 L0 0 0 (pM_i K o ad)) (hA : A = owA gG L0 X.2.2.2.2.1.heap.size) (hR : X.2.2.2.1 = { frames := 3, cells := 1, slots := 6, locals := 300 })  (S : ms) (hp : b_readBit_67  S K) : aw gG D z A X 3 67 [some (.ref o), none, none] [] [(0, ly_M, (o, ad, S.1, S.2.1, S.2.2))] 0 0 := by
  unfold b_readBit_67 at hp
  refine a_aload_n C d_readBit_67 rfl rfl ?_
  refine a_bipush (v := 8) C d_readBit_68 (by decide) ?_
  refine a_putI (ty := .int) C 0 54 d_readBit_70 rfl rfl rfl (Nat.le_of_ble_eq_true rfl) f_M_305 (Nat.le_of_ble_eq_true rfl) rfl rfl rfl rfl ?_
  refine aw_eq (lo' := _) (st' := _) (L' := [(0, ly_M, (o, ad, upd S.1 54 8, S.2.1, S.2.2))]) rfl rfl rfl ?_
  refine aw_lo (lo' := [some (.ref o), none, none]) ⟨.inr rfl, .inr rfl, .inr rfl, trivial⟩ ?_
  exact s_readBit_73 C hQ hA hR (upd S.1 54 8, S.2.1, S.2.2)  hp
set_option maxRecDepth 100000 in
set_option maxHeartbeats 1000000 in
theorem s_readBit_0 (C : fcx gG D z A X R_M c_M_readBit 3 (some .int)) (hQ : X.2.2.2.2.2.2.2.2.2.2 = eQ gG D z X.2.2.2.2.2.2.2.1 X.2.2.2.2.1 L0 0 0 (pM_i K o ad)) (hA : A = owA gG L0 X.2.2.2.2.1.heap.size) (hR : X.2.2.2.1 = { frames := 3, cells := 1, slots := 6, locals := 300 })  (S : ms) (hp : p_readBit  S K) : aw gG D z A X 3 0 [some (.ref o), none, none] [] [(0, ly_M, (o, ad, S.1, S.2.1, S.2.2))] 0 0 := by
  unfold p_readBit at hp
  refine a_aload_n C d_readBit_0 rfl rfl ?_
  refine a_getI C 0 54 d_readBit_1 rfl rfl rfl (Nat.le_of_ble_eq_true rfl) f_M_305 (Nat.le_of_ble_eq_true rfl) ?_
  refine a_if_ne (tgt := 73) C d_readBit_4 (by decide) ⟨fun hc => ?_, fun hc => ?_⟩
  · have hp := hp.1 hc
    refine aw_lo (lo' := [some (.ref o), none, none]) ⟨.inr rfl, .inr rfl, .inr rfl, trivial⟩ ?_
    exact s_readBit_73 C hQ hA hR S  hp
  · have hp := hp.2 hc
    refine a_aload_n C d_readBit_7 rfl rfl ?_
    refine a_aload_n C d_readBit_8 rfl rfl ?_
    refine a_getI C 0 34 d_readBit_9 rfl rfl rfl (Nat.le_of_ble_eq_true rfl) f_M_268 (Nat.le_of_ble_eq_true rfl) ?_
    refine a_putI (ty := .int) C 0 56 d_readBit_12 rfl rfl rfl (Nat.le_of_ble_eq_true rfl) f_M_308 (Nat.le_of_ble_eq_true rfl) rfl rfl rfl rfl ?_
    refine aw_eq (lo' := _) (st' := _) (L' := [(0, ly_M, (o, ad, upd S.1 56 (S.1 34), S.2.1, S.2.2))]) rfl rfl rfl ?_
    refine a_aload_n C d_readBit_15 rfl rfl ?_
    refine a_aload_n C d_readBit_16 rfl rfl ?_
    refine a_call (Lr := []) (rest := [.ref o]) (av := .ref o :: []) C [0] [] d_readBit_17 (ct_next (upd S.1 56 (S.1 34), S.2.1, S.2.2) hp) cd_M_next i_M (Nat.le_of_ble_eq_true rfl) (by rw [hR]; exact Nat.le_of_ble_eq_true rfl) (by rw [hR]; exact Nat.le_of_ble_eq_true rfl) (by rw [hR]; exact Nat.le_of_ble_eq_true rfl) (by rw [hR]; exact Nat.le_of_ble_eq_true rfl) rfl rfl (by decide) (by decide) (by decide) (inv_V C 0 d_readBit_17 l_M_281 im_M_next se_M_next cd_M_next ⟨by decide, by decide⟩ ln_M_next rfl rfl rfl rfl rfl) (fun oc L1 hL => ?_)
    obtain ⟨v17, S17, hp, rfl, rfl⟩ := hL
    refine ⟨_, rfl, ?_⟩
    refine aw_eq (lo' := _) (st' := [.int v17, .ref o]) (L' := [(0, ly_M, (o, ad, S17.1, S17.2.1, S17.2.2))]) rfl rfl rfl ?_
    refine a_putI (ty := .int) C 0 55 d_readBit_20 rfl rfl rfl (Nat.le_of_ble_eq_true rfl) f_M_311 (Nat.le_of_ble_eq_true rfl) rfl rfl rfl rfl ?_
    refine aw_eq (lo' := _) (st' := _) (L' := [(0, ly_M, (o, ad, upd S17.1 55 v17, S17.2.1, S17.2.2))]) rfl rfl rfl ?_
    refine a_aload_n C d_readBit_23 rfl rfl ?_
    refine a_getI C 0 35 d_readBit_24 rfl rfl rfl (Nat.le_of_ble_eq_true rfl) f_M_265 (Nat.le_of_ble_eq_true rfl) ?_
    refine a_if_ne (tgt := 67) C d_readBit_27 (by decide) ⟨fun hc => ?_, fun hc => ?_⟩
    · have hp := hp.1 hc
      refine aw_lo (lo' := [some (.ref o), none, none]) ⟨.inr rfl, .inr rfl, .inr rfl, trivial⟩ ?_
      exact s_readBit_67 C hQ hA hR (upd S17.1 55 v17, S17.2.1, S17.2.2)  hp
    · have hp := hp.2 hc
      refine a_aload_n C d_readBit_30 rfl rfl ?_
      refine a_getI C 0 55 d_readBit_31 rfl rfl rfl (Nat.le_of_ble_eq_true rfl) f_M_311 (Nat.le_of_ble_eq_true rfl) ?_
      refine a_sipush (v := 255) C d_readBit_34 (by decide) ?_
      refine a_icmp_ne (tgt := 67) C d_readBit_37 (by decide) ⟨fun hc => ?_, fun hc => ?_⟩
      · have hp := hp.1 hc
        refine aw_lo (lo' := [some (.ref o), none, none]) ⟨.inr rfl, .inr rfl, .inr rfl, trivial⟩ ?_
        exact s_readBit_67 C hQ hA hR (upd S17.1 55 v17, S17.2.1, S17.2.2)  hp
      · have hp := hp.2 hc
        refine a_aload_n C d_readBit_40 rfl rfl ?_
        refine a_call (Lr := []) (rest := []) (av := .ref o :: []) C [0] [] d_readBit_41 (ct_next (upd S17.1 55 v17, S17.2.1, S17.2.2) hp) cd_M_next i_M (Nat.le_of_ble_eq_true rfl) (by rw [hR]; exact Nat.le_of_ble_eq_true rfl) (by rw [hR]; exact Nat.le_of_ble_eq_true rfl) (by rw [hR]; exact Nat.le_of_ble_eq_true rfl) (by rw [hR]; exact Nat.le_of_ble_eq_true rfl) rfl rfl (by decide) (by decide) (by decide) (inv_V C 0 d_readBit_41 l_M_281 im_M_next se_M_next cd_M_next ⟨by decide, by decide⟩ ln_M_next rfl rfl rfl rfl rfl) (fun oc L1 hL => ?_)
        obtain ⟨v41, S41, hp, rfl, rfl⟩ := hL
        refine ⟨_, rfl, ?_⟩
        refine aw_eq (lo' := _) (st' := [.int v41]) (L' := [(0, ly_M, (o, ad, S41.1, S41.2.1, S41.2.2))]) rfl rfl rfl ?_
        refine a_istore_n (lo' := [some (.ref o), some (.int v41), none]) C d_readBit_44 rfl (by decide) rfl ?_
        refine a_aload_n C d_readBit_45 rfl rfl ?_
        refine a_getI C 0 35 d_readBit_46 rfl rfl rfl (Nat.le_of_ble_eq_true rfl) f_M_265 (Nat.le_of_ble_eq_true rfl) ?_
        refine a_if_ne (tgt := 67) C d_readBit_49 (by decide) ⟨fun hc => ?_, fun hc => ?_⟩
        · have hp := hp.1 hc
          refine aw_lo (lo' := [some (.ref o), none, none]) ⟨.inr rfl, .inl rfl, .inr rfl, trivial⟩ ?_
          exact s_readBit_67 C hQ hA hR (S41.1, S41.2.1, S41.2.2)  hp
        · have hp := hp.2 hc
          refine a_iload_n C d_readBit_52 rfl rfl ?_
          refine a_if_eq (tgt := 67) C d_readBit_53 (by decide) ⟨fun hc => ?_, fun hc => ?_⟩
          · have hp := hp.1 hc
            refine aw_lo (lo' := [some (.ref o), none, none]) ⟨.inr rfl, .inl rfl, .inr rfl, trivial⟩ ?_
            exact s_readBit_67 C hQ hA hR (S41.1, S41.2.1, S41.2.2)  hp
          · have hp := hp.2 hc
            refine a_aload_n C d_readBit_56 rfl rfl ?_
            refine a_bipush (v := 7) C d_readBit_57 (by decide) ?_
            refine a_aload_n C d_readBit_59 rfl rfl ?_
            refine a_getI C 0 56 d_readBit_60 rfl rfl rfl (Nat.le_of_ble_eq_true rfl) f_M_308 (Nat.le_of_ble_eq_true rfl) ?_
            refine a_call (Lr := []) (rest := []) (av := .ref o :: [.int 7, .int (S41.1 56)]) C [0] [] d_readBit_63 (ct_fail 7 (S41.1 56) (S41.1, S41.2.1, S41.2.2) hp) cd_M_fail i_M (Nat.le_of_ble_eq_true rfl) (by rw [hR]; exact Nat.le_of_ble_eq_true rfl) (by rw [hR]; exact Nat.le_of_ble_eq_true rfl) (by rw [hR]; exact Nat.le_of_ble_eq_true rfl) (by rw [hR]; exact Nat.le_of_ble_eq_true rfl) rfl rfl (by decide) (by decide) (by decide) (inv_V C 0 d_readBit_63 l_M_271 im_M_fail se_M_fail cd_M_fail ⟨by decide, by decide⟩ ln_M_fail rfl rfl rfl rfl rfl) (fun oc L1 hL => ?_)
            obtain ⟨v63, S63, hp, rfl, rfl⟩ := hL
            refine ⟨_, rfl, ?_⟩
            refine aw_eq (lo' := _) (st' := [.int v63]) (L' := [(0, ly_M, (o, ad, S63.1, S63.2.1, S63.2.2))]) rfl rfl rfl ?_
            refine a_istore_n (lo' := [some (.ref o), some (.int v41), some (.int v63)]) C d_readBit_66 rfl (by decide) rfl ?_
            refine aw_lo (lo' := [some (.ref o), none, none]) ⟨.inr rfl, .inl rfl, .inl rfl, trivial⟩ ?_
            exact s_readBit_67 C hQ hA hR (S63.1, S63.2.1, S63.2.2)  hp
end M_readBit
section M_readBitc
variable {D : va_G} {z : Nat → ClassId} {o : Nat} {ad : Nat → Nat}
set_option maxRecDepth 100000 in
theorem ct_readBit {l : Launch}  (S : ms) {K : Int32 → ms → Prop} (hp : p_readBit  S K) : ct gG D z l n_M_readBit c_M_readBit 3 (some .int) 3 300 [.ref o] [(0, ly_M, (o, ad, S.1, S.2.1, S.2.2))] 0 0 (pM_i K o ad) := by
  refine ct_of (lo := [some (.ref o), none, none]) (by decide) g_ok (Nat.le_of_ble_eq_true rfl) rfl ?_
  intro X A _ C hR hQ hA _
  exact s_readBit_0 C hQ hA hR  S hp
end M_readBitc
