def b_units_261 (x1 : Int32) (x2 : Int32) (x3 : Int32) (x6 : Int32) (x7 : Int32) (x8 : Int32) (x9 : Int32) (x10 : Int32) (x11 : Int32) (x12 : Int32) (x13 : Int32) (x14 : Int32) (S : ms) (R122 : Int32 → Int32 → Int32 → Int32 → Int32 → Int32 → ms → Prop) (R213 : Int32 → Int32 → Int32 → Int32 → Int32 → Int32 → Int32 → Int32 → Int32 → ms → Prop) (R261 : Int32 → Int32 → Int32 → Int32 → Int32 → Int32 → Int32 → Int32 → Int32 → Int32 → Int32 → Int32 → ms → Prop) (K : ms → Prop) : Prop :=
  ((x12 * x13) ≤ x14 → (R213 x1 x2 x3 x6 x7 x8 x9 x10 (x11 + 1) S)) ∧ (¬ ((x12 * x13) ≤ x14) → (¬ x12 = 0 ∧ (¬ x12 = 0 ∧ (vp_in x11 9 ∧ (p_tell x1 x11 ((((x10 * x13) + (x14 / x12)) * (S.2.1 17 x11.toNatClampNeg)) + ((x9 * x12) + (x14 - x14 / x12 * x12))) S (fun S314 => R261 x1 x2 x3 x6 x7 x8 x9 x10 x11 x12 x13 (x14 + 1) (S314.1, S314.2.1, S314.2.2)))))))
def e_units_261 (x1 : Int32) (x2 : Int32) (x3 : Int32) (x6 : Int32) (x7 : Int32) (x8 : Int32) (x9 : Int32) (x10 : Int32) (x11 : Int32) (x12 : Int32) (x13 : Int32) (x14 : Int32) (S : ms) (R122 : Int32 → Int32 → Int32 → Int32 → Int32 → Int32 → ms → Prop) (R213 : Int32 → Int32 → Int32 → Int32 → Int32 → Int32 → Int32 → Int32 → Int32 → ms → Prop) (K : ms → Prop) : Prop :=
  ∃ (I : Int32 → Int32 → Int32 → Int32 → Int32 → Int32 → Int32 → Int32 → Int32 → Int32 → Int32 → Int32 → ms → Prop) (μ : Int32 → Int32 → Int32 → Int32 → Int32 → Int32 → Int32 → Int32 → Int32 → Int32 → Int32 → Int32 → ms → Nat), I x1 x2 x3 x6 x7 x8 x9 x10 x11 x12 x13 x14 S ∧ ∀ yx1 yx2 yx3 yx6 yx7 yx8 yx9 yx10 yx11 yx12 yx13 yx14 yS, I yx1 yx2 yx3 yx6 yx7 yx8 yx9 yx10 yx11 yx12 yx13 yx14 yS → b_units_261 yx1 yx2 yx3 yx6 yx7 yx8 yx9 yx10 yx11 yx12 yx13 yx14 yS R122 R213 (fun zx1 zx2 zx3 zx6 zx7 zx8 zx9 zx10 zx11 zx12 zx13 zx14 zS => I zx1 zx2 zx3 zx6 zx7 zx8 zx9 zx10 zx11 zx12 zx13 zx14 zS ∧ μ zx1 zx2 zx3 zx6 zx7 zx8 zx9 zx10 zx11 zx12 zx13 zx14 zS < μ yx1 yx2 yx3 yx6 yx7 yx8 yx9 yx10 yx11 yx12 yx13 yx14 yS) K
def b_units_256 (x1 : Int32) (x2 : Int32) (x3 : Int32) (x6 : Int32) (x7 : Int32) (x8 : Int32) (x9 : Int32) (x10 : Int32) (x11 : Int32) (x12 : Int32) (s0 : Int32) (S : ms) (R122 : Int32 → Int32 → Int32 → Int32 → Int32 → Int32 → ms → Prop) (R213 : Int32 → Int32 → Int32 → Int32 → Int32 → Int32 → Int32 → Int32 → Int32 → ms → Prop) (K : ms → Prop) : Prop :=
  e_units_261 x1 x2 x3 x6 x7 x8 x9 x10 x11 x12 s0 0 S R122 R213 K
def b_units_239 (x1 : Int32) (x2 : Int32) (x3 : Int32) (x6 : Int32) (x7 : Int32) (x8 : Int32) (x9 : Int32) (x10 : Int32) (x11 : Int32) (s0 : Int32) (S : ms) (R122 : Int32 → Int32 → Int32 → Int32 → Int32 → Int32 → ms → Prop) (R213 : Int32 → Int32 → Int32 → Int32 → Int32 → Int32 → Int32 → Int32 → Int32 → ms → Prop) (K : ms → Prop) : Prop :=
  (x3 = 0 → (vp_in x11 9 ∧ (b_units_256 x1 x2 x3 x6 x7 x8 x9 x10 x11 s0 (S.2.1 16 x11.toNatClampNeg) S R122 R213 K))) ∧ (¬ (x3 = 0) → (b_units_256 x1 x2 x3 x6 x7 x8 x9 x10 x11 s0 1 S R122 R213 K))
def b_units_213 (x1 : Int32) (x2 : Int32) (x3 : Int32) (x6 : Int32) (x7 : Int32) (x8 : Int32) (x9 : Int32) (x10 : Int32) (x11 : Int32) (S : ms) (R122 : Int32 → Int32 → Int32 → Int32 → Int32 → Int32 → ms → Prop) (R213 : Int32 → Int32 → Int32 → Int32 → Int32 → Int32 → Int32 → Int32 → Int32 → ms → Prop) (K : ms → Prop) : Prop :=
  vp_in 0 3 ∧ (((S.2.1 14 (0 : Int32).toNatClampNeg) ≤ x11 → (R122 x1 x2 x3 x6 x7 (x8 + 1) S)) ∧ (¬ ((S.2.1 14 (0 : Int32).toNatClampNeg) ≤ x11) → ((x3 = 0 → (vp_in x11 9 ∧ (b_units_239 x1 x2 x3 x6 x7 x8 x9 x10 x11 (S.2.1 15 x11.toNatClampNeg) S R122 R213 K))) ∧ (¬ (x3 = 0) → (b_units_239 x1 x2 x3 x6 x7 x8 x9 x10 x11 1 S R122 R213 K)))))
def e_units_213 (x1 : Int32) (x2 : Int32) (x3 : Int32) (x6 : Int32) (x7 : Int32) (x8 : Int32) (x9 : Int32) (x10 : Int32) (x11 : Int32) (S : ms) (R122 : Int32 → Int32 → Int32 → Int32 → Int32 → Int32 → ms → Prop) (K : ms → Prop) : Prop :=
  ∃ (I : Int32 → Int32 → Int32 → Int32 → Int32 → Int32 → Int32 → Int32 → Int32 → ms → Prop) (μ : Int32 → Int32 → Int32 → Int32 → Int32 → Int32 → Int32 → Int32 → Int32 → ms → Nat), I x1 x2 x3 x6 x7 x8 x9 x10 x11 S ∧ ∀ yx1 yx2 yx3 yx6 yx7 yx8 yx9 yx10 yx11 yS, I yx1 yx2 yx3 yx6 yx7 yx8 yx9 yx10 yx11 yS → b_units_213 yx1 yx2 yx3 yx6 yx7 yx8 yx9 yx10 yx11 yS R122 (fun zx1 zx2 zx3 zx6 zx7 zx8 zx9 zx10 zx11 zS => I zx1 zx2 zx3 zx6 zx7 zx8 zx9 zx10 zx11 zS ∧ μ zx1 zx2 zx3 zx6 zx7 zx8 zx9 zx10 zx11 zS < μ yx1 yx2 yx3 yx6 yx7 yx8 yx9 yx10 yx11 yS) K
def b_units_196 (x1 : Int32) (x2 : Int32) (x3 : Int32) (x6 : Int32) (x7 : Int32) (x8 : Int32) (S : ms) (R122 : Int32 → Int32 → Int32 → Int32 → Int32 → Int32 → ms → Prop) (K : ms → Prop) : Prop :=
  ¬ x6 = 0 ∧ (¬ x6 = 0 ∧ (e_units_213 x1 x2 x3 x6 x7 x8 (x8 - x8 / x6 * x6) (x8 / x6) 0 S R122 K))
def b_units_176 (x1 : Int32) (x2 : Int32) (x3 : Int32) (x6 : Int32) (x7 : Int32) (x8 : Int32) (x9 : Int32) (S : ms) (R122 : Int32 → Int32 → Int32 → Int32 → Int32 → Int32 → ms → Prop) (R176 : Int32 → Int32 → Int32 → Int32 → Int32 → Int32 → Int32 → ms → Prop) (K : ms → Prop) : Prop :=
  (3 ≤ x9 → (b_units_196 x1 x2 x3 x6 x7 x8 S R122 K)) ∧ (¬ (3 ≤ x9) → (vp_in x9 3 ∧ (R176 x1 x2 x3 x6 x7 x8 (x9 + 1) (S.1, va_up S.2.1 53 (upd (S.2.1 53) x9.toNatClampNeg 0), S.2.2))))
def e_units_176 (x1 : Int32) (x2 : Int32) (x3 : Int32) (x6 : Int32) (x7 : Int32) (x8 : Int32) (x9 : Int32) (S : ms) (R122 : Int32 → Int32 → Int32 → Int32 → Int32 → Int32 → ms → Prop) (K : ms → Prop) : Prop :=
  ∃ (I : Int32 → Int32 → Int32 → Int32 → Int32 → Int32 → Int32 → ms → Prop) (μ : Int32 → Int32 → Int32 → Int32 → Int32 → Int32 → Int32 → ms → Nat), I x1 x2 x3 x6 x7 x8 x9 S ∧ ∀ yx1 yx2 yx3 yx6 yx7 yx8 yx9 yS, I yx1 yx2 yx3 yx6 yx7 yx8 yx9 yS → b_units_176 yx1 yx2 yx3 yx6 yx7 yx8 yx9 yS R122 (fun zx1 zx2 zx3 zx6 zx7 zx8 zx9 zS => I zx1 zx2 zx3 zx6 zx7 zx8 zx9 zS ∧ μ zx1 zx2 zx3 zx6 zx7 zx8 zx9 zS < μ yx1 yx2 yx3 yx6 yx7 yx8 yx9 yS) K
def b_units_173 (x1 : Int32) (x2 : Int32) (x3 : Int32) (x6 : Int32) (x7 : Int32) (x8 : Int32) (S : ms) (R122 : Int32 → Int32 → Int32 → Int32 → Int32 → Int32 → ms → Prop) (K : ms → Prop) : Prop :=
  e_units_176 x1 x2 x3 x6 x7 x8 0 S R122 K
def b_units_122 (x1 : Int32) (x2 : Int32) (x3 : Int32) (x6 : Int32) (x7 : Int32) (x8 : Int32) (S : ms) (R122 : Int32 → Int32 → Int32 → Int32 → Int32 → Int32 → ms → Prop) (K : ms → Prop) : Prop :=
  ((x6 * x7) ≤ x8 → (K S)) ∧ (¬ ((x6 * x7) ≤ x8) → ((x2 ≤ 0 → (b_units_196 x1 x2 x3 x6 x7 x8 S R122 K)) ∧ (¬ (x2 ≤ 0) → ((x8 ≤ 0 → (b_units_196 x1 x2 x3 x6 x7 x8 S R122 K)) ∧ (¬ (x8 ≤ 0) → (¬ x2 = 0 ∧ ((¬ (x8 - x8 / x2 * x2) = 0 → (b_units_196 x1 x2 x3 x6 x7 x8 S R122 K)) ∧ ((x8 - x8 / x2 * x2) = 0 → ((¬ x1 = 0 → (b_units_173 x1 x2 x3 x6 x7 x8 S R122 K)) ∧ (x1 = 0 → (p_fillUp S (fun S153 => ¬ x2 = 0 ∧ (p_mark (208 + (((x8 / x2) - 1) - ((x8 / x2) - 1) / 8 * 8)) (S153.1, S153.2.1, S153.2.2) (fun S170 => b_units_173 x1 x2 x3 x6 x7 x8 (S170.1, S170.2.1, S170.2.2) R122 K))))))))))))))
def e_units_122 (x1 : Int32) (x2 : Int32) (x3 : Int32) (x6 : Int32) (x7 : Int32) (x8 : Int32) (S : ms) (K : ms → Prop) : Prop :=
  ∃ (I : Int32 → Int32 → Int32 → Int32 → Int32 → Int32 → ms → Prop) (μ : Int32 → Int32 → Int32 → Int32 → Int32 → Int32 → ms → Nat), I x1 x2 x3 x6 x7 x8 S ∧ ∀ yx1 yx2 yx3 yx6 yx7 yx8 yS, I yx1 yx2 yx3 yx6 yx7 yx8 yS → b_units_122 yx1 yx2 yx3 yx6 yx7 yx8 yS (fun zx1 zx2 zx3 zx6 zx7 zx8 zS => I zx1 zx2 zx3 zx6 zx7 zx8 zS ∧ μ zx1 zx2 zx3 zx6 zx7 zx8 zS < μ yx1 yx2 yx3 yx6 yx7 yx8 yS) K
def b_units_99 (x1 : Int32) (x2 : Int32) (x3 : Int32) (x6 : Int32) (x7 : Int32) (x8 : Int32) (S : ms) (R99 : Int32 → Int32 → Int32 → Int32 → Int32 → Int32 → ms → Prop) (K : ms → Prop) : Prop :=
  (3 ≤ x8 → (e_units_122 x1 x2 x3 x6 x7 0 S K)) ∧ (¬ (3 ≤ x8) → (vp_in x8 3 ∧ (R99 x1 x2 x3 x6 x7 (x8 + 1) (S.1, va_up S.2.1 53 (upd (S.2.1 53) x8.toNatClampNeg 0), S.2.2))))
def e_units_99 (x1 : Int32) (x2 : Int32) (x3 : Int32) (x6 : Int32) (x7 : Int32) (x8 : Int32) (S : ms) (K : ms → Prop) : Prop :=
  ∃ (I : Int32 → Int32 → Int32 → Int32 → Int32 → Int32 → ms → Prop) (μ : Int32 → Int32 → Int32 → Int32 → Int32 → Int32 → ms → Nat), I x1 x2 x3 x6 x7 x8 S ∧ ∀ yx1 yx2 yx3 yx6 yx7 yx8 yS, I yx1 yx2 yx3 yx6 yx7 yx8 yS → b_units_99 yx1 yx2 yx3 yx6 yx7 yx8 yS (fun zx1 zx2 zx3 zx6 zx7 zx8 zS => I zx1 zx2 zx3 zx6 zx7 zx8 zS ∧ μ zx1 zx2 zx3 zx6 zx7 zx8 zS < μ yx1 yx2 yx3 yx6 yx7 yx8 yS) K
def b_units_94 (x1 : Int32) (x2 : Int32) (x3 : Int32) (x6 : Int32) (s0 : Int32) (S : ms) (K : ms → Prop) : Prop :=
  e_units_99 x1 x2 x3 x6 s0 0 S K
def b_units_62 (x1 : Int32) (x2 : Int32) (x3 : Int32) (x5 : Int32) (s0 : Int32) (S : ms) (K : ms → Prop) : Prop :=
  (x3 = 0 → (p_upward (S.1 2) (8 * x5) (fun v91 => b_units_94 x1 x2 x3 s0 v91 S K))) ∧ (¬ (x3 = 0) → (p_layerHigh 0 0 S (fun v71 S71 => p_upward v71 8 (fun v76 => b_units_94 x1 x2 x3 s0 v76 (S71.1, S71.2.1, S71.2.2) K))))
def b_units_15 (x1 : Int32) (x2 : Int32) (s0 : Int32) (S : ms) (K : ms → Prop) : Prop :=
  p_greatest 0 1 S (fun v19 S19 => p_greatest 0 0 (S19.1, S19.2.1, S19.2.2) (fun v27 S27 => (s0 = 0 → (p_upward (S27.1 1) (8 * v19) (fun v59 => b_units_62 x1 x2 s0 v27 v59 (S27.1, S27.2.1, S27.2.2) K))) ∧ (¬ (s0 = 0) → (p_layerWide 0 0 (S27.1, S27.2.1, S27.2.2) (fun v39 S39 => p_upward v39 8 (fun v44 => b_units_62 x1 x2 s0 v27 v44 (S39.1, S39.2.1, S39.2.2) K))))))
def p_units (x1 : Int32) (x2 : Int32) (S : ms) (K : ms → Prop) : Prop :=
  vp_in 0 3 ∧ ((¬ (S.2.1 14 (0 : Int32).toNatClampNeg) = 1 → (b_units_15 x1 x2 0 S K)) ∧ ((S.2.1 14 (0 : Int32).toNatClampNeg) = 1 → (b_units_15 x1 x2 1 S K)))
section M_units
variable {D : va_G} {z : Nat → ClassId} {A : Nat → Prop} {X : cx} {L0 : fw} {K : ms → Prop} {o : Nat} {ad : Nat → Nat}
set_option maxRecDepth 100000 in
set_option maxHeartbeats 1000000 in
theorem s_units_261 (C : fcx gG D z A X R_M c_M_units 17 (none)) (hQ : X.2.2.2.2.2.2.2.2.2.2 = eQ gG D z X.2.2.2.2.2.2.2.1 X.2.2.2.2.1 L0 0 0 (pM_v K o ad)) (hA : A = owA gG L0 X.2.2.2.2.1.heap.size) (hR : X.2.2.2.1 = { frames := 5, cells := 1, slots := 6, locals := 500 }) (x1 : Int32) (x2 : Int32) (x3 : Int32) (x6 : Int32) (x7 : Int32) (x8 : Int32) (x9 : Int32) (x10 : Int32) (x11 : Int32) (x12 : Int32) (x13 : Int32) (x14 : Int32) (S : ms) (R122 : Int32 → Int32 → Int32 → Int32 → Int32 → Int32 → ms → Prop) (hR122 : ∀ yx1 yx2 yx3 yx6 yx7 yx8 yS, R122 yx1 yx2 yx3 yx6 yx7 yx8 yS → aw gG D z A X 17 122 [some (.ref o), some (.int yx1), some (.int yx2), some (.int yx3), none, none, some (.int yx6), some (.int yx7), some (.int yx8), none, none, none, none, none, none, none, none] [] [(0, ly_M, (o, ad, yS.1, yS.2.1, yS.2.2))] 0 0) (R213 : Int32 → Int32 → Int32 → Int32 → Int32 → Int32 → Int32 → Int32 → Int32 → ms → Prop) (hR213 : ∀ yx1 yx2 yx3 yx6 yx7 yx8 yx9 yx10 yx11 yS, R213 yx1 yx2 yx3 yx6 yx7 yx8 yx9 yx10 yx11 yS → aw gG D z A X 17 213 [some (.ref o), some (.int yx1), some (.int yx2), some (.int yx3), none, none, some (.int yx6), some (.int yx7), some (.int yx8), some (.int yx9), some (.int yx10), some (.int yx11), none, none, none, none, none] [] [(0, ly_M, (o, ad, yS.1, yS.2.1, yS.2.2))] 0 0) (R261 : Int32 → Int32 → Int32 → Int32 → Int32 → Int32 → Int32 → Int32 → Int32 → Int32 → Int32 → Int32 → ms → Prop) (hR261 : ∀ yx1 yx2 yx3 yx6 yx7 yx8 yx9 yx10 yx11 yx12 yx13 yx14 yS, R261 yx1 yx2 yx3 yx6 yx7 yx8 yx9 yx10 yx11 yx12 yx13 yx14 yS → aw gG D z A X 17 261 [some (.ref o), some (.int yx1), some (.int yx2), some (.int yx3), none, none, some (.int yx6), some (.int yx7), some (.int yx8), some (.int yx9), some (.int yx10), some (.int yx11), some (.int yx12), some (.int yx13), some (.int yx14), none, none] [] [(0, ly_M, (o, ad, yS.1, yS.2.1, yS.2.2))] 0 0) (hp : b_units_261 x1 x2 x3 x6 x7 x8 x9 x10 x11 x12 x13 x14 S R122 R213 R261 K) : aw gG D z A X 17 261 [some (.ref o), some (.int x1), some (.int x2), some (.int x3), none, none, some (.int x6), some (.int x7), some (.int x8), some (.int x9), some (.int x10), some (.int x11), some (.int x12), some (.int x13), some (.int x14), none, none] [] [(0, ly_M, (o, ad, S.1, S.2.1, S.2.2))] 0 0 := by
  unfold b_units_261 at hp
  refine a_iload C d_units_261 rfl ?_
  refine a_iload C d_units_263 rfl ?_
  refine a_iload C d_units_265 rfl ?_
  refine a_imul C d_units_267 ?_
  refine a_icmp_ge (tgt := 323) C d_units_268 (by decide) ⟨fun hc => ?_, fun hc => ?_⟩
  · have hp := hp.1 hc
    refine a_iinc (v := x11 + 1) (lo' := [some (.ref o), some (.int x1), some (.int x2), some (.int x3), none, none, some (.int x6), some (.int x7), some (.int x8), some (.int x9), some (.int x10), some (.int (x11 + 1)), some (.int x12), some (.int x13), some (.int x14), none, none]) C d_units_323 rfl rfl (by decide) rfl ?_
    refine a_goto (tgt := 213) C d_units_326 (by decide) ?_
    refine aw_lo (lo' := [some (.ref o), some (.int x1), some (.int x2), some (.int x3), none, none, some (.int x6), some (.int x7), some (.int x8), some (.int x9), some (.int x10), some (.int (x11 + 1)), none, none, none, none, none]) ⟨.inr rfl, .inr rfl, .inr rfl, .inr rfl, .inr rfl, .inr rfl, .inr rfl, .inr rfl, .inr rfl, .inr rfl, .inr rfl, .inr rfl, .inl rfl, .inl rfl, .inl rfl, .inr rfl, .inr rfl, trivial⟩ ?_
    exact hR213 x1 x2 x3 x6 x7 x8 x9 x10 (x11 + 1) S hp
  · have hp := hp.2 hc
    refine a_iload C d_units_271 rfl ?_
    refine a_iload C d_units_273 rfl ?_
    refine a_imul C d_units_275 ?_
    refine a_iload C d_units_276 rfl ?_
    refine a_iload C d_units_278 rfl ?_
    refine a_irem C d_units_280 hp.1 ?_
    have hp := hp.2
    refine a_iadd C d_units_281 ?_
    refine a_istore (lo' := [some (.ref o), some (.int x1), some (.int x2), some (.int x3), none, none, some (.int x6), some (.int x7), some (.int x8), some (.int x9), some (.int x10), some (.int x11), some (.int x12), some (.int x13), some (.int x14), some (.int ((x9 * x12) + (x14 - x14 / x12 * x12))), none]) C d_units_282 (by decide) rfl ?_
    refine a_iload C d_units_284 rfl ?_
    refine a_iload C d_units_286 rfl ?_
    refine a_imul C d_units_288 ?_
    refine a_iload C d_units_289 rfl ?_
    refine a_iload C d_units_291 rfl ?_
    refine a_idiv C d_units_293 hp.1 ?_
    have hp := hp.2
    refine a_iadd C d_units_294 ?_
    refine a_istore (lo' := [some (.ref o), some (.int x1), some (.int x2), some (.int x3), none, none, some (.int x6), some (.int x7), some (.int x8), some (.int x9), some (.int x10), some (.int x11), some (.int x12), some (.int x13), some (.int x14), some (.int ((x9 * x12) + (x14 - x14 / x12 * x12))), some (.int ((x10 * x13) + (x14 / x12)))]) C d_units_295 (by decide) rfl ?_
    refine a_aload_n C d_units_297 rfl rfl ?_
    refine a_iload_n C d_units_298 rfl rfl ?_
    refine a_iload C d_units_299 rfl ?_
    refine a_iload C d_units_301 rfl ?_
    refine a_aload_n C d_units_303 rfl rfl ?_
    refine a_getR C 0 17 d_units_304 rfl rfl rfl (Nat.le_of_ble_eq_true rfl) f_M_56 ⟨Nat.le_of_ble_eq_true rfl, Nat.le_of_ble_eq_true rfl⟩ ?_
    refine a_iload C d_units_307 rfl ?_
    refine a_iald C 0 17 d_units_309 rfl rfl rfl hp.1 ?_
    have hp := hp.2
    refine a_imul C d_units_310 ?_
    refine a_iload C d_units_311 rfl ?_
    refine a_iadd C d_units_313 ?_
    refine a_call (Lr := []) (rest := []) (av := .ref o :: [.int x1, .int x11, .int ((((x10 * x13) + (x14 / x12)) * (S.2.1 17 x11.toNatClampNeg)) + ((x9 * x12) + (x14 - x14 / x12 * x12)))]) C [0] [] d_units_314 (ct_tell x1 x11 ((((x10 * x13) + (x14 / x12)) * (S.2.1 17 x11.toNatClampNeg)) + ((x9 * x12) + (x14 - x14 / x12 * x12))) S hp) cd_M_tell i_M (Nat.le_of_ble_eq_true rfl) (by rw [hR]; exact Nat.le_of_ble_eq_true rfl) (by rw [hR]; exact Nat.le_of_ble_eq_true rfl) (by rw [hR]; exact Nat.le_of_ble_eq_true rfl) (by rw [hR]; exact Nat.le_of_ble_eq_true rfl) rfl rfl (by decide) (by decide) (by decide) (inv_V C 0 d_units_314 l_M_230 im_M_tell se_M_tell cd_M_tell ⟨by decide, by decide⟩ ln_M_tell rfl rfl rfl rfl rfl) (fun oc L1 hL => ?_)
    obtain ⟨S314, hp, rfl, rfl⟩ := hL
    refine ⟨_, rfl, ?_⟩
    refine aw_eq (lo' := _) (st' := []) (L' := [(0, ly_M, (o, ad, S314.1, S314.2.1, S314.2.2))]) rfl rfl rfl ?_
    refine a_iinc (v := x14 + 1) (lo' := [some (.ref o), some (.int x1), some (.int x2), some (.int x3), none, none, some (.int x6), some (.int x7), some (.int x8), some (.int x9), some (.int x10), some (.int x11), some (.int x12), some (.int x13), some (.int (x14 + 1)), some (.int ((x9 * x12) + (x14 - x14 / x12 * x12))), some (.int ((x10 * x13) + (x14 / x12)))]) C d_units_317 rfl rfl (by decide) rfl ?_
    refine a_goto (tgt := 261) C d_units_320 (by decide) ?_
    refine aw_lo (lo' := [some (.ref o), some (.int x1), some (.int x2), some (.int x3), none, none, some (.int x6), some (.int x7), some (.int x8), some (.int x9), some (.int x10), some (.int x11), some (.int x12), some (.int x13), some (.int (x14 + 1)), none, none]) ⟨.inr rfl, .inr rfl, .inr rfl, .inr rfl, .inr rfl, .inr rfl, .inr rfl, .inr rfl, .inr rfl, .inr rfl, .inr rfl, .inr rfl, .inr rfl, .inr rfl, .inr rfl, .inl rfl, .inl rfl, trivial⟩ ?_
    exact hR261 x1 x2 x3 x6 x7 x8 x9 x10 x11 x12 x13 (x14 + 1) (S314.1, S314.2.1, S314.2.2) hp
set_option maxRecDepth 100000 in
set_option maxHeartbeats 1000000 in
theorem se_units_261 (C : fcx gG D z A X R_M c_M_units 17 (none)) (hQ : X.2.2.2.2.2.2.2.2.2.2 = eQ gG D z X.2.2.2.2.2.2.2.1 X.2.2.2.2.1 L0 0 0 (pM_v K o ad)) (hA : A = owA gG L0 X.2.2.2.2.1.heap.size) (hR : X.2.2.2.1 = { frames := 5, cells := 1, slots := 6, locals := 500 }) (x1 : Int32) (x2 : Int32) (x3 : Int32) (x6 : Int32) (x7 : Int32) (x8 : Int32) (x9 : Int32) (x10 : Int32) (x11 : Int32) (x12 : Int32) (x13 : Int32) (x14 : Int32) (S : ms) (R122 : Int32 → Int32 → Int32 → Int32 → Int32 → Int32 → ms → Prop) (hR122 : ∀ yx1 yx2 yx3 yx6 yx7 yx8 yS, R122 yx1 yx2 yx3 yx6 yx7 yx8 yS → aw gG D z A X 17 122 [some (.ref o), some (.int yx1), some (.int yx2), some (.int yx3), none, none, some (.int yx6), some (.int yx7), some (.int yx8), none, none, none, none, none, none, none, none] [] [(0, ly_M, (o, ad, yS.1, yS.2.1, yS.2.2))] 0 0) (R213 : Int32 → Int32 → Int32 → Int32 → Int32 → Int32 → Int32 → Int32 → Int32 → ms → Prop) (hR213 : ∀ yx1 yx2 yx3 yx6 yx7 yx8 yx9 yx10 yx11 yS, R213 yx1 yx2 yx3 yx6 yx7 yx8 yx9 yx10 yx11 yS → aw gG D z A X 17 213 [some (.ref o), some (.int yx1), some (.int yx2), some (.int yx3), none, none, some (.int yx6), some (.int yx7), some (.int yx8), some (.int yx9), some (.int yx10), some (.int yx11), none, none, none, none, none] [] [(0, ly_M, (o, ad, yS.1, yS.2.1, yS.2.2))] 0 0) (hp : e_units_261 x1 x2 x3 x6 x7 x8 x9 x10 x11 x12 x13 x14 S R122 R213 K) : aw gG D z A X 17 261 [some (.ref o), some (.int x1), some (.int x2), some (.int x3), none, none, some (.int x6), some (.int x7), some (.int x8), some (.int x9), some (.int x10), some (.int x11), some (.int x12), some (.int x13), some (.int x14), none, none] [] [(0, ly_M, (o, ad, S.1, S.2.1, S.2.2))] 0 0 := by
  obtain ⟨I, μ, h0, hs⟩ := hp
  have key : ∀ (n : Nat) (yx1 : Int32) (yx2 : Int32) (yx3 : Int32) (yx6 : Int32) (yx7 : Int32) (yx8 : Int32) (yx9 : Int32) (yx10 : Int32) (yx11 : Int32) (yx12 : Int32) (yx13 : Int32) (yx14 : Int32) (yS : ms), μ yx1 yx2 yx3 yx6 yx7 yx8 yx9 yx10 yx11 yx12 yx13 yx14 yS < n → I yx1 yx2 yx3 yx6 yx7 yx8 yx9 yx10 yx11 yx12 yx13 yx14 yS → aw gG D z A X 17 261 [some (.ref o), some (.int yx1), some (.int yx2), some (.int yx3), none, none, some (.int yx6), some (.int yx7), some (.int yx8), some (.int yx9), some (.int yx10), some (.int yx11), some (.int yx12), some (.int yx13), some (.int yx14), none, none] [] [(0, ly_M, (o, ad, yS.1, yS.2.1, yS.2.2))] 0 0 := by
    intro n
    induction n with
    | zero => intro yx1 yx2 yx3 yx6 yx7 yx8 yx9 yx10 yx11 yx12 yx13 yx14 yS h; omega
    | succ n ih =>
      intro yx1 yx2 yx3 yx6 yx7 yx8 yx9 yx10 yx11 yx12 yx13 yx14 yS hn hI
      exact s_units_261 C hQ hA hR yx1 yx2 yx3 yx6 yx7 yx8 yx9 yx10 yx11 yx12 yx13 yx14 yS R122 hR122 R213 hR213 _ (fun zx1 zx2 zx3 zx6 zx7 zx8 zx9 zx10 zx11 zx12 zx13 zx14 zS hw => ih zx1 zx2 zx3 zx6 zx7 zx8 zx9 zx10 zx11 zx12 zx13 zx14 zS (by omega) hw.1) (hs yx1 yx2 yx3 yx6 yx7 yx8 yx9 yx10 yx11 yx12 yx13 yx14 yS hI)
  exact key (μ x1 x2 x3 x6 x7 x8 x9 x10 x11 x12 x13 x14 S + 1) x1 x2 x3 x6 x7 x8 x9 x10 x11 x12 x13 x14 S (Nat.lt_succ_self _) h0
set_option maxRecDepth 100000 in
set_option maxHeartbeats 1000000 in
theorem s_units_256 (C : fcx gG D z A X R_M c_M_units 17 (none)) (hQ : X.2.2.2.2.2.2.2.2.2.2 = eQ gG D z X.2.2.2.2.2.2.2.1 X.2.2.2.2.1 L0 0 0 (pM_v K o ad)) (hA : A = owA gG L0 X.2.2.2.2.1.heap.size) (hR : X.2.2.2.1 = { frames := 5, cells := 1, slots := 6, locals := 500 }) (x1 : Int32) (x2 : Int32) (x3 : Int32) (x6 : Int32) (x7 : Int32) (x8 : Int32) (x9 : Int32) (x10 : Int32) (x11 : Int32) (x12 : Int32) (s0 : Int32) (S : ms) (R122 : Int32 → Int32 → Int32 → Int32 → Int32 → Int32 → ms → Prop) (hR122 : ∀ yx1 yx2 yx3 yx6 yx7 yx8 yS, R122 yx1 yx2 yx3 yx6 yx7 yx8 yS → aw gG D z A X 17 122 [some (.ref o), some (.int yx1), some (.int yx2), some (.int yx3), none, none, some (.int yx6), some (.int yx7), some (.int yx8), none, none, none, none, none, none, none, none] [] [(0, ly_M, (o, ad, yS.1, yS.2.1, yS.2.2))] 0 0) (R213 : Int32 → Int32 → Int32 → Int32 → Int32 → Int32 → Int32 → Int32 → Int32 → ms → Prop) (hR213 : ∀ yx1 yx2 yx3 yx6 yx7 yx8 yx9 yx10 yx11 yS, R213 yx1 yx2 yx3 yx6 yx7 yx8 yx9 yx10 yx11 yS → aw gG D z A X 17 213 [some (.ref o), some (.int yx1), some (.int yx2), some (.int yx3), none, none, some (.int yx6), some (.int yx7), some (.int yx8), some (.int yx9), some (.int yx10), some (.int yx11), none, none, none, none, none] [] [(0, ly_M, (o, ad, yS.1, yS.2.1, yS.2.2))] 0 0) (hp : b_units_256 x1 x2 x3 x6 x7 x8 x9 x10 x11 x12 s0 S R122 R213 K) : aw gG D z A X 17 256 [some (.ref o), some (.int x1), some (.int x2), some (.int x3), none, none, some (.int x6), some (.int x7), some (.int x8), some (.int x9), some (.int x10), some (.int x11), some (.int x12), none, none, none, none] [.int s0] [(0, ly_M, (o, ad, S.1, S.2.1, S.2.2))] 0 0 := by
  unfold b_units_256 at hp
  refine a_istore (lo' := [some (.ref o), some (.int x1), some (.int x2), some (.int x3), none, none, some (.int x6), some (.int x7), some (.int x8), some (.int x9), some (.int x10), some (.int x11), some (.int x12), some (.int s0), none, none, none]) C d_units_256 (by decide) rfl ?_
  refine a_iconst (v := 0) C d_units_258 (by decide) ?_
  refine a_istore (lo' := [some (.ref o), some (.int x1), some (.int x2), some (.int x3), none, none, some (.int x6), some (.int x7), some (.int x8), some (.int x9), some (.int x10), some (.int x11), some (.int x12), some (.int s0), some (.int 0), none, none]) C d_units_259 (by decide) rfl ?_
  refine aw_lo (lo' := [some (.ref o), some (.int x1), some (.int x2), some (.int x3), none, none, some (.int x6), some (.int x7), some (.int x8), some (.int x9), some (.int x10), some (.int x11), some (.int x12), some (.int s0), some (.int 0), none, none]) ⟨.inr rfl, .inr rfl, .inr rfl, .inr rfl, .inr rfl, .inr rfl, .inr rfl, .inr rfl, .inr rfl, .inr rfl, .inr rfl, .inr rfl, .inr rfl, .inr rfl, .inr rfl, .inr rfl, .inr rfl, trivial⟩ ?_
  exact se_units_261 C hQ hA hR x1 x2 x3 x6 x7 x8 x9 x10 x11 x12 s0 0 S R122 hR122 R213 hR213 hp
set_option maxRecDepth 100000 in
set_option maxHeartbeats 1000000 in
theorem s_units_239 (C : fcx gG D z A X R_M c_M_units 17 (none)) (hQ : X.2.2.2.2.2.2.2.2.2.2 = eQ gG D z X.2.2.2.2.2.2.2.1 X.2.2.2.2.1 L0 0 0 (pM_v K o ad)) (hA : A = owA gG L0 X.2.2.2.2.1.heap.size) (hR : X.2.2.2.1 = { frames := 5, cells := 1, slots := 6, locals := 500 }) (x1 : Int32) (x2 : Int32) (x3 : Int32) (x6 : Int32) (x7 : Int32) (x8 : Int32) (x9 : Int32) (x10 : Int32) (x11 : Int32) (s0 : Int32) (S : ms) (R122 : Int32 → Int32 → Int32 → Int32 → Int32 → Int32 → ms → Prop) (hR122 : ∀ yx1 yx2 yx3 yx6 yx7 yx8 yS, R122 yx1 yx2 yx3 yx6 yx7 yx8 yS → aw gG D z A X 17 122 [some (.ref o), some (.int yx1), some (.int yx2), some (.int yx3), none, none, some (.int yx6), some (.int yx7), some (.int yx8), none, none, none, none, none, none, none, none] [] [(0, ly_M, (o, ad, yS.1, yS.2.1, yS.2.2))] 0 0) (R213 : Int32 → Int32 → Int32 → Int32 → Int32 → Int32 → Int32 → Int32 → Int32 → ms → Prop) (hR213 : ∀ yx1 yx2 yx3 yx6 yx7 yx8 yx9 yx10 yx11 yS, R213 yx1 yx2 yx3 yx6 yx7 yx8 yx9 yx10 yx11 yS → aw gG D z A X 17 213 [some (.ref o), some (.int yx1), some (.int yx2), some (.int yx3), none, none, some (.int yx6), some (.int yx7), some (.int yx8), some (.int yx9), some (.int yx10), some (.int yx11), none, none, none, none, none] [] [(0, ly_M, (o, ad, yS.1, yS.2.1, yS.2.2))] 0 0) (hp : b_units_239 x1 x2 x3 x6 x7 x8 x9 x10 x11 s0 S R122 R213 K) : aw gG D z A X 17 239 [some (.ref o), some (.int x1), some (.int x2), some (.int x3), none, none, some (.int x6), some (.int x7), some (.int x8), some (.int x9), some (.int x10), some (.int x11), none, none, none, none, none] [.int s0] [(0, ly_M, (o, ad, S.1, S.2.1, S.2.2))] 0 0 := by
  unfold b_units_239 at hp
  refine a_istore (lo' := [some (.ref o), some (.int x1), some (.int x2), some (.int x3), none, none, some (.int x6), some (.int x7), some (.int x8), some (.int x9), some (.int x10), some (.int x11), some (.int s0), none, none, none, none]) C d_units_239 (by decide) rfl ?_
  refine a_iload_n C d_units_241 rfl rfl ?_
  refine a_if_eq (tgt := 249) C d_units_242 (by decide) ⟨fun hc => ?_, fun hc => ?_⟩
  · have hp := hp.1 hc
    refine a_aload_n C d_units_249 rfl rfl ?_
    refine a_getR C 0 16 d_units_250 rfl rfl rfl (Nat.le_of_ble_eq_true rfl) f_M_53 ⟨Nat.le_of_ble_eq_true rfl, Nat.le_of_ble_eq_true rfl⟩ ?_
    refine a_iload C d_units_253 rfl ?_
    refine a_iald C 0 16 d_units_255 rfl rfl rfl hp.1 ?_
    have hp := hp.2
    refine aw_lo (lo' := [some (.ref o), some (.int x1), some (.int x2), some (.int x3), none, none, some (.int x6), some (.int x7), some (.int x8), some (.int x9), some (.int x10), some (.int x11), some (.int s0), none, none, none, none]) ⟨.inr rfl, .inr rfl, .inr rfl, .inr rfl, .inr rfl, .inr rfl, .inr rfl, .inr rfl, .inr rfl, .inr rfl, .inr rfl, .inr rfl, .inr rfl, .inr rfl, .inr rfl, .inr rfl, .inr rfl, trivial⟩ ?_
    exact s_units_256 C hQ hA hR x1 x2 x3 x6 x7 x8 x9 x10 x11 s0 (S.2.1 16 x11.toNatClampNeg) S R122 hR122 R213 hR213 hp
  · have hp := hp.2 hc
    refine a_iconst (v := 1) C d_units_245 (by decide) ?_
    refine a_goto (tgt := 256) C d_units_246 (by decide) ?_
    refine aw_lo (lo' := [some (.ref o), some (.int x1), some (.int x2), some (.int x3), none, none, some (.int x6), some (.int x7), some (.int x8), some (.int x9), some (.int x10), some (.int x11), some (.int s0), none, none, none, none]) ⟨.inr rfl, .inr rfl, .inr rfl, .inr rfl, .inr rfl, .inr rfl, .inr rfl, .inr rfl, .inr rfl, .inr rfl, .inr rfl, .inr rfl, .inr rfl, .inr rfl, .inr rfl, .inr rfl, .inr rfl, trivial⟩ ?_
    exact s_units_256 C hQ hA hR x1 x2 x3 x6 x7 x8 x9 x10 x11 s0 1 S R122 hR122 R213 hR213 hp
set_option maxRecDepth 100000 in
set_option maxHeartbeats 1000000 in
theorem s_units_213 (C : fcx gG D z A X R_M c_M_units 17 (none)) (hQ : X.2.2.2.2.2.2.2.2.2.2 = eQ gG D z X.2.2.2.2.2.2.2.1 X.2.2.2.2.1 L0 0 0 (pM_v K o ad)) (hA : A = owA gG L0 X.2.2.2.2.1.heap.size) (hR : X.2.2.2.1 = { frames := 5, cells := 1, slots := 6, locals := 500 }) (x1 : Int32) (x2 : Int32) (x3 : Int32) (x6 : Int32) (x7 : Int32) (x8 : Int32) (x9 : Int32) (x10 : Int32) (x11 : Int32) (S : ms) (R122 : Int32 → Int32 → Int32 → Int32 → Int32 → Int32 → ms → Prop) (hR122 : ∀ yx1 yx2 yx3 yx6 yx7 yx8 yS, R122 yx1 yx2 yx3 yx6 yx7 yx8 yS → aw gG D z A X 17 122 [some (.ref o), some (.int yx1), some (.int yx2), some (.int yx3), none, none, some (.int yx6), some (.int yx7), some (.int yx8), none, none, none, none, none, none, none, none] [] [(0, ly_M, (o, ad, yS.1, yS.2.1, yS.2.2))] 0 0) (R213 : Int32 → Int32 → Int32 → Int32 → Int32 → Int32 → Int32 → Int32 → Int32 → ms → Prop) (hR213 : ∀ yx1 yx2 yx3 yx6 yx7 yx8 yx9 yx10 yx11 yS, R213 yx1 yx2 yx3 yx6 yx7 yx8 yx9 yx10 yx11 yS → aw gG D z A X 17 213 [some (.ref o), some (.int yx1), some (.int yx2), some (.int yx3), none, none, some (.int yx6), some (.int yx7), some (.int yx8), some (.int yx9), some (.int yx10), some (.int yx11), none, none, none, none, none] [] [(0, ly_M, (o, ad, yS.1, yS.2.1, yS.2.2))] 0 0) (hp : b_units_213 x1 x2 x3 x6 x7 x8 x9 x10 x11 S R122 R213 K) : aw gG D z A X 17 213 [some (.ref o), some (.int x1), some (.int x2), some (.int x3), none, none, some (.int x6), some (.int x7), some (.int x8), some (.int x9), some (.int x10), some (.int x11), none, none, none, none, none] [] [(0, ly_M, (o, ad, S.1, S.2.1, S.2.2))] 0 0 := by
  unfold b_units_213 at hp
  refine a_iload C d_units_213 rfl ?_
  refine a_aload_n C d_units_215 rfl rfl ?_
  refine a_getR C 0 14 d_units_216 rfl rfl rfl (Nat.le_of_ble_eq_true rfl) f_M_47 ⟨Nat.le_of_ble_eq_true rfl, Nat.le_of_ble_eq_true rfl⟩ ?_
  refine a_iconst (v := 0) C d_units_219 (by decide) ?_
  refine a_iald C 0 14 d_units_220 rfl rfl rfl hp.1 ?_
  have hp := hp.2
  refine a_icmp_ge (tgt := 329) C d_units_221 (by decide) ⟨fun hc => ?_, fun hc => ?_⟩
  · have hp := hp.1 hc
    refine a_iinc (v := x8 + 1) (lo' := [some (.ref o), some (.int x1), some (.int x2), some (.int x3), none, none, some (.int x6), some (.int x7), some (.int (x8 + 1)), some (.int x9), some (.int x10), some (.int x11), none, none, none, none, none]) C d_units_329 rfl rfl (by decide) rfl ?_
    refine a_goto (tgt := 122) C d_units_332 (by decide) ?_
    refine aw_lo (lo' := [some (.ref o), some (.int x1), some (.int x2), some (.int x3), none, none, some (.int x6), some (.int x7), some (.int (x8 + 1)), none, none, none, none, none, none, none, none]) ⟨.inr rfl, .inr rfl, .inr rfl, .inr rfl, .inr rfl, .inr rfl, .inr rfl, .inr rfl, .inr rfl, .inl rfl, .inl rfl, .inl rfl, .inr rfl, .inr rfl, .inr rfl, .inr rfl, .inr rfl, trivial⟩ ?_
    exact hR122 x1 x2 x3 x6 x7 (x8 + 1) S hp
  · have hp := hp.2 hc
    refine a_iload_n C d_units_224 rfl rfl ?_
    refine a_if_eq (tgt := 232) C d_units_225 (by decide) ⟨fun hc => ?_, fun hc => ?_⟩
    · have hp := hp.1 hc
      refine a_aload_n C d_units_232 rfl rfl ?_
      refine a_getR C 0 15 d_units_233 rfl rfl rfl (Nat.le_of_ble_eq_true rfl) f_M_50 ⟨Nat.le_of_ble_eq_true rfl, Nat.le_of_ble_eq_true rfl⟩ ?_
      refine a_iload C d_units_236 rfl ?_
      refine a_iald C 0 15 d_units_238 rfl rfl rfl hp.1 ?_
      have hp := hp.2
      refine aw_lo (lo' := [some (.ref o), some (.int x1), some (.int x2), some (.int x3), none, none, some (.int x6), some (.int x7), some (.int x8), some (.int x9), some (.int x10), some (.int x11), none, none, none, none, none]) ⟨.inr rfl, .inr rfl, .inr rfl, .inr rfl, .inr rfl, .inr rfl, .inr rfl, .inr rfl, .inr rfl, .inr rfl, .inr rfl, .inr rfl, .inr rfl, .inr rfl, .inr rfl, .inr rfl, .inr rfl, trivial⟩ ?_
      exact s_units_239 C hQ hA hR x1 x2 x3 x6 x7 x8 x9 x10 x11 (S.2.1 15 x11.toNatClampNeg) S R122 hR122 R213 hR213 hp
    · have hp := hp.2 hc
      refine a_iconst (v := 1) C d_units_228 (by decide) ?_
      refine a_goto (tgt := 239) C d_units_229 (by decide) ?_
      refine aw_lo (lo' := [some (.ref o), some (.int x1), some (.int x2), some (.int x3), none, none, some (.int x6), some (.int x7), some (.int x8), some (.int x9), some (.int x10), some (.int x11), none, none, none, none, none]) ⟨.inr rfl, .inr rfl, .inr rfl, .inr rfl, .inr rfl, .inr rfl, .inr rfl, .inr rfl, .inr rfl, .inr rfl, .inr rfl, .inr rfl, .inr rfl, .inr rfl, .inr rfl, .inr rfl, .inr rfl, trivial⟩ ?_
      exact s_units_239 C hQ hA hR x1 x2 x3 x6 x7 x8 x9 x10 x11 1 S R122 hR122 R213 hR213 hp
set_option maxRecDepth 100000 in
set_option maxHeartbeats 1000000 in
theorem se_units_213 (C : fcx gG D z A X R_M c_M_units 17 (none)) (hQ : X.2.2.2.2.2.2.2.2.2.2 = eQ gG D z X.2.2.2.2.2.2.2.1 X.2.2.2.2.1 L0 0 0 (pM_v K o ad)) (hA : A = owA gG L0 X.2.2.2.2.1.heap.size) (hR : X.2.2.2.1 = { frames := 5, cells := 1, slots := 6, locals := 500 }) (x1 : Int32) (x2 : Int32) (x3 : Int32) (x6 : Int32) (x7 : Int32) (x8 : Int32) (x9 : Int32) (x10 : Int32) (x11 : Int32) (S : ms) (R122 : Int32 → Int32 → Int32 → Int32 → Int32 → Int32 → ms → Prop) (hR122 : ∀ yx1 yx2 yx3 yx6 yx7 yx8 yS, R122 yx1 yx2 yx3 yx6 yx7 yx8 yS → aw gG D z A X 17 122 [some (.ref o), some (.int yx1), some (.int yx2), some (.int yx3), none, none, some (.int yx6), some (.int yx7), some (.int yx8), none, none, none, none, none, none, none, none] [] [(0, ly_M, (o, ad, yS.1, yS.2.1, yS.2.2))] 0 0) (hp : e_units_213 x1 x2 x3 x6 x7 x8 x9 x10 x11 S R122 K) : aw gG D z A X 17 213 [some (.ref o), some (.int x1), some (.int x2), some (.int x3), none, none, some (.int x6), some (.int x7), some (.int x8), some (.int x9), some (.int x10), some (.int x11), none, none, none, none, none] [] [(0, ly_M, (o, ad, S.1, S.2.1, S.2.2))] 0 0 := by
  obtain ⟨I, μ, h0, hs⟩ := hp
  have key : ∀ (n : Nat) (yx1 : Int32) (yx2 : Int32) (yx3 : Int32) (yx6 : Int32) (yx7 : Int32) (yx8 : Int32) (yx9 : Int32) (yx10 : Int32) (yx11 : Int32) (yS : ms), μ yx1 yx2 yx3 yx6 yx7 yx8 yx9 yx10 yx11 yS < n → I yx1 yx2 yx3 yx6 yx7 yx8 yx9 yx10 yx11 yS → aw gG D z A X 17 213 [some (.ref o), some (.int yx1), some (.int yx2), some (.int yx3), none, none, some (.int yx6), some (.int yx7), some (.int yx8), some (.int yx9), some (.int yx10), some (.int yx11), none, none, none, none, none] [] [(0, ly_M, (o, ad, yS.1, yS.2.1, yS.2.2))] 0 0 := by
    intro n
    induction n with
    | zero => intro yx1 yx2 yx3 yx6 yx7 yx8 yx9 yx10 yx11 yS h; omega
    | succ n ih =>
      intro yx1 yx2 yx3 yx6 yx7 yx8 yx9 yx10 yx11 yS hn hI
      exact s_units_213 C hQ hA hR yx1 yx2 yx3 yx6 yx7 yx8 yx9 yx10 yx11 yS R122 hR122 _ (fun zx1 zx2 zx3 zx6 zx7 zx8 zx9 zx10 zx11 zS hw => ih zx1 zx2 zx3 zx6 zx7 zx8 zx9 zx10 zx11 zS (by omega) hw.1) (hs yx1 yx2 yx3 yx6 yx7 yx8 yx9 yx10 yx11 yS hI)
  exact key (μ x1 x2 x3 x6 x7 x8 x9 x10 x11 S + 1) x1 x2 x3 x6 x7 x8 x9 x10 x11 S (Nat.lt_succ_self _) h0
set_option maxRecDepth 100000 in
set_option maxHeartbeats 1000000 in
theorem s_units_196 (C : fcx gG D z A X R_M c_M_units 17 (none)) (hQ : X.2.2.2.2.2.2.2.2.2.2 = eQ gG D z X.2.2.2.2.2.2.2.1 X.2.2.2.2.1 L0 0 0 (pM_v K o ad)) (hA : A = owA gG L0 X.2.2.2.2.1.heap.size) (hR : X.2.2.2.1 = { frames := 5, cells := 1, slots := 6, locals := 500 }) (x1 : Int32) (x2 : Int32) (x3 : Int32) (x6 : Int32) (x7 : Int32) (x8 : Int32) (S : ms) (R122 : Int32 → Int32 → Int32 → Int32 → Int32 → Int32 → ms → Prop) (hR122 : ∀ yx1 yx2 yx3 yx6 yx7 yx8 yS, R122 yx1 yx2 yx3 yx6 yx7 yx8 yS → aw gG D z A X 17 122 [some (.ref o), some (.int yx1), some (.int yx2), some (.int yx3), none, none, some (.int yx6), some (.int yx7), some (.int yx8), none, none, none, none, none, none, none, none] [] [(0, ly_M, (o, ad, yS.1, yS.2.1, yS.2.2))] 0 0) (hp : b_units_196 x1 x2 x3 x6 x7 x8 S R122 K) : aw gG D z A X 17 196 [some (.ref o), some (.int x1), some (.int x2), some (.int x3), none, none, some (.int x6), some (.int x7), some (.int x8), none, none, none, none, none, none, none, none] [] [(0, ly_M, (o, ad, S.1, S.2.1, S.2.2))] 0 0 := by
  unfold b_units_196 at hp
  refine a_iload C d_units_196 rfl ?_
  refine a_iload C d_units_198 rfl ?_
  refine a_irem C d_units_200 hp.1 ?_
  have hp := hp.2
  refine a_istore (lo' := [some (.ref o), some (.int x1), some (.int x2), some (.int x3), none, none, some (.int x6), some (.int x7), some (.int x8), some (.int (x8 - x8 / x6 * x6)), none, none, none, none, none, none, none]) C d_units_201 (by decide) rfl ?_
  refine a_iload C d_units_203 rfl ?_
  refine a_iload C d_units_205 rfl ?_
  refine a_idiv C d_units_207 hp.1 ?_
  have hp := hp.2
  refine a_istore (lo' := [some (.ref o), some (.int x1), some (.int x2), some (.int x3), none, none, some (.int x6), some (.int x7), some (.int x8), some (.int (x8 - x8 / x6 * x6)), some (.int (x8 / x6)), none, none, none, none, none, none]) C d_units_208 (by decide) rfl ?_
  refine a_iconst (v := 0) C d_units_210 (by decide) ?_
  refine a_istore (lo' := [some (.ref o), some (.int x1), some (.int x2), some (.int x3), none, none, some (.int x6), some (.int x7), some (.int x8), some (.int (x8 - x8 / x6 * x6)), some (.int (x8 / x6)), some (.int 0), none, none, none, none, none]) C d_units_211 (by decide) rfl ?_
  refine aw_lo (lo' := [some (.ref o), some (.int x1), some (.int x2), some (.int x3), none, none, some (.int x6), some (.int x7), some (.int x8), some (.int (x8 - x8 / x6 * x6)), some (.int (x8 / x6)), some (.int 0), none, none, none, none, none]) ⟨.inr rfl, .inr rfl, .inr rfl, .inr rfl, .inr rfl, .inr rfl, .inr rfl, .inr rfl, .inr rfl, .inr rfl, .inr rfl, .inr rfl, .inr rfl, .inr rfl, .inr rfl, .inr rfl, .inr rfl, trivial⟩ ?_
  exact se_units_213 C hQ hA hR x1 x2 x3 x6 x7 x8 (x8 - x8 / x6 * x6) (x8 / x6) 0 S R122 hR122 hp
set_option maxRecDepth 100000 in
set_option maxHeartbeats 1000000 in
theorem s_units_176 (C : fcx gG D z A X R_M c_M_units 17 (none)) (hQ : X.2.2.2.2.2.2.2.2.2.2 = eQ gG D z X.2.2.2.2.2.2.2.1 X.2.2.2.2.1 L0 0 0 (pM_v K o ad)) (hA : A = owA gG L0 X.2.2.2.2.1.heap.size) (hR : X.2.2.2.1 = { frames := 5, cells := 1, slots := 6, locals := 500 }) (x1 : Int32) (x2 : Int32) (x3 : Int32) (x6 : Int32) (x7 : Int32) (x8 : Int32) (x9 : Int32) (S : ms) (R122 : Int32 → Int32 → Int32 → Int32 → Int32 → Int32 → ms → Prop) (hR122 : ∀ yx1 yx2 yx3 yx6 yx7 yx8 yS, R122 yx1 yx2 yx3 yx6 yx7 yx8 yS → aw gG D z A X 17 122 [some (.ref o), some (.int yx1), some (.int yx2), some (.int yx3), none, none, some (.int yx6), some (.int yx7), some (.int yx8), none, none, none, none, none, none, none, none] [] [(0, ly_M, (o, ad, yS.1, yS.2.1, yS.2.2))] 0 0) (R176 : Int32 → Int32 → Int32 → Int32 → Int32 → Int32 → Int32 → ms → Prop) (hR176 : ∀ yx1 yx2 yx3 yx6 yx7 yx8 yx9 yS, R176 yx1 yx2 yx3 yx6 yx7 yx8 yx9 yS → aw gG D z A X 17 176 [some (.ref o), some (.int yx1), some (.int yx2), some (.int yx3), none, none, some (.int yx6), some (.int yx7), some (.int yx8), some (.int yx9), none, none, none, none, none, none, none] [] [(0, ly_M, (o, ad, yS.1, yS.2.1, yS.2.2))] 0 0) (hp : b_units_176 x1 x2 x3 x6 x7 x8 x9 S R122 R176 K) : aw gG D z A X 17 176 [some (.ref o), some (.int x1), some (.int x2), some (.int x3), none, none, some (.int x6), some (.int x7), some (.int x8), some (.int x9), none, none, none, none, none, none, none] [] [(0, ly_M, (o, ad, S.1, S.2.1, S.2.2))] 0 0 := by
  unfold b_units_176 at hp
  refine a_iload C d_units_176 rfl ?_
  refine a_iconst (v := 3) C d_units_178 (by decide) ?_
  refine a_icmp_ge (tgt := 196) C d_units_179 (by decide) ⟨fun hc => ?_, fun hc => ?_⟩
  · have hp := hp.1 hc
    refine aw_lo (lo' := [some (.ref o), some (.int x1), some (.int x2), some (.int x3), none, none, some (.int x6), some (.int x7), some (.int x8), none, none, none, none, none, none, none, none]) ⟨.inr rfl, .inr rfl, .inr rfl, .inr rfl, .inr rfl, .inr rfl, .inr rfl, .inr rfl, .inr rfl, .inl rfl, .inr rfl, .inr rfl, .inr rfl, .inr rfl, .inr rfl, .inr rfl, .inr rfl, trivial⟩ ?_
    exact s_units_196 C hQ hA hR x1 x2 x3 x6 x7 x8 S R122 hR122 hp
  · have hp := hp.2 hc
    refine a_aload_n C d_units_182 rfl rfl ?_
    refine a_getR C 0 53 d_units_183 rfl rfl rfl (Nat.le_of_ble_eq_true rfl) f_M_139 ⟨Nat.le_of_ble_eq_true rfl, Nat.le_of_ble_eq_true rfl⟩ ?_
    refine a_iload C d_units_186 rfl ?_
    refine a_iconst (v := 0) C d_units_188 (by decide) ?_
    refine a_iast C 0 53 d_units_189 rfl rfl rfl hp.1 ?_
    have hp := hp.2
    refine aw_eq (lo' := _) (st' := _) (L' := [(0, ly_M, (o, ad, S.1, va_up S.2.1 53 (upd (S.2.1 53) x9.toNatClampNeg 0), S.2.2))]) rfl rfl rfl ?_
    refine a_iinc (v := x9 + 1) (lo' := [some (.ref o), some (.int x1), some (.int x2), some (.int x3), none, none, some (.int x6), some (.int x7), some (.int x8), some (.int (x9 + 1)), none, none, none, none, none, none, none]) C d_units_190 rfl rfl (by decide) rfl ?_
    refine a_goto (tgt := 176) C d_units_193 (by decide) ?_
    refine aw_lo (lo' := [some (.ref o), some (.int x1), some (.int x2), some (.int x3), none, none, some (.int x6), some (.int x7), some (.int x8), some (.int (x9 + 1)), none, none, none, none, none, none, none]) ⟨.inr rfl, .inr rfl, .inr rfl, .inr rfl, .inr rfl, .inr rfl, .inr rfl, .inr rfl, .inr rfl, .inr rfl, .inr rfl, .inr rfl, .inr rfl, .inr rfl, .inr rfl, .inr rfl, .inr rfl, trivial⟩ ?_
    exact hR176 x1 x2 x3 x6 x7 x8 (x9 + 1) (S.1, va_up S.2.1 53 (upd (S.2.1 53) x9.toNatClampNeg 0), S.2.2) hp
set_option maxRecDepth 100000 in
set_option maxHeartbeats 1000000 in
theorem se_units_176 (C : fcx gG D z A X R_M c_M_units 17 (none)) (hQ : X.2.2.2.2.2.2.2.2.2.2 = eQ gG D z X.2.2.2.2.2.2.2.1 X.2.2.2.2.1 L0 0 0 (pM_v K o ad)) (hA : A = owA gG L0 X.2.2.2.2.1.heap.size) (hR : X.2.2.2.1 = { frames := 5, cells := 1, slots := 6, locals := 500 }) (x1 : Int32) (x2 : Int32) (x3 : Int32) (x6 : Int32) (x7 : Int32) (x8 : Int32) (x9 : Int32) (S : ms) (R122 : Int32 → Int32 → Int32 → Int32 → Int32 → Int32 → ms → Prop) (hR122 : ∀ yx1 yx2 yx3 yx6 yx7 yx8 yS, R122 yx1 yx2 yx3 yx6 yx7 yx8 yS → aw gG D z A X 17 122 [some (.ref o), some (.int yx1), some (.int yx2), some (.int yx3), none, none, some (.int yx6), some (.int yx7), some (.int yx8), none, none, none, none, none, none, none, none] [] [(0, ly_M, (o, ad, yS.1, yS.2.1, yS.2.2))] 0 0) (hp : e_units_176 x1 x2 x3 x6 x7 x8 x9 S R122 K) : aw gG D z A X 17 176 [some (.ref o), some (.int x1), some (.int x2), some (.int x3), none, none, some (.int x6), some (.int x7), some (.int x8), some (.int x9), none, none, none, none, none, none, none] [] [(0, ly_M, (o, ad, S.1, S.2.1, S.2.2))] 0 0 := by
  obtain ⟨I, μ, h0, hs⟩ := hp
  have key : ∀ (n : Nat) (yx1 : Int32) (yx2 : Int32) (yx3 : Int32) (yx6 : Int32) (yx7 : Int32) (yx8 : Int32) (yx9 : Int32) (yS : ms), μ yx1 yx2 yx3 yx6 yx7 yx8 yx9 yS < n → I yx1 yx2 yx3 yx6 yx7 yx8 yx9 yS → aw gG D z A X 17 176 [some (.ref o), some (.int yx1), some (.int yx2), some (.int yx3), none, none, some (.int yx6), some (.int yx7), some (.int yx8), some (.int yx9), none, none, none, none, none, none, none] [] [(0, ly_M, (o, ad, yS.1, yS.2.1, yS.2.2))] 0 0 := by
    intro n
    induction n with
    | zero => intro yx1 yx2 yx3 yx6 yx7 yx8 yx9 yS h; omega
    | succ n ih =>
      intro yx1 yx2 yx3 yx6 yx7 yx8 yx9 yS hn hI
      exact s_units_176 C hQ hA hR yx1 yx2 yx3 yx6 yx7 yx8 yx9 yS R122 hR122 _ (fun zx1 zx2 zx3 zx6 zx7 zx8 zx9 zS hw => ih zx1 zx2 zx3 zx6 zx7 zx8 zx9 zS (by omega) hw.1) (hs yx1 yx2 yx3 yx6 yx7 yx8 yx9 yS hI)
  exact key (μ x1 x2 x3 x6 x7 x8 x9 S + 1) x1 x2 x3 x6 x7 x8 x9 S (Nat.lt_succ_self _) h0
set_option maxRecDepth 100000 in
set_option maxHeartbeats 1000000 in
theorem s_units_173 (C : fcx gG D z A X R_M c_M_units 17 (none)) (hQ : X.2.2.2.2.2.2.2.2.2.2 = eQ gG D z X.2.2.2.2.2.2.2.1 X.2.2.2.2.1 L0 0 0 (pM_v K o ad)) (hA : A = owA gG L0 X.2.2.2.2.1.heap.size) (hR : X.2.2.2.1 = { frames := 5, cells := 1, slots := 6, locals := 500 }) (x1 : Int32) (x2 : Int32) (x3 : Int32) (x6 : Int32) (x7 : Int32) (x8 : Int32) (S : ms) (R122 : Int32 → Int32 → Int32 → Int32 → Int32 → Int32 → ms → Prop) (hR122 : ∀ yx1 yx2 yx3 yx6 yx7 yx8 yS, R122 yx1 yx2 yx3 yx6 yx7 yx8 yS → aw gG D z A X 17 122 [some (.ref o), some (.int yx1), some (.int yx2), some (.int yx3), none, none, some (.int yx6), some (.int yx7), some (.int yx8), none, none, none, none, none, none, none, none] [] [(0, ly_M, (o, ad, yS.1, yS.2.1, yS.2.2))] 0 0) (hp : b_units_173 x1 x2 x3 x6 x7 x8 S R122 K) : aw gG D z A X 17 173 [some (.ref o), some (.int x1), some (.int x2), some (.int x3), none, none, some (.int x6), some (.int x7), some (.int x8), none, none, none, none, none, none, none, none] [] [(0, ly_M, (o, ad, S.1, S.2.1, S.2.2))] 0 0 := by
  unfold b_units_173 at hp
  refine a_iconst (v := 0) C d_units_173 (by decide) ?_
  refine a_istore (lo' := [some (.ref o), some (.int x1), some (.int x2), some (.int x3), none, none, some (.int x6), some (.int x7), some (.int x8), some (.int 0), none, none, none, none, none, none, none]) C d_units_174 (by decide) rfl ?_
  refine aw_lo (lo' := [some (.ref o), some (.int x1), some (.int x2), some (.int x3), none, none, some (.int x6), some (.int x7), some (.int x8), some (.int 0), none, none, none, none, none, none, none]) ⟨.inr rfl, .inr rfl, .inr rfl, .inr rfl, .inr rfl, .inr rfl, .inr rfl, .inr rfl, .inr rfl, .inr rfl, .inr rfl, .inr rfl, .inr rfl, .inr rfl, .inr rfl, .inr rfl, .inr rfl, trivial⟩ ?_
  exact se_units_176 C hQ hA hR x1 x2 x3 x6 x7 x8 0 S R122 hR122 hp
set_option maxRecDepth 100000 in
set_option maxHeartbeats 1000000 in
theorem s_units_122 (C : fcx gG D z A X R_M c_M_units 17 (none)) (hQ : X.2.2.2.2.2.2.2.2.2.2 = eQ gG D z X.2.2.2.2.2.2.2.1 X.2.2.2.2.1 L0 0 0 (pM_v K o ad)) (hA : A = owA gG L0 X.2.2.2.2.1.heap.size) (hR : X.2.2.2.1 = { frames := 5, cells := 1, slots := 6, locals := 500 }) (x1 : Int32) (x2 : Int32) (x3 : Int32) (x6 : Int32) (x7 : Int32) (x8 : Int32) (S : ms) (R122 : Int32 → Int32 → Int32 → Int32 → Int32 → Int32 → ms → Prop) (hR122 : ∀ yx1 yx2 yx3 yx6 yx7 yx8 yS, R122 yx1 yx2 yx3 yx6 yx7 yx8 yS → aw gG D z A X 17 122 [some (.ref o), some (.int yx1), some (.int yx2), some (.int yx3), none, none, some (.int yx6), some (.int yx7), some (.int yx8), none, none, none, none, none, none, none, none] [] [(0, ly_M, (o, ad, yS.1, yS.2.1, yS.2.2))] 0 0) (hp : b_units_122 x1 x2 x3 x6 x7 x8 S R122 K) : aw gG D z A X 17 122 [some (.ref o), some (.int x1), some (.int x2), some (.int x3), none, none, some (.int x6), some (.int x7), some (.int x8), none, none, none, none, none, none, none, none] [] [(0, ly_M, (o, ad, S.1, S.2.1, S.2.2))] 0 0 := by
  unfold b_units_122 at hp
  refine a_iload C d_units_122 rfl ?_
  refine a_iload C d_units_124 rfl ?_
  refine a_iload C d_units_126 rfl ?_
  refine a_imul C d_units_128 ?_
  refine a_icmp_ge (tgt := 335) C d_units_129 (by decide) ⟨fun hc => ?_, fun hc => ?_⟩
  · have hp := hp.1 hc
    exact a_vret C hQ hA d_units_335 rfl ⟨S, hp, rfl, rfl⟩
  · have hp := hp.2 hc
    refine a_iload_n C d_units_132 rfl rfl ?_
    refine a_if_le (tgt := 196) C d_units_133 (by decide) ⟨fun hc => ?_, fun hc => ?_⟩
    · have hp := hp.1 hc
      refine aw_lo (lo' := [some (.ref o), some (.int x1), some (.int x2), some (.int x3), none, none, some (.int x6), some (.int x7), some (.int x8), none, none, none, none, none, none, none, none]) ⟨.inr rfl, .inr rfl, .inr rfl, .inr rfl, .inr rfl, .inr rfl, .inr rfl, .inr rfl, .inr rfl, .inr rfl, .inr rfl, .inr rfl, .inr rfl, .inr rfl, .inr rfl, .inr rfl, .inr rfl, trivial⟩ ?_
      exact s_units_196 C hQ hA hR x1 x2 x3 x6 x7 x8 S R122 hR122 hp
    · have hp := hp.2 hc
      refine a_iload C d_units_136 rfl ?_
      refine a_if_le (tgt := 196) C d_units_138 (by decide) ⟨fun hc => ?_, fun hc => ?_⟩
      · have hp := hp.1 hc
        refine aw_lo (lo' := [some (.ref o), some (.int x1), some (.int x2), some (.int x3), none, none, some (.int x6), some (.int x7), some (.int x8), none, none, none, none, none, none, none, none]) ⟨.inr rfl, .inr rfl, .inr rfl, .inr rfl, .inr rfl, .inr rfl, .inr rfl, .inr rfl, .inr rfl, .inr rfl, .inr rfl, .inr rfl, .inr rfl, .inr rfl, .inr rfl, .inr rfl, .inr rfl, trivial⟩ ?_
        exact s_units_196 C hQ hA hR x1 x2 x3 x6 x7 x8 S R122 hR122 hp
      · have hp := hp.2 hc
        refine a_iload C d_units_141 rfl ?_
        refine a_iload_n C d_units_143 rfl rfl ?_
        refine a_irem C d_units_144 hp.1 ?_
        have hp := hp.2
        refine a_if_ne (tgt := 196) C d_units_145 (by decide) ⟨fun hc => ?_, fun hc => ?_⟩
        · have hp := hp.1 hc
          refine aw_lo (lo' := [some (.ref o), some (.int x1), some (.int x2), some (.int x3), none, none, some (.int x6), some (.int x7), some (.int x8), none, none, none, none, none, none, none, none]) ⟨.inr rfl, .inr rfl, .inr rfl, .inr rfl, .inr rfl, .inr rfl, .inr rfl, .inr rfl, .inr rfl, .inr rfl, .inr rfl, .inr rfl, .inr rfl, .inr rfl, .inr rfl, .inr rfl, .inr rfl, trivial⟩ ?_
          exact s_units_196 C hQ hA hR x1 x2 x3 x6 x7 x8 S R122 hR122 hp
        · have hp := hp.2 hc
          refine a_iload_n C d_units_148 rfl rfl ?_
          refine a_if_ne (tgt := 173) C d_units_149 (by decide) ⟨fun hc => ?_, fun hc => ?_⟩
          · have hp := hp.1 hc
            refine aw_lo (lo' := [some (.ref o), some (.int x1), some (.int x2), some (.int x3), none, none, some (.int x6), some (.int x7), some (.int x8), none, none, none, none, none, none, none, none]) ⟨.inr rfl, .inr rfl, .inr rfl, .inr rfl, .inr rfl, .inr rfl, .inr rfl, .inr rfl, .inr rfl, .inr rfl, .inr rfl, .inr rfl, .inr rfl, .inr rfl, .inr rfl, .inr rfl, .inr rfl, trivial⟩ ?_
            exact s_units_173 C hQ hA hR x1 x2 x3 x6 x7 x8 S R122 hR122 hp
          · have hp := hp.2 hc
            refine a_aload_n C d_units_152 rfl rfl ?_
            refine a_call (Lr := []) (rest := []) (av := .ref o :: []) C [0] [] d_units_153 (ct_fillUp S hp) cd_M_fillUp i_M (Nat.le_of_ble_eq_true rfl) (by rw [hR]; exact Nat.le_of_ble_eq_true rfl) (by rw [hR]; exact Nat.le_of_ble_eq_true rfl) (by rw [hR]; exact Nat.le_of_ble_eq_true rfl) (by rw [hR]; exact Nat.le_of_ble_eq_true rfl) rfl rfl (by decide) (by decide) (by decide) (inv_V C 0 d_units_153 l_M_224 im_M_fillUp se_M_fillUp cd_M_fillUp ⟨by decide, by decide⟩ ln_M_fillUp rfl rfl rfl rfl rfl) (fun oc L1 hL => ?_)
            obtain ⟨S153, hp, rfl, rfl⟩ := hL
            refine ⟨_, rfl, ?_⟩
            refine aw_eq (lo' := _) (st' := []) (L' := [(0, ly_M, (o, ad, S153.1, S153.2.1, S153.2.2))]) rfl rfl rfl ?_
            refine a_aload_n C d_units_156 rfl rfl ?_
            refine a_sipush (v := 208) C d_units_157 (by decide) ?_
            refine a_iload C d_units_160 rfl ?_
            refine a_iload_n C d_units_162 rfl rfl ?_
            refine a_idiv C d_units_163 hp.1 ?_
            have hp := hp.2
            refine a_iconst (v := 1) C d_units_164 (by decide) ?_
            refine a_isub C d_units_165 ?_
            refine a_bipush (v := 8) C d_units_166 (by decide) ?_
            refine a_irem C d_units_168 (by decide) ?_
            refine a_iadd C d_units_169 ?_
            refine a_call (Lr := []) (rest := []) (av := .ref o :: [.int (208 + (((x8 / x2) - 1) - ((x8 / x2) - 1) / 8 * 8))]) C [0] [] d_units_170 (ct_mark (208 + (((x8 / x2) - 1) - ((x8 / x2) - 1) / 8 * 8)) (S153.1, S153.2.1, S153.2.2) hp) cd_M_mark i_M (Nat.le_of_ble_eq_true rfl) (by rw [hR]; exact Nat.le_of_ble_eq_true rfl) (by rw [hR]; exact Nat.le_of_ble_eq_true rfl) (by rw [hR]; exact Nat.le_of_ble_eq_true rfl) (by rw [hR]; exact Nat.le_of_ble_eq_true rfl) rfl rfl (by decide) (by decide) (by decide) (inv_V C 0 d_units_170 l_M_227 im_M_mark se_M_mark cd_M_mark ⟨by decide, by decide⟩ ln_M_mark rfl rfl rfl rfl rfl) (fun oc L1 hL => ?_)
            obtain ⟨S170, hp, rfl, rfl⟩ := hL
            refine ⟨_, rfl, ?_⟩
            refine aw_eq (lo' := _) (st' := []) (L' := [(0, ly_M, (o, ad, S170.1, S170.2.1, S170.2.2))]) rfl rfl rfl ?_
            refine aw_lo (lo' := [some (.ref o), some (.int x1), some (.int x2), some (.int x3), none, none, some (.int x6), some (.int x7), some (.int x8), none, none, none, none, none, none, none, none]) ⟨.inr rfl, .inr rfl, .inr rfl, .inr rfl, .inr rfl, .inr rfl, .inr rfl, .inr rfl, .inr rfl, .inr rfl, .inr rfl, .inr rfl, .inr rfl, .inr rfl, .inr rfl, .inr rfl, .inr rfl, trivial⟩ ?_
            exact s_units_173 C hQ hA hR x1 x2 x3 x6 x7 x8 (S170.1, S170.2.1, S170.2.2) R122 hR122 hp
set_option maxRecDepth 100000 in
set_option maxHeartbeats 1000000 in
theorem se_units_122 (C : fcx gG D z A X R_M c_M_units 17 (none)) (hQ : X.2.2.2.2.2.2.2.2.2.2 = eQ gG D z X.2.2.2.2.2.2.2.1 X.2.2.2.2.1 L0 0 0 (pM_v K o ad)) (hA : A = owA gG L0 X.2.2.2.2.1.heap.size) (hR : X.2.2.2.1 = { frames := 5, cells := 1, slots := 6, locals := 500 }) (x1 : Int32) (x2 : Int32) (x3 : Int32) (x6 : Int32) (x7 : Int32) (x8 : Int32) (S : ms) (hp : e_units_122 x1 x2 x3 x6 x7 x8 S K) : aw gG D z A X 17 122 [some (.ref o), some (.int x1), some (.int x2), some (.int x3), none, none, some (.int x6), some (.int x7), some (.int x8), none, none, none, none, none, none, none, none] [] [(0, ly_M, (o, ad, S.1, S.2.1, S.2.2))] 0 0 := by
  obtain ⟨I, μ, h0, hs⟩ := hp
  have key : ∀ (n : Nat) (yx1 : Int32) (yx2 : Int32) (yx3 : Int32) (yx6 : Int32) (yx7 : Int32) (yx8 : Int32) (yS : ms), μ yx1 yx2 yx3 yx6 yx7 yx8 yS < n → I yx1 yx2 yx3 yx6 yx7 yx8 yS → aw gG D z A X 17 122 [some (.ref o), some (.int yx1), some (.int yx2), some (.int yx3), none, none, some (.int yx6), some (.int yx7), some (.int yx8), none, none, none, none, none, none, none, none] [] [(0, ly_M, (o, ad, yS.1, yS.2.1, yS.2.2))] 0 0 := by
    intro n
    induction n with
    | zero => intro yx1 yx2 yx3 yx6 yx7 yx8 yS h; omega
    | succ n ih =>
      intro yx1 yx2 yx3 yx6 yx7 yx8 yS hn hI
      exact s_units_122 C hQ hA hR yx1 yx2 yx3 yx6 yx7 yx8 yS _ (fun zx1 zx2 zx3 zx6 zx7 zx8 zS hw => ih zx1 zx2 zx3 zx6 zx7 zx8 zS (by omega) hw.1) (hs yx1 yx2 yx3 yx6 yx7 yx8 yS hI)
  exact key (μ x1 x2 x3 x6 x7 x8 S + 1) x1 x2 x3 x6 x7 x8 S (Nat.lt_succ_self _) h0
set_option maxRecDepth 100000 in
set_option maxHeartbeats 1000000 in
theorem s_units_99 (C : fcx gG D z A X R_M c_M_units 17 (none)) (hQ : X.2.2.2.2.2.2.2.2.2.2 = eQ gG D z X.2.2.2.2.2.2.2.1 X.2.2.2.2.1 L0 0 0 (pM_v K o ad)) (hA : A = owA gG L0 X.2.2.2.2.1.heap.size) (hR : X.2.2.2.1 = { frames := 5, cells := 1, slots := 6, locals := 500 }) (x1 : Int32) (x2 : Int32) (x3 : Int32) (x6 : Int32) (x7 : Int32) (x8 : Int32) (S : ms) (R99 : Int32 → Int32 → Int32 → Int32 → Int32 → Int32 → ms → Prop) (hR99 : ∀ yx1 yx2 yx3 yx6 yx7 yx8 yS, R99 yx1 yx2 yx3 yx6 yx7 yx8 yS → aw gG D z A X 17 99 [some (.ref o), some (.int yx1), some (.int yx2), some (.int yx3), none, none, some (.int yx6), some (.int yx7), some (.int yx8), none, none, none, none, none, none, none, none] [] [(0, ly_M, (o, ad, yS.1, yS.2.1, yS.2.2))] 0 0) (hp : b_units_99 x1 x2 x3 x6 x7 x8 S R99 K) : aw gG D z A X 17 99 [some (.ref o), some (.int x1), some (.int x2), some (.int x3), none, none, some (.int x6), some (.int x7), some (.int x8), none, none, none, none, none, none, none, none] [] [(0, ly_M, (o, ad, S.1, S.2.1, S.2.2))] 0 0 := by
  unfold b_units_99 at hp
  refine a_iload C d_units_99 rfl ?_
  refine a_iconst (v := 3) C d_units_101 (by decide) ?_
  refine a_icmp_ge (tgt := 119) C d_units_102 (by decide) ⟨fun hc => ?_, fun hc => ?_⟩
  · have hp := hp.1 hc
    refine a_iconst (v := 0) C d_units_119 (by decide) ?_
    refine a_istore (lo' := [some (.ref o), some (.int x1), some (.int x2), some (.int x3), none, none, some (.int x6), some (.int x7), some (.int 0), none, none, none, none, none, none, none, none]) C d_units_120 (by decide) rfl ?_
    refine aw_lo (lo' := [some (.ref o), some (.int x1), some (.int x2), some (.int x3), none, none, some (.int x6), some (.int x7), some (.int 0), none, none, none, none, none, none, none, none]) ⟨.inr rfl, .inr rfl, .inr rfl, .inr rfl, .inr rfl, .inr rfl, .inr rfl, .inr rfl, .inr rfl, .inr rfl, .inr rfl, .inr rfl, .inr rfl, .inr rfl, .inr rfl, .inr rfl, .inr rfl, trivial⟩ ?_
    exact se_units_122 C hQ hA hR x1 x2 x3 x6 x7 0 S  hp
  · have hp := hp.2 hc
    refine a_aload_n C d_units_105 rfl rfl ?_
    refine a_getR C 0 53 d_units_106 rfl rfl rfl (Nat.le_of_ble_eq_true rfl) f_M_139 ⟨Nat.le_of_ble_eq_true rfl, Nat.le_of_ble_eq_true rfl⟩ ?_
    refine a_iload C d_units_109 rfl ?_
    refine a_iconst (v := 0) C d_units_111 (by decide) ?_
    refine a_iast C 0 53 d_units_112 rfl rfl rfl hp.1 ?_
    have hp := hp.2
    refine aw_eq (lo' := _) (st' := _) (L' := [(0, ly_M, (o, ad, S.1, va_up S.2.1 53 (upd (S.2.1 53) x8.toNatClampNeg 0), S.2.2))]) rfl rfl rfl ?_
    refine a_iinc (v := x8 + 1) (lo' := [some (.ref o), some (.int x1), some (.int x2), some (.int x3), none, none, some (.int x6), some (.int x7), some (.int (x8 + 1)), none, none, none, none, none, none, none, none]) C d_units_113 rfl rfl (by decide) rfl ?_
    refine a_goto (tgt := 99) C d_units_116 (by decide) ?_
    refine aw_lo (lo' := [some (.ref o), some (.int x1), some (.int x2), some (.int x3), none, none, some (.int x6), some (.int x7), some (.int (x8 + 1)), none, none, none, none, none, none, none, none]) ⟨.inr rfl, .inr rfl, .inr rfl, .inr rfl, .inr rfl, .inr rfl, .inr rfl, .inr rfl, .inr rfl, .inr rfl, .inr rfl, .inr rfl, .inr rfl, .inr rfl, .inr rfl, .inr rfl, .inr rfl, trivial⟩ ?_
    exact hR99 x1 x2 x3 x6 x7 (x8 + 1) (S.1, va_up S.2.1 53 (upd (S.2.1 53) x8.toNatClampNeg 0), S.2.2) hp
set_option maxRecDepth 100000 in
set_option maxHeartbeats 1000000 in
theorem se_units_99 (C : fcx gG D z A X R_M c_M_units 17 (none)) (hQ : X.2.2.2.2.2.2.2.2.2.2 = eQ gG D z X.2.2.2.2.2.2.2.1 X.2.2.2.2.1 L0 0 0 (pM_v K o ad)) (hA : A = owA gG L0 X.2.2.2.2.1.heap.size) (hR : X.2.2.2.1 = { frames := 5, cells := 1, slots := 6, locals := 500 }) (x1 : Int32) (x2 : Int32) (x3 : Int32) (x6 : Int32) (x7 : Int32) (x8 : Int32) (S : ms) (hp : e_units_99 x1 x2 x3 x6 x7 x8 S K) : aw gG D z A X 17 99 [some (.ref o), some (.int x1), some (.int x2), some (.int x3), none, none, some (.int x6), some (.int x7), some (.int x8), none, none, none, none, none, none, none, none] [] [(0, ly_M, (o, ad, S.1, S.2.1, S.2.2))] 0 0 := by
  obtain ⟨I, μ, h0, hs⟩ := hp
  have key : ∀ (n : Nat) (yx1 : Int32) (yx2 : Int32) (yx3 : Int32) (yx6 : Int32) (yx7 : Int32) (yx8 : Int32) (yS : ms), μ yx1 yx2 yx3 yx6 yx7 yx8 yS < n → I yx1 yx2 yx3 yx6 yx7 yx8 yS → aw gG D z A X 17 99 [some (.ref o), some (.int yx1), some (.int yx2), some (.int yx3), none, none, some (.int yx6), some (.int yx7), some (.int yx8), none, none, none, none, none, none, none, none] [] [(0, ly_M, (o, ad, yS.1, yS.2.1, yS.2.2))] 0 0 := by
    intro n
    induction n with
    | zero => intro yx1 yx2 yx3 yx6 yx7 yx8 yS h; omega
    | succ n ih =>
      intro yx1 yx2 yx3 yx6 yx7 yx8 yS hn hI
      exact s_units_99 C hQ hA hR yx1 yx2 yx3 yx6 yx7 yx8 yS _ (fun zx1 zx2 zx3 zx6 zx7 zx8 zS hw => ih zx1 zx2 zx3 zx6 zx7 zx8 zS (by omega) hw.1) (hs yx1 yx2 yx3 yx6 yx7 yx8 yS hI)
  exact key (μ x1 x2 x3 x6 x7 x8 S + 1) x1 x2 x3 x6 x7 x8 S (Nat.lt_succ_self _) h0
set_option maxRecDepth 100000 in
set_option maxHeartbeats 1000000 in
theorem s_units_94 (C : fcx gG D z A X R_M c_M_units 17 (none)) (hQ : X.2.2.2.2.2.2.2.2.2.2 = eQ gG D z X.2.2.2.2.2.2.2.1 X.2.2.2.2.1 L0 0 0 (pM_v K o ad)) (hA : A = owA gG L0 X.2.2.2.2.1.heap.size) (hR : X.2.2.2.1 = { frames := 5, cells := 1, slots := 6, locals := 500 }) (x1 : Int32) (x2 : Int32) (x3 : Int32) (x6 : Int32) (s0 : Int32) (S : ms) (hp : b_units_94 x1 x2 x3 x6 s0 S K) : aw gG D z A X 17 94 [some (.ref o), some (.int x1), some (.int x2), some (.int x3), none, none, some (.int x6), none, none, none, none, none, none, none, none, none, none] [.int s0] [(0, ly_M, (o, ad, S.1, S.2.1, S.2.2))] 0 0 := by
  unfold b_units_94 at hp
  refine a_istore (lo' := [some (.ref o), some (.int x1), some (.int x2), some (.int x3), none, none, some (.int x6), some (.int s0), none, none, none, none, none, none, none, none, none]) C d_units_94 (by decide) rfl ?_
  refine a_iconst (v := 0) C d_units_96 (by decide) ?_
  refine a_istore (lo' := [some (.ref o), some (.int x1), some (.int x2), some (.int x3), none, none, some (.int x6), some (.int s0), some (.int 0), none, none, none, none, none, none, none, none]) C d_units_97 (by decide) rfl ?_
  refine aw_lo (lo' := [some (.ref o), some (.int x1), some (.int x2), some (.int x3), none, none, some (.int x6), some (.int s0), some (.int 0), none, none, none, none, none, none, none, none]) ⟨.inr rfl, .inr rfl, .inr rfl, .inr rfl, .inr rfl, .inr rfl, .inr rfl, .inr rfl, .inr rfl, .inr rfl, .inr rfl, .inr rfl, .inr rfl, .inr rfl, .inr rfl, .inr rfl, .inr rfl, trivial⟩ ?_
  exact se_units_99 C hQ hA hR x1 x2 x3 x6 s0 0 S  hp
set_option maxRecDepth 100000 in
set_option maxHeartbeats 1000000 in
theorem s_units_62 (C : fcx gG D z A X R_M c_M_units 17 (none)) (hQ : X.2.2.2.2.2.2.2.2.2.2 = eQ gG D z X.2.2.2.2.2.2.2.1 X.2.2.2.2.1 L0 0 0 (pM_v K o ad)) (hA : A = owA gG L0 X.2.2.2.2.1.heap.size) (hR : X.2.2.2.1 = { frames := 5, cells := 1, slots := 6, locals := 500 }) (x1 : Int32) (x2 : Int32) (x3 : Int32) (x5 : Int32) (s0 : Int32) (S : ms) (hp : b_units_62 x1 x2 x3 x5 s0 S K) : aw gG D z A X 17 62 [some (.ref o), some (.int x1), some (.int x2), some (.int x3), none, some (.int x5), none, none, none, none, none, none, none, none, none, none, none] [.int s0] [(0, ly_M, (o, ad, S.1, S.2.1, S.2.2))] 0 0 := by
  unfold b_units_62 at hp
  refine a_istore (lo' := [some (.ref o), some (.int x1), some (.int x2), some (.int x3), none, some (.int x5), some (.int s0), none, none, none, none, none, none, none, none, none, none]) C d_units_62 (by decide) rfl ?_
  refine a_iload_n C d_units_64 rfl rfl ?_
  refine a_if_eq (tgt := 82) C d_units_65 (by decide) ⟨fun hc => ?_, fun hc => ?_⟩
  · have hp := hp.1 hc
    refine a_aload_n C d_units_82 rfl rfl ?_
    refine a_getI C 0 2 d_units_83 rfl rfl rfl (Nat.le_of_ble_eq_true rfl) f_M_13 (Nat.le_of_ble_eq_true rfl) ?_
    refine a_bipush (v := 8) C d_units_86 (by decide) ?_
    refine a_iload C d_units_88 rfl ?_
    refine a_imul C d_units_90 ?_
    refine a_call (Lr := [(0, ly_M, (o, ad, S.1, S.2.1, S.2.2))]) (rest := []) (av := [.int (S.1 2), .int (8 * x5)]) C [] [0] d_units_91 (ct_upward (S.1 2) (8 * x5) hp) cd_M_upward i_M (Nat.le_of_ble_eq_true rfl) (by rw [hR]; exact Nat.le_of_ble_eq_true rfl) (by rw [hR]; exact Nat.le_of_ble_eq_true rfl) (by rw [hR]; exact Nat.le_of_ble_eq_true rfl) (by rw [hR]; exact Nat.le_of_ble_eq_true rfl) rfl rfl (by decide) (by decide) (by decide) (inv_S C d_units_91 l_M_177 st_M_upward i_M cd_M_upward ⟨by decide, by decide⟩ ln_M_upward rfl) (fun oc L1 hL => ?_)
    obtain ⟨v91, hp, rfl, rfl⟩ := hL
    refine ⟨_, rfl, ?_⟩
    refine aw_eq (lo' := _) (st' := [.int v91]) (L' := [(0, ly_M, (o, ad, S.1, S.2.1, S.2.2))]) rfl rfl rfl ?_
    refine aw_lo (lo' := [some (.ref o), some (.int x1), some (.int x2), some (.int x3), none, none, some (.int s0), none, none, none, none, none, none, none, none, none, none]) ⟨.inr rfl, .inr rfl, .inr rfl, .inr rfl, .inr rfl, .inl rfl, .inr rfl, .inr rfl, .inr rfl, .inr rfl, .inr rfl, .inr rfl, .inr rfl, .inr rfl, .inr rfl, .inr rfl, .inr rfl, trivial⟩ ?_
    exact s_units_94 C hQ hA hR x1 x2 x3 s0 v91 S  hp
  · have hp := hp.2 hc
    refine a_aload_n C d_units_68 rfl rfl ?_
    refine a_iconst (v := 0) C d_units_69 (by decide) ?_
    refine a_iconst (v := 0) C d_units_70 (by decide) ?_
    refine a_call (Lr := []) (rest := []) (av := .ref o :: [.int 0, .int 0]) C [0] [] d_units_71 (ct_layerHigh 0 0 S hp) cd_M_layerHigh i_M (Nat.le_of_ble_eq_true rfl) (by rw [hR]; exact Nat.le_of_ble_eq_true rfl) (by rw [hR]; exact Nat.le_of_ble_eq_true rfl) (by rw [hR]; exact Nat.le_of_ble_eq_true rfl) (by rw [hR]; exact Nat.le_of_ble_eq_true rfl) rfl rfl (by decide) (by decide) (by decide) (inv_V C 0 d_units_71 l_M_181 im_M_layerHigh se_M_layerHigh cd_M_layerHigh ⟨by decide, by decide⟩ ln_M_layerHigh rfl rfl rfl rfl rfl) (fun oc L1 hL => ?_)
    obtain ⟨v71, S71, hp, rfl, rfl⟩ := hL
    refine ⟨_, rfl, ?_⟩
    refine aw_eq (lo' := _) (st' := [.int v71]) (L' := [(0, ly_M, (o, ad, S71.1, S71.2.1, S71.2.2))]) rfl rfl rfl ?_
    refine a_bipush (v := 8) C d_units_74 (by decide) ?_
    refine a_call (Lr := [(0, ly_M, (o, ad, S71.1, S71.2.1, S71.2.2))]) (rest := []) (av := [.int v71, .int 8]) C [] [0] d_units_76 (ct_upward v71 8 hp) cd_M_upward i_M (Nat.le_of_ble_eq_true rfl) (by rw [hR]; exact Nat.le_of_ble_eq_true rfl) (by rw [hR]; exact Nat.le_of_ble_eq_true rfl) (by rw [hR]; exact Nat.le_of_ble_eq_true rfl) (by rw [hR]; exact Nat.le_of_ble_eq_true rfl) rfl rfl (by decide) (by decide) (by decide) (inv_S C d_units_76 l_M_177 st_M_upward i_M cd_M_upward ⟨by decide, by decide⟩ ln_M_upward rfl) (fun oc L1 hL => ?_)
    obtain ⟨v76, hp, rfl, rfl⟩ := hL
    refine ⟨_, rfl, ?_⟩
    refine aw_eq (lo' := _) (st' := [.int v76]) (L' := [(0, ly_M, (o, ad, S71.1, S71.2.1, S71.2.2))]) rfl rfl rfl ?_
    refine a_goto (tgt := 94) C d_units_79 (by decide) ?_
    refine aw_lo (lo' := [some (.ref o), some (.int x1), some (.int x2), some (.int x3), none, none, some (.int s0), none, none, none, none, none, none, none, none, none, none]) ⟨.inr rfl, .inr rfl, .inr rfl, .inr rfl, .inr rfl, .inl rfl, .inr rfl, .inr rfl, .inr rfl, .inr rfl, .inr rfl, .inr rfl, .inr rfl, .inr rfl, .inr rfl, .inr rfl, .inr rfl, trivial⟩ ?_
    exact s_units_94 C hQ hA hR x1 x2 x3 s0 v76 (S71.1, S71.2.1, S71.2.2)  hp
set_option maxRecDepth 100000 in
set_option maxHeartbeats 1000000 in
theorem s_units_15 (C : fcx gG D z A X R_M c_M_units 17 (none)) (hQ : X.2.2.2.2.2.2.2.2.2.2 = eQ gG D z X.2.2.2.2.2.2.2.1 X.2.2.2.2.1 L0 0 0 (pM_v K o ad)) (hA : A = owA gG L0 X.2.2.2.2.1.heap.size) (hR : X.2.2.2.1 = { frames := 5, cells := 1, slots := 6, locals := 500 }) (x1 : Int32) (x2 : Int32) (s0 : Int32) (S : ms) (hp : b_units_15 x1 x2 s0 S K) : aw gG D z A X 17 15 [some (.ref o), some (.int x1), some (.int x2), none, none, none, none, none, none, none, none, none, none, none, none, none, none] [.int s0] [(0, ly_M, (o, ad, S.1, S.2.1, S.2.2))] 0 0 := by
  unfold b_units_15 at hp
  refine a_istore_n (lo' := [some (.ref o), some (.int x1), some (.int x2), some (.int s0), none, none, none, none, none, none, none, none, none, none, none, none, none]) C d_units_15 rfl (by decide) rfl ?_
  refine a_aload_n C d_units_16 rfl rfl ?_
  refine a_iconst (v := 0) C d_units_17 (by decide) ?_
  refine a_iconst (v := 1) C d_units_18 (by decide) ?_
  refine a_call (Lr := []) (rest := []) (av := .ref o :: [.int 0, .int 1]) C [0] [] d_units_19 (ct_greatest 0 1 S hp) cd_M_greatest i_M (Nat.le_of_ble_eq_true rfl) (by rw [hR]; exact Nat.le_of_ble_eq_true rfl) (by rw [hR]; exact Nat.le_of_ble_eq_true rfl) (by rw [hR]; exact Nat.le_of_ble_eq_true rfl) (by rw [hR]; exact Nat.le_of_ble_eq_true rfl) rfl rfl (by decide) (by decide) (by decide) (inv_V C 0 d_units_19 l_M_173 im_M_greatest se_M_greatest cd_M_greatest ⟨by decide, by decide⟩ ln_M_greatest rfl rfl rfl rfl rfl) (fun oc L1 hL => ?_)
  obtain ⟨v19, S19, hp, rfl, rfl⟩ := hL
  refine ⟨_, rfl, ?_⟩
  refine aw_eq (lo' := _) (st' := [.int v19]) (L' := [(0, ly_M, (o, ad, S19.1, S19.2.1, S19.2.2))]) rfl rfl rfl ?_
  refine a_istore (lo' := [some (.ref o), some (.int x1), some (.int x2), some (.int s0), some (.int v19), none, none, none, none, none, none, none, none, none, none, none, none]) C d_units_22 (by decide) rfl ?_
  refine a_aload_n C d_units_24 rfl rfl ?_
  refine a_iconst (v := 0) C d_units_25 (by decide) ?_
  refine a_iconst (v := 0) C d_units_26 (by decide) ?_
  refine a_call (Lr := []) (rest := []) (av := .ref o :: [.int 0, .int 0]) C [0] [] d_units_27 (ct_greatest 0 0 (S19.1, S19.2.1, S19.2.2) hp) cd_M_greatest i_M (Nat.le_of_ble_eq_true rfl) (by rw [hR]; exact Nat.le_of_ble_eq_true rfl) (by rw [hR]; exact Nat.le_of_ble_eq_true rfl) (by rw [hR]; exact Nat.le_of_ble_eq_true rfl) (by rw [hR]; exact Nat.le_of_ble_eq_true rfl) rfl rfl (by decide) (by decide) (by decide) (inv_V C 0 d_units_27 l_M_173 im_M_greatest se_M_greatest cd_M_greatest ⟨by decide, by decide⟩ ln_M_greatest rfl rfl rfl rfl rfl) (fun oc L1 hL => ?_)
  obtain ⟨v27, S27, hp, rfl, rfl⟩ := hL
  refine ⟨_, rfl, ?_⟩
  refine aw_eq (lo' := _) (st' := [.int v27]) (L' := [(0, ly_M, (o, ad, S27.1, S27.2.1, S27.2.2))]) rfl rfl rfl ?_
  refine a_istore (lo' := [some (.ref o), some (.int x1), some (.int x2), some (.int s0), some (.int v19), some (.int v27), none, none, none, none, none, none, none, none, none, none, none]) C d_units_30 (by decide) rfl ?_
  refine a_iload_n C d_units_32 rfl rfl ?_
  refine a_if_eq (tgt := 50) C d_units_33 (by decide) ⟨fun hc => ?_, fun hc => ?_⟩
  · have hp := hp.1 hc
    refine a_aload_n C d_units_50 rfl rfl ?_
    refine a_getI C 0 1 d_units_51 rfl rfl rfl (Nat.le_of_ble_eq_true rfl) f_M_7 (Nat.le_of_ble_eq_true rfl) ?_
    refine a_bipush (v := 8) C d_units_54 (by decide) ?_
    refine a_iload C d_units_56 rfl ?_
    refine a_imul C d_units_58 ?_
    refine a_call (Lr := [(0, ly_M, (o, ad, S27.1, S27.2.1, S27.2.2))]) (rest := []) (av := [.int (S27.1 1), .int (8 * v19)]) C [] [0] d_units_59 (ct_upward (S27.1 1) (8 * v19) hp) cd_M_upward i_M (Nat.le_of_ble_eq_true rfl) (by rw [hR]; exact Nat.le_of_ble_eq_true rfl) (by rw [hR]; exact Nat.le_of_ble_eq_true rfl) (by rw [hR]; exact Nat.le_of_ble_eq_true rfl) (by rw [hR]; exact Nat.le_of_ble_eq_true rfl) rfl rfl (by decide) (by decide) (by decide) (inv_S C d_units_59 l_M_177 st_M_upward i_M cd_M_upward ⟨by decide, by decide⟩ ln_M_upward rfl) (fun oc L1 hL => ?_)
    obtain ⟨v59, hp, rfl, rfl⟩ := hL
    refine ⟨_, rfl, ?_⟩
    refine aw_eq (lo' := _) (st' := [.int v59]) (L' := [(0, ly_M, (o, ad, S27.1, S27.2.1, S27.2.2))]) rfl rfl rfl ?_
    refine aw_lo (lo' := [some (.ref o), some (.int x1), some (.int x2), some (.int s0), none, some (.int v27), none, none, none, none, none, none, none, none, none, none, none]) ⟨.inr rfl, .inr rfl, .inr rfl, .inr rfl, .inl rfl, .inr rfl, .inr rfl, .inr rfl, .inr rfl, .inr rfl, .inr rfl, .inr rfl, .inr rfl, .inr rfl, .inr rfl, .inr rfl, .inr rfl, trivial⟩ ?_
    exact s_units_62 C hQ hA hR x1 x2 s0 v27 v59 (S27.1, S27.2.1, S27.2.2)  hp
  · have hp := hp.2 hc
    refine a_aload_n C d_units_36 rfl rfl ?_
    refine a_iconst (v := 0) C d_units_37 (by decide) ?_
    refine a_iconst (v := 0) C d_units_38 (by decide) ?_
    refine a_call (Lr := []) (rest := []) (av := .ref o :: [.int 0, .int 0]) C [0] [] d_units_39 (ct_layerWide 0 0 (S27.1, S27.2.1, S27.2.2) hp) cd_M_layerWide i_M (Nat.le_of_ble_eq_true rfl) (by rw [hR]; exact Nat.le_of_ble_eq_true rfl) (by rw [hR]; exact Nat.le_of_ble_eq_true rfl) (by rw [hR]; exact Nat.le_of_ble_eq_true rfl) (by rw [hR]; exact Nat.le_of_ble_eq_true rfl) rfl rfl (by decide) (by decide) (by decide) (inv_V C 0 d_units_39 l_M_184 im_M_layerWide se_M_layerWide cd_M_layerWide ⟨by decide, by decide⟩ ln_M_layerWide rfl rfl rfl rfl rfl) (fun oc L1 hL => ?_)
    obtain ⟨v39, S39, hp, rfl, rfl⟩ := hL
    refine ⟨_, rfl, ?_⟩
    refine aw_eq (lo' := _) (st' := [.int v39]) (L' := [(0, ly_M, (o, ad, S39.1, S39.2.1, S39.2.2))]) rfl rfl rfl ?_
    refine a_bipush (v := 8) C d_units_42 (by decide) ?_
    refine a_call (Lr := [(0, ly_M, (o, ad, S39.1, S39.2.1, S39.2.2))]) (rest := []) (av := [.int v39, .int 8]) C [] [0] d_units_44 (ct_upward v39 8 hp) cd_M_upward i_M (Nat.le_of_ble_eq_true rfl) (by rw [hR]; exact Nat.le_of_ble_eq_true rfl) (by rw [hR]; exact Nat.le_of_ble_eq_true rfl) (by rw [hR]; exact Nat.le_of_ble_eq_true rfl) (by rw [hR]; exact Nat.le_of_ble_eq_true rfl) rfl rfl (by decide) (by decide) (by decide) (inv_S C d_units_44 l_M_177 st_M_upward i_M cd_M_upward ⟨by decide, by decide⟩ ln_M_upward rfl) (fun oc L1 hL => ?_)
    obtain ⟨v44, hp, rfl, rfl⟩ := hL
    refine ⟨_, rfl, ?_⟩
    refine aw_eq (lo' := _) (st' := [.int v44]) (L' := [(0, ly_M, (o, ad, S39.1, S39.2.1, S39.2.2))]) rfl rfl rfl ?_
    refine a_goto (tgt := 62) C d_units_47 (by decide) ?_
    refine aw_lo (lo' := [some (.ref o), some (.int x1), some (.int x2), some (.int s0), none, some (.int v27), none, none, none, none, none, none, none, none, none, none, none]) ⟨.inr rfl, .inr rfl, .inr rfl, .inr rfl, .inl rfl, .inr rfl, .inr rfl, .inr rfl, .inr rfl, .inr rfl, .inr rfl, .inr rfl, .inr rfl, .inr rfl, .inr rfl, .inr rfl, .inr rfl, trivial⟩ ?_
    exact s_units_62 C hQ hA hR x1 x2 s0 v27 v44 (S39.1, S39.2.1, S39.2.2)  hp
set_option maxRecDepth 100000 in
set_option maxHeartbeats 1000000 in
theorem s_units_0 (C : fcx gG D z A X R_M c_M_units 17 (none)) (hQ : X.2.2.2.2.2.2.2.2.2.2 = eQ gG D z X.2.2.2.2.2.2.2.1 X.2.2.2.2.1 L0 0 0 (pM_v K o ad)) (hA : A = owA gG L0 X.2.2.2.2.1.heap.size) (hR : X.2.2.2.1 = { frames := 5, cells := 1, slots := 6, locals := 500 }) (x1 : Int32) (x2 : Int32) (S : ms) (hp : p_units x1 x2 S K) : aw gG D z A X 17 0 [some (.ref o), some (.int x1), some (.int x2), none, none, none, none, none, none, none, none, none, none, none, none, none, none] [] [(0, ly_M, (o, ad, S.1, S.2.1, S.2.2))] 0 0 := by
  unfold p_units at hp
  refine a_aload_n C d_units_0 rfl rfl ?_
  refine a_getR C 0 14 d_units_1 rfl rfl rfl (Nat.le_of_ble_eq_true rfl) f_M_47 ⟨Nat.le_of_ble_eq_true rfl, Nat.le_of_ble_eq_true rfl⟩ ?_
  refine a_iconst (v := 0) C d_units_4 (by decide) ?_
  refine a_iald C 0 14 d_units_5 rfl rfl rfl hp.1 ?_
  have hp := hp.2
  refine a_iconst (v := 1) C d_units_6 (by decide) ?_
  refine a_icmp_ne (tgt := 14) C d_units_7 (by decide) ⟨fun hc => ?_, fun hc => ?_⟩
  · have hp := hp.1 hc
    refine a_iconst (v := 0) C d_units_14 (by decide) ?_
    refine aw_lo (lo' := [some (.ref o), some (.int x1), some (.int x2), none, none, none, none, none, none, none, none, none, none, none, none, none, none]) ⟨.inr rfl, .inr rfl, .inr rfl, .inr rfl, .inr rfl, .inr rfl, .inr rfl, .inr rfl, .inr rfl, .inr rfl, .inr rfl, .inr rfl, .inr rfl, .inr rfl, .inr rfl, .inr rfl, .inr rfl, trivial⟩ ?_
    exact s_units_15 C hQ hA hR x1 x2 0 S  hp
  · have hp := hp.2 hc
    refine a_iconst (v := 1) C d_units_10 (by decide) ?_
    refine a_goto (tgt := 15) C d_units_11 (by decide) ?_
    refine aw_lo (lo' := [some (.ref o), some (.int x1), some (.int x2), none, none, none, none, none, none, none, none, none, none, none, none, none, none]) ⟨.inr rfl, .inr rfl, .inr rfl, .inr rfl, .inr rfl, .inr rfl, .inr rfl, .inr rfl, .inr rfl, .inr rfl, .inr rfl, .inr rfl, .inr rfl, .inr rfl, .inr rfl, .inr rfl, .inr rfl, trivial⟩ ?_
    exact s_units_15 C hQ hA hR x1 x2 1 S  hp
end M_units
section M_unitsc
variable {D : va_G} {z : Nat → ClassId} {o : Nat} {ad : Nat → Nat}
set_option maxRecDepth 100000 in
theorem ct_units {l : Launch} (x1 : Int32) (x2 : Int32) (S : ms) {K : ms → Prop} (hp : p_units x1 x2 S K) : ct gG D z l n_M_units c_M_units 17 (none) 5 500 [.ref o, .int x1, .int x2] [(0, ly_M, (o, ad, S.1, S.2.1, S.2.2))] 0 0 (pM_v K o ad) := by
  refine ct_of (lo := [some (.ref o), some (.int x1), some (.int x2), none, none, none, none, none, none, none, none, none, none, none, none, none, none]) (by decide) g_ok (Nat.le_of_ble_eq_true rfl) rfl ?_
  intro X A _ C hR hQ hA _
  exact s_units_0 C hQ hA hR x1 x2 S hp
end M_unitsc
def b_putCode_115 (x1 : Int32) (x3 : Int32) (x4 : Int32) (S : ms) (R75 : Int32 → Int32 → ms → Prop) (R84 : Int32 → Int32 → Int32 → ms → Prop) (K : ms → Prop) : Prop :=
  R84 x1 x3 (x4 + 1) S
def b_putCode_84 (x1 : Int32) (x3 : Int32) (x4 : Int32) (S : ms) (R75 : Int32 → Int32 → ms → Prop) (R84 : Int32 → Int32 → Int32 → ms → Prop) (K : ms → Prop) : Prop :=
  (256 ≤ x4 → (R75 x1 (x3 + 1) S)) ∧ (¬ (256 ≤ x4) → (vp_in ((257 * x1) + x4) 1028 ∧ ((¬ (S.2.1 27 ((257 * x1) + x4).toNatClampNeg) = x3 → (b_putCode_115 x1 x3 x4 S R75 R84 K)) ∧ ((S.2.1 27 ((257 * x1) + x4).toNatClampNeg) = x3 → (p_put x4 S (fun S112 => b_putCode_115 x1 x3 x4 (S112.1, S112.2.1, S112.2.2) R75 R84 K))))))
def e_putCode_84 (x1 : Int32) (x3 : Int32) (x4 : Int32) (S : ms) (R75 : Int32 → Int32 → ms → Prop) (K : ms → Prop) : Prop :=
  ∃ (I : Int32 → Int32 → Int32 → ms → Prop) (μ : Int32 → Int32 → Int32 → ms → Nat), I x1 x3 x4 S ∧ ∀ yx1 yx3 yx4 yS, I yx1 yx3 yx4 yS → b_putCode_84 yx1 yx3 yx4 yS R75 (fun zx1 zx3 zx4 zS => I zx1 zx3 zx4 zS ∧ μ zx1 zx3 zx4 zS < μ yx1 yx3 yx4 yS) K
def b_putCode_75 (x1 : Int32) (x3 : Int32) (S : ms) (R75 : Int32 → Int32 → ms → Prop) (K : ms → Prop) : Prop :=
  (16 < x3 → (K S)) ∧ (¬ (16 < x3) → (e_putCode_84 x1 x3 0 S R75 K))
def e_putCode_75 (x1 : Int32) (x3 : Int32) (S : ms) (K : ms → Prop) : Prop :=
  ∃ (I : Int32 → Int32 → ms → Prop) (μ : Int32 → Int32 → ms → Nat), I x1 x3 S ∧ ∀ yx1 yx3 yS, I yx1 yx3 yS → b_putCode_75 yx1 yx3 yS (fun zx1 zx3 zS => I zx1 zx3 zS ∧ μ zx1 zx3 zS < μ yx1 yx3 yS) K
def b_putCode_53 (x1 : Int32) (x3 : Int32) (x5 : Int32) (s0 : Int32) (S : ms) (R7 : Int32 → Int32 → ms → Prop) (R19 : Int32 → Int32 → Int32 → Int32 → ms → Prop) (K : ms → Prop) : Prop :=
  R19 x1 x3 s0 (x5 + 1) S
def b_putCode_19 (x1 : Int32) (x3 : Int32) (x4 : Int32) (x5 : Int32) (S : ms) (R7 : Int32 → Int32 → ms → Prop) (R19 : Int32 → Int32 → Int32 → Int32 → ms → Prop) (K : ms → Prop) : Prop :=
  (256 ≤ x5 → (p_put x4 S (fun S64 => R7 x1 (x3 + 1) (S64.1, S64.2.1, S64.2.2)))) ∧ (¬ (256 ≤ x5) → (vp_in ((257 * x1) + x5) 1028 ∧ ((¬ (S.2.1 27 ((257 * x1) + x5).toNatClampNeg) = x3 → (b_putCode_53 x1 x3 x5 x4 S R7 R19 K)) ∧ ((S.2.1 27 ((257 * x1) + x5).toNatClampNeg) = x3 → (b_putCode_53 x1 x3 x5 (x4 + 1) S R7 R19 K)))))
def e_putCode_19 (x1 : Int32) (x3 : Int32) (x4 : Int32) (x5 : Int32) (S : ms) (R7 : Int32 → Int32 → ms → Prop) (K : ms → Prop) : Prop :=
  ∃ (I : Int32 → Int32 → Int32 → Int32 → ms → Prop) (μ : Int32 → Int32 → Int32 → Int32 → ms → Nat), I x1 x3 x4 x5 S ∧ ∀ yx1 yx3 yx4 yx5 yS, I yx1 yx3 yx4 yx5 yS → b_putCode_19 yx1 yx3 yx4 yx5 yS R7 (fun zx1 zx3 zx4 zx5 zS => I zx1 zx3 zx4 zx5 zS ∧ μ zx1 zx3 zx4 zx5 zS < μ yx1 yx3 yx4 yx5 yS) K
def b_putCode_7 (x1 : Int32) (x3 : Int32) (S : ms) (R7 : Int32 → Int32 → ms → Prop) (K : ms → Prop) : Prop :=
  (16 < x3 → (e_putCode_75 x1 1 S K)) ∧ (¬ (16 < x3) → (e_putCode_19 x1 x3 0 0 S R7 K))
def e_putCode_7 (x1 : Int32) (x3 : Int32) (S : ms) (K : ms → Prop) : Prop :=
  ∃ (I : Int32 → Int32 → ms → Prop) (μ : Int32 → Int32 → ms → Nat), I x1 x3 S ∧ ∀ yx1 yx3 yS, I yx1 yx3 yS → b_putCode_7 yx1 yx3 yS (fun zx1 zx3 zS => I zx1 zx3 zS ∧ μ zx1 zx3 zS < μ yx1 yx3 yS) K
def p_putCode (x1 : Int32) (x2 : Int32) (S : ms) (K : ms → Prop) : Prop :=
  p_put x2 S (fun S2 => e_putCode_7 x1 1 (S2.1, S2.2.1, S2.2.2) K)
section M_putCode
variable {D : va_G} {z : Nat → ClassId} {A : Nat → Prop} {X : cx} {L0 : fw} {K : ms → Prop} {o : Nat} {ad : Nat → Nat}
set_option maxRecDepth 100000 in
set_option maxHeartbeats 1000000 in
theorem s_putCode_115 (C : fcx gG D z A X R_M c_M_putCode 6 (none)) (hQ : X.2.2.2.2.2.2.2.2.2.2 = eQ gG D z X.2.2.2.2.2.2.2.1 X.2.2.2.2.1 L0 0 0 (pM_v K o ad)) (hA : A = owA gG L0 X.2.2.2.2.1.heap.size) (hR : X.2.2.2.1 = { frames := 2, cells := 1, slots := 6, locals := 200 }) (x1 : Int32) (x3 : Int32) (x4 : Int32) (S : ms) (R75 : Int32 → Int32 → ms → Prop) (hR75 : ∀ yx1 yx3 yS, R75 yx1 yx3 yS → aw gG D z A X 6 75 [some (.ref o), some (.int yx1), none, some (.int yx3), none, none] [] [(0, ly_M, (o, ad, yS.1, yS.2.1, yS.2.2))] 0 0) (R84 : Int32 → Int32 → Int32 → ms → Prop) (hR84 : ∀ yx1 yx3 yx4 yS, R84 yx1 yx3 yx4 yS → aw gG D z A X 6 84 [some (.ref o), some (.int yx1), none, some (.int yx3), some (.int yx4), none] [] [(0, ly_M, (o, ad, yS.1, yS.2.1, yS.2.2))] 0 0) (hp : b_putCode_115 x1 x3 x4 S R75 R84 K) : aw gG D z A X 6 115 [some (.ref o), some (.int x1), none, some (.int x3), some (.int x4), none] [] [(0, ly_M, (o, ad, S.1, S.2.1, S.2.2))] 0 0 := by
  unfold b_putCode_115 at hp
  refine a_iinc (v := x4 + 1) (lo' := [some (.ref o), some (.int x1), none, some (.int x3), some (.int (x4 + 1)), none]) C d_putCode_115 rfl rfl (by decide) rfl ?_
  refine a_goto (tgt := 84) C d_putCode_118 (by decide) ?_
  refine aw_lo (lo' := [some (.ref o), some (.int x1), none, some (.int x3), some (.int (x4 + 1)), none]) ⟨.inr rfl, .inr rfl, .inr rfl, .inr rfl, .inr rfl, .inr rfl, trivial⟩ ?_
  exact hR84 x1 x3 (x4 + 1) S hp
set_option maxRecDepth 100000 in
set_option maxHeartbeats 1000000 in
theorem s_putCode_84 (C : fcx gG D z A X R_M c_M_putCode 6 (none)) (hQ : X.2.2.2.2.2.2.2.2.2.2 = eQ gG D z X.2.2.2.2.2.2.2.1 X.2.2.2.2.1 L0 0 0 (pM_v K o ad)) (hA : A = owA gG L0 X.2.2.2.2.1.heap.size) (hR : X.2.2.2.1 = { frames := 2, cells := 1, slots := 6, locals := 200 }) (x1 : Int32) (x3 : Int32) (x4 : Int32) (S : ms) (R75 : Int32 → Int32 → ms → Prop) (hR75 : ∀ yx1 yx3 yS, R75 yx1 yx3 yS → aw gG D z A X 6 75 [some (.ref o), some (.int yx1), none, some (.int yx3), none, none] [] [(0, ly_M, (o, ad, yS.1, yS.2.1, yS.2.2))] 0 0) (R84 : Int32 → Int32 → Int32 → ms → Prop) (hR84 : ∀ yx1 yx3 yx4 yS, R84 yx1 yx3 yx4 yS → aw gG D z A X 6 84 [some (.ref o), some (.int yx1), none, some (.int yx3), some (.int yx4), none] [] [(0, ly_M, (o, ad, yS.1, yS.2.1, yS.2.2))] 0 0) (hp : b_putCode_84 x1 x3 x4 S R75 R84 K) : aw gG D z A X 6 84 [some (.ref o), some (.int x1), none, some (.int x3), some (.int x4), none] [] [(0, ly_M, (o, ad, S.1, S.2.1, S.2.2))] 0 0 := by
  unfold b_putCode_84 at hp
  refine a_iload C d_putCode_84 rfl ?_
  refine a_sipush (v := 256) C d_putCode_86 (by decide) ?_
  refine a_icmp_ge (tgt := 121) C d_putCode_89 (by decide) ⟨fun hc => ?_, fun hc => ?_⟩
  · have hp := hp.1 hc
    refine a_iinc (v := x3 + 1) (lo' := [some (.ref o), some (.int x1), none, some (.int (x3 + 1)), some (.int x4), none]) C d_putCode_121 rfl rfl (by decide) rfl ?_
    refine a_goto (tgt := 75) C d_putCode_124 (by decide) ?_
    refine aw_lo (lo' := [some (.ref o), some (.int x1), none, some (.int (x3 + 1)), none, none]) ⟨.inr rfl, .inr rfl, .inr rfl, .inr rfl, .inl rfl, .inr rfl, trivial⟩ ?_
    exact hR75 x1 (x3 + 1) S hp
  · have hp := hp.2 hc
    refine a_aload_n C d_putCode_92 rfl rfl ?_
    refine a_getR C 0 27 d_putCode_93 rfl rfl rfl (Nat.le_of_ble_eq_true rfl) f_M_88 ⟨Nat.le_of_ble_eq_true rfl, Nat.le_of_ble_eq_true rfl⟩ ?_
    refine a_sipush (v := 257) C d_putCode_96 (by decide) ?_
    refine a_iload_n C d_putCode_99 rfl rfl ?_
    refine a_imul C d_putCode_100 ?_
    refine a_iload C d_putCode_101 rfl ?_
    refine a_iadd C d_putCode_103 ?_
    refine a_iald C 0 27 d_putCode_104 rfl rfl rfl hp.1 ?_
    have hp := hp.2
    refine a_iload_n C d_putCode_105 rfl rfl ?_
    refine a_icmp_ne (tgt := 115) C d_putCode_106 (by decide) ⟨fun hc => ?_, fun hc => ?_⟩
    · have hp := hp.1 hc
      refine aw_lo (lo' := [some (.ref o), some (.int x1), none, some (.int x3), some (.int x4), none]) ⟨.inr rfl, .inr rfl, .inr rfl, .inr rfl, .inr rfl, .inr rfl, trivial⟩ ?_
      exact s_putCode_115 C hQ hA hR x1 x3 x4 S R75 hR75 R84 hR84 hp
    · have hp := hp.2 hc
      refine a_aload_n C d_putCode_109 rfl rfl ?_
      refine a_iload C d_putCode_110 rfl ?_
      refine a_call (Lr := []) (rest := []) (av := .ref o :: [.int x4]) C [0] [] d_putCode_112 (ct_put x4 S hp) cd_M_put i_M (Nat.le_of_ble_eq_true rfl) (by rw [hR]; exact Nat.le_of_ble_eq_true rfl) (by rw [hR]; exact Nat.le_of_ble_eq_true rfl) (by rw [hR]; exact Nat.le_of_ble_eq_true rfl) (by rw [hR]; exact Nat.le_of_ble_eq_true rfl) rfl rfl (by decide) (by decide) (by decide) (inv_V C 0 d_putCode_112 l_M_200 im_M_put se_M_put cd_M_put ⟨by decide, by decide⟩ ln_M_put rfl rfl rfl rfl rfl) (fun oc L1 hL => ?_)
      obtain ⟨S112, hp, rfl, rfl⟩ := hL
      refine ⟨_, rfl, ?_⟩
      refine aw_eq (lo' := _) (st' := []) (L' := [(0, ly_M, (o, ad, S112.1, S112.2.1, S112.2.2))]) rfl rfl rfl ?_
      refine aw_lo (lo' := [some (.ref o), some (.int x1), none, some (.int x3), some (.int x4), none]) ⟨.inr rfl, .inr rfl, .inr rfl, .inr rfl, .inr rfl, .inr rfl, trivial⟩ ?_
      exact s_putCode_115 C hQ hA hR x1 x3 x4 (S112.1, S112.2.1, S112.2.2) R75 hR75 R84 hR84 hp
set_option maxRecDepth 100000 in
set_option maxHeartbeats 1000000 in
theorem se_putCode_84 (C : fcx gG D z A X R_M c_M_putCode 6 (none)) (hQ : X.2.2.2.2.2.2.2.2.2.2 = eQ gG D z X.2.2.2.2.2.2.2.1 X.2.2.2.2.1 L0 0 0 (pM_v K o ad)) (hA : A = owA gG L0 X.2.2.2.2.1.heap.size) (hR : X.2.2.2.1 = { frames := 2, cells := 1, slots := 6, locals := 200 }) (x1 : Int32) (x3 : Int32) (x4 : Int32) (S : ms) (R75 : Int32 → Int32 → ms → Prop) (hR75 : ∀ yx1 yx3 yS, R75 yx1 yx3 yS → aw gG D z A X 6 75 [some (.ref o), some (.int yx1), none, some (.int yx3), none, none] [] [(0, ly_M, (o, ad, yS.1, yS.2.1, yS.2.2))] 0 0) (hp : e_putCode_84 x1 x3 x4 S R75 K) : aw gG D z A X 6 84 [some (.ref o), some (.int x1), none, some (.int x3), some (.int x4), none] [] [(0, ly_M, (o, ad, S.1, S.2.1, S.2.2))] 0 0 := by
  obtain ⟨I, μ, h0, hs⟩ := hp
  have key : ∀ (n : Nat) (yx1 : Int32) (yx3 : Int32) (yx4 : Int32) (yS : ms), μ yx1 yx3 yx4 yS < n → I yx1 yx3 yx4 yS → aw gG D z A X 6 84 [some (.ref o), some (.int yx1), none, some (.int yx3), some (.int yx4), none] [] [(0, ly_M, (o, ad, yS.1, yS.2.1, yS.2.2))] 0 0 := by
    intro n
    induction n with
    | zero => intro yx1 yx3 yx4 yS h; omega
    | succ n ih =>
      intro yx1 yx3 yx4 yS hn hI
      exact s_putCode_84 C hQ hA hR yx1 yx3 yx4 yS R75 hR75 _ (fun zx1 zx3 zx4 zS hw => ih zx1 zx3 zx4 zS (by omega) hw.1) (hs yx1 yx3 yx4 yS hI)
  exact key (μ x1 x3 x4 S + 1) x1 x3 x4 S (Nat.lt_succ_self _) h0
set_option maxRecDepth 100000 in
set_option maxHeartbeats 1000000 in
theorem s_putCode_75 (C : fcx gG D z A X R_M c_M_putCode 6 (none)) (hQ : X.2.2.2.2.2.2.2.2.2.2 = eQ gG D z X.2.2.2.2.2.2.2.1 X.2.2.2.2.1 L0 0 0 (pM_v K o ad)) (hA : A = owA gG L0 X.2.2.2.2.1.heap.size) (hR : X.2.2.2.1 = { frames := 2, cells := 1, slots := 6, locals := 200 }) (x1 : Int32) (x3 : Int32) (S : ms) (R75 : Int32 → Int32 → ms → Prop) (hR75 : ∀ yx1 yx3 yS, R75 yx1 yx3 yS → aw gG D z A X 6 75 [some (.ref o), some (.int yx1), none, some (.int yx3), none, none] [] [(0, ly_M, (o, ad, yS.1, yS.2.1, yS.2.2))] 0 0) (hp : b_putCode_75 x1 x3 S R75 K) : aw gG D z A X 6 75 [some (.ref o), some (.int x1), none, some (.int x3), none, none] [] [(0, ly_M, (o, ad, S.1, S.2.1, S.2.2))] 0 0 := by
  unfold b_putCode_75 at hp
  refine a_iload_n C d_putCode_75 rfl rfl ?_
  refine a_bipush (v := 16) C d_putCode_76 (by decide) ?_
  refine a_icmp_gt (tgt := 127) C d_putCode_78 (by decide) ⟨fun hc => ?_, fun hc => ?_⟩
  · have hp := hp.1 hc
    exact a_vret C hQ hA d_putCode_127 rfl ⟨S, hp, rfl, rfl⟩
  · have hp := hp.2 hc
    refine a_iconst (v := 0) C d_putCode_81 (by decide) ?_
    refine a_istore (lo' := [some (.ref o), some (.int x1), none, some (.int x3), some (.int 0), none]) C d_putCode_82 (by decide) rfl ?_
    refine aw_lo (lo' := [some (.ref o), some (.int x1), none, some (.int x3), some (.int 0), none]) ⟨.inr rfl, .inr rfl, .inr rfl, .inr rfl, .inr rfl, .inr rfl, trivial⟩ ?_
    exact se_putCode_84 C hQ hA hR x1 x3 0 S R75 hR75 hp
set_option maxRecDepth 100000 in
set_option maxHeartbeats 1000000 in
theorem se_putCode_75 (C : fcx gG D z A X R_M c_M_putCode 6 (none)) (hQ : X.2.2.2.2.2.2.2.2.2.2 = eQ gG D z X.2.2.2.2.2.2.2.1 X.2.2.2.2.1 L0 0 0 (pM_v K o ad)) (hA : A = owA gG L0 X.2.2.2.2.1.heap.size) (hR : X.2.2.2.1 = { frames := 2, cells := 1, slots := 6, locals := 200 }) (x1 : Int32) (x3 : Int32) (S : ms) (hp : e_putCode_75 x1 x3 S K) : aw gG D z A X 6 75 [some (.ref o), some (.int x1), none, some (.int x3), none, none] [] [(0, ly_M, (o, ad, S.1, S.2.1, S.2.2))] 0 0 := by
  obtain ⟨I, μ, h0, hs⟩ := hp
  have key : ∀ (n : Nat) (yx1 : Int32) (yx3 : Int32) (yS : ms), μ yx1 yx3 yS < n → I yx1 yx3 yS → aw gG D z A X 6 75 [some (.ref o), some (.int yx1), none, some (.int yx3), none, none] [] [(0, ly_M, (o, ad, yS.1, yS.2.1, yS.2.2))] 0 0 := by
    intro n
    induction n with
    | zero => intro yx1 yx3 yS h; omega
    | succ n ih =>
      intro yx1 yx3 yS hn hI
      exact s_putCode_75 C hQ hA hR yx1 yx3 yS _ (fun zx1 zx3 zS hw => ih zx1 zx3 zS (by omega) hw.1) (hs yx1 yx3 yS hI)
  exact key (μ x1 x3 S + 1) x1 x3 S (Nat.lt_succ_self _) h0
set_option maxRecDepth 100000 in
set_option maxHeartbeats 1000000 in
theorem s_putCode_53 (C : fcx gG D z A X R_M c_M_putCode 6 (none)) (hQ : X.2.2.2.2.2.2.2.2.2.2 = eQ gG D z X.2.2.2.2.2.2.2.1 X.2.2.2.2.1 L0 0 0 (pM_v K o ad)) (hA : A = owA gG L0 X.2.2.2.2.1.heap.size) (hR : X.2.2.2.1 = { frames := 2, cells := 1, slots := 6, locals := 200 }) (x1 : Int32) (x3 : Int32) (x5 : Int32) (s0 : Int32) (S : ms) (R7 : Int32 → Int32 → ms → Prop) (hR7 : ∀ yx1 yx3 yS, R7 yx1 yx3 yS → aw gG D z A X 6 7 [some (.ref o), some (.int yx1), none, some (.int yx3), none, none] [] [(0, ly_M, (o, ad, yS.1, yS.2.1, yS.2.2))] 0 0) (R19 : Int32 → Int32 → Int32 → Int32 → ms → Prop) (hR19 : ∀ yx1 yx3 yx4 yx5 yS, R19 yx1 yx3 yx4 yx5 yS → aw gG D z A X 6 19 [some (.ref o), some (.int yx1), none, some (.int yx3), some (.int yx4), some (.int yx5)] [] [(0, ly_M, (o, ad, yS.1, yS.2.1, yS.2.2))] 0 0) (hp : b_putCode_53 x1 x3 x5 s0 S R7 R19 K) : aw gG D z A X 6 53 [some (.ref o), some (.int x1), none, some (.int x3), none, some (.int x5)] [.int s0] [(0, ly_M, (o, ad, S.1, S.2.1, S.2.2))] 0 0 := by
  unfold b_putCode_53 at hp
  refine a_istore (lo' := [some (.ref o), some (.int x1), none, some (.int x3), some (.int s0), some (.int x5)]) C d_putCode_53 (by decide) rfl ?_
  refine a_iinc (v := x5 + 1) (lo' := [some (.ref o), some (.int x1), none, some (.int x3), some (.int s0), some (.int (x5 + 1))]) C d_putCode_55 rfl rfl (by decide) rfl ?_
  refine a_goto (tgt := 19) C d_putCode_58 (by decide) ?_
  refine aw_lo (lo' := [some (.ref o), some (.int x1), none, some (.int x3), some (.int s0), some (.int (x5 + 1))]) ⟨.inr rfl, .inr rfl, .inr rfl, .inr rfl, .inr rfl, .inr rfl, trivial⟩ ?_
  exact hR19 x1 x3 s0 (x5 + 1) S hp
set_option maxRecDepth 100000 in
set_option maxHeartbeats 1000000 in
theorem s_putCode_19 (C : fcx gG D z A X R_M c_M_putCode 6 (none)) (hQ : X.2.2.2.2.2.2.2.2.2.2 = eQ gG D z X.2.2.2.2.2.2.2.1 X.2.2.2.2.1 L0 0 0 (pM_v K o ad)) (hA : A = owA gG L0 X.2.2.2.2.1.heap.size) (hR : X.2.2.2.1 = { frames := 2, cells := 1, slots := 6, locals := 200 }) (x1 : Int32) (x3 : Int32) (x4 : Int32) (x5 : Int32) (S : ms) (R7 : Int32 → Int32 → ms → Prop) (hR7 : ∀ yx1 yx3 yS, R7 yx1 yx3 yS → aw gG D z A X 6 7 [some (.ref o), some (.int yx1), none, some (.int yx3), none, none] [] [(0, ly_M, (o, ad, yS.1, yS.2.1, yS.2.2))] 0 0) (R19 : Int32 → Int32 → Int32 → Int32 → ms → Prop) (hR19 : ∀ yx1 yx3 yx4 yx5 yS, R19 yx1 yx3 yx4 yx5 yS → aw gG D z A X 6 19 [some (.ref o), some (.int yx1), none, some (.int yx3), some (.int yx4), some (.int yx5)] [] [(0, ly_M, (o, ad, yS.1, yS.2.1, yS.2.2))] 0 0) (hp : b_putCode_19 x1 x3 x4 x5 S R7 R19 K) : aw gG D z A X 6 19 [some (.ref o), some (.int x1), none, some (.int x3), some (.int x4), some (.int x5)] [] [(0, ly_M, (o, ad, S.1, S.2.1, S.2.2))] 0 0 := by
  unfold b_putCode_19 at hp
  refine a_iload C d_putCode_19 rfl ?_
  refine a_sipush (v := 256) C d_putCode_21 (by decide) ?_
  refine a_icmp_ge (tgt := 61) C d_putCode_24 (by decide) ⟨fun hc => ?_, fun hc => ?_⟩
  · have hp := hp.1 hc
    refine a_aload_n C d_putCode_61 rfl rfl ?_
    refine a_iload C d_putCode_62 rfl ?_
    refine a_call (Lr := []) (rest := []) (av := .ref o :: [.int x4]) C [0] [] d_putCode_64 (ct_put x4 S hp) cd_M_put i_M (Nat.le_of_ble_eq_true rfl) (by rw [hR]; exact Nat.le_of_ble_eq_true rfl) (by rw [hR]; exact Nat.le_of_ble_eq_true rfl) (by rw [hR]; exact Nat.le_of_ble_eq_true rfl) (by rw [hR]; exact Nat.le_of_ble_eq_true rfl) rfl rfl (by decide) (by decide) (by decide) (inv_V C 0 d_putCode_64 l_M_200 im_M_put se_M_put cd_M_put ⟨by decide, by decide⟩ ln_M_put rfl rfl rfl rfl rfl) (fun oc L1 hL => ?_)
    obtain ⟨S64, hp, rfl, rfl⟩ := hL
    refine ⟨_, rfl, ?_⟩
    refine aw_eq (lo' := _) (st' := []) (L' := [(0, ly_M, (o, ad, S64.1, S64.2.1, S64.2.2))]) rfl rfl rfl ?_
    refine a_iinc (v := x3 + 1) (lo' := [some (.ref o), some (.int x1), none, some (.int (x3 + 1)), some (.int x4), some (.int x5)]) C d_putCode_67 rfl rfl (by decide) rfl ?_
    refine a_goto (tgt := 7) C d_putCode_70 (by decide) ?_
    refine aw_lo (lo' := [some (.ref o), some (.int x1), none, some (.int (x3 + 1)), none, none]) ⟨.inr rfl, .inr rfl, .inr rfl, .inr rfl, .inl rfl, .inl rfl, trivial⟩ ?_
    exact hR7 x1 (x3 + 1) (S64.1, S64.2.1, S64.2.2) hp
  · have hp := hp.2 hc
    refine a_aload_n C d_putCode_27 rfl rfl ?_
    refine a_getR C 0 27 d_putCode_28 rfl rfl rfl (Nat.le_of_ble_eq_true rfl) f_M_88 ⟨Nat.le_of_ble_eq_true rfl, Nat.le_of_ble_eq_true rfl⟩ ?_
    refine a_sipush (v := 257) C d_putCode_31 (by decide) ?_
    refine a_iload_n C d_putCode_34 rfl rfl ?_
    refine a_imul C d_putCode_35 ?_
    refine a_iload C d_putCode_36 rfl ?_
    refine a_iadd C d_putCode_38 ?_
    refine a_iald C 0 27 d_putCode_39 rfl rfl rfl hp.1 ?_
    have hp := hp.2
    refine a_iload_n C d_putCode_40 rfl rfl ?_
    refine a_icmp_ne (tgt := 51) C d_putCode_41 (by decide) ⟨fun hc => ?_, fun hc => ?_⟩
    · have hp := hp.1 hc
      refine a_iload C d_putCode_51 rfl ?_
      refine aw_lo (lo' := [some (.ref o), some (.int x1), none, some (.int x3), none, some (.int x5)]) ⟨.inr rfl, .inr rfl, .inr rfl, .inr rfl, .inl rfl, .inr rfl, trivial⟩ ?_
      exact s_putCode_53 C hQ hA hR x1 x3 x5 x4 S R7 hR7 R19 hR19 hp
    · have hp := hp.2 hc
      refine a_iload C d_putCode_44 rfl ?_
      refine a_iconst (v := 1) C d_putCode_46 (by decide) ?_
      refine a_iadd C d_putCode_47 ?_
      refine a_goto (tgt := 53) C d_putCode_48 (by decide) ?_
      refine aw_lo (lo' := [some (.ref o), some (.int x1), none, some (.int x3), none, some (.int x5)]) ⟨.inr rfl, .inr rfl, .inr rfl, .inr rfl, .inl rfl, .inr rfl, trivial⟩ ?_
      exact s_putCode_53 C hQ hA hR x1 x3 x5 (x4 + 1) S R7 hR7 R19 hR19 hp
set_option maxRecDepth 100000 in
set_option maxHeartbeats 1000000 in
theorem se_putCode_19 (C : fcx gG D z A X R_M c_M_putCode 6 (none)) (hQ : X.2.2.2.2.2.2.2.2.2.2 = eQ gG D z X.2.2.2.2.2.2.2.1 X.2.2.2.2.1 L0 0 0 (pM_v K o ad)) (hA : A = owA gG L0 X.2.2.2.2.1.heap.size) (hR : X.2.2.2.1 = { frames := 2, cells := 1, slots := 6, locals := 200 }) (x1 : Int32) (x3 : Int32) (x4 : Int32) (x5 : Int32) (S : ms) (R7 : Int32 → Int32 → ms → Prop) (hR7 : ∀ yx1 yx3 yS, R7 yx1 yx3 yS → aw gG D z A X 6 7 [some (.ref o), some (.int yx1), none, some (.int yx3), none, none] [] [(0, ly_M, (o, ad, yS.1, yS.2.1, yS.2.2))] 0 0) (hp : e_putCode_19 x1 x3 x4 x5 S R7 K) : aw gG D z A X 6 19 [some (.ref o), some (.int x1), none, some (.int x3), some (.int x4), some (.int x5)] [] [(0, ly_M, (o, ad, S.1, S.2.1, S.2.2))] 0 0 := by
  obtain ⟨I, μ, h0, hs⟩ := hp
  have key : ∀ (n : Nat) (yx1 : Int32) (yx3 : Int32) (yx4 : Int32) (yx5 : Int32) (yS : ms), μ yx1 yx3 yx4 yx5 yS < n → I yx1 yx3 yx4 yx5 yS → aw gG D z A X 6 19 [some (.ref o), some (.int yx1), none, some (.int yx3), some (.int yx4), some (.int yx5)] [] [(0, ly_M, (o, ad, yS.1, yS.2.1, yS.2.2))] 0 0 := by
    intro n
    induction n with
    | zero => intro yx1 yx3 yx4 yx5 yS h; omega
    | succ n ih =>
      intro yx1 yx3 yx4 yx5 yS hn hI
      exact s_putCode_19 C hQ hA hR yx1 yx3 yx4 yx5 yS R7 hR7 _ (fun zx1 zx3 zx4 zx5 zS hw => ih zx1 zx3 zx4 zx5 zS (by omega) hw.1) (hs yx1 yx3 yx4 yx5 yS hI)
  exact key (μ x1 x3 x4 x5 S + 1) x1 x3 x4 x5 S (Nat.lt_succ_self _) h0
set_option maxRecDepth 100000 in
set_option maxHeartbeats 1000000 in
theorem s_putCode_7 (C : fcx gG D z A X R_M c_M_putCode 6 (none)) (hQ : X.2.2.2.2.2.2.2.2.2.2 = eQ gG D z X.2.2.2.2.2.2.2.1 X.2.2.2.2.1 L0 0 0 (pM_v K o ad)) (hA : A = owA gG L0 X.2.2.2.2.1.heap.size) (hR : X.2.2.2.1 = { frames := 2, cells := 1, slots := 6, locals := 200 }) (x1 : Int32) (x3 : Int32) (S : ms) (R7 : Int32 → Int32 → ms → Prop) (hR7 : ∀ yx1 yx3 yS, R7 yx1 yx3 yS → aw gG D z A X 6 7 [some (.ref o), some (.int yx1), none, some (.int yx3), none, none] [] [(0, ly_M, (o, ad, yS.1, yS.2.1, yS.2.2))] 0 0) (hp : b_putCode_7 x1 x3 S R7 K) : aw gG D z A X 6 7 [some (.ref o), some (.int x1), none, some (.int x3), none, none] [] [(0, ly_M, (o, ad, S.1, S.2.1, S.2.2))] 0 0 := by
  unfold b_putCode_7 at hp
  refine a_iload_n C d_putCode_7 rfl rfl ?_
  refine a_bipush (v := 16) C d_putCode_8 (by decide) ?_
  refine a_icmp_gt (tgt := 73) C d_putCode_10 (by decide) ⟨fun hc => ?_, fun hc => ?_⟩
  · have hp := hp.1 hc
    refine a_iconst (v := 1) C d_putCode_73 (by decide) ?_
    refine a_istore_n (lo' := [some (.ref o), some (.int x1), none, some (.int 1), none, none]) C d_putCode_74 rfl (by decide) rfl ?_
    refine aw_lo (lo' := [some (.ref o), some (.int x1), none, some (.int 1), none, none]) ⟨.inr rfl, .inr rfl, .inr rfl, .inr rfl, .inr rfl, .inr rfl, trivial⟩ ?_
    exact se_putCode_75 C hQ hA hR x1 1 S  hp
  · have hp := hp.2 hc
    refine a_iconst (v := 0) C d_putCode_13 (by decide) ?_
    refine a_istore (lo' := [some (.ref o), some (.int x1), none, some (.int x3), some (.int 0), none]) C d_putCode_14 (by decide) rfl ?_
    refine a_iconst (v := 0) C d_putCode_16 (by decide) ?_
    refine a_istore (lo' := [some (.ref o), some (.int x1), none, some (.int x3), some (.int 0), some (.int 0)]) C d_putCode_17 (by decide) rfl ?_
    refine aw_lo (lo' := [some (.ref o), some (.int x1), none, some (.int x3), some (.int 0), some (.int 0)]) ⟨.inr rfl, .inr rfl, .inr rfl, .inr rfl, .inr rfl, .inr rfl, trivial⟩ ?_
    exact se_putCode_19 C hQ hA hR x1 x3 0 0 S R7 hR7 hp
set_option maxRecDepth 100000 in
set_option maxHeartbeats 1000000 in
theorem se_putCode_7 (C : fcx gG D z A X R_M c_M_putCode 6 (none)) (hQ : X.2.2.2.2.2.2.2.2.2.2 = eQ gG D z X.2.2.2.2.2.2.2.1 X.2.2.2.2.1 L0 0 0 (pM_v K o ad)) (hA : A = owA gG L0 X.2.2.2.2.1.heap.size) (hR : X.2.2.2.1 = { frames := 2, cells := 1, slots := 6, locals := 200 }) (x1 : Int32) (x3 : Int32) (S : ms) (hp : e_putCode_7 x1 x3 S K) : aw gG D z A X 6 7 [some (.ref o), some (.int x1), none, some (.int x3), none, none] [] [(0, ly_M, (o, ad, S.1, S.2.1, S.2.2))] 0 0 := by
  obtain ⟨I, μ, h0, hs⟩ := hp
  have key : ∀ (n : Nat) (yx1 : Int32) (yx3 : Int32) (yS : ms), μ yx1 yx3 yS < n → I yx1 yx3 yS → aw gG D z A X 6 7 [some (.ref o), some (.int yx1), none, some (.int yx3), none, none] [] [(0, ly_M, (o, ad, yS.1, yS.2.1, yS.2.2))] 0 0 := by
    intro n
    induction n with
    | zero => intro yx1 yx3 yS h; omega
    | succ n ih =>
      intro yx1 yx3 yS hn hI
      exact s_putCode_7 C hQ hA hR yx1 yx3 yS _ (fun zx1 zx3 zS hw => ih zx1 zx3 zS (by omega) hw.1) (hs yx1 yx3 yS hI)
  exact key (μ x1 x3 S + 1) x1 x3 S (Nat.lt_succ_self _) h0
set_option maxRecDepth 100000 in
set_option maxHeartbeats 1000000 in
theorem s_putCode_0 (C : fcx gG D z A X R_M c_M_putCode 6 (none)) (hQ : X.2.2.2.2.2.2.2.2.2.2 = eQ gG D z X.2.2.2.2.2.2.2.1 X.2.2.2.2.1 L0 0 0 (pM_v K o ad)) (hA : A = owA gG L0 X.2.2.2.2.1.heap.size) (hR : X.2.2.2.1 = { frames := 2, cells := 1, slots := 6, locals := 200 }) (x1 : Int32) (x2 : Int32) (S : ms) (hp : p_putCode x1 x2 S K) : aw gG D z A X 6 0 [some (.ref o), some (.int x1), some (.int x2), none, none, none] [] [(0, ly_M, (o, ad, S.1, S.2.1, S.2.2))] 0 0 := by
  unfold p_putCode at hp
  refine a_aload_n C d_putCode_0 rfl rfl ?_
  refine a_iload_n C d_putCode_1 rfl rfl ?_
  refine a_call (Lr := []) (rest := []) (av := .ref o :: [.int x2]) C [0] [] d_putCode_2 (ct_put x2 S hp) cd_M_put i_M (Nat.le_of_ble_eq_true rfl) (by rw [hR]; exact Nat.le_of_ble_eq_true rfl) (by rw [hR]; exact Nat.le_of_ble_eq_true rfl) (by rw [hR]; exact Nat.le_of_ble_eq_true rfl) (by rw [hR]; exact Nat.le_of_ble_eq_true rfl) rfl rfl (by decide) (by decide) (by decide) (inv_V C 0 d_putCode_2 l_M_200 im_M_put se_M_put cd_M_put ⟨by decide, by decide⟩ ln_M_put rfl rfl rfl rfl rfl) (fun oc L1 hL => ?_)
  obtain ⟨S2, hp, rfl, rfl⟩ := hL
  refine ⟨_, rfl, ?_⟩
  refine aw_eq (lo' := _) (st' := []) (L' := [(0, ly_M, (o, ad, S2.1, S2.2.1, S2.2.2))]) rfl rfl rfl ?_
  refine a_iconst (v := 1) C d_putCode_5 (by decide) ?_
  refine a_istore_n (lo' := [some (.ref o), some (.int x1), some (.int x2), some (.int 1), none, none]) C d_putCode_6 rfl (by decide) rfl ?_
  refine aw_lo (lo' := [some (.ref o), some (.int x1), none, some (.int 1), none, none]) ⟨.inr rfl, .inr rfl, .inl rfl, .inr rfl, .inr rfl, .inr rfl, trivial⟩ ?_
  exact se_putCode_7 C hQ hA hR x1 1 (S2.1, S2.2.1, S2.2.2)  hp
end M_putCode
section M_putCodec
variable {D : va_G} {z : Nat → ClassId} {o : Nat} {ad : Nat → Nat}
set_option maxRecDepth 100000 in
theorem ct_putCode {l : Launch} (x1 : Int32) (x2 : Int32) (S : ms) {K : ms → Prop} (hp : p_putCode x1 x2 S K) : ct gG D z l n_M_putCode c_M_putCode 6 (none) 2 200 [.ref o, .int x1, .int x2] [(0, ly_M, (o, ad, S.1, S.2.1, S.2.2))] 0 0 (pM_v K o ad) := by
  refine ct_of (lo := [some (.ref o), some (.int x1), some (.int x2), none, none, none]) (by decide) g_ok (Nat.le_of_ble_eq_true rfl) rfl ?_
  intro X A _ C hR hQ hA _
  exact s_putCode_0 C hQ hA hR x1 x2 S hp
end M_putCodec
def b_codeSize_34 (x1 : Int32) (x3 : Int32) (s0 : Int32) (S : ms) (R5 : Int32 → Int32 → Int32 → ms → Prop) (K : Int32 → ms → Prop) : Prop :=
  R5 x1 s0 (x3 + 1) S
def b_codeSize_5 (x1 : Int32) (x2 : Int32) (x3 : Int32) (S : ms) (R5 : Int32 → Int32 → Int32 → ms → Prop) (K : Int32 → ms → Prop) : Prop :=
  (256 ≤ x3 → (K x2 S)) ∧ (¬ (256 ≤ x3) → (vp_in ((257 * x1) + x3) 1028 ∧ (((S.2.1 27 ((257 * x1) + x3).toNatClampNeg) ≤ 0 → (b_codeSize_34 x1 x3 x2 S R5 K)) ∧ (¬ ((S.2.1 27 ((257 * x1) + x3).toNatClampNeg) ≤ 0) → (b_codeSize_34 x1 x3 (x2 + 1) S R5 K)))))
def e_codeSize_5 (x1 : Int32) (x2 : Int32) (x3 : Int32) (S : ms) (K : Int32 → ms → Prop) : Prop :=
  ∃ (I : Int32 → Int32 → Int32 → ms → Prop) (μ : Int32 → Int32 → Int32 → ms → Nat), I x1 x2 x3 S ∧ ∀ yx1 yx2 yx3 yS, I yx1 yx2 yx3 yS → b_codeSize_5 yx1 yx2 yx3 yS (fun zx1 zx2 zx3 zS => I zx1 zx2 zx3 zS ∧ μ zx1 zx2 zx3 zS < μ yx1 yx2 yx3 yS) K
def p_codeSize (x1 : Int32) (S : ms) (K : Int32 → ms → Prop) : Prop :=
  e_codeSize_5 x1 17 0 S K
section M_codeSize
variable {D : va_G} {z : Nat → ClassId} {A : Nat → Prop} {X : cx} {L0 : fw} {K : Int32 → ms → Prop} {o : Nat} {ad : Nat → Nat}
set_option maxRecDepth 100000 in
set_option maxHeartbeats 1000000 in
theorem s_codeSize_34 (C : fcx gG D z A X R_M c_M_codeSize 4 (some .int)) (hQ : X.2.2.2.2.2.2.2.2.2.2 = eQ gG D z X.2.2.2.2.2.2.2.1 X.2.2.2.2.1 L0 0 0 (pM_i K o ad)) (hA : A = owA gG L0 X.2.2.2.2.1.heap.size) (hR : X.2.2.2.1 = { frames := 1, cells := 1, slots := 6, locals := 100 }) (x1 : Int32) (x3 : Int32) (s0 : Int32) (S : ms) (R5 : Int32 → Int32 → Int32 → ms → Prop) (hR5 : ∀ yx1 yx2 yx3 yS, R5 yx1 yx2 yx3 yS → aw gG D z A X 4 5 [some (.ref o), some (.int yx1), some (.int yx2), some (.int yx3)] [] [(0, ly_M, (o, ad, yS.1, yS.2.1, yS.2.2))] 0 0) (hp : b_codeSize_34 x1 x3 s0 S R5 K) : aw gG D z A X 4 34 [some (.ref o), some (.int x1), none, some (.int x3)] [.int s0] [(0, ly_M, (o, ad, S.1, S.2.1, S.2.2))] 0 0 := by
  unfold b_codeSize_34 at hp
  refine a_istore_n (lo' := [some (.ref o), some (.int x1), some (.int s0), some (.int x3)]) C d_codeSize_34 rfl (by decide) rfl ?_
  refine a_iinc (v := x3 + 1) (lo' := [some (.ref o), some (.int x1), some (.int s0), some (.int (x3 + 1))]) C d_codeSize_35 rfl rfl (by decide) rfl ?_
  refine a_goto (tgt := 5) C d_codeSize_38 (by decide) ?_
  refine aw_lo (lo' := [some (.ref o), some (.int x1), some (.int s0), some (.int (x3 + 1))]) ⟨.inr rfl, .inr rfl, .inr rfl, .inr rfl, trivial⟩ ?_
  exact hR5 x1 s0 (x3 + 1) S hp
set_option maxRecDepth 100000 in
set_option maxHeartbeats 1000000 in
theorem s_codeSize_5 (C : fcx gG D z A X R_M c_M_codeSize 4 (some .int)) (hQ : X.2.2.2.2.2.2.2.2.2.2 = eQ gG D z X.2.2.2.2.2.2.2.1 X.2.2.2.2.1 L0 0 0 (pM_i K o ad)) (hA : A = owA gG L0 X.2.2.2.2.1.heap.size) (hR : X.2.2.2.1 = { frames := 1, cells := 1, slots := 6, locals := 100 }) (x1 : Int32) (x2 : Int32) (x3 : Int32) (S : ms) (R5 : Int32 → Int32 → Int32 → ms → Prop) (hR5 : ∀ yx1 yx2 yx3 yS, R5 yx1 yx2 yx3 yS → aw gG D z A X 4 5 [some (.ref o), some (.int yx1), some (.int yx2), some (.int yx3)] [] [(0, ly_M, (o, ad, yS.1, yS.2.1, yS.2.2))] 0 0) (hp : b_codeSize_5 x1 x2 x3 S R5 K) : aw gG D z A X 4 5 [some (.ref o), some (.int x1), some (.int x2), some (.int x3)] [] [(0, ly_M, (o, ad, S.1, S.2.1, S.2.2))] 0 0 := by
  unfold b_codeSize_5 at hp
  refine a_iload_n C d_codeSize_5 rfl rfl ?_
  refine a_sipush (v := 256) C d_codeSize_6 (by decide) ?_
  refine a_icmp_ge (tgt := 41) C d_codeSize_9 (by decide) ⟨fun hc => ?_, fun hc => ?_⟩
  · have hp := hp.1 hc
    refine a_iload_n C d_codeSize_41 rfl rfl ?_
    exact a_iret (ty := .int) C hQ hA d_codeSize_42 rfl rfl ⟨_, S, hp, rfl, rfl⟩
  · have hp := hp.2 hc
    refine a_aload_n C d_codeSize_12 rfl rfl ?_
    refine a_getR C 0 27 d_codeSize_13 rfl rfl rfl (Nat.le_of_ble_eq_true rfl) f_M_88 ⟨Nat.le_of_ble_eq_true rfl, Nat.le_of_ble_eq_true rfl⟩ ?_
    refine a_sipush (v := 257) C d_codeSize_16 (by decide) ?_
    refine a_iload_n C d_codeSize_19 rfl rfl ?_
    refine a_imul C d_codeSize_20 ?_
    refine a_iload_n C d_codeSize_21 rfl rfl ?_
    refine a_iadd C d_codeSize_22 ?_
    refine a_iald C 0 27 d_codeSize_23 rfl rfl rfl hp.1 ?_
    have hp := hp.2
    refine a_if_le (tgt := 33) C d_codeSize_24 (by decide) ⟨fun hc => ?_, fun hc => ?_⟩
    · have hp := hp.1 hc
      refine a_iload_n C d_codeSize_33 rfl rfl ?_
      refine aw_lo (lo' := [some (.ref o), some (.int x1), none, some (.int x3)]) ⟨.inr rfl, .inr rfl, .inl rfl, .inr rfl, trivial⟩ ?_
      exact s_codeSize_34 C hQ hA hR x1 x3 x2 S R5 hR5 hp
    · have hp := hp.2 hc
      refine a_iload_n C d_codeSize_27 rfl rfl ?_
      refine a_iconst (v := 1) C d_codeSize_28 (by decide) ?_
      refine a_iadd C d_codeSize_29 ?_
      refine a_goto (tgt := 34) C d_codeSize_30 (by decide) ?_
      refine aw_lo (lo' := [some (.ref o), some (.int x1), none, some (.int x3)]) ⟨.inr rfl, .inr rfl, .inl rfl, .inr rfl, trivial⟩ ?_
      exact s_codeSize_34 C hQ hA hR x1 x3 (x2 + 1) S R5 hR5 hp
set_option maxRecDepth 100000 in
set_option maxHeartbeats 1000000 in
theorem se_codeSize_5 (C : fcx gG D z A X R_M c_M_codeSize 4 (some .int)) (hQ : X.2.2.2.2.2.2.2.2.2.2 = eQ gG D z X.2.2.2.2.2.2.2.1 X.2.2.2.2.1 L0 0 0 (pM_i K o ad)) (hA : A = owA gG L0 X.2.2.2.2.1.heap.size) (hR : X.2.2.2.1 = { frames := 1, cells := 1, slots := 6, locals := 100 }) (x1 : Int32) (x2 : Int32) (x3 : Int32) (S : ms) (hp : e_codeSize_5 x1 x2 x3 S K) : aw gG D z A X 4 5 [some (.ref o), some (.int x1), some (.int x2), some (.int x3)] [] [(0, ly_M, (o, ad, S.1, S.2.1, S.2.2))] 0 0 := by
  obtain ⟨I, μ, h0, hs⟩ := hp
  have key : ∀ (n : Nat) (yx1 : Int32) (yx2 : Int32) (yx3 : Int32) (yS : ms), μ yx1 yx2 yx3 yS < n → I yx1 yx2 yx3 yS → aw gG D z A X 4 5 [some (.ref o), some (.int yx1), some (.int yx2), some (.int yx3)] [] [(0, ly_M, (o, ad, yS.1, yS.2.1, yS.2.2))] 0 0 := by
    intro n
    induction n with
    | zero => intro yx1 yx2 yx3 yS h; omega
    | succ n ih =>
      intro yx1 yx2 yx3 yS hn hI
      exact s_codeSize_5 C hQ hA hR yx1 yx2 yx3 yS _ (fun zx1 zx2 zx3 zS hw => ih zx1 zx2 zx3 zS (by omega) hw.1) (hs yx1 yx2 yx3 yS hI)
  exact key (μ x1 x2 x3 S + 1) x1 x2 x3 S (Nat.lt_succ_self _) h0
set_option maxRecDepth 100000 in
set_option maxHeartbeats 1000000 in
theorem s_codeSize_0 (C : fcx gG D z A X R_M c_M_codeSize 4 (some .int)) (hQ : X.2.2.2.2.2.2.2.2.2.2 = eQ gG D z X.2.2.2.2.2.2.2.1 X.2.2.2.2.1 L0 0 0 (pM_i K o ad)) (hA : A = owA gG L0 X.2.2.2.2.1.heap.size) (hR : X.2.2.2.1 = { frames := 1, cells := 1, slots := 6, locals := 100 }) (x1 : Int32) (S : ms) (hp : p_codeSize x1 S K) : aw gG D z A X 4 0 [some (.ref o), some (.int x1), none, none] [] [(0, ly_M, (o, ad, S.1, S.2.1, S.2.2))] 0 0 := by
  unfold p_codeSize at hp
  refine a_bipush (v := 17) C d_codeSize_0 (by decide) ?_
  refine a_istore_n (lo' := [some (.ref o), some (.int x1), some (.int 17), none]) C d_codeSize_2 rfl (by decide) rfl ?_
  refine a_iconst (v := 0) C d_codeSize_3 (by decide) ?_
  refine a_istore_n (lo' := [some (.ref o), some (.int x1), some (.int 17), some (.int 0)]) C d_codeSize_4 rfl (by decide) rfl ?_
  refine aw_lo (lo' := [some (.ref o), some (.int x1), some (.int 17), some (.int 0)]) ⟨.inr rfl, .inr rfl, .inr rfl, .inr rfl, trivial⟩ ?_
  exact se_codeSize_5 C hQ hA hR x1 17 0 S  hp
end M_codeSize
section M_codeSizec
variable {D : va_G} {z : Nat → ClassId} {o : Nat} {ad : Nat → Nat}
set_option maxRecDepth 100000 in
theorem ct_codeSize {l : Launch} (x1 : Int32) (S : ms) {K : Int32 → ms → Prop} (hp : p_codeSize x1 S K) : ct gG D z l n_M_codeSize c_M_codeSize 4 (some .int) 1 100 [.ref o, .int x1] [(0, ly_M, (o, ad, S.1, S.2.1, S.2.2))] 0 0 (pM_i K o ad) := by
  refine ct_of (lo := [some (.ref o), some (.int x1), none, none]) (by decide) g_ok (Nat.le_of_ble_eq_true rfl) rfl ?_
  intro X A _ C hR hQ hA _
  exact s_codeSize_0 C hQ hA hR x1 S hp
end M_codeSizec
def b_putSections_348 (x2 : Int32) (x5 : Int32) (s1 : Int32) (S : ms) (R322 : Int32 → Int32 → ms → Prop) (K : ms → Prop) : Prop :=
  p_put s1 S (fun S348 => R322 x2 (x5 + 1) (S348.1, S348.2.1, S348.2.2))
def b_putSections_322 (x2 : Int32) (x5 : Int32) (S : ms) (R322 : Int32 → Int32 → ms → Prop) (K : ms → Prop) : Prop :=
  (x2 ≤ x5 → (p_put 0 S (fun S359 => p_put 63 (S359.1, S359.2.1, S359.2.2) (fun S365 => p_put 0 (S365.1, S365.2.1, S365.2.2) (fun S370 => K (S370.1, S370.2.1, S370.2.2)))))) ∧ (¬ (x2 ≤ x5) → (p_put (x5 + 1) S (fun S333 => (¬ x5 = 0 → (b_putSections_348 x2 x5 17 (S333.1, S333.2.1, S333.2.2) R322 K)) ∧ (x5 = 0 → (b_putSections_348 x2 x5 0 (S333.1, S333.2.1, S333.2.2) R322 K)))))
def e_putSections_322 (x2 : Int32) (x5 : Int32) (S : ms) (K : ms → Prop) : Prop :=
  ∃ (I : Int32 → Int32 → ms → Prop) (μ : Int32 → Int32 → ms → Nat), I x2 x5 S ∧ ∀ yx2 yx5 yS, I yx2 yx5 yS → b_putSections_322 yx2 yx5 yS (fun zx2 zx5 zS => I zx2 zx5 zS ∧ μ zx2 zx5 zS < μ yx2 yx5 yS) K
def b_putSections_297 (x2 : Int32) (S : ms) (K : ms → Prop) : Prop :=
  p_mark 218 S (fun S301 => p_putTwo (6 + (2 * x2)) (S301.1, S301.2.1, S301.2.2) (fun S311 => p_put x2 (S311.1, S311.2.1, S311.2.2) (fun S316 => e_putSections_322 x2 0 (S316.1, S316.2.1, S316.2.2) K)))
def b_putSections_244 (x1 : Int32) (x2 : Int32) (x3 : Int32) (x5 : Int32) (S : ms) (R244 : Int32 → Int32 → Int32 → Int32 → ms → Prop) (K : ms → Prop) : Prop :=
  ((2 * x3) ≤ x5 → ((x1 ≤ 0 → (b_putSections_297 x2 S K)) ∧ (¬ (x1 ≤ 0) → (p_mark 221 S (fun S284 => p_putTwo 4 (S284.1, S284.2.1, S284.2.2) (fun S289 => p_putTwo x1 (S289.1, S289.2.1, S289.2.2) (fun S294 => b_putSections_297 x2 (S294.1, S294.2.1, S294.2.2) K))))))) ∧ (¬ ((2 * x3) ≤ x5) → (p_putCode x5 ((16 * (x5 - x5 / 2 * 2)) + (x5 / 2)) S (fun S267 => R244 x1 x2 x3 (x5 + 1) (S267.1, S267.2.1, S267.2.2))))
def e_putSections_244 (x1 : Int32) (x2 : Int32) (x3 : Int32) (x5 : Int32) (S : ms) (K : ms → Prop) : Prop :=
  ∃ (I : Int32 → Int32 → Int32 → Int32 → ms → Prop) (μ : Int32 → Int32 → Int32 → Int32 → ms → Nat), I x1 x2 x3 x5 S ∧ ∀ yx1 yx2 yx3 yx5 yS, I yx1 yx2 yx3 yx5 yS → b_putSections_244 yx1 yx2 yx3 yx5 yS (fun zx1 zx2 zx3 zx5 zS => I zx1 zx2 zx3 zx5 zS ∧ μ zx1 zx2 zx3 zx5 zS < μ yx1 yx2 yx3 yx5 yS) K
def b_putSections_210 (x1 : Int32) (x2 : Int32) (x3 : Int32) (x4 : Int32) (x5 : Int32) (S : ms) (R210 : Int32 → Int32 → Int32 → Int32 → Int32 → ms → Prop) (K : ms → Prop) : Prop :=
  ((2 * x3) ≤ x5 → (p_putTwo x4 S (fun S238 => e_putSections_244 x1 x2 x3 0 (S238.1, S238.2.1, S238.2.2) K))) ∧ (¬ ((2 * x3) ≤ x5) → (p_codeSize x5 S (fun v223 S223 => R210 x1 x2 x3 (x4 + v223) (x5 + 1) (S223.1, S223.2.1, S223.2.2))))
def e_putSections_210 (x1 : Int32) (x2 : Int32) (x3 : Int32) (x4 : Int32) (x5 : Int32) (S : ms) (K : ms → Prop) : Prop :=
  ∃ (I : Int32 → Int32 → Int32 → Int32 → Int32 → ms → Prop) (μ : Int32 → Int32 → Int32 → Int32 → Int32 → ms → Nat), I x1 x2 x3 x4 x5 S ∧ ∀ yx1 yx2 yx3 yx4 yx5 yS, I yx1 yx2 yx3 yx4 yx5 yS → b_putSections_210 yx1 yx2 yx3 yx4 yx5 yS (fun zx1 zx2 zx3 zx4 zx5 zS => I zx1 zx2 zx3 zx4 zx5 zS ∧ μ zx1 zx2 zx3 zx4 zx5 zS < μ yx1 yx2 yx3 yx4 yx5 yS) K
def b_putSections_188 (x1 : Int32) (x2 : Int32) (x3 : Int32) (x4 : Int32) (s1 : Int32) (S : ms) (R141 : Int32 → Int32 → Int32 → Int32 → ms → Prop) (K : ms → Prop) : Prop :=
  p_put s1 S (fun S188 => R141 x1 x2 x3 (x4 + 1) (S188.1, S188.2.1, S188.2.2))
def b_putSections_141 (x1 : Int32) (x2 : Int32) (x3 : Int32) (x4 : Int32) (S : ms) (R141 : Int32 → Int32 → Int32 → Int32 → ms → Prop) (K : ms → Prop) : Prop :=
  (x2 ≤ x4 → (p_mark 196 S (fun S201 => e_putSections_210 x1 x2 x3 2 0 (S201.1, S201.2.1, S201.2.2) K))) ∧ (¬ (x2 ≤ x4) → (p_put (x4 + 1) S (fun S152 => vp_in x4 9 ∧ (vp_in x4 9 ∧ (p_put ((16 * (S152.2.1 15 x4.toNatClampNeg)) + (S152.2.1 16 x4.toNatClampNeg)) (S152.1, S152.2.1, S152.2.2) (fun S174 => (¬ x4 = 0 → (b_putSections_188 x1 x2 x3 x4 1 (S174.1, S174.2.1, S174.2.2) R141 K)) ∧ (x4 = 0 → (b_putSections_188 x1 x2 x3 x4 0 (S174.1, S174.2.1, S174.2.2) R141 K))))))))
def e_putSections_141 (x1 : Int32) (x2 : Int32) (x3 : Int32) (x4 : Int32) (S : ms) (K : ms → Prop) : Prop :=
  ∃ (I : Int32 → Int32 → Int32 → Int32 → ms → Prop) (μ : Int32 → Int32 → Int32 → Int32 → ms → Nat), I x1 x2 x3 x4 S ∧ ∀ yx1 yx2 yx3 yx4 yS, I yx1 yx2 yx3 yx4 yS → b_putSections_141 yx1 yx2 yx3 yx4 yS (fun zx1 zx2 zx3 zx4 zS => I zx1 zx2 zx3 zx4 zS ∧ μ zx1 zx2 zx3 zx4 zS < μ yx1 yx2 yx3 yx4 yS) K
def b_putSections_53 (x1 : Int32) (x2 : Int32) (x3 : Int32) (x4 : Int32) (x5 : Int32) (S : ms) (R38 : Int32 → Int32 → Int32 → Int32 → ms → Prop) (R53 : Int32 → Int32 → Int32 → Int32 → Int32 → ms → Prop) (K : ms → Prop) : Prop :=
  (64 ≤ x5 → (R38 x1 x2 x3 (x4 + 1) S)) ∧ (¬ (64 ≤ x5) → (vp_in x5 64 ∧ (vp_in ((64 * x4) + (S.2.1 22 x5.toNatClampNeg)) 128 ∧ (p_put (S.2.1 5 ((64 * x4) + (S.2.1 22 x5.toNatClampNeg)).toNatClampNeg) S (fun S79 => R53 x1 x2 x3 x4 (x5 + 1) (S79.1, S79.2.1, S79.2.2))))))
def e_putSections_53 (x1 : Int32) (x2 : Int32) (x3 : Int32) (x4 : Int32) (x5 : Int32) (S : ms) (R38 : Int32 → Int32 → Int32 → Int32 → ms → Prop) (K : ms → Prop) : Prop :=
  ∃ (I : Int32 → Int32 → Int32 → Int32 → Int32 → ms → Prop) (μ : Int32 → Int32 → Int32 → Int32 → Int32 → ms → Nat), I x1 x2 x3 x4 x5 S ∧ ∀ yx1 yx2 yx3 yx4 yx5 yS, I yx1 yx2 yx3 yx4 yx5 yS → b_putSections_53 yx1 yx2 yx3 yx4 yx5 yS R38 (fun zx1 zx2 zx3 zx4 zx5 zS => I zx1 zx2 zx3 zx4 zx5 zS ∧ μ zx1 zx2 zx3 zx4 zx5 zS < μ yx1 yx2 yx3 yx4 yx5 yS) K
def b_putSections_38 (x1 : Int32) (x2 : Int32) (x3 : Int32) (x4 : Int32) (S : ms) (R38 : Int32 → Int32 → Int32 → Int32 → ms → Prop) (K : ms → Prop) : Prop :=
  (x3 ≤ x4 → (p_mark 192 S (fun S98 => p_putTwo (8 + (3 * x2)) (S98.1, S98.2.1, S98.2.2) (fun S108 => p_put 8 (S108.1, S108.2.1, S108.2.2) (fun S114 => p_putTwo (S114.1 2) (S114.1, S114.2.1, S114.2.2) (fun S122 => p_putTwo (S122.1 1) (S122.1, S122.2.1, S122.2.2) (fun S130 => p_put x2 (S130.1, S130.2.1, S130.2.2) (fun S135 => e_putSections_141 x1 x2 x3 0 (S135.1, S135.2.1, S135.2.2) K)))))))) ∧ (¬ (x3 ≤ x4) → (p_put x4 S (fun S47 => e_putSections_53 x1 x2 x3 x4 0 (S47.1, S47.2.1, S47.2.2) R38 K)))
def e_putSections_38 (x1 : Int32) (x2 : Int32) (x3 : Int32) (x4 : Int32) (S : ms) (K : ms → Prop) : Prop :=
  ∃ (I : Int32 → Int32 → Int32 → Int32 → ms → Prop) (μ : Int32 → Int32 → Int32 → Int32 → ms → Nat), I x1 x2 x3 x4 S ∧ ∀ yx1 yx2 yx3 yx4 yS, I yx1 yx2 yx3 yx4 yS → b_putSections_38 yx1 yx2 yx3 yx4 yS (fun zx1 zx2 zx3 zx4 zS => I zx1 zx2 zx3 zx4 zS ∧ μ zx1 zx2 zx3 zx4 zS < μ yx1 yx2 yx3 yx4 yS) K
def b_putSections_17 (x1 : Int32) (x2 : Int32) (s0 : Int32) (S : ms) (K : ms → Prop) : Prop :=
  p_mark 219 S (fun S22 => p_putTwo (2 + (65 * s0)) (S22.1, S22.2.1, S22.2.2) (fun S32 => e_putSections_38 x1 x2 s0 0 (S32.1, S32.2.1, S32.2.2) K))
def p_putSections (x1 : Int32) (S : ms) (K : ms → Prop) : Prop :=
  vp_in 0 3 ∧ ((¬ (S.2.1 14 (0 : Int32).toNatClampNeg) = 1 → (b_putSections_17 x1 (S.2.1 14 (0 : Int32).toNatClampNeg) 2 S K)) ∧ ((S.2.1 14 (0 : Int32).toNatClampNeg) = 1 → (b_putSections_17 x1 (S.2.1 14 (0 : Int32).toNatClampNeg) 1 S K)))
section M_putSections
variable {D : va_G} {z : Nat → ClassId} {A : Nat → Prop} {X : cx} {L0 : fw} {K : ms → Prop} {o : Nat} {ad : Nat → Nat}
set_option maxRecDepth 100000 in
set_option maxHeartbeats 1000000 in
theorem s_putSections_348 (C : fcx gG D z A X R_M c_M_putSections 6 (none)) (hQ : X.2.2.2.2.2.2.2.2.2.2 = eQ gG D z X.2.2.2.2.2.2.2.1 X.2.2.2.2.1 L0 0 0 (pM_v K o ad)) (hA : A = owA gG L0 X.2.2.2.2.1.heap.size) (hR : X.2.2.2.1 = { frames := 3, cells := 1, slots := 6, locals := 300 }) (x2 : Int32) (x5 : Int32) (s1 : Int32) (S : ms) (R322 : Int32 → Int32 → ms → Prop) (hR322 : ∀ yx2 yx5 yS, R322 yx2 yx5 yS → aw gG D z A X 6 322 [some (.ref o), none, some (.int yx2), none, none, some (.int yx5)] [] [(0, ly_M, (o, ad, yS.1, yS.2.1, yS.2.2))] 0 0) (hp : b_putSections_348 x2 x5 s1 S R322 K) : aw gG D z A X 6 348 [some (.ref o), none, some (.int x2), none, none, some (.int x5)] [.int s1, .ref o] [(0, ly_M, (o, ad, S.1, S.2.1, S.2.2))] 0 0 := by
  unfold b_putSections_348 at hp
  refine a_call (Lr := []) (rest := []) (av := .ref o :: [.int s1]) C [0] [] d_putSections_348 (ct_put s1 S hp) cd_M_put i_M (Nat.le_of_ble_eq_true rfl) (by rw [hR]; exact Nat.le_of_ble_eq_true rfl) (by rw [hR]; exact Nat.le_of_ble_eq_true rfl) (by rw [hR]; exact Nat.le_of_ble_eq_true rfl) (by rw [hR]; exact Nat.le_of_ble_eq_true rfl) rfl rfl (by decide) (by decide) (by decide) (inv_V C 0 d_putSections_348 l_M_200 im_M_put se_M_put cd_M_put ⟨by decide, by decide⟩ ln_M_put rfl rfl rfl rfl rfl) (fun oc L1 hL => ?_)
  obtain ⟨S348, hp, rfl, rfl⟩ := hL
  refine ⟨_, rfl, ?_⟩
  refine aw_eq (lo' := _) (st' := []) (L' := [(0, ly_M, (o, ad, S348.1, S348.2.1, S348.2.2))]) rfl rfl rfl ?_
  refine a_iinc (v := x5 + 1) (lo' := [some (.ref o), none, some (.int x2), none, none, some (.int (x5 + 1))]) C d_putSections_351 rfl rfl (by decide) rfl ?_
  refine a_goto (tgt := 322) C d_putSections_354 (by decide) ?_
  refine aw_lo (lo' := [some (.ref o), none, some (.int x2), none, none, some (.int (x5 + 1))]) ⟨.inr rfl, .inr rfl, .inr rfl, .inr rfl, .inr rfl, .inr rfl, trivial⟩ ?_
  exact hR322 x2 (x5 + 1) (S348.1, S348.2.1, S348.2.2) hp
set_option maxRecDepth 100000 in
set_option maxHeartbeats 1000000 in
theorem s_putSections_322 (C : fcx gG D z A X R_M c_M_putSections 6 (none)) (hQ : X.2.2.2.2.2.2.2.2.2.2 = eQ gG D z X.2.2.2.2.2.2.2.1 X.2.2.2.2.1 L0 0 0 (pM_v K o ad)) (hA : A = owA gG L0 X.2.2.2.2.1.heap.size) (hR : X.2.2.2.1 = { frames := 3, cells := 1, slots := 6, locals := 300 }) (x2 : Int32) (x5 : Int32) (S : ms) (R322 : Int32 → Int32 → ms → Prop) (hR322 : ∀ yx2 yx5 yS, R322 yx2 yx5 yS → aw gG D z A X 6 322 [some (.ref o), none, some (.int yx2), none, none, some (.int yx5)] [] [(0, ly_M, (o, ad, yS.1, yS.2.1, yS.2.2))] 0 0) (hp : b_putSections_322 x2 x5 S R322 K) : aw gG D z A X 6 322 [some (.ref o), none, some (.int x2), none, none, some (.int x5)] [] [(0, ly_M, (o, ad, S.1, S.2.1, S.2.2))] 0 0 := by
  unfold b_putSections_322 at hp
  refine a_iload C d_putSections_322 rfl ?_
  refine a_iload_n C d_putSections_324 rfl rfl ?_
  refine a_icmp_ge (tgt := 357) C d_putSections_325 (by decide) ⟨fun hc => ?_, fun hc => ?_⟩
  · have hp := hp.1 hc
    refine a_aload_n C d_putSections_357 rfl rfl ?_
    refine a_iconst (v := 0) C d_putSections_358 (by decide) ?_
    refine a_call (Lr := []) (rest := []) (av := .ref o :: [.int 0]) C [0] [] d_putSections_359 (ct_put 0 S hp) cd_M_put i_M (Nat.le_of_ble_eq_true rfl) (by rw [hR]; exact Nat.le_of_ble_eq_true rfl) (by rw [hR]; exact Nat.le_of_ble_eq_true rfl) (by rw [hR]; exact Nat.le_of_ble_eq_true rfl) (by rw [hR]; exact Nat.le_of_ble_eq_true rfl) rfl rfl (by decide) (by decide) (by decide) (inv_V C 0 d_putSections_359 l_M_200 im_M_put se_M_put cd_M_put ⟨by decide, by decide⟩ ln_M_put rfl rfl rfl rfl rfl) (fun oc L1 hL => ?_)
    obtain ⟨S359, hp, rfl, rfl⟩ := hL
    refine ⟨_, rfl, ?_⟩
    refine aw_eq (lo' := _) (st' := []) (L' := [(0, ly_M, (o, ad, S359.1, S359.2.1, S359.2.2))]) rfl rfl rfl ?_
    refine a_aload_n C d_putSections_362 rfl rfl ?_
    refine a_bipush (v := 63) C d_putSections_363 (by decide) ?_
    refine a_call (Lr := []) (rest := []) (av := .ref o :: [.int 63]) C [0] [] d_putSections_365 (ct_put 63 (S359.1, S359.2.1, S359.2.2) hp) cd_M_put i_M (Nat.le_of_ble_eq_true rfl) (by rw [hR]; exact Nat.le_of_ble_eq_true rfl) (by rw [hR]; exact Nat.le_of_ble_eq_true rfl) (by rw [hR]; exact Nat.le_of_ble_eq_true rfl) (by rw [hR]; exact Nat.le_of_ble_eq_true rfl) rfl rfl (by decide) (by decide) (by decide) (inv_V C 0 d_putSections_365 l_M_200 im_M_put se_M_put cd_M_put ⟨by decide, by decide⟩ ln_M_put rfl rfl rfl rfl rfl) (fun oc L1 hL => ?_)
    obtain ⟨S365, hp, rfl, rfl⟩ := hL
    refine ⟨_, rfl, ?_⟩
    refine aw_eq (lo' := _) (st' := []) (L' := [(0, ly_M, (o, ad, S365.1, S365.2.1, S365.2.2))]) rfl rfl rfl ?_
    refine a_aload_n C d_putSections_368 rfl rfl ?_
    refine a_iconst (v := 0) C d_putSections_369 (by decide) ?_
    refine a_call (Lr := []) (rest := []) (av := .ref o :: [.int 0]) C [0] [] d_putSections_370 (ct_put 0 (S365.1, S365.2.1, S365.2.2) hp) cd_M_put i_M (Nat.le_of_ble_eq_true rfl) (by rw [hR]; exact Nat.le_of_ble_eq_true rfl) (by rw [hR]; exact Nat.le_of_ble_eq_true rfl) (by rw [hR]; exact Nat.le_of_ble_eq_true rfl) (by rw [hR]; exact Nat.le_of_ble_eq_true rfl) rfl rfl (by decide) (by decide) (by decide) (inv_V C 0 d_putSections_370 l_M_200 im_M_put se_M_put cd_M_put ⟨by decide, by decide⟩ ln_M_put rfl rfl rfl rfl rfl) (fun oc L1 hL => ?_)
    obtain ⟨S370, hp, rfl, rfl⟩ := hL
    refine ⟨_, rfl, ?_⟩
    refine aw_eq (lo' := _) (st' := []) (L' := [(0, ly_M, (o, ad, S370.1, S370.2.1, S370.2.2))]) rfl rfl rfl ?_
    exact a_vret C hQ hA d_putSections_373 rfl ⟨(S370.1, S370.2.1, S370.2.2), hp, rfl, rfl⟩
  · have hp := hp.2 hc
    refine a_aload_n C d_putSections_328 rfl rfl ?_
    refine a_iload C d_putSections_329 rfl ?_
    refine a_iconst (v := 1) C d_putSections_331 (by decide) ?_
    refine a_iadd C d_putSections_332 ?_
    refine a_call (Lr := []) (rest := []) (av := .ref o :: [.int (x5 + 1)]) C [0] [] d_putSections_333 (ct_put (x5 + 1) S hp) cd_M_put i_M (Nat.le_of_ble_eq_true rfl) (by rw [hR]; exact Nat.le_of_ble_eq_true rfl) (by rw [hR]; exact Nat.le_of_ble_eq_true rfl) (by rw [hR]; exact Nat.le_of_ble_eq_true rfl) (by rw [hR]; exact Nat.le_of_ble_eq_true rfl) rfl rfl (by decide) (by decide) (by decide) (inv_V C 0 d_putSections_333 l_M_200 im_M_put se_M_put cd_M_put ⟨by decide, by decide⟩ ln_M_put rfl rfl rfl rfl rfl) (fun oc L1 hL => ?_)
    obtain ⟨S333, hp, rfl, rfl⟩ := hL
    refine ⟨_, rfl, ?_⟩
    refine aw_eq (lo' := _) (st' := []) (L' := [(0, ly_M, (o, ad, S333.1, S333.2.1, S333.2.2))]) rfl rfl rfl ?_
    refine a_aload_n C d_putSections_336 rfl rfl ?_
    refine a_iload C d_putSections_337 rfl ?_
    refine a_if_ne (tgt := 346) C d_putSections_339 (by decide) ⟨fun hc => ?_, fun hc => ?_⟩
    · have hp := hp.1 hc
      refine a_bipush (v := 17) C d_putSections_346 (by decide) ?_
      refine aw_lo (lo' := [some (.ref o), none, some (.int x2), none, none, some (.int x5)]) ⟨.inr rfl, .inr rfl, .inr rfl, .inr rfl, .inr rfl, .inr rfl, trivial⟩ ?_
      exact s_putSections_348 C hQ hA hR x2 x5 17 (S333.1, S333.2.1, S333.2.2) R322 hR322 hp
    · have hp := hp.2 hc
      refine a_iconst (v := 0) C d_putSections_342 (by decide) ?_
      refine a_goto (tgt := 348) C d_putSections_343 (by decide) ?_
      refine aw_lo (lo' := [some (.ref o), none, some (.int x2), none, none, some (.int x5)]) ⟨.inr rfl, .inr rfl, .inr rfl, .inr rfl, .inr rfl, .inr rfl, trivial⟩ ?_
      exact s_putSections_348 C hQ hA hR x2 x5 0 (S333.1, S333.2.1, S333.2.2) R322 hR322 hp
set_option maxRecDepth 100000 in
set_option maxHeartbeats 1000000 in
theorem se_putSections_322 (C : fcx gG D z A X R_M c_M_putSections 6 (none)) (hQ : X.2.2.2.2.2.2.2.2.2.2 = eQ gG D z X.2.2.2.2.2.2.2.1 X.2.2.2.2.1 L0 0 0 (pM_v K o ad)) (hA : A = owA gG L0 X.2.2.2.2.1.heap.size) (hR : X.2.2.2.1 = { frames := 3, cells := 1, slots := 6, locals := 300 }) (x2 : Int32) (x5 : Int32) (S : ms) (hp : e_putSections_322 x2 x5 S K) : aw gG D z A X 6 322 [some (.ref o), none, some (.int x2), none, none, some (.int x5)] [] [(0, ly_M, (o, ad, S.1, S.2.1, S.2.2))] 0 0 := by
  obtain ⟨I, μ, h0, hs⟩ := hp
  have key : ∀ (n : Nat) (yx2 : Int32) (yx5 : Int32) (yS : ms), μ yx2 yx5 yS < n → I yx2 yx5 yS → aw gG D z A X 6 322 [some (.ref o), none, some (.int yx2), none, none, some (.int yx5)] [] [(0, ly_M, (o, ad, yS.1, yS.2.1, yS.2.2))] 0 0 := by
    intro n
    induction n with
    | zero => intro yx2 yx5 yS h; omega
    | succ n ih =>
      intro yx2 yx5 yS hn hI
      exact s_putSections_322 C hQ hA hR yx2 yx5 yS _ (fun zx2 zx5 zS hw => ih zx2 zx5 zS (by omega) hw.1) (hs yx2 yx5 yS hI)
  exact key (μ x2 x5 S + 1) x2 x5 S (Nat.lt_succ_self _) h0
set_option maxRecDepth 100000 in
set_option maxHeartbeats 1000000 in
theorem s_putSections_297 (C : fcx gG D z A X R_M c_M_putSections 6 (none)) (hQ : X.2.2.2.2.2.2.2.2.2.2 = eQ gG D z X.2.2.2.2.2.2.2.1 X.2.2.2.2.1 L0 0 0 (pM_v K o ad)) (hA : A = owA gG L0 X.2.2.2.2.1.heap.size) (hR : X.2.2.2.1 = { frames := 3, cells := 1, slots := 6, locals := 300 }) (x2 : Int32) (S : ms) (hp : b_putSections_297 x2 S K) : aw gG D z A X 6 297 [some (.ref o), none, some (.int x2), none, none, none] [] [(0, ly_M, (o, ad, S.1, S.2.1, S.2.2))] 0 0 := by
  unfold b_putSections_297 at hp
  refine a_aload_n C d_putSections_297 rfl rfl ?_
  refine a_sipush (v := 218) C d_putSections_298 (by decide) ?_
  refine a_call (Lr := []) (rest := []) (av := .ref o :: [.int 218]) C [0] [] d_putSections_301 (ct_mark 218 S hp) cd_M_mark i_M (Nat.le_of_ble_eq_true rfl) (by rw [hR]; exact Nat.le_of_ble_eq_true rfl) (by rw [hR]; exact Nat.le_of_ble_eq_true rfl) (by rw [hR]; exact Nat.le_of_ble_eq_true rfl) (by rw [hR]; exact Nat.le_of_ble_eq_true rfl) rfl rfl (by decide) (by decide) (by decide) (inv_V C 0 d_putSections_301 l_M_227 im_M_mark se_M_mark cd_M_mark ⟨by decide, by decide⟩ ln_M_mark rfl rfl rfl rfl rfl) (fun oc L1 hL => ?_)
  obtain ⟨S301, hp, rfl, rfl⟩ := hL
  refine ⟨_, rfl, ?_⟩
  refine aw_eq (lo' := _) (st' := []) (L' := [(0, ly_M, (o, ad, S301.1, S301.2.1, S301.2.2))]) rfl rfl rfl ?_
  refine a_aload_n C d_putSections_304 rfl rfl ?_
  refine a_bipush (v := 6) C d_putSections_305 (by decide) ?_
  refine a_iconst (v := 2) C d_putSections_307 (by decide) ?_
  refine a_iload_n C d_putSections_308 rfl rfl ?_
  refine a_imul C d_putSections_309 ?_
  refine a_iadd C d_putSections_310 ?_
  refine a_call (Lr := []) (rest := []) (av := .ref o :: [.int (6 + (2 * x2))]) C [0] [] d_putSections_311 (ct_putTwo (6 + (2 * x2)) (S301.1, S301.2.1, S301.2.2) hp) cd_M_putTwo i_M (Nat.le_of_ble_eq_true rfl) (by rw [hR]; exact Nat.le_of_ble_eq_true rfl) (by rw [hR]; exact Nat.le_of_ble_eq_true rfl) (by rw [hR]; exact Nat.le_of_ble_eq_true rfl) (by rw [hR]; exact Nat.le_of_ble_eq_true rfl) rfl rfl (by decide) (by decide) (by decide) (inv_V C 0 d_putSections_311 l_M_233 im_M_putTwo se_M_putTwo cd_M_putTwo ⟨by decide, by decide⟩ ln_M_putTwo rfl rfl rfl rfl rfl) (fun oc L1 hL => ?_)
  obtain ⟨S311, hp, rfl, rfl⟩ := hL
  refine ⟨_, rfl, ?_⟩
  refine aw_eq (lo' := _) (st' := []) (L' := [(0, ly_M, (o, ad, S311.1, S311.2.1, S311.2.2))]) rfl rfl rfl ?_
  refine a_aload_n C d_putSections_314 rfl rfl ?_
  refine a_iload_n C d_putSections_315 rfl rfl ?_
  refine a_call (Lr := []) (rest := []) (av := .ref o :: [.int x2]) C [0] [] d_putSections_316 (ct_put x2 (S311.1, S311.2.1, S311.2.2) hp) cd_M_put i_M (Nat.le_of_ble_eq_true rfl) (by rw [hR]; exact Nat.le_of_ble_eq_true rfl) (by rw [hR]; exact Nat.le_of_ble_eq_true rfl) (by rw [hR]; exact Nat.le_of_ble_eq_true rfl) (by rw [hR]; exact Nat.le_of_ble_eq_true rfl) rfl rfl (by decide) (by decide) (by decide) (inv_V C 0 d_putSections_316 l_M_200 im_M_put se_M_put cd_M_put ⟨by decide, by decide⟩ ln_M_put rfl rfl rfl rfl rfl) (fun oc L1 hL => ?_)
  obtain ⟨S316, hp, rfl, rfl⟩ := hL
  refine ⟨_, rfl, ?_⟩
  refine aw_eq (lo' := _) (st' := []) (L' := [(0, ly_M, (o, ad, S316.1, S316.2.1, S316.2.2))]) rfl rfl rfl ?_
  refine a_iconst (v := 0) C d_putSections_319 (by decide) ?_
  refine a_istore (lo' := [some (.ref o), none, some (.int x2), none, none, some (.int 0)]) C d_putSections_320 (by decide) rfl ?_
  refine aw_lo (lo' := [some (.ref o), none, some (.int x2), none, none, some (.int 0)]) ⟨.inr rfl, .inr rfl, .inr rfl, .inr rfl, .inr rfl, .inr rfl, trivial⟩ ?_
  exact se_putSections_322 C hQ hA hR x2 0 (S316.1, S316.2.1, S316.2.2)  hp
set_option maxRecDepth 100000 in
set_option maxHeartbeats 1000000 in
theorem s_putSections_244 (C : fcx gG D z A X R_M c_M_putSections 6 (none)) (hQ : X.2.2.2.2.2.2.2.2.2.2 = eQ gG D z X.2.2.2.2.2.2.2.1 X.2.2.2.2.1 L0 0 0 (pM_v K o ad)) (hA : A = owA gG L0 X.2.2.2.2.1.heap.size) (hR : X.2.2.2.1 = { frames := 3, cells := 1, slots := 6, locals := 300 }) (x1 : Int32) (x2 : Int32) (x3 : Int32) (x5 : Int32) (S : ms) (R244 : Int32 → Int32 → Int32 → Int32 → ms → Prop) (hR244 : ∀ yx1 yx2 yx3 yx5 yS, R244 yx1 yx2 yx3 yx5 yS → aw gG D z A X 6 244 [some (.ref o), some (.int yx1), some (.int yx2), some (.int yx3), none, some (.int yx5)] [] [(0, ly_M, (o, ad, yS.1, yS.2.1, yS.2.2))] 0 0) (hp : b_putSections_244 x1 x2 x3 x5 S R244 K) : aw gG D z A X 6 244 [some (.ref o), some (.int x1), some (.int x2), some (.int x3), none, some (.int x5)] [] [(0, ly_M, (o, ad, S.1, S.2.1, S.2.2))] 0 0 := by
  unfold b_putSections_244 at hp
  refine a_iload C d_putSections_244 rfl ?_
  refine a_iconst (v := 2) C d_putSections_246 (by decide) ?_
  refine a_iload_n C d_putSections_247 rfl rfl ?_
  refine a_imul C d_putSections_248 ?_
  refine a_icmp_ge (tgt := 276) C d_putSections_249 (by decide) ⟨fun hc => ?_, fun hc => ?_⟩
  · have hp := hp.1 hc
    refine a_iload_n C d_putSections_276 rfl rfl ?_
    refine a_if_le (tgt := 297) C d_putSections_277 (by decide) ⟨fun hc => ?_, fun hc => ?_⟩
    · have hp := hp.1 hc
      refine aw_lo (lo' := [some (.ref o), none, some (.int x2), none, none, none]) ⟨.inr rfl, .inl rfl, .inr rfl, .inl rfl, .inr rfl, .inl rfl, trivial⟩ ?_
      exact s_putSections_297 C hQ hA hR x2 S  hp
    · have hp := hp.2 hc
      refine a_aload_n C d_putSections_280 rfl rfl ?_
      refine a_sipush (v := 221) C d_putSections_281 (by decide) ?_
      refine a_call (Lr := []) (rest := []) (av := .ref o :: [.int 221]) C [0] [] d_putSections_284 (ct_mark 221 S hp) cd_M_mark i_M (Nat.le_of_ble_eq_true rfl) (by rw [hR]; exact Nat.le_of_ble_eq_true rfl) (by rw [hR]; exact Nat.le_of_ble_eq_true rfl) (by rw [hR]; exact Nat.le_of_ble_eq_true rfl) (by rw [hR]; exact Nat.le_of_ble_eq_true rfl) rfl rfl (by decide) (by decide) (by decide) (inv_V C 0 d_putSections_284 l_M_227 im_M_mark se_M_mark cd_M_mark ⟨by decide, by decide⟩ ln_M_mark rfl rfl rfl rfl rfl) (fun oc L1 hL => ?_)
      obtain ⟨S284, hp, rfl, rfl⟩ := hL
      refine ⟨_, rfl, ?_⟩
      refine aw_eq (lo' := _) (st' := []) (L' := [(0, ly_M, (o, ad, S284.1, S284.2.1, S284.2.2))]) rfl rfl rfl ?_
      refine a_aload_n C d_putSections_287 rfl rfl ?_
      refine a_iconst (v := 4) C d_putSections_288 (by decide) ?_
      refine a_call (Lr := []) (rest := []) (av := .ref o :: [.int 4]) C [0] [] d_putSections_289 (ct_putTwo 4 (S284.1, S284.2.1, S284.2.2) hp) cd_M_putTwo i_M (Nat.le_of_ble_eq_true rfl) (by rw [hR]; exact Nat.le_of_ble_eq_true rfl) (by rw [hR]; exact Nat.le_of_ble_eq_true rfl) (by rw [hR]; exact Nat.le_of_ble_eq_true rfl) (by rw [hR]; exact Nat.le_of_ble_eq_true rfl) rfl rfl (by decide) (by decide) (by decide) (inv_V C 0 d_putSections_289 l_M_233 im_M_putTwo se_M_putTwo cd_M_putTwo ⟨by decide, by decide⟩ ln_M_putTwo rfl rfl rfl rfl rfl) (fun oc L1 hL => ?_)
      obtain ⟨S289, hp, rfl, rfl⟩ := hL
      refine ⟨_, rfl, ?_⟩
      refine aw_eq (lo' := _) (st' := []) (L' := [(0, ly_M, (o, ad, S289.1, S289.2.1, S289.2.2))]) rfl rfl rfl ?_
      refine a_aload_n C d_putSections_292 rfl rfl ?_
      refine a_iload_n C d_putSections_293 rfl rfl ?_
      refine a_call (Lr := []) (rest := []) (av := .ref o :: [.int x1]) C [0] [] d_putSections_294 (ct_putTwo x1 (S289.1, S289.2.1, S289.2.2) hp) cd_M_putTwo i_M (Nat.le_of_ble_eq_true rfl) (by rw [hR]; exact Nat.le_of_ble_eq_true rfl) (by rw [hR]; exact Nat.le_of_ble_eq_true rfl) (by rw [hR]; exact Nat.le_of_ble_eq_true rfl) (by rw [hR]; exact Nat.le_of_ble_eq_true rfl) rfl rfl (by decide) (by decide) (by decide) (inv_V C 0 d_putSections_294 l_M_233 im_M_putTwo se_M_putTwo cd_M_putTwo ⟨by decide, by decide⟩ ln_M_putTwo rfl rfl rfl rfl rfl) (fun oc L1 hL => ?_)
      obtain ⟨S294, hp, rfl, rfl⟩ := hL
      refine ⟨_, rfl, ?_⟩
      refine aw_eq (lo' := _) (st' := []) (L' := [(0, ly_M, (o, ad, S294.1, S294.2.1, S294.2.2))]) rfl rfl rfl ?_
      refine aw_lo (lo' := [some (.ref o), none, some (.int x2), none, none, none]) ⟨.inr rfl, .inl rfl, .inr rfl, .inl rfl, .inr rfl, .inl rfl, trivial⟩ ?_
      exact s_putSections_297 C hQ hA hR x2 (S294.1, S294.2.1, S294.2.2)  hp
  · have hp := hp.2 hc
    refine a_aload_n C d_putSections_252 rfl rfl ?_
    refine a_iload C d_putSections_253 rfl ?_
    refine a_bipush (v := 16) C d_putSections_255 (by decide) ?_
    refine a_iload C d_putSections_257 rfl ?_
    refine a_iconst (v := 2) C d_putSections_259 (by decide) ?_
    refine a_irem C d_putSections_260 (by decide) ?_
    refine a_imul C d_putSections_261 ?_
    refine a_iload C d_putSections_262 rfl ?_
    refine a_iconst (v := 2) C d_putSections_264 (by decide) ?_
    refine a_idiv C d_putSections_265 (by decide) ?_
    refine a_iadd C d_putSections_266 ?_
    refine a_call (Lr := []) (rest := []) (av := .ref o :: [.int x5, .int ((16 * (x5 - x5 / 2 * 2)) + (x5 / 2))]) C [0] [] d_putSections_267 (ct_putCode x5 ((16 * (x5 - x5 / 2 * 2)) + (x5 / 2)) S hp) cd_M_putCode i_M (Nat.le_of_ble_eq_true rfl) (by rw [hR]; exact Nat.le_of_ble_eq_true rfl) (by rw [hR]; exact Nat.le_of_ble_eq_true rfl) (by rw [hR]; exact Nat.le_of_ble_eq_true rfl) (by rw [hR]; exact Nat.le_of_ble_eq_true rfl) rfl rfl (by decide) (by decide) (by decide) (inv_V C 0 d_putSections_267 l_M_239 im_M_putCode se_M_putCode cd_M_putCode ⟨by decide, by decide⟩ ln_M_putCode rfl rfl rfl rfl rfl) (fun oc L1 hL => ?_)
    obtain ⟨S267, hp, rfl, rfl⟩ := hL
    refine ⟨_, rfl, ?_⟩
    refine aw_eq (lo' := _) (st' := []) (L' := [(0, ly_M, (o, ad, S267.1, S267.2.1, S267.2.2))]) rfl rfl rfl ?_
    refine a_iinc (v := x5 + 1) (lo' := [some (.ref o), some (.int x1), some (.int x2), some (.int x3), none, some (.int (x5 + 1))]) C d_putSections_270 rfl rfl (by decide) rfl ?_
    refine a_goto (tgt := 244) C d_putSections_273 (by decide) ?_
    refine aw_lo (lo' := [some (.ref o), some (.int x1), some (.int x2), some (.int x3), none, some (.int (x5 + 1))]) ⟨.inr rfl, .inr rfl, .inr rfl, .inr rfl, .inr rfl, .inr rfl, trivial⟩ ?_
    exact hR244 x1 x2 x3 (x5 + 1) (S267.1, S267.2.1, S267.2.2) hp
set_option maxRecDepth 100000 in
set_option maxHeartbeats 1000000 in
theorem se_putSections_244 (C : fcx gG D z A X R_M c_M_putSections 6 (none)) (hQ : X.2.2.2.2.2.2.2.2.2.2 = eQ gG D z X.2.2.2.2.2.2.2.1 X.2.2.2.2.1 L0 0 0 (pM_v K o ad)) (hA : A = owA gG L0 X.2.2.2.2.1.heap.size) (hR : X.2.2.2.1 = { frames := 3, cells := 1, slots := 6, locals := 300 }) (x1 : Int32) (x2 : Int32) (x3 : Int32) (x5 : Int32) (S : ms) (hp : e_putSections_244 x1 x2 x3 x5 S K) : aw gG D z A X 6 244 [some (.ref o), some (.int x1), some (.int x2), some (.int x3), none, some (.int x5)] [] [(0, ly_M, (o, ad, S.1, S.2.1, S.2.2))] 0 0 := by
  obtain ⟨I, μ, h0, hs⟩ := hp
  have key : ∀ (n : Nat) (yx1 : Int32) (yx2 : Int32) (yx3 : Int32) (yx5 : Int32) (yS : ms), μ yx1 yx2 yx3 yx5 yS < n → I yx1 yx2 yx3 yx5 yS → aw gG D z A X 6 244 [some (.ref o), some (.int yx1), some (.int yx2), some (.int yx3), none, some (.int yx5)] [] [(0, ly_M, (o, ad, yS.1, yS.2.1, yS.2.2))] 0 0 := by
    intro n
    induction n with
    | zero => intro yx1 yx2 yx3 yx5 yS h; omega
    | succ n ih =>
      intro yx1 yx2 yx3 yx5 yS hn hI
      exact s_putSections_244 C hQ hA hR yx1 yx2 yx3 yx5 yS _ (fun zx1 zx2 zx3 zx5 zS hw => ih zx1 zx2 zx3 zx5 zS (by omega) hw.1) (hs yx1 yx2 yx3 yx5 yS hI)
  exact key (μ x1 x2 x3 x5 S + 1) x1 x2 x3 x5 S (Nat.lt_succ_self _) h0
set_option maxRecDepth 100000 in
set_option maxHeartbeats 1000000 in
theorem s_putSections_210 (C : fcx gG D z A X R_M c_M_putSections 6 (none)) (hQ : X.2.2.2.2.2.2.2.2.2.2 = eQ gG D z X.2.2.2.2.2.2.2.1 X.2.2.2.2.1 L0 0 0 (pM_v K o ad)) (hA : A = owA gG L0 X.2.2.2.2.1.heap.size) (hR : X.2.2.2.1 = { frames := 3, cells := 1, slots := 6, locals := 300 }) (x1 : Int32) (x2 : Int32) (x3 : Int32) (x4 : Int32) (x5 : Int32) (S : ms) (R210 : Int32 → Int32 → Int32 → Int32 → Int32 → ms → Prop) (hR210 : ∀ yx1 yx2 yx3 yx4 yx5 yS, R210 yx1 yx2 yx3 yx4 yx5 yS → aw gG D z A X 6 210 [some (.ref o), some (.int yx1), some (.int yx2), some (.int yx3), some (.int yx4), some (.int yx5)] [] [(0, ly_M, (o, ad, yS.1, yS.2.1, yS.2.2))] 0 0) (hp : b_putSections_210 x1 x2 x3 x4 x5 S R210 K) : aw gG D z A X 6 210 [some (.ref o), some (.int x1), some (.int x2), some (.int x3), some (.int x4), some (.int x5)] [] [(0, ly_M, (o, ad, S.1, S.2.1, S.2.2))] 0 0 := by
  unfold b_putSections_210 at hp
  refine a_iload C d_putSections_210 rfl ?_
  refine a_iconst (v := 2) C d_putSections_212 (by decide) ?_
  refine a_iload_n C d_putSections_213 rfl rfl ?_
  refine a_imul C d_putSections_214 ?_
  refine a_icmp_ge (tgt := 235) C d_putSections_215 (by decide) ⟨fun hc => ?_, fun hc => ?_⟩
  · have hp := hp.1 hc
    refine a_aload_n C d_putSections_235 rfl rfl ?_
    refine a_iload C d_putSections_236 rfl ?_
    refine a_call (Lr := []) (rest := []) (av := .ref o :: [.int x4]) C [0] [] d_putSections_238 (ct_putTwo x4 S hp) cd_M_putTwo i_M (Nat.le_of_ble_eq_true rfl) (by rw [hR]; exact Nat.le_of_ble_eq_true rfl) (by rw [hR]; exact Nat.le_of_ble_eq_true rfl) (by rw [hR]; exact Nat.le_of_ble_eq_true rfl) (by rw [hR]; exact Nat.le_of_ble_eq_true rfl) rfl rfl (by decide) (by decide) (by decide) (inv_V C 0 d_putSections_238 l_M_233 im_M_putTwo se_M_putTwo cd_M_putTwo ⟨by decide, by decide⟩ ln_M_putTwo rfl rfl rfl rfl rfl) (fun oc L1 hL => ?_)
    obtain ⟨S238, hp, rfl, rfl⟩ := hL
    refine ⟨_, rfl, ?_⟩
    refine aw_eq (lo' := _) (st' := []) (L' := [(0, ly_M, (o, ad, S238.1, S238.2.1, S238.2.2))]) rfl rfl rfl ?_
    refine a_iconst (v := 0) C d_putSections_241 (by decide) ?_
    refine a_istore (lo' := [some (.ref o), some (.int x1), some (.int x2), some (.int x3), some (.int x4), some (.int 0)]) C d_putSections_242 (by decide) rfl ?_
    refine aw_lo (lo' := [some (.ref o), some (.int x1), some (.int x2), some (.int x3), none, some (.int 0)]) ⟨.inr rfl, .inr rfl, .inr rfl, .inr rfl, .inl rfl, .inr rfl, trivial⟩ ?_
    exact se_putSections_244 C hQ hA hR x1 x2 x3 0 (S238.1, S238.2.1, S238.2.2)  hp
  · have hp := hp.2 hc
    refine a_iload C d_putSections_218 rfl ?_
    refine a_aload_n C d_putSections_220 rfl rfl ?_
    refine a_iload C d_putSections_221 rfl ?_
    refine a_call (Lr := []) (rest := [.int x4]) (av := .ref o :: [.int x5]) C [0] [] d_putSections_223 (ct_codeSize x5 S hp) cd_M_codeSize i_M (Nat.le_of_ble_eq_true rfl) (by rw [hR]; exact Nat.le_of_ble_eq_true rfl) (by rw [hR]; exact Nat.le_of_ble_eq_true rfl) (by rw [hR]; exact Nat.le_of_ble_eq_true rfl) (by rw [hR]; exact Nat.le_of_ble_eq_true rfl) rfl rfl (by decide) (by decide) (by decide) (inv_V C 0 d_putSections_223 l_M_236 im_M_codeSize se_M_codeSize cd_M_codeSize ⟨by decide, by decide⟩ ln_M_codeSize rfl rfl rfl rfl rfl) (fun oc L1 hL => ?_)
    obtain ⟨v223, S223, hp, rfl, rfl⟩ := hL
    refine ⟨_, rfl, ?_⟩
    refine aw_eq (lo' := _) (st' := [.int v223, .int x4]) (L' := [(0, ly_M, (o, ad, S223.1, S223.2.1, S223.2.2))]) rfl rfl rfl ?_
    refine a_iadd C d_putSections_226 ?_
    refine a_istore (lo' := [some (.ref o), some (.int x1), some (.int x2), some (.int x3), some (.int (x4 + v223)), some (.int x5)]) C d_putSections_227 (by decide) rfl ?_
    refine a_iinc (v := x5 + 1) (lo' := [some (.ref o), some (.int x1), some (.int x2), some (.int x3), some (.int (x4 + v223)), some (.int (x5 + 1))]) C d_putSections_229 rfl rfl (by decide) rfl ?_
    refine a_goto (tgt := 210) C d_putSections_232 (by decide) ?_
    refine aw_lo (lo' := [some (.ref o), some (.int x1), some (.int x2), some (.int x3), some (.int (x4 + v223)), some (.int (x5 + 1))]) ⟨.inr rfl, .inr rfl, .inr rfl, .inr rfl, .inr rfl, .inr rfl, trivial⟩ ?_
    exact hR210 x1 x2 x3 (x4 + v223) (x5 + 1) (S223.1, S223.2.1, S223.2.2) hp
set_option maxRecDepth 100000 in
set_option maxHeartbeats 1000000 in
theorem se_putSections_210 (C : fcx gG D z A X R_M c_M_putSections 6 (none)) (hQ : X.2.2.2.2.2.2.2.2.2.2 = eQ gG D z X.2.2.2.2.2.2.2.1 X.2.2.2.2.1 L0 0 0 (pM_v K o ad)) (hA : A = owA gG L0 X.2.2.2.2.1.heap.size) (hR : X.2.2.2.1 = { frames := 3, cells := 1, slots := 6, locals := 300 }) (x1 : Int32) (x2 : Int32) (x3 : Int32) (x4 : Int32) (x5 : Int32) (S : ms) (hp : e_putSections_210 x1 x2 x3 x4 x5 S K) : aw gG D z A X 6 210 [some (.ref o), some (.int x1), some (.int x2), some (.int x3), some (.int x4), some (.int x5)] [] [(0, ly_M, (o, ad, S.1, S.2.1, S.2.2))] 0 0 := by
  obtain ⟨I, μ, h0, hs⟩ := hp
  have key : ∀ (n : Nat) (yx1 : Int32) (yx2 : Int32) (yx3 : Int32) (yx4 : Int32) (yx5 : Int32) (yS : ms), μ yx1 yx2 yx3 yx4 yx5 yS < n → I yx1 yx2 yx3 yx4 yx5 yS → aw gG D z A X 6 210 [some (.ref o), some (.int yx1), some (.int yx2), some (.int yx3), some (.int yx4), some (.int yx5)] [] [(0, ly_M, (o, ad, yS.1, yS.2.1, yS.2.2))] 0 0 := by
    intro n
    induction n with
    | zero => intro yx1 yx2 yx3 yx4 yx5 yS h; omega
    | succ n ih =>
      intro yx1 yx2 yx3 yx4 yx5 yS hn hI
      exact s_putSections_210 C hQ hA hR yx1 yx2 yx3 yx4 yx5 yS _ (fun zx1 zx2 zx3 zx4 zx5 zS hw => ih zx1 zx2 zx3 zx4 zx5 zS (by omega) hw.1) (hs yx1 yx2 yx3 yx4 yx5 yS hI)
  exact key (μ x1 x2 x3 x4 x5 S + 1) x1 x2 x3 x4 x5 S (Nat.lt_succ_self _) h0
set_option maxRecDepth 100000 in
set_option maxHeartbeats 1000000 in
theorem s_putSections_188 (C : fcx gG D z A X R_M c_M_putSections 6 (none)) (hQ : X.2.2.2.2.2.2.2.2.2.2 = eQ gG D z X.2.2.2.2.2.2.2.1 X.2.2.2.2.1 L0 0 0 (pM_v K o ad)) (hA : A = owA gG L0 X.2.2.2.2.1.heap.size) (hR : X.2.2.2.1 = { frames := 3, cells := 1, slots := 6, locals := 300 }) (x1 : Int32) (x2 : Int32) (x3 : Int32) (x4 : Int32) (s1 : Int32) (S : ms) (R141 : Int32 → Int32 → Int32 → Int32 → ms → Prop) (hR141 : ∀ yx1 yx2 yx3 yx4 yS, R141 yx1 yx2 yx3 yx4 yS → aw gG D z A X 6 141 [some (.ref o), some (.int yx1), some (.int yx2), some (.int yx3), some (.int yx4), none] [] [(0, ly_M, (o, ad, yS.1, yS.2.1, yS.2.2))] 0 0) (hp : b_putSections_188 x1 x2 x3 x4 s1 S R141 K) : aw gG D z A X 6 188 [some (.ref o), some (.int x1), some (.int x2), some (.int x3), some (.int x4), none] [.int s1, .ref o] [(0, ly_M, (o, ad, S.1, S.2.1, S.2.2))] 0 0 := by
  unfold b_putSections_188 at hp
  refine a_call (Lr := []) (rest := []) (av := .ref o :: [.int s1]) C [0] [] d_putSections_188 (ct_put s1 S hp) cd_M_put i_M (Nat.le_of_ble_eq_true rfl) (by rw [hR]; exact Nat.le_of_ble_eq_true rfl) (by rw [hR]; exact Nat.le_of_ble_eq_true rfl) (by rw [hR]; exact Nat.le_of_ble_eq_true rfl) (by rw [hR]; exact Nat.le_of_ble_eq_true rfl) rfl rfl (by decide) (by decide) (by decide) (inv_V C 0 d_putSections_188 l_M_200 im_M_put se_M_put cd_M_put ⟨by decide, by decide⟩ ln_M_put rfl rfl rfl rfl rfl) (fun oc L1 hL => ?_)
  obtain ⟨S188, hp, rfl, rfl⟩ := hL
  refine ⟨_, rfl, ?_⟩
  refine aw_eq (lo' := _) (st' := []) (L' := [(0, ly_M, (o, ad, S188.1, S188.2.1, S188.2.2))]) rfl rfl rfl ?_
  refine a_iinc (v := x4 + 1) (lo' := [some (.ref o), some (.int x1), some (.int x2), some (.int x3), some (.int (x4 + 1)), none]) C d_putSections_191 rfl rfl (by decide) rfl ?_
  refine a_goto (tgt := 141) C d_putSections_194 (by decide) ?_
  refine aw_lo (lo' := [some (.ref o), some (.int x1), some (.int x2), some (.int x3), some (.int (x4 + 1)), none]) ⟨.inr rfl, .inr rfl, .inr rfl, .inr rfl, .inr rfl, .inr rfl, trivial⟩ ?_
  exact hR141 x1 x2 x3 (x4 + 1) (S188.1, S188.2.1, S188.2.2) hp
set_option maxRecDepth 100000 in
set_option maxHeartbeats 1000000 in
theorem s_putSections_141 (C : fcx gG D z A X R_M c_M_putSections 6 (none)) (hQ : X.2.2.2.2.2.2.2.2.2.2 = eQ gG D z X.2.2.2.2.2.2.2.1 X.2.2.2.2.1 L0 0 0 (pM_v K o ad)) (hA : A = owA gG L0 X.2.2.2.2.1.heap.size) (hR : X.2.2.2.1 = { frames := 3, cells := 1, slots := 6, locals := 300 }) (x1 : Int32) (x2 : Int32) (x3 : Int32) (x4 : Int32) (S : ms) (R141 : Int32 → Int32 → Int32 → Int32 → ms → Prop) (hR141 : ∀ yx1 yx2 yx3 yx4 yS, R141 yx1 yx2 yx3 yx4 yS → aw gG D z A X 6 141 [some (.ref o), some (.int yx1), some (.int yx2), some (.int yx3), some (.int yx4), none] [] [(0, ly_M, (o, ad, yS.1, yS.2.1, yS.2.2))] 0 0) (hp : b_putSections_141 x1 x2 x3 x4 S R141 K) : aw gG D z A X 6 141 [some (.ref o), some (.int x1), some (.int x2), some (.int x3), some (.int x4), none] [] [(0, ly_M, (o, ad, S.1, S.2.1, S.2.2))] 0 0 := by
  unfold b_putSections_141 at hp
  refine a_iload C d_putSections_141 rfl ?_
  refine a_iload_n C d_putSections_143 rfl rfl ?_
  refine a_icmp_ge (tgt := 197) C d_putSections_144 (by decide) ⟨fun hc => ?_, fun hc => ?_⟩
  · have hp := hp.1 hc
    refine a_aload_n C d_putSections_197 rfl rfl ?_
    refine a_sipush (v := 196) C d_putSections_198 (by decide) ?_
    refine a_call (Lr := []) (rest := []) (av := .ref o :: [.int 196]) C [0] [] d_putSections_201 (ct_mark 196 S hp) cd_M_mark i_M (Nat.le_of_ble_eq_true rfl) (by rw [hR]; exact Nat.le_of_ble_eq_true rfl) (by rw [hR]; exact Nat.le_of_ble_eq_true rfl) (by rw [hR]; exact Nat.le_of_ble_eq_true rfl) (by rw [hR]; exact Nat.le_of_ble_eq_true rfl) rfl rfl (by decide) (by decide) (by decide) (inv_V C 0 d_putSections_201 l_M_227 im_M_mark se_M_mark cd_M_mark ⟨by decide, by decide⟩ ln_M_mark rfl rfl rfl rfl rfl) (fun oc L1 hL => ?_)
    obtain ⟨S201, hp, rfl, rfl⟩ := hL
    refine ⟨_, rfl, ?_⟩
    refine aw_eq (lo' := _) (st' := []) (L' := [(0, ly_M, (o, ad, S201.1, S201.2.1, S201.2.2))]) rfl rfl rfl ?_
    refine a_iconst (v := 2) C d_putSections_204 (by decide) ?_
    refine a_istore (lo' := [some (.ref o), some (.int x1), some (.int x2), some (.int x3), some (.int 2), none]) C d_putSections_205 (by decide) rfl ?_
    refine a_iconst (v := 0) C d_putSections_207 (by decide) ?_
    refine a_istore (lo' := [some (.ref o), some (.int x1), some (.int x2), some (.int x3), some (.int 2), some (.int 0)]) C d_putSections_208 (by decide) rfl ?_
    refine aw_lo (lo' := [some (.ref o), some (.int x1), some (.int x2), some (.int x3), some (.int 2), some (.int 0)]) ⟨.inr rfl, .inr rfl, .inr rfl, .inr rfl, .inr rfl, .inr rfl, trivial⟩ ?_
    exact se_putSections_210 C hQ hA hR x1 x2 x3 2 0 (S201.1, S201.2.1, S201.2.2)  hp
  · have hp := hp.2 hc
    refine a_aload_n C d_putSections_147 rfl rfl ?_
    refine a_iload C d_putSections_148 rfl ?_
    refine a_iconst (v := 1) C d_putSections_150 (by decide) ?_
    refine a_iadd C d_putSections_151 ?_
    refine a_call (Lr := []) (rest := []) (av := .ref o :: [.int (x4 + 1)]) C [0] [] d_putSections_152 (ct_put (x4 + 1) S hp) cd_M_put i_M (Nat.le_of_ble_eq_true rfl) (by rw [hR]; exact Nat.le_of_ble_eq_true rfl) (by rw [hR]; exact Nat.le_of_ble_eq_true rfl) (by rw [hR]; exact Nat.le_of_ble_eq_true rfl) (by rw [hR]; exact Nat.le_of_ble_eq_true rfl) rfl rfl (by decide) (by decide) (by decide) (inv_V C 0 d_putSections_152 l_M_200 im_M_put se_M_put cd_M_put ⟨by decide, by decide⟩ ln_M_put rfl rfl rfl rfl rfl) (fun oc L1 hL => ?_)
    obtain ⟨S152, hp, rfl, rfl⟩ := hL
    refine ⟨_, rfl, ?_⟩
    refine aw_eq (lo' := _) (st' := []) (L' := [(0, ly_M, (o, ad, S152.1, S152.2.1, S152.2.2))]) rfl rfl rfl ?_
    refine a_aload_n C d_putSections_155 rfl rfl ?_
    refine a_bipush (v := 16) C d_putSections_156 (by decide) ?_
    refine a_aload_n C d_putSections_158 rfl rfl ?_
    refine a_getR C 0 15 d_putSections_159 rfl rfl rfl (Nat.le_of_ble_eq_true rfl) f_M_50 ⟨Nat.le_of_ble_eq_true rfl, Nat.le_of_ble_eq_true rfl⟩ ?_
    refine a_iload C d_putSections_162 rfl ?_
    refine a_iald C 0 15 d_putSections_164 rfl rfl rfl hp.1 ?_
    have hp := hp.2
    refine a_imul C d_putSections_165 ?_
    refine a_aload_n C d_putSections_166 rfl rfl ?_
    refine a_getR C 0 16 d_putSections_167 rfl rfl rfl (Nat.le_of_ble_eq_true rfl) f_M_53 ⟨Nat.le_of_ble_eq_true rfl, Nat.le_of_ble_eq_true rfl⟩ ?_
    refine a_iload C d_putSections_170 rfl ?_
    refine a_iald C 0 16 d_putSections_172 rfl rfl rfl hp.1 ?_
    have hp := hp.2
    refine a_iadd C d_putSections_173 ?_
    refine a_call (Lr := []) (rest := []) (av := .ref o :: [.int ((16 * (S152.2.1 15 x4.toNatClampNeg)) + (S152.2.1 16 x4.toNatClampNeg))]) C [0] [] d_putSections_174 (ct_put ((16 * (S152.2.1 15 x4.toNatClampNeg)) + (S152.2.1 16 x4.toNatClampNeg)) (S152.1, S152.2.1, S152.2.2) hp) cd_M_put i_M (Nat.le_of_ble_eq_true rfl) (by rw [hR]; exact Nat.le_of_ble_eq_true rfl) (by rw [hR]; exact Nat.le_of_ble_eq_true rfl) (by rw [hR]; exact Nat.le_of_ble_eq_true rfl) (by rw [hR]; exact Nat.le_of_ble_eq_true rfl) rfl rfl (by decide) (by decide) (by decide) (inv_V C 0 d_putSections_174 l_M_200 im_M_put se_M_put cd_M_put ⟨by decide, by decide⟩ ln_M_put rfl rfl rfl rfl rfl) (fun oc L1 hL => ?_)
    obtain ⟨S174, hp, rfl, rfl⟩ := hL
    refine ⟨_, rfl, ?_⟩
    refine aw_eq (lo' := _) (st' := []) (L' := [(0, ly_M, (o, ad, S174.1, S174.2.1, S174.2.2))]) rfl rfl rfl ?_
    refine a_aload_n C d_putSections_177 rfl rfl ?_
    refine a_iload C d_putSections_178 rfl ?_
    refine a_if_ne (tgt := 187) C d_putSections_180 (by decide) ⟨fun hc => ?_, fun hc => ?_⟩
    · have hp := hp.1 hc
      refine a_iconst (v := 1) C d_putSections_187 (by decide) ?_
      refine aw_lo (lo' := [some (.ref o), some (.int x1), some (.int x2), some (.int x3), some (.int x4), none]) ⟨.inr rfl, .inr rfl, .inr rfl, .inr rfl, .inr rfl, .inr rfl, trivial⟩ ?_
      exact s_putSections_188 C hQ hA hR x1 x2 x3 x4 1 (S174.1, S174.2.1, S174.2.2) R141 hR141 hp
    · have hp := hp.2 hc
      refine a_iconst (v := 0) C d_putSections_183 (by decide) ?_
      refine a_goto (tgt := 188) C d_putSections_184 (by decide) ?_
      refine aw_lo (lo' := [some (.ref o), some (.int x1), some (.int x2), some (.int x3), some (.int x4), none]) ⟨.inr rfl, .inr rfl, .inr rfl, .inr rfl, .inr rfl, .inr rfl, trivial⟩ ?_
      exact s_putSections_188 C hQ hA hR x1 x2 x3 x4 0 (S174.1, S174.2.1, S174.2.2) R141 hR141 hp
set_option maxRecDepth 100000 in
set_option maxHeartbeats 1000000 in
theorem se_putSections_141 (C : fcx gG D z A X R_M c_M_putSections 6 (none)) (hQ : X.2.2.2.2.2.2.2.2.2.2 = eQ gG D z X.2.2.2.2.2.2.2.1 X.2.2.2.2.1 L0 0 0 (pM_v K o ad)) (hA : A = owA gG L0 X.2.2.2.2.1.heap.size) (hR : X.2.2.2.1 = { frames := 3, cells := 1, slots := 6, locals := 300 }) (x1 : Int32) (x2 : Int32) (x3 : Int32) (x4 : Int32) (S : ms) (hp : e_putSections_141 x1 x2 x3 x4 S K) : aw gG D z A X 6 141 [some (.ref o), some (.int x1), some (.int x2), some (.int x3), some (.int x4), none] [] [(0, ly_M, (o, ad, S.1, S.2.1, S.2.2))] 0 0 := by
  obtain ⟨I, μ, h0, hs⟩ := hp
  have key : ∀ (n : Nat) (yx1 : Int32) (yx2 : Int32) (yx3 : Int32) (yx4 : Int32) (yS : ms), μ yx1 yx2 yx3 yx4 yS < n → I yx1 yx2 yx3 yx4 yS → aw gG D z A X 6 141 [some (.ref o), some (.int yx1), some (.int yx2), some (.int yx3), some (.int yx4), none] [] [(0, ly_M, (o, ad, yS.1, yS.2.1, yS.2.2))] 0 0 := by
    intro n
    induction n with
    | zero => intro yx1 yx2 yx3 yx4 yS h; omega
    | succ n ih =>
      intro yx1 yx2 yx3 yx4 yS hn hI
      exact s_putSections_141 C hQ hA hR yx1 yx2 yx3 yx4 yS _ (fun zx1 zx2 zx3 zx4 zS hw => ih zx1 zx2 zx3 zx4 zS (by omega) hw.1) (hs yx1 yx2 yx3 yx4 yS hI)
  exact key (μ x1 x2 x3 x4 S + 1) x1 x2 x3 x4 S (Nat.lt_succ_self _) h0
set_option maxRecDepth 100000 in
set_option maxHeartbeats 1000000 in
theorem s_putSections_53 (C : fcx gG D z A X R_M c_M_putSections 6 (none)) (hQ : X.2.2.2.2.2.2.2.2.2.2 = eQ gG D z X.2.2.2.2.2.2.2.1 X.2.2.2.2.1 L0 0 0 (pM_v K o ad)) (hA : A = owA gG L0 X.2.2.2.2.1.heap.size) (hR : X.2.2.2.1 = { frames := 3, cells := 1, slots := 6, locals := 300 }) (x1 : Int32) (x2 : Int32) (x3 : Int32) (x4 : Int32) (x5 : Int32) (S : ms) (R38 : Int32 → Int32 → Int32 → Int32 → ms → Prop) (hR38 : ∀ yx1 yx2 yx3 yx4 yS, R38 yx1 yx2 yx3 yx4 yS → aw gG D z A X 6 38 [some (.ref o), some (.int yx1), some (.int yx2), some (.int yx3), some (.int yx4), none] [] [(0, ly_M, (o, ad, yS.1, yS.2.1, yS.2.2))] 0 0) (R53 : Int32 → Int32 → Int32 → Int32 → Int32 → ms → Prop) (hR53 : ∀ yx1 yx2 yx3 yx4 yx5 yS, R53 yx1 yx2 yx3 yx4 yx5 yS → aw gG D z A X 6 53 [some (.ref o), some (.int yx1), some (.int yx2), some (.int yx3), some (.int yx4), some (.int yx5)] [] [(0, ly_M, (o, ad, yS.1, yS.2.1, yS.2.2))] 0 0) (hp : b_putSections_53 x1 x2 x3 x4 x5 S R38 R53 K) : aw gG D z A X 6 53 [some (.ref o), some (.int x1), some (.int x2), some (.int x3), some (.int x4), some (.int x5)] [] [(0, ly_M, (o, ad, S.1, S.2.1, S.2.2))] 0 0 := by
  unfold b_putSections_53 at hp
  refine a_iload C d_putSections_53 rfl ?_
  refine a_bipush (v := 64) C d_putSections_55 (by decide) ?_
  refine a_icmp_ge (tgt := 88) C d_putSections_57 (by decide) ⟨fun hc => ?_, fun hc => ?_⟩
  · have hp := hp.1 hc
    refine a_iinc (v := x4 + 1) (lo' := [some (.ref o), some (.int x1), some (.int x2), some (.int x3), some (.int (x4 + 1)), some (.int x5)]) C d_putSections_88 rfl rfl (by decide) rfl ?_
    refine a_goto (tgt := 38) C d_putSections_91 (by decide) ?_
    refine aw_lo (lo' := [some (.ref o), some (.int x1), some (.int x2), some (.int x3), some (.int (x4 + 1)), none]) ⟨.inr rfl, .inr rfl, .inr rfl, .inr rfl, .inr rfl, .inl rfl, trivial⟩ ?_
    exact hR38 x1 x2 x3 (x4 + 1) S hp
  · have hp := hp.2 hc
    refine a_aload_n C d_putSections_60 rfl rfl ?_
    refine a_aload_n C d_putSections_61 rfl rfl ?_
    refine a_getR C 0 5 d_putSections_62 rfl rfl rfl (Nat.le_of_ble_eq_true rfl) f_M_23 ⟨Nat.le_of_ble_eq_true rfl, Nat.le_of_ble_eq_true rfl⟩ ?_
    refine a_bipush (v := 64) C d_putSections_65 (by decide) ?_
    refine a_iload C d_putSections_67 rfl ?_
    refine a_imul C d_putSections_69 ?_
    refine a_aload_n C d_putSections_70 rfl rfl ?_
    refine a_getR C 0 22 d_putSections_71 rfl rfl rfl (Nat.le_of_ble_eq_true rfl) f_M_72 ⟨Nat.le_of_ble_eq_true rfl, Nat.le_of_ble_eq_true rfl⟩ ?_
    refine a_iload C d_putSections_74 rfl ?_
    refine a_iald C 0 22 d_putSections_76 rfl rfl rfl hp.1 ?_
    have hp := hp.2
    refine a_iadd C d_putSections_77 ?_
    refine a_iald C 0 5 d_putSections_78 rfl rfl rfl hp.1 ?_
    have hp := hp.2
    refine a_call (Lr := []) (rest := []) (av := .ref o :: [.int (S.2.1 5 ((64 * x4) + (S.2.1 22 x5.toNatClampNeg)).toNatClampNeg)]) C [0] [] d_putSections_79 (ct_put (S.2.1 5 ((64 * x4) + (S.2.1 22 x5.toNatClampNeg)).toNatClampNeg) S hp) cd_M_put i_M (Nat.le_of_ble_eq_true rfl) (by rw [hR]; exact Nat.le_of_ble_eq_true rfl) (by rw [hR]; exact Nat.le_of_ble_eq_true rfl) (by rw [hR]; exact Nat.le_of_ble_eq_true rfl) (by rw [hR]; exact Nat.le_of_ble_eq_true rfl) rfl rfl (by decide) (by decide) (by decide) (inv_V C 0 d_putSections_79 l_M_200 im_M_put se_M_put cd_M_put ⟨by decide, by decide⟩ ln_M_put rfl rfl rfl rfl rfl) (fun oc L1 hL => ?_)
    obtain ⟨S79, hp, rfl, rfl⟩ := hL
    refine ⟨_, rfl, ?_⟩
    refine aw_eq (lo' := _) (st' := []) (L' := [(0, ly_M, (o, ad, S79.1, S79.2.1, S79.2.2))]) rfl rfl rfl ?_
    refine a_iinc (v := x5 + 1) (lo' := [some (.ref o), some (.int x1), some (.int x2), some (.int x3), some (.int x4), some (.int (x5 + 1))]) C d_putSections_82 rfl rfl (by decide) rfl ?_
    refine a_goto (tgt := 53) C d_putSections_85 (by decide) ?_
    refine aw_lo (lo' := [some (.ref o), some (.int x1), some (.int x2), some (.int x3), some (.int x4), some (.int (x5 + 1))]) ⟨.inr rfl, .inr rfl, .inr rfl, .inr rfl, .inr rfl, .inr rfl, trivial⟩ ?_
    exact hR53 x1 x2 x3 x4 (x5 + 1) (S79.1, S79.2.1, S79.2.2) hp
set_option maxRecDepth 100000 in
set_option maxHeartbeats 1000000 in
theorem se_putSections_53 (C : fcx gG D z A X R_M c_M_putSections 6 (none)) (hQ : X.2.2.2.2.2.2.2.2.2.2 = eQ gG D z X.2.2.2.2.2.2.2.1 X.2.2.2.2.1 L0 0 0 (pM_v K o ad)) (hA : A = owA gG L0 X.2.2.2.2.1.heap.size) (hR : X.2.2.2.1 = { frames := 3, cells := 1, slots := 6, locals := 300 }) (x1 : Int32) (x2 : Int32) (x3 : Int32) (x4 : Int32) (x5 : Int32) (S : ms) (R38 : Int32 → Int32 → Int32 → Int32 → ms → Prop) (hR38 : ∀ yx1 yx2 yx3 yx4 yS, R38 yx1 yx2 yx3 yx4 yS → aw gG D z A X 6 38 [some (.ref o), some (.int yx1), some (.int yx2), some (.int yx3), some (.int yx4), none] [] [(0, ly_M, (o, ad, yS.1, yS.2.1, yS.2.2))] 0 0) (hp : e_putSections_53 x1 x2 x3 x4 x5 S R38 K) : aw gG D z A X 6 53 [some (.ref o), some (.int x1), some (.int x2), some (.int x3), some (.int x4), some (.int x5)] [] [(0, ly_M, (o, ad, S.1, S.2.1, S.2.2))] 0 0 := by
  obtain ⟨I, μ, h0, hs⟩ := hp
  have key : ∀ (n : Nat) (yx1 : Int32) (yx2 : Int32) (yx3 : Int32) (yx4 : Int32) (yx5 : Int32) (yS : ms), μ yx1 yx2 yx3 yx4 yx5 yS < n → I yx1 yx2 yx3 yx4 yx5 yS → aw gG D z A X 6 53 [some (.ref o), some (.int yx1), some (.int yx2), some (.int yx3), some (.int yx4), some (.int yx5)] [] [(0, ly_M, (o, ad, yS.1, yS.2.1, yS.2.2))] 0 0 := by
    intro n
    induction n with
    | zero => intro yx1 yx2 yx3 yx4 yx5 yS h; omega
    | succ n ih =>
      intro yx1 yx2 yx3 yx4 yx5 yS hn hI
      exact s_putSections_53 C hQ hA hR yx1 yx2 yx3 yx4 yx5 yS R38 hR38 _ (fun zx1 zx2 zx3 zx4 zx5 zS hw => ih zx1 zx2 zx3 zx4 zx5 zS (by omega) hw.1) (hs yx1 yx2 yx3 yx4 yx5 yS hI)
  exact key (μ x1 x2 x3 x4 x5 S + 1) x1 x2 x3 x4 x5 S (Nat.lt_succ_self _) h0
set_option maxRecDepth 100000 in
set_option maxHeartbeats 1000000 in
theorem s_putSections_38 (C : fcx gG D z A X R_M c_M_putSections 6 (none)) (hQ : X.2.2.2.2.2.2.2.2.2.2 = eQ gG D z X.2.2.2.2.2.2.2.1 X.2.2.2.2.1 L0 0 0 (pM_v K o ad)) (hA : A = owA gG L0 X.2.2.2.2.1.heap.size) (hR : X.2.2.2.1 = { frames := 3, cells := 1, slots := 6, locals := 300 }) (x1 : Int32) (x2 : Int32) (x3 : Int32) (x4 : Int32) (S : ms) (R38 : Int32 → Int32 → Int32 → Int32 → ms → Prop) (hR38 : ∀ yx1 yx2 yx3 yx4 yS, R38 yx1 yx2 yx3 yx4 yS → aw gG D z A X 6 38 [some (.ref o), some (.int yx1), some (.int yx2), some (.int yx3), some (.int yx4), none] [] [(0, ly_M, (o, ad, yS.1, yS.2.1, yS.2.2))] 0 0) (hp : b_putSections_38 x1 x2 x3 x4 S R38 K) : aw gG D z A X 6 38 [some (.ref o), some (.int x1), some (.int x2), some (.int x3), some (.int x4), none] [] [(0, ly_M, (o, ad, S.1, S.2.1, S.2.2))] 0 0 := by
  unfold b_putSections_38 at hp
  refine a_iload C d_putSections_38 rfl ?_
  refine a_iload_n C d_putSections_40 rfl rfl ?_
  refine a_icmp_ge (tgt := 94) C d_putSections_41 (by decide) ⟨fun hc => ?_, fun hc => ?_⟩
  · have hp := hp.1 hc
    refine a_aload_n C d_putSections_94 rfl rfl ?_
    refine a_sipush (v := 192) C d_putSections_95 (by decide) ?_
    refine a_call (Lr := []) (rest := []) (av := .ref o :: [.int 192]) C [0] [] d_putSections_98 (ct_mark 192 S hp) cd_M_mark i_M (Nat.le_of_ble_eq_true rfl) (by rw [hR]; exact Nat.le_of_ble_eq_true rfl) (by rw [hR]; exact Nat.le_of_ble_eq_true rfl) (by rw [hR]; exact Nat.le_of_ble_eq_true rfl) (by rw [hR]; exact Nat.le_of_ble_eq_true rfl) rfl rfl (by decide) (by decide) (by decide) (inv_V C 0 d_putSections_98 l_M_227 im_M_mark se_M_mark cd_M_mark ⟨by decide, by decide⟩ ln_M_mark rfl rfl rfl rfl rfl) (fun oc L1 hL => ?_)
    obtain ⟨S98, hp, rfl, rfl⟩ := hL
    refine ⟨_, rfl, ?_⟩
    refine aw_eq (lo' := _) (st' := []) (L' := [(0, ly_M, (o, ad, S98.1, S98.2.1, S98.2.2))]) rfl rfl rfl ?_
    refine a_aload_n C d_putSections_101 rfl rfl ?_
    refine a_bipush (v := 8) C d_putSections_102 (by decide) ?_
    refine a_iconst (v := 3) C d_putSections_104 (by decide) ?_
    refine a_iload_n C d_putSections_105 rfl rfl ?_
    refine a_imul C d_putSections_106 ?_
    refine a_iadd C d_putSections_107 ?_
    refine a_call (Lr := []) (rest := []) (av := .ref o :: [.int (8 + (3 * x2))]) C [0] [] d_putSections_108 (ct_putTwo (8 + (3 * x2)) (S98.1, S98.2.1, S98.2.2) hp) cd_M_putTwo i_M (Nat.le_of_ble_eq_true rfl) (by rw [hR]; exact Nat.le_of_ble_eq_true rfl) (by rw [hR]; exact Nat.le_of_ble_eq_true rfl) (by rw [hR]; exact Nat.le_of_ble_eq_true rfl) (by rw [hR]; exact Nat.le_of_ble_eq_true rfl) rfl rfl (by decide) (by decide) (by decide) (inv_V C 0 d_putSections_108 l_M_233 im_M_putTwo se_M_putTwo cd_M_putTwo ⟨by decide, by decide⟩ ln_M_putTwo rfl rfl rfl rfl rfl) (fun oc L1 hL => ?_)
    obtain ⟨S108, hp, rfl, rfl⟩ := hL
    refine ⟨_, rfl, ?_⟩
    refine aw_eq (lo' := _) (st' := []) (L' := [(0, ly_M, (o, ad, S108.1, S108.2.1, S108.2.2))]) rfl rfl rfl ?_
    refine a_aload_n C d_putSections_111 rfl rfl ?_
    refine a_bipush (v := 8) C d_putSections_112 (by decide) ?_
    refine a_call (Lr := []) (rest := []) (av := .ref o :: [.int 8]) C [0] [] d_putSections_114 (ct_put 8 (S108.1, S108.2.1, S108.2.2) hp) cd_M_put i_M (Nat.le_of_ble_eq_true rfl) (by rw [hR]; exact Nat.le_of_ble_eq_true rfl) (by rw [hR]; exact Nat.le_of_ble_eq_true rfl) (by rw [hR]; exact Nat.le_of_ble_eq_true rfl) (by rw [hR]; exact Nat.le_of_ble_eq_true rfl) rfl rfl (by decide) (by decide) (by decide) (inv_V C 0 d_putSections_114 l_M_200 im_M_put se_M_put cd_M_put ⟨by decide, by decide⟩ ln_M_put rfl rfl rfl rfl rfl) (fun oc L1 hL => ?_)
    obtain ⟨S114, hp, rfl, rfl⟩ := hL
    refine ⟨_, rfl, ?_⟩
    refine aw_eq (lo' := _) (st' := []) (L' := [(0, ly_M, (o, ad, S114.1, S114.2.1, S114.2.2))]) rfl rfl rfl ?_
    refine a_aload_n C d_putSections_117 rfl rfl ?_
    refine a_aload_n C d_putSections_118 rfl rfl ?_
    refine a_getI C 0 2 d_putSections_119 rfl rfl rfl (Nat.le_of_ble_eq_true rfl) f_M_13 (Nat.le_of_ble_eq_true rfl) ?_
    refine a_call (Lr := []) (rest := []) (av := .ref o :: [.int (S114.1 2)]) C [0] [] d_putSections_122 (ct_putTwo (S114.1 2) (S114.1, S114.2.1, S114.2.2) hp) cd_M_putTwo i_M (Nat.le_of_ble_eq_true rfl) (by rw [hR]; exact Nat.le_of_ble_eq_true rfl) (by rw [hR]; exact Nat.le_of_ble_eq_true rfl) (by rw [hR]; exact Nat.le_of_ble_eq_true rfl) (by rw [hR]; exact Nat.le_of_ble_eq_true rfl) rfl rfl (by decide) (by decide) (by decide) (inv_V C 0 d_putSections_122 l_M_233 im_M_putTwo se_M_putTwo cd_M_putTwo ⟨by decide, by decide⟩ ln_M_putTwo rfl rfl rfl rfl rfl) (fun oc L1 hL => ?_)
    obtain ⟨S122, hp, rfl, rfl⟩ := hL
    refine ⟨_, rfl, ?_⟩
    refine aw_eq (lo' := _) (st' := []) (L' := [(0, ly_M, (o, ad, S122.1, S122.2.1, S122.2.2))]) rfl rfl rfl ?_
    refine a_aload_n C d_putSections_125 rfl rfl ?_
    refine a_aload_n C d_putSections_126 rfl rfl ?_
    refine a_getI C 0 1 d_putSections_127 rfl rfl rfl (Nat.le_of_ble_eq_true rfl) f_M_7 (Nat.le_of_ble_eq_true rfl) ?_
    refine a_call (Lr := []) (rest := []) (av := .ref o :: [.int (S122.1 1)]) C [0] [] d_putSections_130 (ct_putTwo (S122.1 1) (S122.1, S122.2.1, S122.2.2) hp) cd_M_putTwo i_M (Nat.le_of_ble_eq_true rfl) (by rw [hR]; exact Nat.le_of_ble_eq_true rfl) (by rw [hR]; exact Nat.le_of_ble_eq_true rfl) (by rw [hR]; exact Nat.le_of_ble_eq_true rfl) (by rw [hR]; exact Nat.le_of_ble_eq_true rfl) rfl rfl (by decide) (by decide) (by decide) (inv_V C 0 d_putSections_130 l_M_233 im_M_putTwo se_M_putTwo cd_M_putTwo ⟨by decide, by decide⟩ ln_M_putTwo rfl rfl rfl rfl rfl) (fun oc L1 hL => ?_)
    obtain ⟨S130, hp, rfl, rfl⟩ := hL
    refine ⟨_, rfl, ?_⟩
    refine aw_eq (lo' := _) (st' := []) (L' := [(0, ly_M, (o, ad, S130.1, S130.2.1, S130.2.2))]) rfl rfl rfl ?_
    refine a_aload_n C d_putSections_133 rfl rfl ?_
    refine a_iload_n C d_putSections_134 rfl rfl ?_
    refine a_call (Lr := []) (rest := []) (av := .ref o :: [.int x2]) C [0] [] d_putSections_135 (ct_put x2 (S130.1, S130.2.1, S130.2.2) hp) cd_M_put i_M (Nat.le_of_ble_eq_true rfl) (by rw [hR]; exact Nat.le_of_ble_eq_true rfl) (by rw [hR]; exact Nat.le_of_ble_eq_true rfl) (by rw [hR]; exact Nat.le_of_ble_eq_true rfl) (by rw [hR]; exact Nat.le_of_ble_eq_true rfl) rfl rfl (by decide) (by decide) (by decide) (inv_V C 0 d_putSections_135 l_M_200 im_M_put se_M_put cd_M_put ⟨by decide, by decide⟩ ln_M_put rfl rfl rfl rfl rfl) (fun oc L1 hL => ?_)
    obtain ⟨S135, hp, rfl, rfl⟩ := hL
    refine ⟨_, rfl, ?_⟩
    refine aw_eq (lo' := _) (st' := []) (L' := [(0, ly_M, (o, ad, S135.1, S135.2.1, S135.2.2))]) rfl rfl rfl ?_
    refine a_iconst (v := 0) C d_putSections_138 (by decide) ?_
    refine a_istore (lo' := [some (.ref o), some (.int x1), some (.int x2), some (.int x3), some (.int 0), none]) C d_putSections_139 (by decide) rfl ?_
    refine aw_lo (lo' := [some (.ref o), some (.int x1), some (.int x2), some (.int x3), some (.int 0), none]) ⟨.inr rfl, .inr rfl, .inr rfl, .inr rfl, .inr rfl, .inr rfl, trivial⟩ ?_
    exact se_putSections_141 C hQ hA hR x1 x2 x3 0 (S135.1, S135.2.1, S135.2.2)  hp
  · have hp := hp.2 hc
    refine a_aload_n C d_putSections_44 rfl rfl ?_
    refine a_iload C d_putSections_45 rfl ?_
    refine a_call (Lr := []) (rest := []) (av := .ref o :: [.int x4]) C [0] [] d_putSections_47 (ct_put x4 S hp) cd_M_put i_M (Nat.le_of_ble_eq_true rfl) (by rw [hR]; exact Nat.le_of_ble_eq_true rfl) (by rw [hR]; exact Nat.le_of_ble_eq_true rfl) (by rw [hR]; exact Nat.le_of_ble_eq_true rfl) (by rw [hR]; exact Nat.le_of_ble_eq_true rfl) rfl rfl (by decide) (by decide) (by decide) (inv_V C 0 d_putSections_47 l_M_200 im_M_put se_M_put cd_M_put ⟨by decide, by decide⟩ ln_M_put rfl rfl rfl rfl rfl) (fun oc L1 hL => ?_)
    obtain ⟨S47, hp, rfl, rfl⟩ := hL
    refine ⟨_, rfl, ?_⟩
    refine aw_eq (lo' := _) (st' := []) (L' := [(0, ly_M, (o, ad, S47.1, S47.2.1, S47.2.2))]) rfl rfl rfl ?_
    refine a_iconst (v := 0) C d_putSections_50 (by decide) ?_
    refine a_istore (lo' := [some (.ref o), some (.int x1), some (.int x2), some (.int x3), some (.int x4), some (.int 0)]) C d_putSections_51 (by decide) rfl ?_
    refine aw_lo (lo' := [some (.ref o), some (.int x1), some (.int x2), some (.int x3), some (.int x4), some (.int 0)]) ⟨.inr rfl, .inr rfl, .inr rfl, .inr rfl, .inr rfl, .inr rfl, trivial⟩ ?_
    exact se_putSections_53 C hQ hA hR x1 x2 x3 x4 0 (S47.1, S47.2.1, S47.2.2) R38 hR38 hp
set_option maxRecDepth 100000 in
set_option maxHeartbeats 1000000 in
theorem se_putSections_38 (C : fcx gG D z A X R_M c_M_putSections 6 (none)) (hQ : X.2.2.2.2.2.2.2.2.2.2 = eQ gG D z X.2.2.2.2.2.2.2.1 X.2.2.2.2.1 L0 0 0 (pM_v K o ad)) (hA : A = owA gG L0 X.2.2.2.2.1.heap.size) (hR : X.2.2.2.1 = { frames := 3, cells := 1, slots := 6, locals := 300 }) (x1 : Int32) (x2 : Int32) (x3 : Int32) (x4 : Int32) (S : ms) (hp : e_putSections_38 x1 x2 x3 x4 S K) : aw gG D z A X 6 38 [some (.ref o), some (.int x1), some (.int x2), some (.int x3), some (.int x4), none] [] [(0, ly_M, (o, ad, S.1, S.2.1, S.2.2))] 0 0 := by
  obtain ⟨I, μ, h0, hs⟩ := hp
  have key : ∀ (n : Nat) (yx1 : Int32) (yx2 : Int32) (yx3 : Int32) (yx4 : Int32) (yS : ms), μ yx1 yx2 yx3 yx4 yS < n → I yx1 yx2 yx3 yx4 yS → aw gG D z A X 6 38 [some (.ref o), some (.int yx1), some (.int yx2), some (.int yx3), some (.int yx4), none] [] [(0, ly_M, (o, ad, yS.1, yS.2.1, yS.2.2))] 0 0 := by
    intro n
    induction n with
    | zero => intro yx1 yx2 yx3 yx4 yS h; omega
    | succ n ih =>
      intro yx1 yx2 yx3 yx4 yS hn hI
      exact s_putSections_38 C hQ hA hR yx1 yx2 yx3 yx4 yS _ (fun zx1 zx2 zx3 zx4 zS hw => ih zx1 zx2 zx3 zx4 zS (by omega) hw.1) (hs yx1 yx2 yx3 yx4 yS hI)
  exact key (μ x1 x2 x3 x4 S + 1) x1 x2 x3 x4 S (Nat.lt_succ_self _) h0
set_option maxRecDepth 100000 in
set_option maxHeartbeats 1000000 in
theorem s_putSections_17 (C : fcx gG D z A X R_M c_M_putSections 6 (none)) (hQ : X.2.2.2.2.2.2.2.2.2.2 = eQ gG D z X.2.2.2.2.2.2.2.1 X.2.2.2.2.1 L0 0 0 (pM_v K o ad)) (hA : A = owA gG L0 X.2.2.2.2.1.heap.size) (hR : X.2.2.2.1 = { frames := 3, cells := 1, slots := 6, locals := 300 }) (x1 : Int32) (x2 : Int32) (s0 : Int32) (S : ms) (hp : b_putSections_17 x1 x2 s0 S K) : aw gG D z A X 6 17 [some (.ref o), some (.int x1), some (.int x2), none, none, none] [.int s0] [(0, ly_M, (o, ad, S.1, S.2.1, S.2.2))] 0 0 := by
  unfold b_putSections_17 at hp
  refine a_istore_n (lo' := [some (.ref o), some (.int x1), some (.int x2), some (.int s0), none, none]) C d_putSections_17 rfl (by decide) rfl ?_
  refine a_aload_n C d_putSections_18 rfl rfl ?_
  refine a_sipush (v := 219) C d_putSections_19 (by decide) ?_
  refine a_call (Lr := []) (rest := []) (av := .ref o :: [.int 219]) C [0] [] d_putSections_22 (ct_mark 219 S hp) cd_M_mark i_M (Nat.le_of_ble_eq_true rfl) (by rw [hR]; exact Nat.le_of_ble_eq_true rfl) (by rw [hR]; exact Nat.le_of_ble_eq_true rfl) (by rw [hR]; exact Nat.le_of_ble_eq_true rfl) (by rw [hR]; exact Nat.le_of_ble_eq_true rfl) rfl rfl (by decide) (by decide) (by decide) (inv_V C 0 d_putSections_22 l_M_227 im_M_mark se_M_mark cd_M_mark ⟨by decide, by decide⟩ ln_M_mark rfl rfl rfl rfl rfl) (fun oc L1 hL => ?_)
  obtain ⟨S22, hp, rfl, rfl⟩ := hL
  refine ⟨_, rfl, ?_⟩
  refine aw_eq (lo' := _) (st' := []) (L' := [(0, ly_M, (o, ad, S22.1, S22.2.1, S22.2.2))]) rfl rfl rfl ?_
  refine a_aload_n C d_putSections_25 rfl rfl ?_
  refine a_iconst (v := 2) C d_putSections_26 (by decide) ?_
  refine a_bipush (v := 65) C d_putSections_27 (by decide) ?_
  refine a_iload_n C d_putSections_29 rfl rfl ?_
  refine a_imul C d_putSections_30 ?_
  refine a_iadd C d_putSections_31 ?_
  refine a_call (Lr := []) (rest := []) (av := .ref o :: [.int (2 + (65 * s0))]) C [0] [] d_putSections_32 (ct_putTwo (2 + (65 * s0)) (S22.1, S22.2.1, S22.2.2) hp) cd_M_putTwo i_M (Nat.le_of_ble_eq_true rfl) (by rw [hR]; exact Nat.le_of_ble_eq_true rfl) (by rw [hR]; exact Nat.le_of_ble_eq_true rfl) (by rw [hR]; exact Nat.le_of_ble_eq_true rfl) (by rw [hR]; exact Nat.le_of_ble_eq_true rfl) rfl rfl (by decide) (by decide) (by decide) (inv_V C 0 d_putSections_32 l_M_233 im_M_putTwo se_M_putTwo cd_M_putTwo ⟨by decide, by decide⟩ ln_M_putTwo rfl rfl rfl rfl rfl) (fun oc L1 hL => ?_)
  obtain ⟨S32, hp, rfl, rfl⟩ := hL
  refine ⟨_, rfl, ?_⟩
  refine aw_eq (lo' := _) (st' := []) (L' := [(0, ly_M, (o, ad, S32.1, S32.2.1, S32.2.2))]) rfl rfl rfl ?_
  refine a_iconst (v := 0) C d_putSections_35 (by decide) ?_
  refine a_istore (lo' := [some (.ref o), some (.int x1), some (.int x2), some (.int s0), some (.int 0), none]) C d_putSections_36 (by decide) rfl ?_
  refine aw_lo (lo' := [some (.ref o), some (.int x1), some (.int x2), some (.int s0), some (.int 0), none]) ⟨.inr rfl, .inr rfl, .inr rfl, .inr rfl, .inr rfl, .inr rfl, trivial⟩ ?_
  exact se_putSections_38 C hQ hA hR x1 x2 s0 0 (S32.1, S32.2.1, S32.2.2)  hp
set_option maxRecDepth 100000 in
set_option maxHeartbeats 1000000 in
theorem s_putSections_0 (C : fcx gG D z A X R_M c_M_putSections 6 (none)) (hQ : X.2.2.2.2.2.2.2.2.2.2 = eQ gG D z X.2.2.2.2.2.2.2.1 X.2.2.2.2.1 L0 0 0 (pM_v K o ad)) (hA : A = owA gG L0 X.2.2.2.2.1.heap.size) (hR : X.2.2.2.1 = { frames := 3, cells := 1, slots := 6, locals := 300 }) (x1 : Int32) (S : ms) (hp : p_putSections x1 S K) : aw gG D z A X 6 0 [some (.ref o), some (.int x1), none, none, none, none] [] [(0, ly_M, (o, ad, S.1, S.2.1, S.2.2))] 0 0 := by
  unfold p_putSections at hp
  refine a_aload_n C d_putSections_0 rfl rfl ?_
  refine a_getR C 0 14 d_putSections_1 rfl rfl rfl (Nat.le_of_ble_eq_true rfl) f_M_47 ⟨Nat.le_of_ble_eq_true rfl, Nat.le_of_ble_eq_true rfl⟩ ?_
  refine a_iconst (v := 0) C d_putSections_4 (by decide) ?_
  refine a_iald C 0 14 d_putSections_5 rfl rfl rfl hp.1 ?_
  have hp := hp.2
  refine a_istore_n (lo' := [some (.ref o), some (.int x1), some (.int (S.2.1 14 (0 : Int32).toNatClampNeg)), none, none, none]) C d_putSections_6 rfl (by decide) rfl ?_
  refine a_iload_n C d_putSections_7 rfl rfl ?_
  refine a_iconst (v := 1) C d_putSections_8 (by decide) ?_
  refine a_icmp_ne (tgt := 16) C d_putSections_9 (by decide) ⟨fun hc => ?_, fun hc => ?_⟩
  · have hp := hp.1 hc
    refine a_iconst (v := 2) C d_putSections_16 (by decide) ?_
    refine aw_lo (lo' := [some (.ref o), some (.int x1), some (.int (S.2.1 14 (0 : Int32).toNatClampNeg)), none, none, none]) ⟨.inr rfl, .inr rfl, .inr rfl, .inr rfl, .inr rfl, .inr rfl, trivial⟩ ?_
    exact s_putSections_17 C hQ hA hR x1 (S.2.1 14 (0 : Int32).toNatClampNeg) 2 S  hp
  · have hp := hp.2 hc
    refine a_iconst (v := 1) C d_putSections_12 (by decide) ?_
    refine a_goto (tgt := 17) C d_putSections_13 (by decide) ?_
    refine aw_lo (lo' := [some (.ref o), some (.int x1), some (.int (S.2.1 14 (0 : Int32).toNatClampNeg)), none, none, none]) ⟨.inr rfl, .inr rfl, .inr rfl, .inr rfl, .inr rfl, .inr rfl, trivial⟩ ?_
    exact s_putSections_17 C hQ hA hR x1 (S.2.1 14 (0 : Int32).toNatClampNeg) 1 S  hp
end M_putSections
section M_putSectionsc
variable {D : va_G} {z : Nat → ClassId} {o : Nat} {ad : Nat → Nat}
set_option maxRecDepth 100000 in
theorem ct_putSections {l : Launch} (x1 : Int32) (S : ms) {K : ms → Prop} (hp : p_putSections x1 S K) : ct gG D z l n_M_putSections c_M_putSections 6 (none) 3 300 [.ref o, .int x1] [(0, ly_M, (o, ad, S.1, S.2.1, S.2.2))] 0 0 (pM_v K o ad) := by
  refine ct_of (lo := [some (.ref o), some (.int x1), none, none, none, none]) (by decide) g_ok (Nat.le_of_ble_eq_true rfl) rfl ?_
  intro X A _ C hR hQ hA _
  exact s_putSections_0 C hQ hA hR x1 S hp
end M_putSectionsc
def b_pack_321 (x3 : Int32) (x4 : Int32) (s0 : Int32) (s1 : Int32) (S : ms) (R306 : Int32 → Int32 → ms → Prop) (K : Int32 → ms → Prop) : Prop :=
  (s1 ≤ s0 → (p_mark 216 (upd (upd (upd S.1 9 0) 32 0) 33 0, S.2.1, S.2.2) (fun S355 => p_putSections x3 (S355.1, S355.2.1, S355.2.2) (fun S360 => p_units 0 x3 (S360.1, S360.2.1, S360.2.2) (fun S366 => p_fillUp (S366.1, S366.2.1, S366.2.2) (fun S370 => p_mark 217 (S370.1, S370.2.1, S370.2.2) (fun S377 => K (S377.1 9) (S377.1, S377.2.1, S377.2.2)))))))) ∧ (¬ (s1 ≤ s0) → (p_makeCode x4 S (fun S327 => R306 x3 (x4 + 1) (S327.1, S327.2.1, S327.2.2))))
def b_pack_306 (x3 : Int32) (x4 : Int32) (S : ms) (R306 : Int32 → Int32 → ms → Prop) (K : Int32 → ms → Prop) : Prop :=
  (¬ (S.1 3) = 1 → (b_pack_321 x3 x4 x4 4 S R306 K)) ∧ ((S.1 3) = 1 → (b_pack_321 x3 x4 x4 2 S R306 K))
def e_pack_306 (x3 : Int32) (x4 : Int32) (S : ms) (K : Int32 → ms → Prop) : Prop :=
  ∃ (I : Int32 → Int32 → ms → Prop) (μ : Int32 → Int32 → ms → Nat), I x3 x4 S ∧ ∀ yx3 yx4 yS, I yx3 yx4 yS → b_pack_306 yx3 yx4 yS (fun zx3 zx4 zS => I zx3 zx4 zS ∧ μ zx3 zx4 zS < μ yx3 yx4 yS) K
def b_pack_275 (x3 : Int32) (x4 : Int32) (S : ms) (R275 : Int32 → Int32 → ms → Prop) (K : Int32 → ms → Prop) : Prop :=
  (1028 ≤ x4 → (p_units 1 x3 S (fun S300 => e_pack_306 x3 0 (S300.1, S300.2.1, S300.2.2) K))) ∧ (¬ (1028 ≤ x4) → (vp_in x4 1028 ∧ (R275 x3 (x4 + 1) (S.1, va_up S.2.1 26 (upd (S.2.1 26) x4.toNatClampNeg 0), S.2.2))))
def e_pack_275 (x3 : Int32) (x4 : Int32) (S : ms) (K : Int32 → ms → Prop) : Prop :=
  ∃ (I : Int32 → Int32 → ms → Prop) (μ : Int32 → Int32 → ms → Nat), I x3 x4 S ∧ ∀ yx3 yx4 yS, I yx3 yx4 yS → b_pack_275 yx3 yx4 yS (fun zx3 zx4 zS => I zx3 zx4 zS ∧ μ zx3 zx4 zS < μ yx3 yx4 yS) K
def b_pack_225 (x3 : Int32) (x4 : Int32) (x5 : Int32) (x6 : Int32) (x7 : Int32) (S : ms) (R145 : Int32 → Int32 → ms → Prop) (R225 : Int32 → Int32 → Int32 → Int32 → Int32 → ms → Prop) (K : Int32 → ms → Prop) : Prop :=
  ((x5 * x6) ≤ x7 → (R145 x3 (x4 + 1) S)) ∧ (¬ ((x5 * x6) ≤ x7) → (¬ x5 = 0 ∧ (vp_in x4 9 ∧ (¬ x5 = 0 ∧ (p_makeLevels x4 (((x7 / x5) * (S.2.1 17 x4.toNatClampNeg)) + (x7 - x7 / x5 * x5)) S (fun S257 => R225 x3 x4 x5 x6 (x7 + 1) (S257.1, S257.2.1, S257.2.2)))))))
def e_pack_225 (x3 : Int32) (x4 : Int32) (x5 : Int32) (x6 : Int32) (x7 : Int32) (S : ms) (R145 : Int32 → Int32 → ms → Prop) (K : Int32 → ms → Prop) : Prop :=
  ∃ (I : Int32 → Int32 → Int32 → Int32 → Int32 → ms → Prop) (μ : Int32 → Int32 → Int32 → Int32 → Int32 → ms → Nat), I x3 x4 x5 x6 x7 S ∧ ∀ yx3 yx4 yx5 yx6 yx7 yS, I yx3 yx4 yx5 yx6 yx7 yS → b_pack_225 yx3 yx4 yx5 yx6 yx7 yS R145 (fun zx3 zx4 zx5 zx6 zx7 zS => I zx3 zx4 zx5 zx6 zx7 zS ∧ μ zx3 zx4 zx5 zx6 zx7 zS < μ yx3 yx4 yx5 yx6 yx7 yS) K
def b_pack_220 (x3 : Int32) (x4 : Int32) (x5 : Int32) (s0 : Int32) (S : ms) (R145 : Int32 → Int32 → ms → Prop) (K : Int32 → ms → Prop) : Prop :=
  e_pack_225 x3 x4 x5 s0 0 S R145 K
def b_pack_189 (x3 : Int32) (x4 : Int32) (s0 : Int32) (S : ms) (R145 : Int32 → Int32 → ms → Prop) (K : Int32 → ms → Prop) : Prop :=
  (¬ (S.1 3) = 1 → (vp_in x4 9 ∧ (b_pack_220 x3 x4 s0 (S.2.1 18 x4.toNatClampNeg) S R145 K))) ∧ ((S.1 3) = 1 → (p_layerHigh 0 0 S (fun v202 S202 => p_upward v202 8 (fun v207 => b_pack_220 x3 x4 s0 v207 (S202.1, S202.2.1, S202.2.2) R145 K))))
def b_pack_145 (x3 : Int32) (x4 : Int32) (S : ms) (R145 : Int32 → Int32 → ms → Prop) (K : Int32 → ms → Prop) : Prop :=
  ((S.1 3) ≤ x4 → (e_pack_275 x3 0 S K)) ∧ (¬ ((S.1 3) ≤ x4) → (p_makeRaster x4 S (fun S157 => (¬ (S157.1 3) = 1 → (vp_in x4 9 ∧ (b_pack_189 x3 x4 (S157.2.1 17 x4.toNatClampNeg) (S157.1, S157.2.1, S157.2.2) R145 K))) ∧ ((S157.1 3) = 1 → (p_layerWide 0 0 (S157.1, S157.2.1, S157.2.2) (fun v171 S171 => p_upward v171 8 (fun v176 => b_pack_189 x3 x4 v176 (S171.1, S171.2.1, S171.2.2) R145 K)))))))
def e_pack_145 (x3 : Int32) (x4 : Int32) (S : ms) (K : Int32 → ms → Prop) : Prop :=
  ∃ (I : Int32 → Int32 → ms → Prop) (μ : Int32 → Int32 → ms → Nat), I x3 x4 S ∧ ∀ yx3 yx4 yS, I yx3 yx4 yS → b_pack_145 yx3 yx4 yS (fun zx3 zx4 zS => I zx3 zx4 zS ∧ μ zx3 zx4 zS < μ yx3 yx4 yS) K
def b_pack_130 (x1 : Int32) (x2 : Int32) (x3 : Int32) (x4 : Int32) (s1 : Int32) (s2 : Int32) (S : ms) (R88 : Int32 → Int32 → Int32 → Int32 → ms → Prop) (K : Int32 → ms → Prop) : Prop :=
  vp_in s1 9 ∧ (R88 x1 x2 x3 (x4 + 1) (S.1, va_up S.2.1 16 (upd (S.2.1 16) s1.toNatClampNeg s2), S.2.2))
def b_pack_113 (x1 : Int32) (x2 : Int32) (x3 : Int32) (x4 : Int32) (s1 : Int32) (s2 : Int32) (S : ms) (R88 : Int32 → Int32 → Int32 → Int32 → ms → Prop) (K : Int32 → ms → Prop) : Prop :=
  vp_in s1 9 ∧ ((¬ x4 = 0 → (b_pack_130 x1 x2 x3 x4 x4 1 (S.1, va_up S.2.1 15 (upd (S.2.1 15) s1.toNatClampNeg s2), S.2.2) R88 K)) ∧ (x4 = 0 → (b_pack_130 x1 x2 x3 x4 x4 x2 (S.1, va_up S.2.1 15 (upd (S.2.1 15) s1.toNatClampNeg s2), S.2.2) R88 K)))
def b_pack_88 (x1 : Int32) (x2 : Int32) (x3 : Int32) (x4 : Int32) (S : ms) (R88 : Int32 → Int32 → Int32 → Int32 → ms → Prop) (K : Int32 → ms → Prop) : Prop :=
  ((S.1 3) ≤ x4 → (p_makeGrids 0 S (fun S139 => e_pack_145 x3 0 (S139.1, S139.2.1, S139.2.2) K))) ∧ (¬ ((S.1 3) ≤ x4) → ((¬ x4 = 0 → (b_pack_113 x1 x2 x3 x4 x4 1 S R88 K)) ∧ (x4 = 0 → (b_pack_113 x1 x2 x3 x4 x4 x1 S R88 K))))
def e_pack_88 (x1 : Int32) (x2 : Int32) (x3 : Int32) (x4 : Int32) (S : ms) (K : Int32 → ms → Prop) : Prop :=
  ∃ (I : Int32 → Int32 → Int32 → Int32 → ms → Prop) (μ : Int32 → Int32 → Int32 → Int32 → ms → Nat), I x1 x2 x3 x4 S ∧ ∀ yx1 yx2 yx3 yx4 yS, I yx1 yx2 yx3 yx4 yS → b_pack_88 yx1 yx2 yx3 yx4 yS (fun zx1 zx2 zx3 zx4 zS => I zx1 zx2 zx3 zx4 zS ∧ μ zx1 zx2 zx3 zx4 zS < μ yx1 yx2 yx3 yx4 yS) K
def b_pack_36 (x1 : Int32) (x2 : Int32) (x3 : Int32) (s1 : Int32) (S : ms) (K : Int32 → ms → Prop) : Prop :=
  (((upd S.1 0 s1) 0) ≤ 0 → (vp_in 0 3 ∧ (vp_in 0 3 ∧ (vp_in 0 3 ∧ (vp_in 0 3 ∧ (e_pack_88 x1 x2 x3 0 (upd S.1 0 s1, va_up (va_up (va_up (va_up S.2.1 11 (upd (S.2.1 11) (0 : Int32).toNatClampNeg (vp_nar .boolean 1))) 12 (upd ((va_up S.2.1 11 (upd (S.2.1 11) (0 : Int32).toNatClampNeg (vp_nar .boolean 1))) 12) (0 : Int32).toNatClampNeg ((upd S.1 0 s1) 1))) 13 (upd ((va_up (va_up S.2.1 11 (upd (S.2.1 11) (0 : Int32).toNatClampNeg (vp_nar .boolean 1))) 12 (upd ((va_up S.2.1 11 (upd (S.2.1 11) (0 : Int32).toNatClampNeg (vp_nar .boolean 1))) 12) (0 : Int32).toNatClampNeg ((upd S.1 0 s1) 1))) 13) (0 : Int32).toNatClampNeg ((upd S.1 0 s1) 2))) 14 (upd ((va_up (va_up (va_up S.2.1 11 (upd (S.2.1 11) (0 : Int32).toNatClampNeg (vp_nar .boolean 1))) 12 (upd ((va_up S.2.1 11 (upd (S.2.1 11) (0 : Int32).toNatClampNeg (vp_nar .boolean 1))) 12) (0 : Int32).toNatClampNeg ((upd S.1 0 s1) 1))) 13 (upd ((va_up (va_up S.2.1 11 (upd (S.2.1 11) (0 : Int32).toNatClampNeg (vp_nar .boolean 1))) 12 (upd ((va_up S.2.1 11 (upd (S.2.1 11) (0 : Int32).toNatClampNeg (vp_nar .boolean 1))) 12) (0 : Int32).toNatClampNeg ((upd S.1 0 s1) 1))) 13) (0 : Int32).toNatClampNeg ((upd S.1 0 s1) 2))) 14) (0 : Int32).toNatClampNeg ((upd S.1 0 s1) 3)), S.2.2) K)))))) ∧ (¬ (((upd S.1 0 s1) 0) ≤ 0) → (K 0 (upd S.1 0 s1, S.2.1, S.2.2)))
def b_pack_31 (x1 : Int32) (x2 : Int32) (x3 : Int32) (S : ms) (K : Int32 → ms → Prop) : Prop :=
  b_pack_36 x1 x2 x3 1 S K
def p_pack (x1 : Int32) (x2 : Int32) (x3 : Int32) (S : ms) (K : Int32 → ms → Prop) : Prop :=
  (x1 < 1 → (b_pack_31 x1 x2 x3 S K)) ∧ (¬ (x1 < 1) → ((2 < x1 → (b_pack_31 x1 x2 x3 S K)) ∧ (¬ (2 < x1) → ((x2 < 1 → (b_pack_31 x1 x2 x3 S K)) ∧ (¬ (x2 < 1) → ((2 < x2 → (b_pack_31 x1 x2 x3 S K)) ∧ (¬ (2 < x2) → ((x3 < 0 → (b_pack_31 x1 x2 x3 S K)) ∧ (¬ (x3 < 0) → ((x3 ≤ 65535 → (b_pack_36 x1 x2 x3 0 S K)) ∧ (¬ (x3 ≤ 65535) → (b_pack_31 x1 x2 x3 S K))))))))))))
section M_pack
variable {D : va_G} {z : Nat → ClassId} {A : Nat → Prop} {X : cx} {L0 : fw} {K : Int32 → ms → Prop} {o : Nat} {ad : Nat → Nat}
set_option maxRecDepth 100000 in
set_option maxHeartbeats 1000000 in
theorem s_pack_321 (C : fcx gG D z A X R_M c_M_pack 8 (some .int)) (hQ : X.2.2.2.2.2.2.2.2.2.2 = eQ gG D z X.2.2.2.2.2.2.2.1 X.2.2.2.2.1 L0 0 0 (pM_i K o ad)) (hA : A = owA gG L0 X.2.2.2.2.1.heap.size) (hR : X.2.2.2.1 = { frames := 6, cells := 1, slots := 6, locals := 600 }) (x3 : Int32) (x4 : Int32) (s0 : Int32) (s1 : Int32) (S : ms) (R306 : Int32 → Int32 → ms → Prop) (hR306 : ∀ yx3 yx4 yS, R306 yx3 yx4 yS → aw gG D z A X 8 306 [some (.ref o), none, none, some (.int yx3), some (.int yx4), none, none, none] [] [(0, ly_M, (o, ad, yS.1, yS.2.1, yS.2.2))] 0 0) (hp : b_pack_321 x3 x4 s0 s1 S R306 K) : aw gG D z A X 8 321 [some (.ref o), none, none, some (.int x3), some (.int x4), none, none, none] [.int s1, .int s0] [(0, ly_M, (o, ad, S.1, S.2.1, S.2.2))] 0 0 := by
  unfold b_pack_321 at hp
  refine a_icmp_ge (tgt := 336) C d_pack_321 (by decide) ⟨fun hc => ?_, fun hc => ?_⟩
  · have hp := hp.1 hc
    refine a_aload_n C d_pack_336 rfl rfl ?_
    refine a_iconst (v := 0) C d_pack_337 (by decide) ?_
    refine a_putI (ty := .int) C 0 9 d_pack_338 rfl rfl rfl (Nat.le_of_ble_eq_true rfl) f_M_197 (Nat.le_of_ble_eq_true rfl) rfl rfl rfl rfl ?_
    refine aw_eq (lo' := _) (st' := _) (L' := [(0, ly_M, (o, ad, upd S.1 9 0, S.2.1, S.2.2))]) rfl rfl rfl ?_
    refine a_aload_n C d_pack_341 rfl rfl ?_
    refine a_iconst (v := 0) C d_pack_342 (by decide) ?_
    refine a_putI (ty := .int) C 0 32 d_pack_343 rfl rfl rfl (Nat.le_of_ble_eq_true rfl) f_M_207 (Nat.le_of_ble_eq_true rfl) rfl rfl rfl rfl ?_
    refine aw_eq (lo' := _) (st' := _) (L' := [(0, ly_M, (o, ad, upd (upd S.1 9 0) 32 0, S.2.1, S.2.2))]) rfl rfl rfl ?_
    refine a_aload_n C d_pack_346 rfl rfl ?_
    refine a_iconst (v := 0) C d_pack_347 (by decide) ?_
    refine a_putI (ty := .int) C 0 33 d_pack_348 rfl rfl rfl (Nat.le_of_ble_eq_true rfl) f_M_204 (Nat.le_of_ble_eq_true rfl) rfl rfl rfl rfl ?_
    refine aw_eq (lo' := _) (st' := _) (L' := [(0, ly_M, (o, ad, upd (upd (upd S.1 9 0) 32 0) 33 0, S.2.1, S.2.2))]) rfl rfl rfl ?_
    refine a_aload_n C d_pack_351 rfl rfl ?_
    refine a_sipush (v := 216) C d_pack_352 (by decide) ?_
    refine a_call (Lr := []) (rest := []) (av := .ref o :: [.int 216]) C [0] [] d_pack_355 (ct_mark 216 (upd (upd (upd S.1 9 0) 32 0) 33 0, S.2.1, S.2.2) hp) cd_M_mark i_M (Nat.le_of_ble_eq_true rfl) (by rw [hR]; exact Nat.le_of_ble_eq_true rfl) (by rw [hR]; exact Nat.le_of_ble_eq_true rfl) (by rw [hR]; exact Nat.le_of_ble_eq_true rfl) (by rw [hR]; exact Nat.le_of_ble_eq_true rfl) rfl rfl (by decide) (by decide) (by decide) (inv_V C 0 d_pack_355 l_M_227 im_M_mark se_M_mark cd_M_mark ⟨by decide, by decide⟩ ln_M_mark rfl rfl rfl rfl rfl) (fun oc L1 hL => ?_)
    obtain ⟨S355, hp, rfl, rfl⟩ := hL
    refine ⟨_, rfl, ?_⟩
    refine aw_eq (lo' := _) (st' := []) (L' := [(0, ly_M, (o, ad, S355.1, S355.2.1, S355.2.2))]) rfl rfl rfl ?_
    refine a_aload_n C d_pack_358 rfl rfl ?_
    refine a_iload_n C d_pack_359 rfl rfl ?_
    refine a_call (Lr := []) (rest := []) (av := .ref o :: [.int x3]) C [0] [] d_pack_360 (ct_putSections x3 (S355.1, S355.2.1, S355.2.2) hp) cd_M_putSections i_M (Nat.le_of_ble_eq_true rfl) (by rw [hR]; exact Nat.le_of_ble_eq_true rfl) (by rw [hR]; exact Nat.le_of_ble_eq_true rfl) (by rw [hR]; exact Nat.le_of_ble_eq_true rfl) (by rw [hR]; exact Nat.le_of_ble_eq_true rfl) rfl rfl (by decide) (by decide) (by decide) (inv_V C 0 d_pack_360 l_M_259 im_M_putSections se_M_putSections cd_M_putSections ⟨by decide, by decide⟩ ln_M_putSections rfl rfl rfl rfl rfl) (fun oc L1 hL => ?_)
    obtain ⟨S360, hp, rfl, rfl⟩ := hL
    refine ⟨_, rfl, ?_⟩
    refine aw_eq (lo' := _) (st' := []) (L' := [(0, ly_M, (o, ad, S360.1, S360.2.1, S360.2.2))]) rfl rfl rfl ?_
    refine a_aload_n C d_pack_363 rfl rfl ?_
    refine a_iconst (v := 0) C d_pack_364 (by decide) ?_
    refine a_iload_n C d_pack_365 rfl rfl ?_
    refine a_call (Lr := []) (rest := []) (av := .ref o :: [.int 0, .int x3]) C [0] [] d_pack_366 (ct_units 0 x3 (S360.1, S360.2.1, S360.2.2) hp) cd_M_units i_M (Nat.le_of_ble_eq_true rfl) (by rw [hR]; exact Nat.le_of_ble_eq_true rfl) (by rw [hR]; exact Nat.le_of_ble_eq_true rfl) (by rw [hR]; exact Nat.le_of_ble_eq_true rfl) (by rw [hR]; exact Nat.le_of_ble_eq_true rfl) rfl rfl (by decide) (by decide) (by decide) (inv_V C 0 d_pack_366 l_M_252 im_M_units se_M_units cd_M_units ⟨by decide, by decide⟩ ln_M_units rfl rfl rfl rfl rfl) (fun oc L1 hL => ?_)
    obtain ⟨S366, hp, rfl, rfl⟩ := hL
    refine ⟨_, rfl, ?_⟩
    refine aw_eq (lo' := _) (st' := []) (L' := [(0, ly_M, (o, ad, S366.1, S366.2.1, S366.2.2))]) rfl rfl rfl ?_
    refine a_aload_n C d_pack_369 rfl rfl ?_
    refine a_call (Lr := []) (rest := []) (av := .ref o :: []) C [0] [] d_pack_370 (ct_fillUp (S366.1, S366.2.1, S366.2.2) hp) cd_M_fillUp i_M (Nat.le_of_ble_eq_true rfl) (by rw [hR]; exact Nat.le_of_ble_eq_true rfl) (by rw [hR]; exact Nat.le_of_ble_eq_true rfl) (by rw [hR]; exact Nat.le_of_ble_eq_true rfl) (by rw [hR]; exact Nat.le_of_ble_eq_true rfl) rfl rfl (by decide) (by decide) (by decide) (inv_V C 0 d_pack_370 l_M_224 im_M_fillUp se_M_fillUp cd_M_fillUp ⟨by decide, by decide⟩ ln_M_fillUp rfl rfl rfl rfl rfl) (fun oc L1 hL => ?_)
    obtain ⟨S370, hp, rfl, rfl⟩ := hL
    refine ⟨_, rfl, ?_⟩
    refine aw_eq (lo' := _) (st' := []) (L' := [(0, ly_M, (o, ad, S370.1, S370.2.1, S370.2.2))]) rfl rfl rfl ?_
    refine a_aload_n C d_pack_373 rfl rfl ?_
    refine a_sipush (v := 217) C d_pack_374 (by decide) ?_
    refine a_call (Lr := []) (rest := []) (av := .ref o :: [.int 217]) C [0] [] d_pack_377 (ct_mark 217 (S370.1, S370.2.1, S370.2.2) hp) cd_M_mark i_M (Nat.le_of_ble_eq_true rfl) (by rw [hR]; exact Nat.le_of_ble_eq_true rfl) (by rw [hR]; exact Nat.le_of_ble_eq_true rfl) (by rw [hR]; exact Nat.le_of_ble_eq_true rfl) (by rw [hR]; exact Nat.le_of_ble_eq_true rfl) rfl rfl (by decide) (by decide) (by decide) (inv_V C 0 d_pack_377 l_M_227 im_M_mark se_M_mark cd_M_mark ⟨by decide, by decide⟩ ln_M_mark rfl rfl rfl rfl rfl) (fun oc L1 hL => ?_)
    obtain ⟨S377, hp, rfl, rfl⟩ := hL
    refine ⟨_, rfl, ?_⟩
    refine aw_eq (lo' := _) (st' := []) (L' := [(0, ly_M, (o, ad, S377.1, S377.2.1, S377.2.2))]) rfl rfl rfl ?_
    refine a_aload_n C d_pack_380 rfl rfl ?_
    refine a_getI C 0 9 d_pack_381 rfl rfl rfl (Nat.le_of_ble_eq_true rfl) f_M_197 (Nat.le_of_ble_eq_true rfl) ?_
    exact a_iret (ty := .int) C hQ hA d_pack_384 rfl rfl ⟨_, (S377.1, S377.2.1, S377.2.2), hp, rfl, rfl⟩
  · have hp := hp.2 hc
    refine a_aload_n C d_pack_324 rfl rfl ?_
    refine a_iload C d_pack_325 rfl ?_
    refine a_call (Lr := []) (rest := []) (av := .ref o :: [.int x4]) C [0] [] d_pack_327 (ct_makeCode x4 S hp) cd_M_makeCode i_M (Nat.le_of_ble_eq_true rfl) (by rw [hR]; exact Nat.le_of_ble_eq_true rfl) (by rw [hR]; exact Nat.le_of_ble_eq_true rfl) (by rw [hR]; exact Nat.le_of_ble_eq_true rfl) (by rw [hR]; exact Nat.le_of_ble_eq_true rfl) rfl rfl (by decide) (by decide) (by decide) (inv_V C 0 d_pack_327 l_M_256 im_M_makeCode se_M_makeCode cd_M_makeCode ⟨by decide, by decide⟩ ln_M_makeCode rfl rfl rfl rfl rfl) (fun oc L1 hL => ?_)
    obtain ⟨S327, hp, rfl, rfl⟩ := hL
    refine ⟨_, rfl, ?_⟩
    refine aw_eq (lo' := _) (st' := []) (L' := [(0, ly_M, (o, ad, S327.1, S327.2.1, S327.2.2))]) rfl rfl rfl ?_
    refine a_iinc (v := x4 + 1) (lo' := [some (.ref o), none, none, some (.int x3), some (.int (x4 + 1)), none, none, none]) C d_pack_330 rfl rfl (by decide) rfl ?_
    refine a_goto (tgt := 306) C d_pack_333 (by decide) ?_
    refine aw_lo (lo' := [some (.ref o), none, none, some (.int x3), some (.int (x4 + 1)), none, none, none]) ⟨.inr rfl, .inr rfl, .inr rfl, .inr rfl, .inr rfl, .inr rfl, .inr rfl, .inr rfl, trivial⟩ ?_
    exact hR306 x3 (x4 + 1) (S327.1, S327.2.1, S327.2.2) hp
set_option maxRecDepth 100000 in
set_option maxHeartbeats 1000000 in
theorem s_pack_306 (C : fcx gG D z A X R_M c_M_pack 8 (some .int)) (hQ : X.2.2.2.2.2.2.2.2.2.2 = eQ gG D z X.2.2.2.2.2.2.2.1 X.2.2.2.2.1 L0 0 0 (pM_i K o ad)) (hA : A = owA gG L0 X.2.2.2.2.1.heap.size) (hR : X.2.2.2.1 = { frames := 6, cells := 1, slots := 6, locals := 600 }) (x3 : Int32) (x4 : Int32) (S : ms) (R306 : Int32 → Int32 → ms → Prop) (hR306 : ∀ yx3 yx4 yS, R306 yx3 yx4 yS → aw gG D z A X 8 306 [some (.ref o), none, none, some (.int yx3), some (.int yx4), none, none, none] [] [(0, ly_M, (o, ad, yS.1, yS.2.1, yS.2.2))] 0 0) (hp : b_pack_306 x3 x4 S R306 K) : aw gG D z A X 8 306 [some (.ref o), none, none, some (.int x3), some (.int x4), none, none, none] [] [(0, ly_M, (o, ad, S.1, S.2.1, S.2.2))] 0 0 := by
  unfold b_pack_306 at hp
  refine a_iload C d_pack_306 rfl ?_
  refine a_aload_n C d_pack_308 rfl rfl ?_
  refine a_getI C 0 3 d_pack_309 rfl rfl rfl (Nat.le_of_ble_eq_true rfl) f_M_16 (Nat.le_of_ble_eq_true rfl) ?_
  refine a_iconst (v := 1) C d_pack_312 (by decide) ?_
  refine a_icmp_ne (tgt := 320) C d_pack_313 (by decide) ⟨fun hc => ?_, fun hc => ?_⟩
  · have hp := hp.1 hc
    refine a_iconst (v := 4) C d_pack_320 (by decide) ?_
    refine aw_lo (lo' := [some (.ref o), none, none, some (.int x3), some (.int x4), none, none, none]) ⟨.inr rfl, .inr rfl, .inr rfl, .inr rfl, .inr rfl, .inr rfl, .inr rfl, .inr rfl, trivial⟩ ?_
    exact s_pack_321 C hQ hA hR x3 x4 x4 4 S R306 hR306 hp
  · have hp := hp.2 hc
    refine a_iconst (v := 2) C d_pack_316 (by decide) ?_
    refine a_goto (tgt := 321) C d_pack_317 (by decide) ?_
    refine aw_lo (lo' := [some (.ref o), none, none, some (.int x3), some (.int x4), none, none, none]) ⟨.inr rfl, .inr rfl, .inr rfl, .inr rfl, .inr rfl, .inr rfl, .inr rfl, .inr rfl, trivial⟩ ?_
    exact s_pack_321 C hQ hA hR x3 x4 x4 2 S R306 hR306 hp
set_option maxRecDepth 100000 in
set_option maxHeartbeats 1000000 in
theorem se_pack_306 (C : fcx gG D z A X R_M c_M_pack 8 (some .int)) (hQ : X.2.2.2.2.2.2.2.2.2.2 = eQ gG D z X.2.2.2.2.2.2.2.1 X.2.2.2.2.1 L0 0 0 (pM_i K o ad)) (hA : A = owA gG L0 X.2.2.2.2.1.heap.size) (hR : X.2.2.2.1 = { frames := 6, cells := 1, slots := 6, locals := 600 }) (x3 : Int32) (x4 : Int32) (S : ms) (hp : e_pack_306 x3 x4 S K) : aw gG D z A X 8 306 [some (.ref o), none, none, some (.int x3), some (.int x4), none, none, none] [] [(0, ly_M, (o, ad, S.1, S.2.1, S.2.2))] 0 0 := by
  obtain ⟨I, μ, h0, hs⟩ := hp
  have key : ∀ (n : Nat) (yx3 : Int32) (yx4 : Int32) (yS : ms), μ yx3 yx4 yS < n → I yx3 yx4 yS → aw gG D z A X 8 306 [some (.ref o), none, none, some (.int yx3), some (.int yx4), none, none, none] [] [(0, ly_M, (o, ad, yS.1, yS.2.1, yS.2.2))] 0 0 := by
    intro n
    induction n with
    | zero => intro yx3 yx4 yS h; omega
    | succ n ih =>
      intro yx3 yx4 yS hn hI
      exact s_pack_306 C hQ hA hR yx3 yx4 yS _ (fun zx3 zx4 zS hw => ih zx3 zx4 zS (by omega) hw.1) (hs yx3 yx4 yS hI)
  exact key (μ x3 x4 S + 1) x3 x4 S (Nat.lt_succ_self _) h0
set_option maxRecDepth 100000 in
set_option maxHeartbeats 1000000 in
theorem s_pack_275 (C : fcx gG D z A X R_M c_M_pack 8 (some .int)) (hQ : X.2.2.2.2.2.2.2.2.2.2 = eQ gG D z X.2.2.2.2.2.2.2.1 X.2.2.2.2.1 L0 0 0 (pM_i K o ad)) (hA : A = owA gG L0 X.2.2.2.2.1.heap.size) (hR : X.2.2.2.1 = { frames := 6, cells := 1, slots := 6, locals := 600 }) (x3 : Int32) (x4 : Int32) (S : ms) (R275 : Int32 → Int32 → ms → Prop) (hR275 : ∀ yx3 yx4 yS, R275 yx3 yx4 yS → aw gG D z A X 8 275 [some (.ref o), none, none, some (.int yx3), some (.int yx4), none, none, none] [] [(0, ly_M, (o, ad, yS.1, yS.2.1, yS.2.2))] 0 0) (hp : b_pack_275 x3 x4 S R275 K) : aw gG D z A X 8 275 [some (.ref o), none, none, some (.int x3), some (.int x4), none, none, none] [] [(0, ly_M, (o, ad, S.1, S.2.1, S.2.2))] 0 0 := by
  unfold b_pack_275 at hp
  refine a_iload C d_pack_275 rfl ?_
  refine a_sipush (v := 1028) C d_pack_277 (by decide) ?_
  refine a_icmp_ge (tgt := 297) C d_pack_280 (by decide) ⟨fun hc => ?_, fun hc => ?_⟩
  · have hp := hp.1 hc
    refine a_aload_n C d_pack_297 rfl rfl ?_
    refine a_iconst (v := 1) C d_pack_298 (by decide) ?_
    refine a_iload_n C d_pack_299 rfl rfl ?_
    refine a_call (Lr := []) (rest := []) (av := .ref o :: [.int 1, .int x3]) C [0] [] d_pack_300 (ct_units 1 x3 S hp) cd_M_units i_M (Nat.le_of_ble_eq_true rfl) (by rw [hR]; exact Nat.le_of_ble_eq_true rfl) (by rw [hR]; exact Nat.le_of_ble_eq_true rfl) (by rw [hR]; exact Nat.le_of_ble_eq_true rfl) (by rw [hR]; exact Nat.le_of_ble_eq_true rfl) rfl rfl (by decide) (by decide) (by decide) (inv_V C 0 d_pack_300 l_M_252 im_M_units se_M_units cd_M_units ⟨by decide, by decide⟩ ln_M_units rfl rfl rfl rfl rfl) (fun oc L1 hL => ?_)
    obtain ⟨S300, hp, rfl, rfl⟩ := hL
    refine ⟨_, rfl, ?_⟩
    refine aw_eq (lo' := _) (st' := []) (L' := [(0, ly_M, (o, ad, S300.1, S300.2.1, S300.2.2))]) rfl rfl rfl ?_
    refine a_iconst (v := 0) C d_pack_303 (by decide) ?_
    refine a_istore (lo' := [some (.ref o), none, none, some (.int x3), some (.int 0), none, none, none]) C d_pack_304 (by decide) rfl ?_
    refine aw_lo (lo' := [some (.ref o), none, none, some (.int x3), some (.int 0), none, none, none]) ⟨.inr rfl, .inr rfl, .inr rfl, .inr rfl, .inr rfl, .inr rfl, .inr rfl, .inr rfl, trivial⟩ ?_
    exact se_pack_306 C hQ hA hR x3 0 (S300.1, S300.2.1, S300.2.2)  hp
  · have hp := hp.2 hc
    refine a_aload_n C d_pack_283 rfl rfl ?_
    refine a_getR C 0 26 d_pack_284 rfl rfl rfl (Nat.le_of_ble_eq_true rfl) f_M_85 ⟨Nat.le_of_ble_eq_true rfl, Nat.le_of_ble_eq_true rfl⟩ ?_
    refine a_iload C d_pack_287 rfl ?_
    refine a_iconst (v := 0) C d_pack_289 (by decide) ?_
    refine a_iast C 0 26 d_pack_290 rfl rfl rfl hp.1 ?_
    have hp := hp.2
    refine aw_eq (lo' := _) (st' := _) (L' := [(0, ly_M, (o, ad, S.1, va_up S.2.1 26 (upd (S.2.1 26) x4.toNatClampNeg 0), S.2.2))]) rfl rfl rfl ?_
    refine a_iinc (v := x4 + 1) (lo' := [some (.ref o), none, none, some (.int x3), some (.int (x4 + 1)), none, none, none]) C d_pack_291 rfl rfl (by decide) rfl ?_
    refine a_goto (tgt := 275) C d_pack_294 (by decide) ?_
    refine aw_lo (lo' := [some (.ref o), none, none, some (.int x3), some (.int (x4 + 1)), none, none, none]) ⟨.inr rfl, .inr rfl, .inr rfl, .inr rfl, .inr rfl, .inr rfl, .inr rfl, .inr rfl, trivial⟩ ?_
    exact hR275 x3 (x4 + 1) (S.1, va_up S.2.1 26 (upd (S.2.1 26) x4.toNatClampNeg 0), S.2.2) hp
set_option maxRecDepth 100000 in
set_option maxHeartbeats 1000000 in
theorem se_pack_275 (C : fcx gG D z A X R_M c_M_pack 8 (some .int)) (hQ : X.2.2.2.2.2.2.2.2.2.2 = eQ gG D z X.2.2.2.2.2.2.2.1 X.2.2.2.2.1 L0 0 0 (pM_i K o ad)) (hA : A = owA gG L0 X.2.2.2.2.1.heap.size) (hR : X.2.2.2.1 = { frames := 6, cells := 1, slots := 6, locals := 600 }) (x3 : Int32) (x4 : Int32) (S : ms) (hp : e_pack_275 x3 x4 S K) : aw gG D z A X 8 275 [some (.ref o), none, none, some (.int x3), some (.int x4), none, none, none] [] [(0, ly_M, (o, ad, S.1, S.2.1, S.2.2))] 0 0 := by
  obtain ⟨I, μ, h0, hs⟩ := hp
  have key : ∀ (n : Nat) (yx3 : Int32) (yx4 : Int32) (yS : ms), μ yx3 yx4 yS < n → I yx3 yx4 yS → aw gG D z A X 8 275 [some (.ref o), none, none, some (.int yx3), some (.int yx4), none, none, none] [] [(0, ly_M, (o, ad, yS.1, yS.2.1, yS.2.2))] 0 0 := by
    intro n
    induction n with
    | zero => intro yx3 yx4 yS h; omega
    | succ n ih =>
      intro yx3 yx4 yS hn hI
      exact s_pack_275 C hQ hA hR yx3 yx4 yS _ (fun zx3 zx4 zS hw => ih zx3 zx4 zS (by omega) hw.1) (hs yx3 yx4 yS hI)
  exact key (μ x3 x4 S + 1) x3 x4 S (Nat.lt_succ_self _) h0
set_option maxRecDepth 100000 in
set_option maxHeartbeats 1000000 in
theorem s_pack_225 (C : fcx gG D z A X R_M c_M_pack 8 (some .int)) (hQ : X.2.2.2.2.2.2.2.2.2.2 = eQ gG D z X.2.2.2.2.2.2.2.1 X.2.2.2.2.1 L0 0 0 (pM_i K o ad)) (hA : A = owA gG L0 X.2.2.2.2.1.heap.size) (hR : X.2.2.2.1 = { frames := 6, cells := 1, slots := 6, locals := 600 }) (x3 : Int32) (x4 : Int32) (x5 : Int32) (x6 : Int32) (x7 : Int32) (S : ms) (R145 : Int32 → Int32 → ms → Prop) (hR145 : ∀ yx3 yx4 yS, R145 yx3 yx4 yS → aw gG D z A X 8 145 [some (.ref o), none, none, some (.int yx3), some (.int yx4), none, none, none] [] [(0, ly_M, (o, ad, yS.1, yS.2.1, yS.2.2))] 0 0) (R225 : Int32 → Int32 → Int32 → Int32 → Int32 → ms → Prop) (hR225 : ∀ yx3 yx4 yx5 yx6 yx7 yS, R225 yx3 yx4 yx5 yx6 yx7 yS → aw gG D z A X 8 225 [some (.ref o), none, none, some (.int yx3), some (.int yx4), some (.int yx5), some (.int yx6), some (.int yx7)] [] [(0, ly_M, (o, ad, yS.1, yS.2.1, yS.2.2))] 0 0) (hp : b_pack_225 x3 x4 x5 x6 x7 S R145 R225 K) : aw gG D z A X 8 225 [some (.ref o), none, none, some (.int x3), some (.int x4), some (.int x5), some (.int x6), some (.int x7)] [] [(0, ly_M, (o, ad, S.1, S.2.1, S.2.2))] 0 0 := by
  unfold b_pack_225 at hp
  refine a_iload C d_pack_225 rfl ?_
  refine a_iload C d_pack_227 rfl ?_
  refine a_iload C d_pack_229 rfl ?_
  refine a_imul C d_pack_231 ?_
  refine a_icmp_ge (tgt := 266) C d_pack_232 (by decide) ⟨fun hc => ?_, fun hc => ?_⟩
  · have hp := hp.1 hc
    refine a_iinc (v := x4 + 1) (lo' := [some (.ref o), none, none, some (.int x3), some (.int (x4 + 1)), some (.int x5), some (.int x6), some (.int x7)]) C d_pack_266 rfl rfl (by decide) rfl ?_
    refine a_goto (tgt := 145) C d_pack_269 (by decide) ?_
    refine aw_lo (lo' := [some (.ref o), none, none, some (.int x3), some (.int (x4 + 1)), none, none, none]) ⟨.inr rfl, .inr rfl, .inr rfl, .inr rfl, .inr rfl, .inl rfl, .inl rfl, .inl rfl, trivial⟩ ?_
    exact hR145 x3 (x4 + 1) S hp
  · have hp := hp.2 hc
    refine a_aload_n C d_pack_235 rfl rfl ?_
    refine a_iload C d_pack_236 rfl ?_
    refine a_iload C d_pack_238 rfl ?_
    refine a_iload C d_pack_240 rfl ?_
    refine a_idiv C d_pack_242 hp.1 ?_
    have hp := hp.2
    refine a_aload_n C d_pack_243 rfl rfl ?_
    refine a_getR C 0 17 d_pack_244 rfl rfl rfl (Nat.le_of_ble_eq_true rfl) f_M_56 ⟨Nat.le_of_ble_eq_true rfl, Nat.le_of_ble_eq_true rfl⟩ ?_
    refine a_iload C d_pack_247 rfl ?_
    refine a_iald C 0 17 d_pack_249 rfl rfl rfl hp.1 ?_
    have hp := hp.2
    refine a_imul C d_pack_250 ?_
    refine a_iload C d_pack_251 rfl ?_
    refine a_iload C d_pack_253 rfl ?_
    refine a_irem C d_pack_255 hp.1 ?_
    have hp := hp.2
    refine a_iadd C d_pack_256 ?_
    refine a_call (Lr := []) (rest := []) (av := .ref o :: [.int x4, .int (((x7 / x5) * (S.2.1 17 x4.toNatClampNeg)) + (x7 - x7 / x5 * x5))]) C [0] [] d_pack_257 (ct_makeLevels x4 (((x7 / x5) * (S.2.1 17 x4.toNatClampNeg)) + (x7 - x7 / x5 * x5)) S hp) cd_M_makeLevels i_M (Nat.le_of_ble_eq_true rfl) (by rw [hR]; exact Nat.le_of_ble_eq_true rfl) (by rw [hR]; exact Nat.le_of_ble_eq_true rfl) (by rw [hR]; exact Nat.le_of_ble_eq_true rfl) (by rw [hR]; exact Nat.le_of_ble_eq_true rfl) rfl rfl (by decide) (by decide) (by decide) (inv_V C 0 d_pack_257 l_M_249 im_M_makeLevels se_M_makeLevels cd_M_makeLevels ⟨by decide, by decide⟩ ln_M_makeLevels rfl rfl rfl rfl rfl) (fun oc L1 hL => ?_)
    obtain ⟨S257, hp, rfl, rfl⟩ := hL
    refine ⟨_, rfl, ?_⟩
    refine aw_eq (lo' := _) (st' := []) (L' := [(0, ly_M, (o, ad, S257.1, S257.2.1, S257.2.2))]) rfl rfl rfl ?_
    refine a_iinc (v := x7 + 1) (lo' := [some (.ref o), none, none, some (.int x3), some (.int x4), some (.int x5), some (.int x6), some (.int (x7 + 1))]) C d_pack_260 rfl rfl (by decide) rfl ?_
    refine a_goto (tgt := 225) C d_pack_263 (by decide) ?_
    refine aw_lo (lo' := [some (.ref o), none, none, some (.int x3), some (.int x4), some (.int x5), some (.int x6), some (.int (x7 + 1))]) ⟨.inr rfl, .inr rfl, .inr rfl, .inr rfl, .inr rfl, .inr rfl, .inr rfl, .inr rfl, trivial⟩ ?_
    exact hR225 x3 x4 x5 x6 (x7 + 1) (S257.1, S257.2.1, S257.2.2) hp
set_option maxRecDepth 100000 in
set_option maxHeartbeats 1000000 in
theorem se_pack_225 (C : fcx gG D z A X R_M c_M_pack 8 (some .int)) (hQ : X.2.2.2.2.2.2.2.2.2.2 = eQ gG D z X.2.2.2.2.2.2.2.1 X.2.2.2.2.1 L0 0 0 (pM_i K o ad)) (hA : A = owA gG L0 X.2.2.2.2.1.heap.size) (hR : X.2.2.2.1 = { frames := 6, cells := 1, slots := 6, locals := 600 }) (x3 : Int32) (x4 : Int32) (x5 : Int32) (x6 : Int32) (x7 : Int32) (S : ms) (R145 : Int32 → Int32 → ms → Prop) (hR145 : ∀ yx3 yx4 yS, R145 yx3 yx4 yS → aw gG D z A X 8 145 [some (.ref o), none, none, some (.int yx3), some (.int yx4), none, none, none] [] [(0, ly_M, (o, ad, yS.1, yS.2.1, yS.2.2))] 0 0) (hp : e_pack_225 x3 x4 x5 x6 x7 S R145 K) : aw gG D z A X 8 225 [some (.ref o), none, none, some (.int x3), some (.int x4), some (.int x5), some (.int x6), some (.int x7)] [] [(0, ly_M, (o, ad, S.1, S.2.1, S.2.2))] 0 0 := by
  obtain ⟨I, μ, h0, hs⟩ := hp
  have key : ∀ (n : Nat) (yx3 : Int32) (yx4 : Int32) (yx5 : Int32) (yx6 : Int32) (yx7 : Int32) (yS : ms), μ yx3 yx4 yx5 yx6 yx7 yS < n → I yx3 yx4 yx5 yx6 yx7 yS → aw gG D z A X 8 225 [some (.ref o), none, none, some (.int yx3), some (.int yx4), some (.int yx5), some (.int yx6), some (.int yx7)] [] [(0, ly_M, (o, ad, yS.1, yS.2.1, yS.2.2))] 0 0 := by
    intro n
    induction n with
    | zero => intro yx3 yx4 yx5 yx6 yx7 yS h; omega
    | succ n ih =>
      intro yx3 yx4 yx5 yx6 yx7 yS hn hI
      exact s_pack_225 C hQ hA hR yx3 yx4 yx5 yx6 yx7 yS R145 hR145 _ (fun zx3 zx4 zx5 zx6 zx7 zS hw => ih zx3 zx4 zx5 zx6 zx7 zS (by omega) hw.1) (hs yx3 yx4 yx5 yx6 yx7 yS hI)
  exact key (μ x3 x4 x5 x6 x7 S + 1) x3 x4 x5 x6 x7 S (Nat.lt_succ_self _) h0
set_option maxRecDepth 100000 in
set_option maxHeartbeats 1000000 in
theorem s_pack_220 (C : fcx gG D z A X R_M c_M_pack 8 (some .int)) (hQ : X.2.2.2.2.2.2.2.2.2.2 = eQ gG D z X.2.2.2.2.2.2.2.1 X.2.2.2.2.1 L0 0 0 (pM_i K o ad)) (hA : A = owA gG L0 X.2.2.2.2.1.heap.size) (hR : X.2.2.2.1 = { frames := 6, cells := 1, slots := 6, locals := 600 }) (x3 : Int32) (x4 : Int32) (x5 : Int32) (s0 : Int32) (S : ms) (R145 : Int32 → Int32 → ms → Prop) (hR145 : ∀ yx3 yx4 yS, R145 yx3 yx4 yS → aw gG D z A X 8 145 [some (.ref o), none, none, some (.int yx3), some (.int yx4), none, none, none] [] [(0, ly_M, (o, ad, yS.1, yS.2.1, yS.2.2))] 0 0) (hp : b_pack_220 x3 x4 x5 s0 S R145 K) : aw gG D z A X 8 220 [some (.ref o), none, none, some (.int x3), some (.int x4), some (.int x5), none, none] [.int s0] [(0, ly_M, (o, ad, S.1, S.2.1, S.2.2))] 0 0 := by
  unfold b_pack_220 at hp
  refine a_istore (lo' := [some (.ref o), none, none, some (.int x3), some (.int x4), some (.int x5), some (.int s0), none]) C d_pack_220 (by decide) rfl ?_
  refine a_iconst (v := 0) C d_pack_222 (by decide) ?_
  refine a_istore (lo' := [some (.ref o), none, none, some (.int x3), some (.int x4), some (.int x5), some (.int s0), some (.int 0)]) C d_pack_223 (by decide) rfl ?_
  refine aw_lo (lo' := [some (.ref o), none, none, some (.int x3), some (.int x4), some (.int x5), some (.int s0), some (.int 0)]) ⟨.inr rfl, .inr rfl, .inr rfl, .inr rfl, .inr rfl, .inr rfl, .inr rfl, .inr rfl, trivial⟩ ?_
  exact se_pack_225 C hQ hA hR x3 x4 x5 s0 0 S R145 hR145 hp
set_option maxRecDepth 100000 in
set_option maxHeartbeats 1000000 in
theorem s_pack_189 (C : fcx gG D z A X R_M c_M_pack 8 (some .int)) (hQ : X.2.2.2.2.2.2.2.2.2.2 = eQ gG D z X.2.2.2.2.2.2.2.1 X.2.2.2.2.1 L0 0 0 (pM_i K o ad)) (hA : A = owA gG L0 X.2.2.2.2.1.heap.size) (hR : X.2.2.2.1 = { frames := 6, cells := 1, slots := 6, locals := 600 }) (x3 : Int32) (x4 : Int32) (s0 : Int32) (S : ms) (R145 : Int32 → Int32 → ms → Prop) (hR145 : ∀ yx3 yx4 yS, R145 yx3 yx4 yS → aw gG D z A X 8 145 [some (.ref o), none, none, some (.int yx3), some (.int yx4), none, none, none] [] [(0, ly_M, (o, ad, yS.1, yS.2.1, yS.2.2))] 0 0) (hp : b_pack_189 x3 x4 s0 S R145 K) : aw gG D z A X 8 189 [some (.ref o), none, none, some (.int x3), some (.int x4), none, none, none] [.int s0] [(0, ly_M, (o, ad, S.1, S.2.1, S.2.2))] 0 0 := by
  unfold b_pack_189 at hp
  refine a_istore (lo' := [some (.ref o), none, none, some (.int x3), some (.int x4), some (.int s0), none, none]) C d_pack_189 (by decide) rfl ?_
  refine a_aload_n C d_pack_191 rfl rfl ?_
  refine a_getI C 0 3 d_pack_192 rfl rfl rfl (Nat.le_of_ble_eq_true rfl) f_M_16 (Nat.le_of_ble_eq_true rfl) ?_
  refine a_iconst (v := 1) C d_pack_195 (by decide) ?_
  refine a_icmp_ne (tgt := 213) C d_pack_196 (by decide) ⟨fun hc => ?_, fun hc => ?_⟩
  · have hp := hp.1 hc
    refine a_aload_n C d_pack_213 rfl rfl ?_
    refine a_getR C 0 18 d_pack_214 rfl rfl rfl (Nat.le_of_ble_eq_true rfl) f_M_59 ⟨Nat.le_of_ble_eq_true rfl, Nat.le_of_ble_eq_true rfl⟩ ?_
    refine a_iload C d_pack_217 rfl ?_
    refine a_iald C 0 18 d_pack_219 rfl rfl rfl hp.1 ?_
    have hp := hp.2
    refine aw_lo (lo' := [some (.ref o), none, none, some (.int x3), some (.int x4), some (.int s0), none, none]) ⟨.inr rfl, .inr rfl, .inr rfl, .inr rfl, .inr rfl, .inr rfl, .inr rfl, .inr rfl, trivial⟩ ?_
    exact s_pack_220 C hQ hA hR x3 x4 s0 (S.2.1 18 x4.toNatClampNeg) S R145 hR145 hp
  · have hp := hp.2 hc
    refine a_aload_n C d_pack_199 rfl rfl ?_
    refine a_iconst (v := 0) C d_pack_200 (by decide) ?_
    refine a_iconst (v := 0) C d_pack_201 (by decide) ?_
    refine a_call (Lr := []) (rest := []) (av := .ref o :: [.int 0, .int 0]) C [0] [] d_pack_202 (ct_layerHigh 0 0 S hp) cd_M_layerHigh i_M (Nat.le_of_ble_eq_true rfl) (by rw [hR]; exact Nat.le_of_ble_eq_true rfl) (by rw [hR]; exact Nat.le_of_ble_eq_true rfl) (by rw [hR]; exact Nat.le_of_ble_eq_true rfl) (by rw [hR]; exact Nat.le_of_ble_eq_true rfl) rfl rfl (by decide) (by decide) (by decide) (inv_V C 0 d_pack_202 l_M_181 im_M_layerHigh se_M_layerHigh cd_M_layerHigh ⟨by decide, by decide⟩ ln_M_layerHigh rfl rfl rfl rfl rfl) (fun oc L1 hL => ?_)
    obtain ⟨v202, S202, hp, rfl, rfl⟩ := hL
    refine ⟨_, rfl, ?_⟩
    refine aw_eq (lo' := _) (st' := [.int v202]) (L' := [(0, ly_M, (o, ad, S202.1, S202.2.1, S202.2.2))]) rfl rfl rfl ?_
    refine a_bipush (v := 8) C d_pack_205 (by decide) ?_
    refine a_call (Lr := [(0, ly_M, (o, ad, S202.1, S202.2.1, S202.2.2))]) (rest := []) (av := [.int v202, .int 8]) C [] [0] d_pack_207 (ct_upward v202 8 hp) cd_M_upward i_M (Nat.le_of_ble_eq_true rfl) (by rw [hR]; exact Nat.le_of_ble_eq_true rfl) (by rw [hR]; exact Nat.le_of_ble_eq_true rfl) (by rw [hR]; exact Nat.le_of_ble_eq_true rfl) (by rw [hR]; exact Nat.le_of_ble_eq_true rfl) rfl rfl (by decide) (by decide) (by decide) (inv_S C d_pack_207 l_M_177 st_M_upward i_M cd_M_upward ⟨by decide, by decide⟩ ln_M_upward rfl) (fun oc L1 hL => ?_)
    obtain ⟨v207, hp, rfl, rfl⟩ := hL
    refine ⟨_, rfl, ?_⟩
    refine aw_eq (lo' := _) (st' := [.int v207]) (L' := [(0, ly_M, (o, ad, S202.1, S202.2.1, S202.2.2))]) rfl rfl rfl ?_
    refine a_goto (tgt := 220) C d_pack_210 (by decide) ?_
    refine aw_lo (lo' := [some (.ref o), none, none, some (.int x3), some (.int x4), some (.int s0), none, none]) ⟨.inr rfl, .inr rfl, .inr rfl, .inr rfl, .inr rfl, .inr rfl, .inr rfl, .inr rfl, trivial⟩ ?_
    exact s_pack_220 C hQ hA hR x3 x4 s0 v207 (S202.1, S202.2.1, S202.2.2) R145 hR145 hp
set_option maxRecDepth 100000 in
set_option maxHeartbeats 1000000 in
theorem s_pack_145 (C : fcx gG D z A X R_M c_M_pack 8 (some .int)) (hQ : X.2.2.2.2.2.2.2.2.2.2 = eQ gG D z X.2.2.2.2.2.2.2.1 X.2.2.2.2.1 L0 0 0 (pM_i K o ad)) (hA : A = owA gG L0 X.2.2.2.2.1.heap.size) (hR : X.2.2.2.1 = { frames := 6, cells := 1, slots := 6, locals := 600 }) (x3 : Int32) (x4 : Int32) (S : ms) (R145 : Int32 → Int32 → ms → Prop) (hR145 : ∀ yx3 yx4 yS, R145 yx3 yx4 yS → aw gG D z A X 8 145 [some (.ref o), none, none, some (.int yx3), some (.int yx4), none, none, none] [] [(0, ly_M, (o, ad, yS.1, yS.2.1, yS.2.2))] 0 0) (hp : b_pack_145 x3 x4 S R145 K) : aw gG D z A X 8 145 [some (.ref o), none, none, some (.int x3), some (.int x4), none, none, none] [] [(0, ly_M, (o, ad, S.1, S.2.1, S.2.2))] 0 0 := by
  unfold b_pack_145 at hp
  refine a_iload C d_pack_145 rfl ?_
  refine a_aload_n C d_pack_147 rfl rfl ?_
  refine a_getI C 0 3 d_pack_148 rfl rfl rfl (Nat.le_of_ble_eq_true rfl) f_M_16 (Nat.le_of_ble_eq_true rfl) ?_
  refine a_icmp_ge (tgt := 272) C d_pack_151 (by decide) ⟨fun hc => ?_, fun hc => ?_⟩
  · have hp := hp.1 hc
    refine a_iconst (v := 0) C d_pack_272 (by decide) ?_
    refine a_istore (lo' := [some (.ref o), none, none, some (.int x3), some (.int 0), none, none, none]) C d_pack_273 (by decide) rfl ?_
    refine aw_lo (lo' := [some (.ref o), none, none, some (.int x3), some (.int 0), none, none, none]) ⟨.inr rfl, .inr rfl, .inr rfl, .inr rfl, .inr rfl, .inr rfl, .inr rfl, .inr rfl, trivial⟩ ?_
    exact se_pack_275 C hQ hA hR x3 0 S  hp
  · have hp := hp.2 hc
    refine a_aload_n C d_pack_154 rfl rfl ?_
    refine a_iload C d_pack_155 rfl ?_
    refine a_call (Lr := []) (rest := []) (av := .ref o :: [.int x4]) C [0] [] d_pack_157 (ct_makeRaster x4 S hp) cd_M_makeRaster i_M (Nat.le_of_ble_eq_true rfl) (by rw [hR]; exact Nat.le_of_ble_eq_true rfl) (by rw [hR]; exact Nat.le_of_ble_eq_true rfl) (by rw [hR]; exact Nat.le_of_ble_eq_true rfl) (by rw [hR]; exact Nat.le_of_ble_eq_true rfl) rfl rfl (by decide) (by decide) (by decide) (inv_V C 0 d_pack_157 l_M_246 im_M_makeRaster se_M_makeRaster cd_M_makeRaster ⟨by decide, by decide⟩ ln_M_makeRaster rfl rfl rfl rfl rfl) (fun oc L1 hL => ?_)
    obtain ⟨S157, hp, rfl, rfl⟩ := hL
    refine ⟨_, rfl, ?_⟩
    refine aw_eq (lo' := _) (st' := []) (L' := [(0, ly_M, (o, ad, S157.1, S157.2.1, S157.2.2))]) rfl rfl rfl ?_
    refine a_aload_n C d_pack_160 rfl rfl ?_
    refine a_getI C 0 3 d_pack_161 rfl rfl rfl (Nat.le_of_ble_eq_true rfl) f_M_16 (Nat.le_of_ble_eq_true rfl) ?_
    refine a_iconst (v := 1) C d_pack_164 (by decide) ?_
    refine a_icmp_ne (tgt := 182) C d_pack_165 (by decide) ⟨fun hc => ?_, fun hc => ?_⟩
    · have hp := hp.1 hc
      refine a_aload_n C d_pack_182 rfl rfl ?_
      refine a_getR C 0 17 d_pack_183 rfl rfl rfl (Nat.le_of_ble_eq_true rfl) f_M_56 ⟨Nat.le_of_ble_eq_true rfl, Nat.le_of_ble_eq_true rfl⟩ ?_
      refine a_iload C d_pack_186 rfl ?_
      refine a_iald C 0 17 d_pack_188 rfl rfl rfl hp.1 ?_
      have hp := hp.2
      refine aw_lo (lo' := [some (.ref o), none, none, some (.int x3), some (.int x4), none, none, none]) ⟨.inr rfl, .inr rfl, .inr rfl, .inr rfl, .inr rfl, .inr rfl, .inr rfl, .inr rfl, trivial⟩ ?_
      exact s_pack_189 C hQ hA hR x3 x4 (S157.2.1 17 x4.toNatClampNeg) (S157.1, S157.2.1, S157.2.2) R145 hR145 hp
    · have hp := hp.2 hc
      refine a_aload_n C d_pack_168 rfl rfl ?_
      refine a_iconst (v := 0) C d_pack_169 (by decide) ?_
      refine a_iconst (v := 0) C d_pack_170 (by decide) ?_
      refine a_call (Lr := []) (rest := []) (av := .ref o :: [.int 0, .int 0]) C [0] [] d_pack_171 (ct_layerWide 0 0 (S157.1, S157.2.1, S157.2.2) hp) cd_M_layerWide i_M (Nat.le_of_ble_eq_true rfl) (by rw [hR]; exact Nat.le_of_ble_eq_true rfl) (by rw [hR]; exact Nat.le_of_ble_eq_true rfl) (by rw [hR]; exact Nat.le_of_ble_eq_true rfl) (by rw [hR]; exact Nat.le_of_ble_eq_true rfl) rfl rfl (by decide) (by decide) (by decide) (inv_V C 0 d_pack_171 l_M_184 im_M_layerWide se_M_layerWide cd_M_layerWide ⟨by decide, by decide⟩ ln_M_layerWide rfl rfl rfl rfl rfl) (fun oc L1 hL => ?_)
      obtain ⟨v171, S171, hp, rfl, rfl⟩ := hL
      refine ⟨_, rfl, ?_⟩
      refine aw_eq (lo' := _) (st' := [.int v171]) (L' := [(0, ly_M, (o, ad, S171.1, S171.2.1, S171.2.2))]) rfl rfl rfl ?_
      refine a_bipush (v := 8) C d_pack_174 (by decide) ?_
      refine a_call (Lr := [(0, ly_M, (o, ad, S171.1, S171.2.1, S171.2.2))]) (rest := []) (av := [.int v171, .int 8]) C [] [0] d_pack_176 (ct_upward v171 8 hp) cd_M_upward i_M (Nat.le_of_ble_eq_true rfl) (by rw [hR]; exact Nat.le_of_ble_eq_true rfl) (by rw [hR]; exact Nat.le_of_ble_eq_true rfl) (by rw [hR]; exact Nat.le_of_ble_eq_true rfl) (by rw [hR]; exact Nat.le_of_ble_eq_true rfl) rfl rfl (by decide) (by decide) (by decide) (inv_S C d_pack_176 l_M_177 st_M_upward i_M cd_M_upward ⟨by decide, by decide⟩ ln_M_upward rfl) (fun oc L1 hL => ?_)
      obtain ⟨v176, hp, rfl, rfl⟩ := hL
      refine ⟨_, rfl, ?_⟩
      refine aw_eq (lo' := _) (st' := [.int v176]) (L' := [(0, ly_M, (o, ad, S171.1, S171.2.1, S171.2.2))]) rfl rfl rfl ?_
      refine a_goto (tgt := 189) C d_pack_179 (by decide) ?_
      refine aw_lo (lo' := [some (.ref o), none, none, some (.int x3), some (.int x4), none, none, none]) ⟨.inr rfl, .inr rfl, .inr rfl, .inr rfl, .inr rfl, .inr rfl, .inr rfl, .inr rfl, trivial⟩ ?_
      exact s_pack_189 C hQ hA hR x3 x4 v176 (S171.1, S171.2.1, S171.2.2) R145 hR145 hp
set_option maxRecDepth 100000 in
set_option maxHeartbeats 1000000 in
theorem se_pack_145 (C : fcx gG D z A X R_M c_M_pack 8 (some .int)) (hQ : X.2.2.2.2.2.2.2.2.2.2 = eQ gG D z X.2.2.2.2.2.2.2.1 X.2.2.2.2.1 L0 0 0 (pM_i K o ad)) (hA : A = owA gG L0 X.2.2.2.2.1.heap.size) (hR : X.2.2.2.1 = { frames := 6, cells := 1, slots := 6, locals := 600 }) (x3 : Int32) (x4 : Int32) (S : ms) (hp : e_pack_145 x3 x4 S K) : aw gG D z A X 8 145 [some (.ref o), none, none, some (.int x3), some (.int x4), none, none, none] [] [(0, ly_M, (o, ad, S.1, S.2.1, S.2.2))] 0 0 := by
  obtain ⟨I, μ, h0, hs⟩ := hp
  have key : ∀ (n : Nat) (yx3 : Int32) (yx4 : Int32) (yS : ms), μ yx3 yx4 yS < n → I yx3 yx4 yS → aw gG D z A X 8 145 [some (.ref o), none, none, some (.int yx3), some (.int yx4), none, none, none] [] [(0, ly_M, (o, ad, yS.1, yS.2.1, yS.2.2))] 0 0 := by
    intro n
    induction n with
    | zero => intro yx3 yx4 yS h; omega
    | succ n ih =>
      intro yx3 yx4 yS hn hI
      exact s_pack_145 C hQ hA hR yx3 yx4 yS _ (fun zx3 zx4 zS hw => ih zx3 zx4 zS (by omega) hw.1) (hs yx3 yx4 yS hI)
  exact key (μ x3 x4 S + 1) x3 x4 S (Nat.lt_succ_self _) h0
set_option maxRecDepth 100000 in
set_option maxHeartbeats 1000000 in
theorem s_pack_130 (C : fcx gG D z A X R_M c_M_pack 8 (some .int)) (hQ : X.2.2.2.2.2.2.2.2.2.2 = eQ gG D z X.2.2.2.2.2.2.2.1 X.2.2.2.2.1 L0 0 0 (pM_i K o ad)) (hA : A = owA gG L0 X.2.2.2.2.1.heap.size) (hR : X.2.2.2.1 = { frames := 6, cells := 1, slots := 6, locals := 600 }) (x1 : Int32) (x2 : Int32) (x3 : Int32) (x4 : Int32) (s1 : Int32) (s2 : Int32) (S : ms) (R88 : Int32 → Int32 → Int32 → Int32 → ms → Prop) (hR88 : ∀ yx1 yx2 yx3 yx4 yS, R88 yx1 yx2 yx3 yx4 yS → aw gG D z A X 8 88 [some (.ref o), some (.int yx1), some (.int yx2), some (.int yx3), some (.int yx4), none, none, none] [] [(0, ly_M, (o, ad, yS.1, yS.2.1, yS.2.2))] 0 0) (hp : b_pack_130 x1 x2 x3 x4 s1 s2 S R88 K) : aw gG D z A X 8 130 [some (.ref o), some (.int x1), some (.int x2), some (.int x3), some (.int x4), none, none, none] [.int s2, .int s1, .ref (ad 16)] [(0, ly_M, (o, ad, S.1, S.2.1, S.2.2))] 0 0 := by
  unfold b_pack_130 at hp
  refine a_iast C 0 16 d_pack_130 rfl rfl rfl hp.1 ?_
  have hp := hp.2
  refine aw_eq (lo' := _) (st' := _) (L' := [(0, ly_M, (o, ad, S.1, va_up S.2.1 16 (upd (S.2.1 16) s1.toNatClampNeg s2), S.2.2))]) rfl rfl rfl ?_
  refine a_iinc (v := x4 + 1) (lo' := [some (.ref o), some (.int x1), some (.int x2), some (.int x3), some (.int (x4 + 1)), none, none, none]) C d_pack_131 rfl rfl (by decide) rfl ?_
  refine a_goto (tgt := 88) C d_pack_134 (by decide) ?_
  refine aw_lo (lo' := [some (.ref o), some (.int x1), some (.int x2), some (.int x3), some (.int (x4 + 1)), none, none, none]) ⟨.inr rfl, .inr rfl, .inr rfl, .inr rfl, .inr rfl, .inr rfl, .inr rfl, .inr rfl, trivial⟩ ?_
  exact hR88 x1 x2 x3 (x4 + 1) (S.1, va_up S.2.1 16 (upd (S.2.1 16) s1.toNatClampNeg s2), S.2.2) hp
set_option maxRecDepth 100000 in
set_option maxHeartbeats 1000000 in
theorem s_pack_113 (C : fcx gG D z A X R_M c_M_pack 8 (some .int)) (hQ : X.2.2.2.2.2.2.2.2.2.2 = eQ gG D z X.2.2.2.2.2.2.2.1 X.2.2.2.2.1 L0 0 0 (pM_i K o ad)) (hA : A = owA gG L0 X.2.2.2.2.1.heap.size) (hR : X.2.2.2.1 = { frames := 6, cells := 1, slots := 6, locals := 600 }) (x1 : Int32) (x2 : Int32) (x3 : Int32) (x4 : Int32) (s1 : Int32) (s2 : Int32) (S : ms) (R88 : Int32 → Int32 → Int32 → Int32 → ms → Prop) (hR88 : ∀ yx1 yx2 yx3 yx4 yS, R88 yx1 yx2 yx3 yx4 yS → aw gG D z A X 8 88 [some (.ref o), some (.int yx1), some (.int yx2), some (.int yx3), some (.int yx4), none, none, none] [] [(0, ly_M, (o, ad, yS.1, yS.2.1, yS.2.2))] 0 0) (hp : b_pack_113 x1 x2 x3 x4 s1 s2 S R88 K) : aw gG D z A X 8 113 [some (.ref o), some (.int x1), some (.int x2), some (.int x3), some (.int x4), none, none, none] [.int s2, .int s1, .ref (ad 15)] [(0, ly_M, (o, ad, S.1, S.2.1, S.2.2))] 0 0 := by
  unfold b_pack_113 at hp
  refine a_iast C 0 15 d_pack_113 rfl rfl rfl hp.1 ?_
  have hp := hp.2
  refine aw_eq (lo' := _) (st' := _) (L' := [(0, ly_M, (o, ad, S.1, va_up S.2.1 15 (upd (S.2.1 15) s1.toNatClampNeg s2), S.2.2))]) rfl rfl rfl ?_
  refine a_aload_n C d_pack_114 rfl rfl ?_
  refine a_getR C 0 16 d_pack_115 rfl rfl rfl (Nat.le_of_ble_eq_true rfl) f_M_53 ⟨Nat.le_of_ble_eq_true rfl, Nat.le_of_ble_eq_true rfl⟩ ?_
  refine a_iload C d_pack_118 rfl ?_
  refine a_iload C d_pack_120 rfl ?_
  refine a_if_ne (tgt := 129) C d_pack_122 (by decide) ⟨fun hc => ?_, fun hc => ?_⟩
  · have hp := hp.1 hc
    refine a_iconst (v := 1) C d_pack_129 (by decide) ?_
    refine aw_lo (lo' := [some (.ref o), some (.int x1), some (.int x2), some (.int x3), some (.int x4), none, none, none]) ⟨.inr rfl, .inr rfl, .inr rfl, .inr rfl, .inr rfl, .inr rfl, .inr rfl, .inr rfl, trivial⟩ ?_
    exact s_pack_130 C hQ hA hR x1 x2 x3 x4 x4 1 (S.1, va_up S.2.1 15 (upd (S.2.1 15) s1.toNatClampNeg s2), S.2.2) R88 hR88 hp
  · have hp := hp.2 hc
    refine a_iload_n C d_pack_125 rfl rfl ?_
    refine a_goto (tgt := 130) C d_pack_126 (by decide) ?_
    refine aw_lo (lo' := [some (.ref o), some (.int x1), some (.int x2), some (.int x3), some (.int x4), none, none, none]) ⟨.inr rfl, .inr rfl, .inr rfl, .inr rfl, .inr rfl, .inr rfl, .inr rfl, .inr rfl, trivial⟩ ?_
    exact s_pack_130 C hQ hA hR x1 x2 x3 x4 x4 x2 (S.1, va_up S.2.1 15 (upd (S.2.1 15) s1.toNatClampNeg s2), S.2.2) R88 hR88 hp
set_option maxRecDepth 100000 in
set_option maxHeartbeats 1000000 in
theorem s_pack_88 (C : fcx gG D z A X R_M c_M_pack 8 (some .int)) (hQ : X.2.2.2.2.2.2.2.2.2.2 = eQ gG D z X.2.2.2.2.2.2.2.1 X.2.2.2.2.1 L0 0 0 (pM_i K o ad)) (hA : A = owA gG L0 X.2.2.2.2.1.heap.size) (hR : X.2.2.2.1 = { frames := 6, cells := 1, slots := 6, locals := 600 }) (x1 : Int32) (x2 : Int32) (x3 : Int32) (x4 : Int32) (S : ms) (R88 : Int32 → Int32 → Int32 → Int32 → ms → Prop) (hR88 : ∀ yx1 yx2 yx3 yx4 yS, R88 yx1 yx2 yx3 yx4 yS → aw gG D z A X 8 88 [some (.ref o), some (.int yx1), some (.int yx2), some (.int yx3), some (.int yx4), none, none, none] [] [(0, ly_M, (o, ad, yS.1, yS.2.1, yS.2.2))] 0 0) (hp : b_pack_88 x1 x2 x3 x4 S R88 K) : aw gG D z A X 8 88 [some (.ref o), some (.int x1), some (.int x2), some (.int x3), some (.int x4), none, none, none] [] [(0, ly_M, (o, ad, S.1, S.2.1, S.2.2))] 0 0 := by
  unfold b_pack_88 at hp
  refine a_iload C d_pack_88 rfl ?_
  refine a_aload_n C d_pack_90 rfl rfl ?_
  refine a_getI C 0 3 d_pack_91 rfl rfl rfl (Nat.le_of_ble_eq_true rfl) f_M_16 (Nat.le_of_ble_eq_true rfl) ?_
  refine a_icmp_ge (tgt := 137) C d_pack_94 (by decide) ⟨fun hc => ?_, fun hc => ?_⟩
  · have hp := hp.1 hc
    refine a_aload_n C d_pack_137 rfl rfl ?_
    refine a_iconst (v := 0) C d_pack_138 (by decide) ?_
    refine a_call (Lr := []) (rest := []) (av := .ref o :: [.int 0]) C [0] [] d_pack_139 (ct_makeGrids 0 S hp) cd_M_makeGrids i_M (Nat.le_of_ble_eq_true rfl) (by rw [hR]; exact Nat.le_of_ble_eq_true rfl) (by rw [hR]; exact Nat.le_of_ble_eq_true rfl) (by rw [hR]; exact Nat.le_of_ble_eq_true rfl) (by rw [hR]; exact Nat.le_of_ble_eq_true rfl) rfl rfl (by decide) (by decide) (by decide) (inv_V C 0 d_pack_139 l_M_243 im_M_makeGrids se_M_makeGrids cd_M_makeGrids ⟨by decide, by decide⟩ ln_M_makeGrids rfl rfl rfl rfl rfl) (fun oc L1 hL => ?_)
    obtain ⟨S139, hp, rfl, rfl⟩ := hL
    refine ⟨_, rfl, ?_⟩
    refine aw_eq (lo' := _) (st' := []) (L' := [(0, ly_M, (o, ad, S139.1, S139.2.1, S139.2.2))]) rfl rfl rfl ?_
    refine a_iconst (v := 0) C d_pack_142 (by decide) ?_
    refine a_istore (lo' := [some (.ref o), some (.int x1), some (.int x2), some (.int x3), some (.int 0), none, none, none]) C d_pack_143 (by decide) rfl ?_
    refine aw_lo (lo' := [some (.ref o), none, none, some (.int x3), some (.int 0), none, none, none]) ⟨.inr rfl, .inl rfl, .inl rfl, .inr rfl, .inr rfl, .inr rfl, .inr rfl, .inr rfl, trivial⟩ ?_
    exact se_pack_145 C hQ hA hR x3 0 (S139.1, S139.2.1, S139.2.2)  hp
  · have hp := hp.2 hc
    refine a_aload_n C d_pack_97 rfl rfl ?_
    refine a_getR C 0 15 d_pack_98 rfl rfl rfl (Nat.le_of_ble_eq_true rfl) f_M_50 ⟨Nat.le_of_ble_eq_true rfl, Nat.le_of_ble_eq_true rfl⟩ ?_
    refine a_iload C d_pack_101 rfl ?_
    refine a_iload C d_pack_103 rfl ?_
    refine a_if_ne (tgt := 112) C d_pack_105 (by decide) ⟨fun hc => ?_, fun hc => ?_⟩
    · have hp := hp.1 hc
      refine a_iconst (v := 1) C d_pack_112 (by decide) ?_
      refine aw_lo (lo' := [some (.ref o), some (.int x1), some (.int x2), some (.int x3), some (.int x4), none, none, none]) ⟨.inr rfl, .inr rfl, .inr rfl, .inr rfl, .inr rfl, .inr rfl, .inr rfl, .inr rfl, trivial⟩ ?_
      exact s_pack_113 C hQ hA hR x1 x2 x3 x4 x4 1 S R88 hR88 hp
    · have hp := hp.2 hc
      refine a_iload_n C d_pack_108 rfl rfl ?_
      refine a_goto (tgt := 113) C d_pack_109 (by decide) ?_
      refine aw_lo (lo' := [some (.ref o), some (.int x1), some (.int x2), some (.int x3), some (.int x4), none, none, none]) ⟨.inr rfl, .inr rfl, .inr rfl, .inr rfl, .inr rfl, .inr rfl, .inr rfl, .inr rfl, trivial⟩ ?_
      exact s_pack_113 C hQ hA hR x1 x2 x3 x4 x4 x1 S R88 hR88 hp
set_option maxRecDepth 100000 in
set_option maxHeartbeats 1000000 in
theorem se_pack_88 (C : fcx gG D z A X R_M c_M_pack 8 (some .int)) (hQ : X.2.2.2.2.2.2.2.2.2.2 = eQ gG D z X.2.2.2.2.2.2.2.1 X.2.2.2.2.1 L0 0 0 (pM_i K o ad)) (hA : A = owA gG L0 X.2.2.2.2.1.heap.size) (hR : X.2.2.2.1 = { frames := 6, cells := 1, slots := 6, locals := 600 }) (x1 : Int32) (x2 : Int32) (x3 : Int32) (x4 : Int32) (S : ms) (hp : e_pack_88 x1 x2 x3 x4 S K) : aw gG D z A X 8 88 [some (.ref o), some (.int x1), some (.int x2), some (.int x3), some (.int x4), none, none, none] [] [(0, ly_M, (o, ad, S.1, S.2.1, S.2.2))] 0 0 := by
  obtain ⟨I, μ, h0, hs⟩ := hp
  have key : ∀ (n : Nat) (yx1 : Int32) (yx2 : Int32) (yx3 : Int32) (yx4 : Int32) (yS : ms), μ yx1 yx2 yx3 yx4 yS < n → I yx1 yx2 yx3 yx4 yS → aw gG D z A X 8 88 [some (.ref o), some (.int yx1), some (.int yx2), some (.int yx3), some (.int yx4), none, none, none] [] [(0, ly_M, (o, ad, yS.1, yS.2.1, yS.2.2))] 0 0 := by
    intro n
    induction n with
    | zero => intro yx1 yx2 yx3 yx4 yS h; omega
    | succ n ih =>
      intro yx1 yx2 yx3 yx4 yS hn hI
      exact s_pack_88 C hQ hA hR yx1 yx2 yx3 yx4 yS _ (fun zx1 zx2 zx3 zx4 zS hw => ih zx1 zx2 zx3 zx4 zS (by omega) hw.1) (hs yx1 yx2 yx3 yx4 yS hI)
  exact key (μ x1 x2 x3 x4 S + 1) x1 x2 x3 x4 S (Nat.lt_succ_self _) h0
set_option maxRecDepth 100000 in
set_option maxHeartbeats 1000000 in
theorem s_pack_36 (C : fcx gG D z A X R_M c_M_pack 8 (some .int)) (hQ : X.2.2.2.2.2.2.2.2.2.2 = eQ gG D z X.2.2.2.2.2.2.2.1 X.2.2.2.2.1 L0 0 0 (pM_i K o ad)) (hA : A = owA gG L0 X.2.2.2.2.1.heap.size) (hR : X.2.2.2.1 = { frames := 6, cells := 1, slots := 6, locals := 600 }) (x1 : Int32) (x2 : Int32) (x3 : Int32) (s1 : Int32) (S : ms) (hp : b_pack_36 x1 x2 x3 s1 S K) : aw gG D z A X 8 36 [some (.ref o), some (.int x1), some (.int x2), some (.int x3), none, none, none, none] [.int s1, .ref o] [(0, ly_M, (o, ad, S.1, S.2.1, S.2.2))] 0 0 := by
  unfold b_pack_36 at hp
  refine a_putI (ty := .int) C 0 0 d_pack_36 rfl rfl rfl (Nat.le_of_ble_eq_true rfl) f_M_146 (Nat.le_of_ble_eq_true rfl) rfl rfl rfl rfl ?_
  refine aw_eq (lo' := _) (st' := _) (L' := [(0, ly_M, (o, ad, upd S.1 0 s1, S.2.1, S.2.2))]) rfl rfl rfl ?_
  refine a_aload_n C d_pack_39 rfl rfl ?_
  refine a_getI C 0 0 d_pack_40 rfl rfl rfl (Nat.le_of_ble_eq_true rfl) f_M_146 (Nat.le_of_ble_eq_true rfl) ?_
  refine a_if_le (tgt := 48) C d_pack_43 (by decide) ⟨fun hc => ?_, fun hc => ?_⟩
  · have hp := hp.1 hc
    refine a_aload_n C d_pack_48 rfl rfl ?_
    refine a_getR C 0 11 d_pack_49 rfl rfl rfl (Nat.le_of_ble_eq_true rfl) f_M_37 ⟨Nat.le_of_ble_eq_true rfl, Nat.le_of_ble_eq_true rfl⟩ ?_
    refine a_iconst (v := 0) C d_pack_52 (by decide) ?_
    refine a_iconst (v := 1) C d_pack_53 (by decide) ?_
    refine a_zast C 0 11 d_pack_54 rfl rfl rfl hp.1 ?_
    have hp := hp.2
    refine aw_eq (lo' := _) (st' := _) (L' := [(0, ly_M, (o, ad, upd S.1 0 s1, va_up S.2.1 11 (upd (S.2.1 11) (0 : Int32).toNatClampNeg (vp_nar .boolean 1)), S.2.2))]) rfl rfl rfl ?_
    refine a_aload_n C d_pack_55 rfl rfl ?_
    refine a_getR C 0 12 d_pack_56 rfl rfl rfl (Nat.le_of_ble_eq_true rfl) f_M_41 ⟨Nat.le_of_ble_eq_true rfl, Nat.le_of_ble_eq_true rfl⟩ ?_
    refine a_iconst (v := 0) C d_pack_59 (by decide) ?_
    refine a_aload_n C d_pack_60 rfl rfl ?_
    refine a_getI C 0 1 d_pack_61 rfl rfl rfl (Nat.le_of_ble_eq_true rfl) f_M_7 (Nat.le_of_ble_eq_true rfl) ?_
    refine a_iast C 0 12 d_pack_64 rfl rfl rfl hp.1 ?_
    have hp := hp.2
    refine aw_eq (lo' := _) (st' := _) (L' := [(0, ly_M, (o, ad, upd S.1 0 s1, va_up (va_up S.2.1 11 (upd (S.2.1 11) (0 : Int32).toNatClampNeg (vp_nar .boolean 1))) 12 (upd ((va_up S.2.1 11 (upd (S.2.1 11) (0 : Int32).toNatClampNeg (vp_nar .boolean 1))) 12) (0 : Int32).toNatClampNeg ((upd S.1 0 s1) 1)), S.2.2))]) rfl rfl rfl ?_
    refine a_aload_n C d_pack_65 rfl rfl ?_
    refine a_getR C 0 13 d_pack_66 rfl rfl rfl (Nat.le_of_ble_eq_true rfl) f_M_44 ⟨Nat.le_of_ble_eq_true rfl, Nat.le_of_ble_eq_true rfl⟩ ?_
    refine a_iconst (v := 0) C d_pack_69 (by decide) ?_
    refine a_aload_n C d_pack_70 rfl rfl ?_
    refine a_getI C 0 2 d_pack_71 rfl rfl rfl (Nat.le_of_ble_eq_true rfl) f_M_13 (Nat.le_of_ble_eq_true rfl) ?_
    refine a_iast C 0 13 d_pack_74 rfl rfl rfl hp.1 ?_
    have hp := hp.2
    refine aw_eq (lo' := _) (st' := _) (L' := [(0, ly_M, (o, ad, upd S.1 0 s1, va_up (va_up (va_up S.2.1 11 (upd (S.2.1 11) (0 : Int32).toNatClampNeg (vp_nar .boolean 1))) 12 (upd ((va_up S.2.1 11 (upd (S.2.1 11) (0 : Int32).toNatClampNeg (vp_nar .boolean 1))) 12) (0 : Int32).toNatClampNeg ((upd S.1 0 s1) 1))) 13 (upd ((va_up (va_up S.2.1 11 (upd (S.2.1 11) (0 : Int32).toNatClampNeg (vp_nar .boolean 1))) 12 (upd ((va_up S.2.1 11 (upd (S.2.1 11) (0 : Int32).toNatClampNeg (vp_nar .boolean 1))) 12) (0 : Int32).toNatClampNeg ((upd S.1 0 s1) 1))) 13) (0 : Int32).toNatClampNeg ((upd S.1 0 s1) 2)), S.2.2))]) rfl rfl rfl ?_
    refine a_aload_n C d_pack_75 rfl rfl ?_
    refine a_getR C 0 14 d_pack_76 rfl rfl rfl (Nat.le_of_ble_eq_true rfl) f_M_47 ⟨Nat.le_of_ble_eq_true rfl, Nat.le_of_ble_eq_true rfl⟩ ?_
    refine a_iconst (v := 0) C d_pack_79 (by decide) ?_
    refine a_aload_n C d_pack_80 rfl rfl ?_
    refine a_getI C 0 3 d_pack_81 rfl rfl rfl (Nat.le_of_ble_eq_true rfl) f_M_16 (Nat.le_of_ble_eq_true rfl) ?_
    refine a_iast C 0 14 d_pack_84 rfl rfl rfl hp.1 ?_
    have hp := hp.2
    refine aw_eq (lo' := _) (st' := _) (L' := [(0, ly_M, (o, ad, upd S.1 0 s1, va_up (va_up (va_up (va_up S.2.1 11 (upd (S.2.1 11) (0 : Int32).toNatClampNeg (vp_nar .boolean 1))) 12 (upd ((va_up S.2.1 11 (upd (S.2.1 11) (0 : Int32).toNatClampNeg (vp_nar .boolean 1))) 12) (0 : Int32).toNatClampNeg ((upd S.1 0 s1) 1))) 13 (upd ((va_up (va_up S.2.1 11 (upd (S.2.1 11) (0 : Int32).toNatClampNeg (vp_nar .boolean 1))) 12 (upd ((va_up S.2.1 11 (upd (S.2.1 11) (0 : Int32).toNatClampNeg (vp_nar .boolean 1))) 12) (0 : Int32).toNatClampNeg ((upd S.1 0 s1) 1))) 13) (0 : Int32).toNatClampNeg ((upd S.1 0 s1) 2))) 14 (upd ((va_up (va_up (va_up S.2.1 11 (upd (S.2.1 11) (0 : Int32).toNatClampNeg (vp_nar .boolean 1))) 12 (upd ((va_up S.2.1 11 (upd (S.2.1 11) (0 : Int32).toNatClampNeg (vp_nar .boolean 1))) 12) (0 : Int32).toNatClampNeg ((upd S.1 0 s1) 1))) 13 (upd ((va_up (va_up S.2.1 11 (upd (S.2.1 11) (0 : Int32).toNatClampNeg (vp_nar .boolean 1))) 12 (upd ((va_up S.2.1 11 (upd (S.2.1 11) (0 : Int32).toNatClampNeg (vp_nar .boolean 1))) 12) (0 : Int32).toNatClampNeg ((upd S.1 0 s1) 1))) 13) (0 : Int32).toNatClampNeg ((upd S.1 0 s1) 2))) 14) (0 : Int32).toNatClampNeg ((upd S.1 0 s1) 3)), S.2.2))]) rfl rfl rfl ?_
    refine a_iconst (v := 0) C d_pack_85 (by decide) ?_
    refine a_istore (lo' := [some (.ref o), some (.int x1), some (.int x2), some (.int x3), some (.int 0), none, none, none]) C d_pack_86 (by decide) rfl ?_
    refine aw_lo (lo' := [some (.ref o), some (.int x1), some (.int x2), some (.int x3), some (.int 0), none, none, none]) ⟨.inr rfl, .inr rfl, .inr rfl, .inr rfl, .inr rfl, .inr rfl, .inr rfl, .inr rfl, trivial⟩ ?_
    exact se_pack_88 C hQ hA hR x1 x2 x3 0 (upd S.1 0 s1, va_up (va_up (va_up (va_up S.2.1 11 (upd (S.2.1 11) (0 : Int32).toNatClampNeg (vp_nar .boolean 1))) 12 (upd ((va_up S.2.1 11 (upd (S.2.1 11) (0 : Int32).toNatClampNeg (vp_nar .boolean 1))) 12) (0 : Int32).toNatClampNeg ((upd S.1 0 s1) 1))) 13 (upd ((va_up (va_up S.2.1 11 (upd (S.2.1 11) (0 : Int32).toNatClampNeg (vp_nar .boolean 1))) 12 (upd ((va_up S.2.1 11 (upd (S.2.1 11) (0 : Int32).toNatClampNeg (vp_nar .boolean 1))) 12) (0 : Int32).toNatClampNeg ((upd S.1 0 s1) 1))) 13) (0 : Int32).toNatClampNeg ((upd S.1 0 s1) 2))) 14 (upd ((va_up (va_up (va_up S.2.1 11 (upd (S.2.1 11) (0 : Int32).toNatClampNeg (vp_nar .boolean 1))) 12 (upd ((va_up S.2.1 11 (upd (S.2.1 11) (0 : Int32).toNatClampNeg (vp_nar .boolean 1))) 12) (0 : Int32).toNatClampNeg ((upd S.1 0 s1) 1))) 13 (upd ((va_up (va_up S.2.1 11 (upd (S.2.1 11) (0 : Int32).toNatClampNeg (vp_nar .boolean 1))) 12 (upd ((va_up S.2.1 11 (upd (S.2.1 11) (0 : Int32).toNatClampNeg (vp_nar .boolean 1))) 12) (0 : Int32).toNatClampNeg ((upd S.1 0 s1) 1))) 13) (0 : Int32).toNatClampNeg ((upd S.1 0 s1) 2))) 14) (0 : Int32).toNatClampNeg ((upd S.1 0 s1) 3)), S.2.2)  hp
  · have hp := hp.2 hc
    refine a_iconst (v := 0) C d_pack_46 (by decide) ?_
    exact a_iret (ty := .int) C hQ hA d_pack_47 rfl rfl ⟨_, (upd S.1 0 s1, S.2.1, S.2.2), hp, rfl, rfl⟩
set_option maxRecDepth 100000 in
set_option maxHeartbeats 1000000 in
theorem s_pack_31 (C : fcx gG D z A X R_M c_M_pack 8 (some .int)) (hQ : X.2.2.2.2.2.2.2.2.2.2 = eQ gG D z X.2.2.2.2.2.2.2.1 X.2.2.2.2.1 L0 0 0 (pM_i K o ad)) (hA : A = owA gG L0 X.2.2.2.2.1.heap.size) (hR : X.2.2.2.1 = { frames := 6, cells := 1, slots := 6, locals := 600 }) (x1 : Int32) (x2 : Int32) (x3 : Int32) (S : ms) (hp : b_pack_31 x1 x2 x3 S K) : aw gG D z A X 8 31 [some (.ref o), some (.int x1), some (.int x2), some (.int x3), none, none, none, none] [.ref o] [(0, ly_M, (o, ad, S.1, S.2.1, S.2.2))] 0 0 := by
  unfold b_pack_31 at hp
  refine a_iconst (v := 1) C d_pack_31 (by decide) ?_
  refine a_goto (tgt := 36) C d_pack_32 (by decide) ?_
  refine aw_lo (lo' := [some (.ref o), some (.int x1), some (.int x2), some (.int x3), none, none, none, none]) ⟨.inr rfl, .inr rfl, .inr rfl, .inr rfl, .inr rfl, .inr rfl, .inr rfl, .inr rfl, trivial⟩ ?_
  exact s_pack_36 C hQ hA hR x1 x2 x3 1 S  hp
set_option maxRecDepth 100000 in
set_option maxHeartbeats 1000000 in
theorem s_pack_0 (C : fcx gG D z A X R_M c_M_pack 8 (some .int)) (hQ : X.2.2.2.2.2.2.2.2.2.2 = eQ gG D z X.2.2.2.2.2.2.2.1 X.2.2.2.2.1 L0 0 0 (pM_i K o ad)) (hA : A = owA gG L0 X.2.2.2.2.1.heap.size) (hR : X.2.2.2.1 = { frames := 6, cells := 1, slots := 6, locals := 600 }) (x1 : Int32) (x2 : Int32) (x3 : Int32) (S : ms) (hp : p_pack x1 x2 x3 S K) : aw gG D z A X 8 0 [some (.ref o), some (.int x1), some (.int x2), some (.int x3), none, none, none, none] [] [(0, ly_M, (o, ad, S.1, S.2.1, S.2.2))] 0 0 := by
  unfold p_pack at hp
  refine a_aload_n C d_pack_0 rfl rfl ?_
  refine a_iload_n C d_pack_1 rfl rfl ?_
  refine a_iconst (v := 1) C d_pack_2 (by decide) ?_
  refine a_icmp_lt (tgt := 31) C d_pack_3 (by decide) ⟨fun hc => ?_, fun hc => ?_⟩
  · have hp := hp.1 hc
    refine aw_lo (lo' := [some (.ref o), some (.int x1), some (.int x2), some (.int x3), none, none, none, none]) ⟨.inr rfl, .inr rfl, .inr rfl, .inr rfl, .inr rfl, .inr rfl, .inr rfl, .inr rfl, trivial⟩ ?_
    exact s_pack_31 C hQ hA hR x1 x2 x3 S  hp
  · have hp := hp.2 hc
    refine a_iload_n C d_pack_6 rfl rfl ?_
    refine a_iconst (v := 2) C d_pack_7 (by decide) ?_
    refine a_icmp_gt (tgt := 31) C d_pack_8 (by decide) ⟨fun hc => ?_, fun hc => ?_⟩
    · have hp := hp.1 hc
      refine aw_lo (lo' := [some (.ref o), some (.int x1), some (.int x2), some (.int x3), none, none, none, none]) ⟨.inr rfl, .inr rfl, .inr rfl, .inr rfl, .inr rfl, .inr rfl, .inr rfl, .inr rfl, trivial⟩ ?_
      exact s_pack_31 C hQ hA hR x1 x2 x3 S  hp
    · have hp := hp.2 hc
      refine a_iload_n C d_pack_11 rfl rfl ?_
      refine a_iconst (v := 1) C d_pack_12 (by decide) ?_
      refine a_icmp_lt (tgt := 31) C d_pack_13 (by decide) ⟨fun hc => ?_, fun hc => ?_⟩
      · have hp := hp.1 hc
        refine aw_lo (lo' := [some (.ref o), some (.int x1), some (.int x2), some (.int x3), none, none, none, none]) ⟨.inr rfl, .inr rfl, .inr rfl, .inr rfl, .inr rfl, .inr rfl, .inr rfl, .inr rfl, trivial⟩ ?_
        exact s_pack_31 C hQ hA hR x1 x2 x3 S  hp
      · have hp := hp.2 hc
        refine a_iload_n C d_pack_16 rfl rfl ?_
        refine a_iconst (v := 2) C d_pack_17 (by decide) ?_
        refine a_icmp_gt (tgt := 31) C d_pack_18 (by decide) ⟨fun hc => ?_, fun hc => ?_⟩
        · have hp := hp.1 hc
          refine aw_lo (lo' := [some (.ref o), some (.int x1), some (.int x2), some (.int x3), none, none, none, none]) ⟨.inr rfl, .inr rfl, .inr rfl, .inr rfl, .inr rfl, .inr rfl, .inr rfl, .inr rfl, trivial⟩ ?_
          exact s_pack_31 C hQ hA hR x1 x2 x3 S  hp
        · have hp := hp.2 hc
          refine a_iload_n C d_pack_21 rfl rfl ?_
          refine a_if_lt (tgt := 31) C d_pack_22 (by decide) ⟨fun hc => ?_, fun hc => ?_⟩
          · have hp := hp.1 hc
            refine aw_lo (lo' := [some (.ref o), some (.int x1), some (.int x2), some (.int x3), none, none, none, none]) ⟨.inr rfl, .inr rfl, .inr rfl, .inr rfl, .inr rfl, .inr rfl, .inr rfl, .inr rfl, trivial⟩ ?_
            exact s_pack_31 C hQ hA hR x1 x2 x3 S  hp
          · have hp := hp.2 hc
            refine a_iload_n C d_pack_25 rfl rfl ?_
            refine a_ldc (v := 65535) C d_pack_26 k_M_242 ?_
            refine a_icmp_le (tgt := 35) C d_pack_28 (by decide) ⟨fun hc => ?_, fun hc => ?_⟩
            · have hp := hp.1 hc
              refine a_iconst (v := 0) C d_pack_35 (by decide) ?_
              refine aw_lo (lo' := [some (.ref o), some (.int x1), some (.int x2), some (.int x3), none, none, none, none]) ⟨.inr rfl, .inr rfl, .inr rfl, .inr rfl, .inr rfl, .inr rfl, .inr rfl, .inr rfl, trivial⟩ ?_
              exact s_pack_36 C hQ hA hR x1 x2 x3 0 S  hp
            · have hp := hp.2 hc
              refine aw_lo (lo' := [some (.ref o), some (.int x1), some (.int x2), some (.int x3), none, none, none, none]) ⟨.inr rfl, .inr rfl, .inr rfl, .inr rfl, .inr rfl, .inr rfl, .inr rfl, .inr rfl, trivial⟩ ?_
              exact s_pack_31 C hQ hA hR x1 x2 x3 S  hp
end M_pack
section M_packc
variable {D : va_G} {z : Nat → ClassId} {o : Nat} {ad : Nat → Nat}
set_option maxRecDepth 100000 in
theorem ct_pack {l : Launch} (x1 : Int32) (x2 : Int32) (x3 : Int32) (S : ms) {K : Int32 → ms → Prop} (hp : p_pack x1 x2 x3 S K) : ct gG D z l n_M_pack c_M_pack 8 (some .int) 6 600 [.ref o, .int x1, .int x2, .int x3] [(0, ly_M, (o, ad, S.1, S.2.1, S.2.2))] 0 0 (pM_i K o ad) := by
  refine ct_of (lo := [some (.ref o), some (.int x1), some (.int x2), some (.int x3), none, none, none, none]) (by decide) g_ok (Nat.le_of_ble_eq_true rfl) rfl ?_
  intro X A _ C hR hQ hA _
  exact s_pack_0 C hQ hA hR x1 x2 x3 S hp
end M_packc
def p_size  (S : ms) (K : Int32 → ms → Prop) : Prop :=
  K ((upd S.1 0 0) 9) (upd S.1 0 0, S.2.1, S.2.2)
section M_size
variable {D : va_G} {z : Nat → ClassId} {A : Nat → Prop} {X : cx} {L0 : fw} {K : Int32 → ms → Prop} {o : Nat} {ad : Nat → Nat}
set_option maxRecDepth 100000 in
set_option maxHeartbeats 1000000 in
theorem s_size_0 (C : fcx gG D z A X R_M c_M_size 1 (some .int)) (hQ : X.2.2.2.2.2.2.2.2.2.2 = eQ gG D z X.2.2.2.2.2.2.2.1 X.2.2.2.2.1 L0 0 0 (pM_i K o ad)) (hA : A = owA gG L0 X.2.2.2.2.1.heap.size) (hR : X.2.2.2.1 = { frames := 1, cells := 1, slots := 6, locals := 100 })  (S : ms) (hp : p_size  S K) : aw gG D z A X 1 0 [some (.ref o)] [] [(0, ly_M, (o, ad, S.1, S.2.1, S.2.2))] 0 0 := by
  unfold p_size at hp
  refine a_aload_n C d_size_0 rfl rfl ?_
  refine a_iconst (v := 0) C d_size_1 (by decide) ?_
  refine a_putI (ty := .int) C 0 0 d_size_2 rfl rfl rfl (Nat.le_of_ble_eq_true rfl) f_M_146 (Nat.le_of_ble_eq_true rfl) rfl rfl rfl rfl ?_
  refine aw_eq (lo' := _) (st' := _) (L' := [(0, ly_M, (o, ad, upd S.1 0 0, S.2.1, S.2.2))]) rfl rfl rfl ?_
  refine a_aload_n C d_size_5 rfl rfl ?_
  refine a_getI C 0 9 d_size_6 rfl rfl rfl (Nat.le_of_ble_eq_true rfl) f_M_197 (Nat.le_of_ble_eq_true rfl) ?_
  exact a_iret (ty := .int) C hQ hA d_size_9 rfl rfl ⟨_, (upd S.1 0 0, S.2.1, S.2.2), hp, rfl, rfl⟩
end M_size
section M_sizec
variable {D : va_G} {z : Nat → ClassId} {o : Nat} {ad : Nat → Nat}
set_option maxRecDepth 100000 in
theorem ct_size {l : Launch}  (S : ms) {K : Int32 → ms → Prop} (hp : p_size  S K) : ct gG D z l n_M_size c_M_size 1 (some .int) 1 100 [.ref o] [(0, ly_M, (o, ad, S.1, S.2.1, S.2.2))] 0 0 (pM_i K o ad) := by
  refine ct_of (lo := [some (.ref o)]) (by decide) g_ok (Nat.le_of_ble_eq_true rfl) rfl ?_
  intro X A _ C hR hQ hA _
  exact s_size_0 C hQ hA hR  S hp
end M_sizec
