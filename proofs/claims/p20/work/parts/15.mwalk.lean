def b_makeCode_646 (x1 : Int32) (x4 : Int32) (x5 : Int32) (x6 : Int32) (S : ms) (R586 : Int32 → Int32 → Int32 → ms → Prop) (R602 : Int32 → Int32 → Int32 → Int32 → ms → Prop) (K : ms → Prop) : Prop :=
  R602 x1 x4 x5 (x6 + 1) S
def b_makeCode_602 (x1 : Int32) (x4 : Int32) (x5 : Int32) (x6 : Int32) (S : ms) (R586 : Int32 → Int32 → Int32 → ms → Prop) (R602 : Int32 → Int32 → Int32 → Int32 → ms → Prop) (K : ms → Prop) : Prop :=
  (256 ≤ x6 → (R586 x1 x4 (x5 + 1) S)) ∧ (¬ (256 ≤ x6) → (vp_in ((257 * x1) + x6) 1028 ∧ ((¬ (S.2.1 27 ((257 * x1) + x6).toNatClampNeg) = x5 → (b_makeCode_646 x1 x4 x5 x6 S R586 R602 K)) ∧ ((S.2.1 27 ((257 * x1) + x6).toNatClampNeg) = x5 → (vp_in ((257 * x1) + x6) 1028 ∧ (b_makeCode_646 x1 (x4 + 1) x5 x6 (S.1, va_up S.2.1 28 (upd (S.2.1 28) ((257 * x1) + x6).toNatClampNeg x4), S.2.2) R586 R602 K))))))
def e_makeCode_602 (x1 : Int32) (x4 : Int32) (x5 : Int32) (x6 : Int32) (S : ms) (R586 : Int32 → Int32 → Int32 → ms → Prop) (K : ms → Prop) : Prop :=
  ∃ (I : Int32 → Int32 → Int32 → Int32 → ms → Prop) (μ : Int32 → Int32 → Int32 → Int32 → ms → Nat), I x1 x4 x5 x6 S ∧ ∀ yx1 yx4 yx5 yx6 yS, I yx1 yx4 yx5 yx6 yS → b_makeCode_602 yx1 yx4 yx5 yx6 yS R586 (fun zx1 zx4 zx5 zx6 zS => I zx1 zx4 zx5 zx6 zS ∧ μ zx1 zx4 zx5 zx6 zS < μ yx1 yx4 yx5 yx6 yS) K
def b_makeCode_586 (x1 : Int32) (x4 : Int32) (x5 : Int32) (S : ms) (R586 : Int32 → Int32 → Int32 → ms → Prop) (K : ms → Prop) : Prop :=
  (16 < x5 → (K S)) ∧ (¬ (16 < x5) → (e_makeCode_602 x1 (2 * x4) x5 0 S R586 K))
def e_makeCode_586 (x1 : Int32) (x4 : Int32) (x5 : Int32) (S : ms) (K : ms → Prop) : Prop :=
  ∃ (I : Int32 → Int32 → Int32 → ms → Prop) (μ : Int32 → Int32 → Int32 → ms → Nat), I x1 x4 x5 S ∧ ∀ yx1 yx4 yx5 yS, I yx1 yx4 yx5 yS → b_makeCode_586 yx1 yx4 yx5 yS (fun zx1 zx4 zx5 zS => I zx1 zx4 zx5 zS ∧ μ zx1 zx4 zx5 zS < μ yx1 yx4 yx5 yS) K
def b_makeCode_568 (x1 : Int32) (x4 : Int32) (x5 : Int32) (S : ms) (R446 : Int32 → Int32 → ms → Prop) (R454 : Int32 → Int32 → Int32 → ms → Prop) (K : ms → Prop) : Prop :=
  R454 x1 x4 (x5 + 1) S
def b_makeCode_518 (x1 : Int32) (x4 : Int32) (x5 : Int32) (x6 : Int32) (S : ms) (R446 : Int32 → Int32 → ms → Prop) (R454 : Int32 → Int32 → Int32 → ms → Prop) (K : ms → Prop) : Prop :=
  vp_in x6 8320 ∧ (((S.2.1 31 x6.toNatClampNeg) ≤ 0 → (b_makeCode_568 x1 x4 x5 S R446 R454 K)) ∧ (¬ ((S.2.1 31 x6.toNatClampNeg) ≤ 0) → (vp_in x6 8320 ∧ (vp_in ((520 * (x4 - 1)) + (2 * ((-1) - (S.2.1 30 x6.toNatClampNeg)))) 8320 ∧ (vp_in (((520 * (x4 - 1)) + (2 * ((-1) - (S.2.1 30 x6.toNatClampNeg)))) + 1) 8320 ∧ (b_makeCode_568 x1 x4 x5 (S.1, va_up (va_up S.2.1 31 (upd (S.2.1 31) ((520 * (x4 - 1)) + (2 * ((-1) - (S.2.1 30 x6.toNatClampNeg)))).toNatClampNeg 1)) 31 (upd ((va_up S.2.1 31 (upd (S.2.1 31) ((520 * (x4 - 1)) + (2 * ((-1) - (S.2.1 30 x6.toNatClampNeg)))).toNatClampNeg 1)) 31) (((520 * (x4 - 1)) + (2 * ((-1) - (S.2.1 30 x6.toNatClampNeg)))) + 1).toNatClampNeg 1), S.2.2) R446 R454 K))))))
def b_makeCode_454 (x1 : Int32) (x4 : Int32) (x5 : Int32) (S : ms) (R446 : Int32 → Int32 → ms → Prop) (R454 : Int32 → Int32 → Int32 → ms → Prop) (K : ms → Prop) : Prop :=
  (520 ≤ x5 → (R446 x1 (x4 + (-1)) S)) ∧ (¬ (520 ≤ x5) → (vp_in ((520 * x4) + x5) 8320 ∧ (((S.2.1 31 ((520 * x4) + x5).toNatClampNeg) ≤ 0 → (b_makeCode_518 x1 x4 x5 ((520 * x4) + x5) S R446 R454 K)) ∧ (¬ ((S.2.1 31 ((520 * x4) + x5).toNatClampNeg) ≤ 0) → (vp_in ((520 * x4) + x5) 8320 ∧ (((S.2.1 30 ((520 * x4) + x5).toNatClampNeg) < 0 → (b_makeCode_518 x1 x4 x5 ((520 * x4) + x5) S R446 R454 K)) ∧ (¬ ((S.2.1 30 ((520 * x4) + x5).toNatClampNeg) < 0) → (vp_in ((520 * x4) + x5) 8320 ∧ (vp_in ((257 * x1) + (S.2.1 30 ((520 * x4) + x5).toNatClampNeg)) 1028 ∧ (vp_in ((257 * x1) + (S.2.1 30 ((520 * x4) + x5).toNatClampNeg)) 1028 ∧ (b_makeCode_568 x1 x4 x5 (S.1, va_up S.2.1 27 (upd (S.2.1 27) ((257 * x1) + (S.2.1 30 ((520 * x4) + x5).toNatClampNeg)).toNatClampNeg ((S.2.1 27 ((257 * x1) + (S.2.1 30 ((520 * x4) + x5).toNatClampNeg)).toNatClampNeg) + 1)), S.2.2) R446 R454 K)))))))))))
def e_makeCode_454 (x1 : Int32) (x4 : Int32) (x5 : Int32) (S : ms) (R446 : Int32 → Int32 → ms → Prop) (K : ms → Prop) : Prop :=
  ∃ (I : Int32 → Int32 → Int32 → ms → Prop) (μ : Int32 → Int32 → Int32 → ms → Nat), I x1 x4 x5 S ∧ ∀ yx1 yx4 yx5 yS, I yx1 yx4 yx5 yS → b_makeCode_454 yx1 yx4 yx5 yS R446 (fun zx1 zx4 zx5 zS => I zx1 zx4 zx5 zS ∧ μ zx1 zx4 zx5 zS < μ yx1 yx4 yx5 yS) K
def b_makeCode_446 (x1 : Int32) (x4 : Int32) (S : ms) (R446 : Int32 → Int32 → ms → Prop) (K : ms → Prop) : Prop :=
  (x4 < 0 → (e_makeCode_586 x1 0 1 S K)) ∧ (¬ (x4 < 0) → (e_makeCode_454 x1 x4 0 S R446 K))
def e_makeCode_446 (x1 : Int32) (x4 : Int32) (S : ms) (K : ms → Prop) : Prop :=
  ∃ (I : Int32 → Int32 → ms → Prop) (μ : Int32 → Int32 → ms → Nat), I x1 x4 S ∧ ∀ yx1 yx4 yS, I yx1 yx4 yS → b_makeCode_446 yx1 yx4 yS (fun zx1 zx4 zS => I zx1 zx4 zS ∧ μ zx1 zx4 zS < μ yx1 yx4 yS) K
def b_makeCode_435 (x1 : Int32) (x2 : Int32) (x4 : Int32) (s1 : Int32) (s2 : Int32) (S : ms) (R394 : Int32 → Int32 → Int32 → ms → Prop) (K : ms → Prop) : Prop :=
  vp_in s1 8320 ∧ (R394 x1 x2 (x4 + 1) (S.1, va_up S.2.1 31 (upd (S.2.1 31) s1.toNatClampNeg s2), S.2.2))
def b_makeCode_434 (x1 : Int32) (x2 : Int32) (x4 : Int32) (s1 : Int32) (S : ms) (R394 : Int32 → Int32 → Int32 → ms → Prop) (K : ms → Prop) : Prop :=
  b_makeCode_435 x1 x2 x4 s1 0 S R394 K
def b_makeCode_394 (x1 : Int32) (x2 : Int32) (x4 : Int32) (S : ms) (R394 : Int32 → Int32 → Int32 → ms → Prop) (K : ms → Prop) : Prop :=
  (8320 ≤ x4 → (e_makeCode_446 x1 15 S K)) ∧ (¬ (8320 ≤ x4) → ((x4 < 7800 → (b_makeCode_434 x1 x2 x4 x4 S R394 K)) ∧ (¬ (x4 < 7800) → ((((7800 + (2 * x2)) - 2) ≤ x4 → (b_makeCode_434 x1 x2 x4 x4 S R394 K)) ∧ (¬ (((7800 + (2 * x2)) - 2) ≤ x4) → (b_makeCode_435 x1 x2 x4 x4 1 S R394 K))))))
def e_makeCode_394 (x1 : Int32) (x2 : Int32) (x4 : Int32) (S : ms) (K : ms → Prop) : Prop :=
  ∃ (I : Int32 → Int32 → Int32 → ms → Prop) (μ : Int32 → Int32 → Int32 → ms → Nat), I x1 x2 x4 S ∧ ∀ yx1 yx2 yx4 yS, I yx1 yx2 yx4 yS → b_makeCode_394 yx1 yx2 yx4 yS (fun zx1 zx2 zx4 zS => I zx1 zx2 zx4 zS ∧ μ zx1 zx2 zx4 zS < μ yx1 yx2 yx4 yS) K
def b_makeCode_375 (x1 : Int32) (x2 : Int32) (x4 : Int32) (x5 : Int32) (x6 : Int32) (x8 : Int32) (s0 : Int32) (S : ms) (R162 : Int32 → Int32 → Int32 → Int32 → ms → Prop) (R190 : Int32 → Int32 → Int32 → Int32 → Int32 → Int32 → Int32 → ms → Prop) (K : ms → Prop) : Prop :=
  R190 x1 x2 x4 x5 x6 s0 x8 S
def b_makeCode_359 (x1 : Int32) (x2 : Int32) (x4 : Int32) (x5 : Int32) (x7 : Int32) (x8 : Int32) (x10 : Int32) (s0 : Int32) (S : ms) (R162 : Int32 → Int32 → Int32 → Int32 → ms → Prop) (R190 : Int32 → Int32 → Int32 → Int32 → Int32 → Int32 → Int32 → ms → Prop) (K : ms → Prop) : Prop :=
  (x10 = 0 → (b_makeCode_375 x1 x2 x4 x5 s0 x8 (x7 + 1) S R162 R190 K)) ∧ (¬ (x10 = 0) → (b_makeCode_375 x1 x2 x4 x5 s0 x8 x7 S R162 R190 K))
def b_makeCode_344 (x1 : Int32) (x2 : Int32) (x4 : Int32) (x5 : Int32) (x6 : Int32) (x7 : Int32) (x8 : Int32) (x10 : Int32) (s1 : Int32) (s2 : Int32) (S : ms) (R162 : Int32 → Int32 → Int32 → Int32 → ms → Prop) (R190 : Int32 → Int32 → Int32 → Int32 → Int32 → Int32 → Int32 → ms → Prop) (K : ms → Prop) : Prop :=
  vp_in s1 8320 ∧ ((x10 = 0 → (b_makeCode_359 x1 x2 x4 x5 x7 x8 x10 x6 (S.1, va_up S.2.1 30 (upd (S.2.1 30) s1.toNatClampNeg s2), S.2.2) R162 R190 K)) ∧ (¬ (x10 = 0) → (b_makeCode_359 x1 x2 x4 x5 x7 x8 x10 (x6 + 1) (S.1, va_up S.2.1 30 (upd (S.2.1 30) s1.toNatClampNeg s2), S.2.2) R162 R190 K)))
def b_makeCode_308 (x1 : Int32) (x2 : Int32) (x4 : Int32) (x5 : Int32) (x6 : Int32) (x7 : Int32) (x8 : Int32) (x10 : Int32) (s1 : Int32) (s2 : Int32) (S : ms) (R162 : Int32 → Int32 → Int32 → Int32 → ms → Prop) (R190 : Int32 → Int32 → Int32 → Int32 → Int32 → Int32 → Int32 → ms → Prop) (K : ms → Prop) : Prop :=
  vp_in s1 8320 ∧ ((x10 = 0 → (b_makeCode_344 x1 x2 x4 x5 x6 x7 x8 x10 (((520 * x4) + x6) + x7) ((-1) - x7) (S.1, va_up S.2.1 29 (upd (S.2.1 29) s1.toNatClampNeg s2), S.2.2) R162 R190 K)) ∧ (¬ (x10 = 0) → (vp_in x6 8320 ∧ (b_makeCode_344 x1 x2 x4 x5 x6 x7 x8 x10 (((520 * x4) + x6) + x7) ((va_up S.2.1 29 (upd (S.2.1 29) s1.toNatClampNeg s2)) 30 x6.toNatClampNeg) (S.1, va_up S.2.1 29 (upd (S.2.1 29) s1.toNatClampNeg s2), S.2.2) R162 R190 K))))
def b_makeCode_273 (x1 : Int32) (x2 : Int32) (x4 : Int32) (x5 : Int32) (x6 : Int32) (x7 : Int32) (x8 : Int32) (x9 : Int32) (s0 : Int32) (S : ms) (R162 : Int32 → Int32 → Int32 → Int32 → ms → Prop) (R190 : Int32 → Int32 → Int32 → Int32 → Int32 → Int32 → Int32 → ms → Prop) (K : ms → Prop) : Prop :=
  (s0 = 0 → (b_makeCode_308 x1 x2 x4 x5 x6 x7 x8 s0 (((520 * x4) + x6) + x7) x9 S R162 R190 K)) ∧ (¬ (s0 = 0) → (vp_in x6 8320 ∧ (b_makeCode_308 x1 x2 x4 x5 x6 x7 x8 s0 (((520 * x4) + x6) + x7) (S.2.1 29 x6.toNatClampNeg) S R162 R190 K)))
def b_makeCode_272 (x1 : Int32) (x2 : Int32) (x4 : Int32) (x5 : Int32) (x6 : Int32) (x7 : Int32) (x8 : Int32) (x9 : Int32) (S : ms) (R162 : Int32 → Int32 → Int32 → Int32 → ms → Prop) (R190 : Int32 → Int32 → Int32 → Int32 → Int32 → Int32 → Int32 → ms → Prop) (K : ms → Prop) : Prop :=
  b_makeCode_273 x1 x2 x4 x5 x6 x7 x8 x9 0 S R162 R190 K
def b_makeCode_268 (x1 : Int32) (x2 : Int32) (x4 : Int32) (x5 : Int32) (x6 : Int32) (x7 : Int32) (x8 : Int32) (x9 : Int32) (S : ms) (R162 : Int32 → Int32 → Int32 → Int32 → ms → Prop) (R190 : Int32 → Int32 → Int32 → Int32 → Int32 → Int32 → Int32 → ms → Prop) (K : ms → Prop) : Prop :=
  b_makeCode_273 x1 x2 x4 x5 x6 x7 x8 x9 1 S R162 R190 K
def b_makeCode_241 (x1 : Int32) (x2 : Int32) (x4 : Int32) (x5 : Int32) (x6 : Int32) (x7 : Int32) (x8 : Int32) (s0 : Int32) (S : ms) (R162 : Int32 → Int32 → Int32 → Int32 → ms → Prop) (R190 : Int32 → Int32 → Int32 → Int32 → Int32 → Int32 → Int32 → ms → Prop) (K : ms → Prop) : Prop :=
  (x7 = x5 → (b_makeCode_268 x1 x2 x4 x5 x6 x7 x8 s0 S R162 R190 K)) ∧ (¬ (x7 = x5) → ((x2 ≤ x6 → (b_makeCode_272 x1 x2 x4 x5 x6 x7 x8 s0 S R162 R190 K)) ∧ (¬ (x2 ≤ x6) → (vp_in x6 8320 ∧ ((s0 < (S.2.1 29 x6.toNatClampNeg) → (b_makeCode_272 x1 x2 x4 x5 x6 x7 x8 s0 S R162 R190 K)) ∧ (¬ (s0 < (S.2.1 29 x6.toNatClampNeg)) → (b_makeCode_268 x1 x2 x4 x5 x6 x7 x8 s0 S R162 R190 K)))))))
def b_makeCode_203 (x1 : Int32) (x2 : Int32) (x4 : Int32) (x5 : Int32) (x6 : Int32) (x7 : Int32) (x8 : Int32) (S : ms) (R162 : Int32 → Int32 → Int32 → Int32 → ms → Prop) (R190 : Int32 → Int32 → Int32 → Int32 → Int32 → Int32 → Int32 → ms → Prop) (K : ms → Prop) : Prop :=
  (x5 ≤ x7 → (b_makeCode_241 x1 x2 x4 x5 x6 x7 x8 0 S R162 R190 K)) ∧ (¬ (x5 ≤ x7) → (vp_in (x8 + (2 * x7)) 8320 ∧ (vp_in ((x8 + (2 * x7)) + 1) 8320 ∧ (b_makeCode_241 x1 x2 x4 x5 x6 x7 x8 ((S.2.1 29 (x8 + (2 * x7)).toNatClampNeg) + (S.2.1 29 ((x8 + (2 * x7)) + 1).toNatClampNeg)) S R162 R190 K))))
def b_makeCode_190 (x1 : Int32) (x2 : Int32) (x4 : Int32) (x5 : Int32) (x6 : Int32) (x7 : Int32) (x8 : Int32) (S : ms) (R162 : Int32 → Int32 → Int32 → Int32 → ms → Prop) (R190 : Int32 → Int32 → Int32 → Int32 → Int32 → Int32 → Int32 → ms → Prop) (K : ms → Prop) : Prop :=
  (x6 < x2 → (b_makeCode_203 x1 x2 x4 x5 x6 x7 x8 S R162 R190 K)) ∧ (¬ (x6 < x2) → ((x5 ≤ x7 → (R162 x1 x2 (x2 + x5) (x4 + 1) S)) ∧ (¬ (x5 ≤ x7) → (b_makeCode_203 x1 x2 x4 x5 x6 x7 x8 S R162 R190 K))))
def e_makeCode_190 (x1 : Int32) (x2 : Int32) (x4 : Int32) (x5 : Int32) (x6 : Int32) (x7 : Int32) (x8 : Int32) (S : ms) (R162 : Int32 → Int32 → Int32 → Int32 → ms → Prop) (K : ms → Prop) : Prop :=
  ∃ (I : Int32 → Int32 → Int32 → Int32 → Int32 → Int32 → Int32 → ms → Prop) (μ : Int32 → Int32 → Int32 → Int32 → Int32 → Int32 → Int32 → ms → Nat), I x1 x2 x4 x5 x6 x7 x8 S ∧ ∀ yx1 yx2 yx4 yx5 yx6 yx7 yx8 yS, I yx1 yx2 yx4 yx5 yx6 yx7 yx8 yS → b_makeCode_190 yx1 yx2 yx4 yx5 yx6 yx7 yx8 yS R162 (fun zx1 zx2 zx4 zx5 zx6 zx7 zx8 zS => I zx1 zx2 zx4 zx5 zx6 zx7 zx8 zS ∧ μ zx1 zx2 zx4 zx5 zx6 zx7 zx8 zS < μ yx1 yx2 yx4 yx5 yx6 yx7 yx8 yS) K
def b_makeCode_162 (x1 : Int32) (x2 : Int32) (x3 : Int32) (x4 : Int32) (S : ms) (R162 : Int32 → Int32 → Int32 → Int32 → ms → Prop) (K : ms → Prop) : Prop :=
  (16 ≤ x4 → (e_makeCode_394 x1 x2 0 S K)) ∧ (¬ (16 ≤ x4) → (e_makeCode_190 x1 x2 x4 (x3 / 2) 0 0 (520 * (x4 - 1)) S R162 K))
def e_makeCode_162 (x1 : Int32) (x2 : Int32) (x3 : Int32) (x4 : Int32) (S : ms) (K : ms → Prop) : Prop :=
  ∃ (I : Int32 → Int32 → Int32 → Int32 → ms → Prop) (μ : Int32 → Int32 → Int32 → Int32 → ms → Nat), I x1 x2 x3 x4 S ∧ ∀ yx1 yx2 yx3 yx4 yS, I yx1 yx2 yx3 yx4 yS → b_makeCode_162 yx1 yx2 yx3 yx4 yS (fun zx1 zx2 zx3 zx4 zS => I zx1 zx2 zx3 zx4 zS ∧ μ zx1 zx2 zx3 zx4 zS < μ yx1 yx2 yx3 yx4 yS) K
def b_makeCode_151 (x1 : Int32) (x2 : Int32) (x3 : Int32) (S : ms) (R4 : Int32 → Int32 → Int32 → ms → Prop) (K : ms → Prop) : Prop :=
  R4 x1 x2 (x3 + 1) S
def b_makeCode_131 (x1 : Int32) (x2 : Int32) (x3 : Int32) (x4 : Int32) (x5 : Int32) (S : ms) (R4 : Int32 → Int32 → Int32 → ms → Prop) (K : ms → Prop) : Prop :=
  vp_in x4 8320 ∧ (vp_in x4 8320 ∧ (b_makeCode_151 x1 (x2 + 1) x3 (S.1, va_up (va_up S.2.1 29 (upd (S.2.1 29) x4.toNatClampNeg x5)) 30 (upd ((va_up S.2.1 29 (upd (S.2.1 29) x4.toNatClampNeg x5)) 30) x4.toNatClampNeg x3), S.2.2) R4 K))
def b_makeCode_74 (x1 : Int32) (x2 : Int32) (x3 : Int32) (x4 : Int32) (x5 : Int32) (S : ms) (R4 : Int32 → Int32 → Int32 → ms → Prop) (R74 : Int32 → Int32 → Int32 → Int32 → Int32 → ms → Prop) (K : ms → Prop) : Prop :=
  (x4 ≤ 0 → (b_makeCode_131 x1 x2 x3 x4 x5 S R4 K)) ∧ (¬ (x4 ≤ 0) → (vp_in (x4 - 1) 8320 ∧ (((S.2.1 29 (x4 - 1).toNatClampNeg) ≤ x5 → (b_makeCode_131 x1 x2 x3 x4 x5 S R4 K)) ∧ (¬ ((S.2.1 29 (x4 - 1).toNatClampNeg) ≤ x5) → (vp_in (x4 - 1) 8320 ∧ (vp_in x4 8320 ∧ (vp_in (x4 - 1) 8320 ∧ (vp_in x4 8320 ∧ (R74 x1 x2 x3 (x4 + (-1)) x5 (S.1, va_up (va_up S.2.1 29 (upd (S.2.1 29) x4.toNatClampNeg (S.2.1 29 (x4 - 1).toNatClampNeg))) 30 (upd ((va_up S.2.1 29 (upd (S.2.1 29) x4.toNatClampNeg (S.2.1 29 (x4 - 1).toNatClampNeg))) 30) x4.toNatClampNeg ((va_up S.2.1 29 (upd (S.2.1 29) x4.toNatClampNeg (S.2.1 29 (x4 - 1).toNatClampNeg))) 30 (x4 - 1).toNatClampNeg)), S.2.2))))))))))
def e_makeCode_74 (x1 : Int32) (x2 : Int32) (x3 : Int32) (x4 : Int32) (x5 : Int32) (S : ms) (R4 : Int32 → Int32 → Int32 → ms → Prop) (K : ms → Prop) : Prop :=
  ∃ (I : Int32 → Int32 → Int32 → Int32 → Int32 → ms → Prop) (μ : Int32 → Int32 → Int32 → Int32 → Int32 → ms → Nat), I x1 x2 x3 x4 x5 S ∧ ∀ yx1 yx2 yx3 yx4 yx5 yS, I yx1 yx2 yx3 yx4 yx5 yS → b_makeCode_74 yx1 yx2 yx3 yx4 yx5 yS R4 (fun zx1 zx2 zx3 zx4 zx5 zS => I zx1 zx2 zx3 zx4 zx5 zS ∧ μ zx1 zx2 zx3 zx4 zx5 zS < μ yx1 yx2 yx3 yx4 yx5 yS) K
def b_makeCode_72 (x1 : Int32) (x2 : Int32) (x3 : Int32) (x4 : Int32) (s0 : Int32) (S : ms) (R4 : Int32 → Int32 → Int32 → ms → Prop) (K : ms → Prop) : Prop :=
  e_makeCode_74 x1 x2 x3 x4 s0 S R4 K
def b_makeCode_46 (x1 : Int32) (x2 : Int32) (x3 : Int32) (S : ms) (R4 : Int32 → Int32 → Int32 → ms → Prop) (K : ms → Prop) : Prop :=
  (¬ x3 = 256 → (vp_in ((257 * x1) + x3) 1028 ∧ (b_makeCode_72 x1 x2 x3 x2 (S.2.1 26 ((257 * x1) + x3).toNatClampNeg) S R4 K))) ∧ (x3 = 256 → (b_makeCode_72 x1 x2 x3 x2 0 S R4 K))
def b_makeCode_4 (x1 : Int32) (x2 : Int32) (x3 : Int32) (S : ms) (R4 : Int32 → Int32 → Int32 → ms → Prop) (K : ms → Prop) : Prop :=
  (256 < x3 → (e_makeCode_162 x1 x2 x2 1 S K)) ∧ (¬ (256 < x3) → (vp_in ((257 * x1) + x3) 1028 ∧ ((x3 = 256 → (b_makeCode_46 x1 x2 x3 (S.1, va_up S.2.1 27 (upd (S.2.1 27) ((257 * x1) + x3).toNatClampNeg 0), S.2.2) R4 K)) ∧ (¬ (x3 = 256) → (vp_in ((257 * x1) + x3) 1028 ∧ ((((va_up S.2.1 27 (upd (S.2.1 27) ((257 * x1) + x3).toNatClampNeg 0)) 26 ((257 * x1) + x3).toNatClampNeg) ≤ 0 → (b_makeCode_151 x1 x2 x3 (S.1, va_up S.2.1 27 (upd (S.2.1 27) ((257 * x1) + x3).toNatClampNeg 0), S.2.2) R4 K)) ∧ (¬ (((va_up S.2.1 27 (upd (S.2.1 27) ((257 * x1) + x3).toNatClampNeg 0)) 26 ((257 * x1) + x3).toNatClampNeg) ≤ 0) → (b_makeCode_46 x1 x2 x3 (S.1, va_up S.2.1 27 (upd (S.2.1 27) ((257 * x1) + x3).toNatClampNeg 0), S.2.2) R4 K))))))))
def e_makeCode_4 (x1 : Int32) (x2 : Int32) (x3 : Int32) (S : ms) (K : ms → Prop) : Prop :=
  ∃ (I : Int32 → Int32 → Int32 → ms → Prop) (μ : Int32 → Int32 → Int32 → ms → Nat), I x1 x2 x3 S ∧ ∀ yx1 yx2 yx3 yS, I yx1 yx2 yx3 yS → b_makeCode_4 yx1 yx2 yx3 yS (fun zx1 zx2 zx3 zS => I zx1 zx2 zx3 zS ∧ μ zx1 zx2 zx3 zS < μ yx1 yx2 yx3 yS) K
def p_makeCode (x1 : Int32) (S : ms) (K : ms → Prop) : Prop :=
  e_makeCode_4 x1 0 0 S K
section M_makeCode
variable {D : va_G} {z : Nat → ClassId} {A : Nat → Prop} {X : cx} {L0 : fw} {K : ms → Prop} {o : Nat} {ad : Nat → Nat}
set_option maxRecDepth 100000 in
set_option maxHeartbeats 1000000 in
theorem s_makeCode_646 (C : fcx gG D z A X R_M c_M_makeCode 11 (none)) (hQ : X.2.2.2.2.2.2.2.2.2.2 = eQ gG D z X.2.2.2.2.2.2.2.1 X.2.2.2.2.1 L0 0 0 (pM_v K o ad)) (hA : A = owA gG L0 X.2.2.2.2.1.heap.size) (hR : X.2.2.2.1 = { frames := 1, cells := 1, slots := 6, locals := 100 }) (x1 : Int32) (x4 : Int32) (x5 : Int32) (x6 : Int32) (S : ms) (R586 : Int32 → Int32 → Int32 → ms → Prop) (hR586 : ∀ yx1 yx4 yx5 yS, R586 yx1 yx4 yx5 yS → aw gG D z A X 11 586 [some (.ref o), some (.int yx1), none, none, some (.int yx4), some (.int yx5), none, none, none, none, none] [] [(0, ly_M, (o, ad, yS.1, yS.2.1, yS.2.2))] 0 0) (R602 : Int32 → Int32 → Int32 → Int32 → ms → Prop) (hR602 : ∀ yx1 yx4 yx5 yx6 yS, R602 yx1 yx4 yx5 yx6 yS → aw gG D z A X 11 602 [some (.ref o), some (.int yx1), none, none, some (.int yx4), some (.int yx5), some (.int yx6), none, none, none, none] [] [(0, ly_M, (o, ad, yS.1, yS.2.1, yS.2.2))] 0 0) (hp : b_makeCode_646 x1 x4 x5 x6 S R586 R602 K) : aw gG D z A X 11 646 [some (.ref o), some (.int x1), none, none, some (.int x4), some (.int x5), some (.int x6), none, none, none, none] [] [(0, ly_M, (o, ad, S.1, S.2.1, S.2.2))] 0 0 := by
  unfold b_makeCode_646 at hp
  refine a_iinc (v := x6 + 1) (lo' := [some (.ref o), some (.int x1), none, none, some (.int x4), some (.int x5), some (.int (x6 + 1)), none, none, none, none]) C d_makeCode_646 rfl rfl (by decide) rfl ?_
  refine a_goto (tgt := 602) C d_makeCode_649 (by decide) ?_
  refine aw_lo (lo' := [some (.ref o), some (.int x1), none, none, some (.int x4), some (.int x5), some (.int (x6 + 1)), none, none, none, none]) ⟨.inr rfl, .inr rfl, .inr rfl, .inr rfl, .inr rfl, .inr rfl, .inr rfl, .inr rfl, .inr rfl, .inr rfl, .inr rfl, trivial⟩ ?_
  exact hR602 x1 x4 x5 (x6 + 1) S hp
set_option maxRecDepth 100000 in
set_option maxHeartbeats 1000000 in
theorem s_makeCode_602 (C : fcx gG D z A X R_M c_M_makeCode 11 (none)) (hQ : X.2.2.2.2.2.2.2.2.2.2 = eQ gG D z X.2.2.2.2.2.2.2.1 X.2.2.2.2.1 L0 0 0 (pM_v K o ad)) (hA : A = owA gG L0 X.2.2.2.2.1.heap.size) (hR : X.2.2.2.1 = { frames := 1, cells := 1, slots := 6, locals := 100 }) (x1 : Int32) (x4 : Int32) (x5 : Int32) (x6 : Int32) (S : ms) (R586 : Int32 → Int32 → Int32 → ms → Prop) (hR586 : ∀ yx1 yx4 yx5 yS, R586 yx1 yx4 yx5 yS → aw gG D z A X 11 586 [some (.ref o), some (.int yx1), none, none, some (.int yx4), some (.int yx5), none, none, none, none, none] [] [(0, ly_M, (o, ad, yS.1, yS.2.1, yS.2.2))] 0 0) (R602 : Int32 → Int32 → Int32 → Int32 → ms → Prop) (hR602 : ∀ yx1 yx4 yx5 yx6 yS, R602 yx1 yx4 yx5 yx6 yS → aw gG D z A X 11 602 [some (.ref o), some (.int yx1), none, none, some (.int yx4), some (.int yx5), some (.int yx6), none, none, none, none] [] [(0, ly_M, (o, ad, yS.1, yS.2.1, yS.2.2))] 0 0) (hp : b_makeCode_602 x1 x4 x5 x6 S R586 R602 K) : aw gG D z A X 11 602 [some (.ref o), some (.int x1), none, none, some (.int x4), some (.int x5), some (.int x6), none, none, none, none] [] [(0, ly_M, (o, ad, S.1, S.2.1, S.2.2))] 0 0 := by
  unfold b_makeCode_602 at hp
  refine a_iload C d_makeCode_602 rfl ?_
  refine a_sipush (v := 256) C d_makeCode_604 (by decide) ?_
  refine a_icmp_ge (tgt := 652) C d_makeCode_607 (by decide) ⟨fun hc => ?_, fun hc => ?_⟩
  · have hp := hp.1 hc
    refine a_iinc (v := x5 + 1) (lo' := [some (.ref o), some (.int x1), none, none, some (.int x4), some (.int (x5 + 1)), some (.int x6), none, none, none, none]) C d_makeCode_652 rfl rfl (by decide) rfl ?_
    refine a_goto (tgt := 586) C d_makeCode_655 (by decide) ?_
    refine aw_lo (lo' := [some (.ref o), some (.int x1), none, none, some (.int x4), some (.int (x5 + 1)), none, none, none, none, none]) ⟨.inr rfl, .inr rfl, .inr rfl, .inr rfl, .inr rfl, .inr rfl, .inl rfl, .inr rfl, .inr rfl, .inr rfl, .inr rfl, trivial⟩ ?_
    exact hR586 x1 x4 (x5 + 1) S hp
  · have hp := hp.2 hc
    refine a_aload_n C d_makeCode_610 rfl rfl ?_
    refine a_getR C 0 27 d_makeCode_611 rfl rfl rfl (Nat.le_of_ble_eq_true rfl) f_M_88 ⟨Nat.le_of_ble_eq_true rfl, Nat.le_of_ble_eq_true rfl⟩ ?_
    refine a_sipush (v := 257) C d_makeCode_614 (by decide) ?_
    refine a_iload_n C d_makeCode_617 rfl rfl ?_
    refine a_imul C d_makeCode_618 ?_
    refine a_iload C d_makeCode_619 rfl ?_
    refine a_iadd C d_makeCode_621 ?_
    refine a_iald C 0 27 d_makeCode_622 rfl rfl rfl hp.1 ?_
    have hp := hp.2
    refine a_iload C d_makeCode_623 rfl ?_
    refine a_icmp_ne (tgt := 646) C d_makeCode_625 (by decide) ⟨fun hc => ?_, fun hc => ?_⟩
    · have hp := hp.1 hc
      refine aw_lo (lo' := [some (.ref o), some (.int x1), none, none, some (.int x4), some (.int x5), some (.int x6), none, none, none, none]) ⟨.inr rfl, .inr rfl, .inr rfl, .inr rfl, .inr rfl, .inr rfl, .inr rfl, .inr rfl, .inr rfl, .inr rfl, .inr rfl, trivial⟩ ?_
      exact s_makeCode_646 C hQ hA hR x1 x4 x5 x6 S R586 hR586 R602 hR602 hp
    · have hp := hp.2 hc
      refine a_aload_n C d_makeCode_628 rfl rfl ?_
      refine a_getR C 0 28 d_makeCode_629 rfl rfl rfl (Nat.le_of_ble_eq_true rfl) f_M_91 ⟨Nat.le_of_ble_eq_true rfl, Nat.le_of_ble_eq_true rfl⟩ ?_
      refine a_sipush (v := 257) C d_makeCode_632 (by decide) ?_
      refine a_iload_n C d_makeCode_635 rfl rfl ?_
      refine a_imul C d_makeCode_636 ?_
      refine a_iload C d_makeCode_637 rfl ?_
      refine a_iadd C d_makeCode_639 ?_
      refine a_iload C d_makeCode_640 rfl ?_
      refine a_iast C 0 28 d_makeCode_642 rfl rfl rfl hp.1 ?_
      have hp := hp.2
      refine aw_eq (lo' := _) (st' := _) (L' := [(0, ly_M, (o, ad, S.1, va_up S.2.1 28 (upd (S.2.1 28) ((257 * x1) + x6).toNatClampNeg x4), S.2.2))]) rfl rfl rfl ?_
      refine a_iinc (v := x4 + 1) (lo' := [some (.ref o), some (.int x1), none, none, some (.int (x4 + 1)), some (.int x5), some (.int x6), none, none, none, none]) C d_makeCode_643 rfl rfl (by decide) rfl ?_
      refine aw_lo (lo' := [some (.ref o), some (.int x1), none, none, some (.int (x4 + 1)), some (.int x5), some (.int x6), none, none, none, none]) ⟨.inr rfl, .inr rfl, .inr rfl, .inr rfl, .inr rfl, .inr rfl, .inr rfl, .inr rfl, .inr rfl, .inr rfl, .inr rfl, trivial⟩ ?_
      exact s_makeCode_646 C hQ hA hR x1 (x4 + 1) x5 x6 (S.1, va_up S.2.1 28 (upd (S.2.1 28) ((257 * x1) + x6).toNatClampNeg x4), S.2.2) R586 hR586 R602 hR602 hp
set_option maxRecDepth 100000 in
set_option maxHeartbeats 1000000 in
theorem se_makeCode_602 (C : fcx gG D z A X R_M c_M_makeCode 11 (none)) (hQ : X.2.2.2.2.2.2.2.2.2.2 = eQ gG D z X.2.2.2.2.2.2.2.1 X.2.2.2.2.1 L0 0 0 (pM_v K o ad)) (hA : A = owA gG L0 X.2.2.2.2.1.heap.size) (hR : X.2.2.2.1 = { frames := 1, cells := 1, slots := 6, locals := 100 }) (x1 : Int32) (x4 : Int32) (x5 : Int32) (x6 : Int32) (S : ms) (R586 : Int32 → Int32 → Int32 → ms → Prop) (hR586 : ∀ yx1 yx4 yx5 yS, R586 yx1 yx4 yx5 yS → aw gG D z A X 11 586 [some (.ref o), some (.int yx1), none, none, some (.int yx4), some (.int yx5), none, none, none, none, none] [] [(0, ly_M, (o, ad, yS.1, yS.2.1, yS.2.2))] 0 0) (hp : e_makeCode_602 x1 x4 x5 x6 S R586 K) : aw gG D z A X 11 602 [some (.ref o), some (.int x1), none, none, some (.int x4), some (.int x5), some (.int x6), none, none, none, none] [] [(0, ly_M, (o, ad, S.1, S.2.1, S.2.2))] 0 0 := by
  obtain ⟨I, μ, h0, hs⟩ := hp
  have key : ∀ (n : Nat) (yx1 : Int32) (yx4 : Int32) (yx5 : Int32) (yx6 : Int32) (yS : ms), μ yx1 yx4 yx5 yx6 yS < n → I yx1 yx4 yx5 yx6 yS → aw gG D z A X 11 602 [some (.ref o), some (.int yx1), none, none, some (.int yx4), some (.int yx5), some (.int yx6), none, none, none, none] [] [(0, ly_M, (o, ad, yS.1, yS.2.1, yS.2.2))] 0 0 := by
    intro n
    induction n with
    | zero => intro yx1 yx4 yx5 yx6 yS h; omega
    | succ n ih =>
      intro yx1 yx4 yx5 yx6 yS hn hI
      exact s_makeCode_602 C hQ hA hR yx1 yx4 yx5 yx6 yS R586 hR586 _ (fun zx1 zx4 zx5 zx6 zS hw => ih zx1 zx4 zx5 zx6 zS (by omega) hw.1) (hs yx1 yx4 yx5 yx6 yS hI)
  exact key (μ x1 x4 x5 x6 S + 1) x1 x4 x5 x6 S (Nat.lt_succ_self _) h0
set_option maxRecDepth 100000 in
set_option maxHeartbeats 1000000 in
theorem s_makeCode_586 (C : fcx gG D z A X R_M c_M_makeCode 11 (none)) (hQ : X.2.2.2.2.2.2.2.2.2.2 = eQ gG D z X.2.2.2.2.2.2.2.1 X.2.2.2.2.1 L0 0 0 (pM_v K o ad)) (hA : A = owA gG L0 X.2.2.2.2.1.heap.size) (hR : X.2.2.2.1 = { frames := 1, cells := 1, slots := 6, locals := 100 }) (x1 : Int32) (x4 : Int32) (x5 : Int32) (S : ms) (R586 : Int32 → Int32 → Int32 → ms → Prop) (hR586 : ∀ yx1 yx4 yx5 yS, R586 yx1 yx4 yx5 yS → aw gG D z A X 11 586 [some (.ref o), some (.int yx1), none, none, some (.int yx4), some (.int yx5), none, none, none, none, none] [] [(0, ly_M, (o, ad, yS.1, yS.2.1, yS.2.2))] 0 0) (hp : b_makeCode_586 x1 x4 x5 S R586 K) : aw gG D z A X 11 586 [some (.ref o), some (.int x1), none, none, some (.int x4), some (.int x5), none, none, none, none, none] [] [(0, ly_M, (o, ad, S.1, S.2.1, S.2.2))] 0 0 := by
  unfold b_makeCode_586 at hp
  refine a_iload C d_makeCode_586 rfl ?_
  refine a_bipush (v := 16) C d_makeCode_588 (by decide) ?_
  refine a_icmp_gt (tgt := 658) C d_makeCode_590 (by decide) ⟨fun hc => ?_, fun hc => ?_⟩
  · have hp := hp.1 hc
    exact a_vret C hQ hA d_makeCode_658 rfl ⟨S, hp, rfl, rfl⟩
  · have hp := hp.2 hc
    refine a_iconst (v := 2) C d_makeCode_593 (by decide) ?_
    refine a_iload C d_makeCode_594 rfl ?_
    refine a_imul C d_makeCode_596 ?_
    refine a_istore (lo' := [some (.ref o), some (.int x1), none, none, some (.int (2 * x4)), some (.int x5), none, none, none, none, none]) C d_makeCode_597 (by decide) rfl ?_
    refine a_iconst (v := 0) C d_makeCode_599 (by decide) ?_
    refine a_istore (lo' := [some (.ref o), some (.int x1), none, none, some (.int (2 * x4)), some (.int x5), some (.int 0), none, none, none, none]) C d_makeCode_600 (by decide) rfl ?_
    refine aw_lo (lo' := [some (.ref o), some (.int x1), none, none, some (.int (2 * x4)), some (.int x5), some (.int 0), none, none, none, none]) ⟨.inr rfl, .inr rfl, .inr rfl, .inr rfl, .inr rfl, .inr rfl, .inr rfl, .inr rfl, .inr rfl, .inr rfl, .inr rfl, trivial⟩ ?_
    exact se_makeCode_602 C hQ hA hR x1 (2 * x4) x5 0 S R586 hR586 hp
set_option maxRecDepth 100000 in
set_option maxHeartbeats 1000000 in
theorem se_makeCode_586 (C : fcx gG D z A X R_M c_M_makeCode 11 (none)) (hQ : X.2.2.2.2.2.2.2.2.2.2 = eQ gG D z X.2.2.2.2.2.2.2.1 X.2.2.2.2.1 L0 0 0 (pM_v K o ad)) (hA : A = owA gG L0 X.2.2.2.2.1.heap.size) (hR : X.2.2.2.1 = { frames := 1, cells := 1, slots := 6, locals := 100 }) (x1 : Int32) (x4 : Int32) (x5 : Int32) (S : ms) (hp : e_makeCode_586 x1 x4 x5 S K) : aw gG D z A X 11 586 [some (.ref o), some (.int x1), none, none, some (.int x4), some (.int x5), none, none, none, none, none] [] [(0, ly_M, (o, ad, S.1, S.2.1, S.2.2))] 0 0 := by
  obtain ⟨I, μ, h0, hs⟩ := hp
  have key : ∀ (n : Nat) (yx1 : Int32) (yx4 : Int32) (yx5 : Int32) (yS : ms), μ yx1 yx4 yx5 yS < n → I yx1 yx4 yx5 yS → aw gG D z A X 11 586 [some (.ref o), some (.int yx1), none, none, some (.int yx4), some (.int yx5), none, none, none, none, none] [] [(0, ly_M, (o, ad, yS.1, yS.2.1, yS.2.2))] 0 0 := by
    intro n
    induction n with
    | zero => intro yx1 yx4 yx5 yS h; omega
    | succ n ih =>
      intro yx1 yx4 yx5 yS hn hI
      exact s_makeCode_586 C hQ hA hR yx1 yx4 yx5 yS _ (fun zx1 zx4 zx5 zS hw => ih zx1 zx4 zx5 zS (by omega) hw.1) (hs yx1 yx4 yx5 yS hI)
  exact key (μ x1 x4 x5 S + 1) x1 x4 x5 S (Nat.lt_succ_self _) h0
set_option maxRecDepth 100000 in
set_option maxHeartbeats 1000000 in
theorem s_makeCode_568 (C : fcx gG D z A X R_M c_M_makeCode 11 (none)) (hQ : X.2.2.2.2.2.2.2.2.2.2 = eQ gG D z X.2.2.2.2.2.2.2.1 X.2.2.2.2.1 L0 0 0 (pM_v K o ad)) (hA : A = owA gG L0 X.2.2.2.2.1.heap.size) (hR : X.2.2.2.1 = { frames := 1, cells := 1, slots := 6, locals := 100 }) (x1 : Int32) (x4 : Int32) (x5 : Int32) (S : ms) (R446 : Int32 → Int32 → ms → Prop) (hR446 : ∀ yx1 yx4 yS, R446 yx1 yx4 yS → aw gG D z A X 11 446 [some (.ref o), some (.int yx1), none, none, some (.int yx4), none, none, none, none, none, none] [] [(0, ly_M, (o, ad, yS.1, yS.2.1, yS.2.2))] 0 0) (R454 : Int32 → Int32 → Int32 → ms → Prop) (hR454 : ∀ yx1 yx4 yx5 yS, R454 yx1 yx4 yx5 yS → aw gG D z A X 11 454 [some (.ref o), some (.int yx1), none, none, some (.int yx4), some (.int yx5), none, none, none, none, none] [] [(0, ly_M, (o, ad, yS.1, yS.2.1, yS.2.2))] 0 0) (hp : b_makeCode_568 x1 x4 x5 S R446 R454 K) : aw gG D z A X 11 568 [some (.ref o), some (.int x1), none, none, some (.int x4), some (.int x5), none, none, none, none, none] [] [(0, ly_M, (o, ad, S.1, S.2.1, S.2.2))] 0 0 := by
  unfold b_makeCode_568 at hp
  refine a_iinc (v := x5 + 1) (lo' := [some (.ref o), some (.int x1), none, none, some (.int x4), some (.int (x5 + 1)), none, none, none, none, none]) C d_makeCode_568 rfl rfl (by decide) rfl ?_
  refine a_goto (tgt := 454) C d_makeCode_571 (by decide) ?_
  refine aw_lo (lo' := [some (.ref o), some (.int x1), none, none, some (.int x4), some (.int (x5 + 1)), none, none, none, none, none]) ⟨.inr rfl, .inr rfl, .inr rfl, .inr rfl, .inr rfl, .inr rfl, .inr rfl, .inr rfl, .inr rfl, .inr rfl, .inr rfl, trivial⟩ ?_
  exact hR454 x1 x4 (x5 + 1) S hp
set_option maxRecDepth 100000 in
set_option maxHeartbeats 1000000 in
theorem s_makeCode_518 (C : fcx gG D z A X R_M c_M_makeCode 11 (none)) (hQ : X.2.2.2.2.2.2.2.2.2.2 = eQ gG D z X.2.2.2.2.2.2.2.1 X.2.2.2.2.1 L0 0 0 (pM_v K o ad)) (hA : A = owA gG L0 X.2.2.2.2.1.heap.size) (hR : X.2.2.2.1 = { frames := 1, cells := 1, slots := 6, locals := 100 }) (x1 : Int32) (x4 : Int32) (x5 : Int32) (x6 : Int32) (S : ms) (R446 : Int32 → Int32 → ms → Prop) (hR446 : ∀ yx1 yx4 yS, R446 yx1 yx4 yS → aw gG D z A X 11 446 [some (.ref o), some (.int yx1), none, none, some (.int yx4), none, none, none, none, none, none] [] [(0, ly_M, (o, ad, yS.1, yS.2.1, yS.2.2))] 0 0) (R454 : Int32 → Int32 → Int32 → ms → Prop) (hR454 : ∀ yx1 yx4 yx5 yS, R454 yx1 yx4 yx5 yS → aw gG D z A X 11 454 [some (.ref o), some (.int yx1), none, none, some (.int yx4), some (.int yx5), none, none, none, none, none] [] [(0, ly_M, (o, ad, yS.1, yS.2.1, yS.2.2))] 0 0) (hp : b_makeCode_518 x1 x4 x5 x6 S R446 R454 K) : aw gG D z A X 11 518 [some (.ref o), some (.int x1), none, none, some (.int x4), some (.int x5), some (.int x6), none, none, none, none] [] [(0, ly_M, (o, ad, S.1, S.2.1, S.2.2))] 0 0 := by
  unfold b_makeCode_518 at hp
  refine a_aload_n C d_makeCode_518 rfl rfl ?_
  refine a_getR C 0 31 d_makeCode_519 rfl rfl rfl (Nat.le_of_ble_eq_true rfl) f_M_100 ⟨Nat.le_of_ble_eq_true rfl, Nat.le_of_ble_eq_true rfl⟩ ?_
  refine a_iload C d_makeCode_522 rfl ?_
  refine a_iald C 0 31 d_makeCode_524 rfl rfl rfl hp.1 ?_
  have hp := hp.2
  refine a_if_le (tgt := 568) C d_makeCode_525 (by decide) ⟨fun hc => ?_, fun hc => ?_⟩
  · have hp := hp.1 hc
    refine aw_lo (lo' := [some (.ref o), some (.int x1), none, none, some (.int x4), some (.int x5), none, none, none, none, none]) ⟨.inr rfl, .inr rfl, .inr rfl, .inr rfl, .inr rfl, .inr rfl, .inl rfl, .inr rfl, .inr rfl, .inr rfl, .inr rfl, trivial⟩ ?_
    exact s_makeCode_568 C hQ hA hR x1 x4 x5 S R446 hR446 R454 hR454 hp
  · have hp := hp.2 hc
    refine a_sipush (v := 520) C d_makeCode_528 (by decide) ?_
    refine a_iload C d_makeCode_531 rfl ?_
    refine a_iconst (v := 1) C d_makeCode_533 (by decide) ?_
    refine a_isub C d_makeCode_534 ?_
    refine a_imul C d_makeCode_535 ?_
    refine a_iconst (v := 2) C d_makeCode_536 (by decide) ?_
    refine a_iconst (v := (-1)) C d_makeCode_537 (by decide) ?_
    refine a_aload_n C d_makeCode_538 rfl rfl ?_
    refine a_getR C 0 30 d_makeCode_539 rfl rfl rfl (Nat.le_of_ble_eq_true rfl) f_M_97 ⟨Nat.le_of_ble_eq_true rfl, Nat.le_of_ble_eq_true rfl⟩ ?_
    refine a_iload C d_makeCode_542 rfl ?_
    refine a_iald C 0 30 d_makeCode_544 rfl rfl rfl hp.1 ?_
    have hp := hp.2
    refine a_isub C d_makeCode_545 ?_
    refine a_imul C d_makeCode_546 ?_
    refine a_iadd C d_makeCode_547 ?_
    refine a_istore (lo' := [some (.ref o), some (.int x1), none, none, some (.int x4), some (.int x5), some (.int x6), some (.int ((520 * (x4 - 1)) + (2 * ((-1) - (S.2.1 30 x6.toNatClampNeg))))), none, none, none]) C d_makeCode_548 (by decide) rfl ?_
    refine a_aload_n C d_makeCode_550 rfl rfl ?_
    refine a_getR C 0 31 d_makeCode_551 rfl rfl rfl (Nat.le_of_ble_eq_true rfl) f_M_100 ⟨Nat.le_of_ble_eq_true rfl, Nat.le_of_ble_eq_true rfl⟩ ?_
    refine a_iload C d_makeCode_554 rfl ?_
    refine a_iconst (v := 1) C d_makeCode_556 (by decide) ?_
    refine a_iast C 0 31 d_makeCode_557 rfl rfl rfl hp.1 ?_
    have hp := hp.2
    refine aw_eq (lo' := _) (st' := _) (L' := [(0, ly_M, (o, ad, S.1, va_up S.2.1 31 (upd (S.2.1 31) ((520 * (x4 - 1)) + (2 * ((-1) - (S.2.1 30 x6.toNatClampNeg)))).toNatClampNeg 1), S.2.2))]) rfl rfl rfl ?_
    refine a_aload_n C d_makeCode_558 rfl rfl ?_
    refine a_getR C 0 31 d_makeCode_559 rfl rfl rfl (Nat.le_of_ble_eq_true rfl) f_M_100 ⟨Nat.le_of_ble_eq_true rfl, Nat.le_of_ble_eq_true rfl⟩ ?_
    refine a_iload C d_makeCode_562 rfl ?_
    refine a_iconst (v := 1) C d_makeCode_564 (by decide) ?_
    refine a_iadd C d_makeCode_565 ?_
    refine a_iconst (v := 1) C d_makeCode_566 (by decide) ?_
    refine a_iast C 0 31 d_makeCode_567 rfl rfl rfl hp.1 ?_
    have hp := hp.2
    refine aw_eq (lo' := _) (st' := _) (L' := [(0, ly_M, (o, ad, S.1, va_up (va_up S.2.1 31 (upd (S.2.1 31) ((520 * (x4 - 1)) + (2 * ((-1) - (S.2.1 30 x6.toNatClampNeg)))).toNatClampNeg 1)) 31 (upd ((va_up S.2.1 31 (upd (S.2.1 31) ((520 * (x4 - 1)) + (2 * ((-1) - (S.2.1 30 x6.toNatClampNeg)))).toNatClampNeg 1)) 31) (((520 * (x4 - 1)) + (2 * ((-1) - (S.2.1 30 x6.toNatClampNeg)))) + 1).toNatClampNeg 1), S.2.2))]) rfl rfl rfl ?_
    refine aw_lo (lo' := [some (.ref o), some (.int x1), none, none, some (.int x4), some (.int x5), none, none, none, none, none]) ⟨.inr rfl, .inr rfl, .inr rfl, .inr rfl, .inr rfl, .inr rfl, .inl rfl, .inl rfl, .inr rfl, .inr rfl, .inr rfl, trivial⟩ ?_
    exact s_makeCode_568 C hQ hA hR x1 x4 x5 (S.1, va_up (va_up S.2.1 31 (upd (S.2.1 31) ((520 * (x4 - 1)) + (2 * ((-1) - (S.2.1 30 x6.toNatClampNeg)))).toNatClampNeg 1)) 31 (upd ((va_up S.2.1 31 (upd (S.2.1 31) ((520 * (x4 - 1)) + (2 * ((-1) - (S.2.1 30 x6.toNatClampNeg)))).toNatClampNeg 1)) 31) (((520 * (x4 - 1)) + (2 * ((-1) - (S.2.1 30 x6.toNatClampNeg)))) + 1).toNatClampNeg 1), S.2.2) R446 hR446 R454 hR454 hp
set_option maxRecDepth 100000 in
set_option maxHeartbeats 1000000 in
theorem s_makeCode_454 (C : fcx gG D z A X R_M c_M_makeCode 11 (none)) (hQ : X.2.2.2.2.2.2.2.2.2.2 = eQ gG D z X.2.2.2.2.2.2.2.1 X.2.2.2.2.1 L0 0 0 (pM_v K o ad)) (hA : A = owA gG L0 X.2.2.2.2.1.heap.size) (hR : X.2.2.2.1 = { frames := 1, cells := 1, slots := 6, locals := 100 }) (x1 : Int32) (x4 : Int32) (x5 : Int32) (S : ms) (R446 : Int32 → Int32 → ms → Prop) (hR446 : ∀ yx1 yx4 yS, R446 yx1 yx4 yS → aw gG D z A X 11 446 [some (.ref o), some (.int yx1), none, none, some (.int yx4), none, none, none, none, none, none] [] [(0, ly_M, (o, ad, yS.1, yS.2.1, yS.2.2))] 0 0) (R454 : Int32 → Int32 → Int32 → ms → Prop) (hR454 : ∀ yx1 yx4 yx5 yS, R454 yx1 yx4 yx5 yS → aw gG D z A X 11 454 [some (.ref o), some (.int yx1), none, none, some (.int yx4), some (.int yx5), none, none, none, none, none] [] [(0, ly_M, (o, ad, yS.1, yS.2.1, yS.2.2))] 0 0) (hp : b_makeCode_454 x1 x4 x5 S R446 R454 K) : aw gG D z A X 11 454 [some (.ref o), some (.int x1), none, none, some (.int x4), some (.int x5), none, none, none, none, none] [] [(0, ly_M, (o, ad, S.1, S.2.1, S.2.2))] 0 0 := by
  unfold b_makeCode_454 at hp
  refine a_iload C d_makeCode_454 rfl ?_
  refine a_sipush (v := 520) C d_makeCode_456 (by decide) ?_
  refine a_icmp_ge (tgt := 574) C d_makeCode_459 (by decide) ⟨fun hc => ?_, fun hc => ?_⟩
  · have hp := hp.1 hc
    refine a_iinc (v := x4 + (-1)) (lo' := [some (.ref o), some (.int x1), none, none, some (.int (x4 + (-1))), some (.int x5), none, none, none, none, none]) C d_makeCode_574 rfl rfl (by decide) rfl ?_
    refine a_goto (tgt := 446) C d_makeCode_577 (by decide) ?_
    refine aw_lo (lo' := [some (.ref o), some (.int x1), none, none, some (.int (x4 + (-1))), none, none, none, none, none, none]) ⟨.inr rfl, .inr rfl, .inr rfl, .inr rfl, .inr rfl, .inl rfl, .inr rfl, .inr rfl, .inr rfl, .inr rfl, .inr rfl, trivial⟩ ?_
    exact hR446 x1 (x4 + (-1)) S hp
  · have hp := hp.2 hc
    refine a_sipush (v := 520) C d_makeCode_462 (by decide) ?_
    refine a_iload C d_makeCode_465 rfl ?_
    refine a_imul C d_makeCode_467 ?_
    refine a_iload C d_makeCode_468 rfl ?_
    refine a_iadd C d_makeCode_470 ?_
    refine a_istore (lo' := [some (.ref o), some (.int x1), none, none, some (.int x4), some (.int x5), some (.int ((520 * x4) + x5)), none, none, none, none]) C d_makeCode_471 (by decide) rfl ?_
    refine a_aload_n C d_makeCode_473 rfl rfl ?_
    refine a_getR C 0 31 d_makeCode_474 rfl rfl rfl (Nat.le_of_ble_eq_true rfl) f_M_100 ⟨Nat.le_of_ble_eq_true rfl, Nat.le_of_ble_eq_true rfl⟩ ?_
    refine a_iload C d_makeCode_477 rfl ?_
    refine a_iald C 0 31 d_makeCode_479 rfl rfl rfl hp.1 ?_
    have hp := hp.2
    refine a_if_le (tgt := 518) C d_makeCode_480 (by decide) ⟨fun hc => ?_, fun hc => ?_⟩
    · have hp := hp.1 hc
      refine aw_lo (lo' := [some (.ref o), some (.int x1), none, none, some (.int x4), some (.int x5), some (.int ((520 * x4) + x5)), none, none, none, none]) ⟨.inr rfl, .inr rfl, .inr rfl, .inr rfl, .inr rfl, .inr rfl, .inr rfl, .inr rfl, .inr rfl, .inr rfl, .inr rfl, trivial⟩ ?_
      exact s_makeCode_518 C hQ hA hR x1 x4 x5 ((520 * x4) + x5) S R446 hR446 R454 hR454 hp
    · have hp := hp.2 hc
      refine a_aload_n C d_makeCode_483 rfl rfl ?_
      refine a_getR C 0 30 d_makeCode_484 rfl rfl rfl (Nat.le_of_ble_eq_true rfl) f_M_97 ⟨Nat.le_of_ble_eq_true rfl, Nat.le_of_ble_eq_true rfl⟩ ?_
      refine a_iload C d_makeCode_487 rfl ?_
      refine a_iald C 0 30 d_makeCode_489 rfl rfl rfl hp.1 ?_
      have hp := hp.2
      refine a_if_lt (tgt := 518) C d_makeCode_490 (by decide) ⟨fun hc => ?_, fun hc => ?_⟩
      · have hp := hp.1 hc
        refine aw_lo (lo' := [some (.ref o), some (.int x1), none, none, some (.int x4), some (.int x5), some (.int ((520 * x4) + x5)), none, none, none, none]) ⟨.inr rfl, .inr rfl, .inr rfl, .inr rfl, .inr rfl, .inr rfl, .inr rfl, .inr rfl, .inr rfl, .inr rfl, .inr rfl, trivial⟩ ?_
        exact s_makeCode_518 C hQ hA hR x1 x4 x5 ((520 * x4) + x5) S R446 hR446 R454 hR454 hp
      · have hp := hp.2 hc
        refine a_aload_n C d_makeCode_493 rfl rfl ?_
        refine a_getR C 0 27 d_makeCode_494 rfl rfl rfl (Nat.le_of_ble_eq_true rfl) f_M_88 ⟨Nat.le_of_ble_eq_true rfl, Nat.le_of_ble_eq_true rfl⟩ ?_
        refine a_sipush (v := 257) C d_makeCode_497 (by decide) ?_
        refine a_iload_n C d_makeCode_500 rfl rfl ?_
        refine a_imul C d_makeCode_501 ?_
        refine a_aload_n C d_makeCode_502 rfl rfl ?_
        refine a_getR C 0 30 d_makeCode_503 rfl rfl rfl (Nat.le_of_ble_eq_true rfl) f_M_97 ⟨Nat.le_of_ble_eq_true rfl, Nat.le_of_ble_eq_true rfl⟩ ?_
        refine a_iload C d_makeCode_506 rfl ?_
        refine a_iald C 0 30 d_makeCode_508 rfl rfl rfl hp.1 ?_
        have hp := hp.2
        refine a_iadd C d_makeCode_509 ?_
        refine a_dup2 C d_makeCode_510 rfl rfl ?_
        refine a_iald C 0 27 d_makeCode_511 rfl rfl rfl hp.1 ?_
        have hp := hp.2
        refine a_iconst (v := 1) C d_makeCode_512 (by decide) ?_
        refine a_iadd C d_makeCode_513 ?_
        refine a_iast C 0 27 d_makeCode_514 rfl rfl rfl hp.1 ?_
        have hp := hp.2
        refine aw_eq (lo' := _) (st' := _) (L' := [(0, ly_M, (o, ad, S.1, va_up S.2.1 27 (upd (S.2.1 27) ((257 * x1) + (S.2.1 30 ((520 * x4) + x5).toNatClampNeg)).toNatClampNeg ((S.2.1 27 ((257 * x1) + (S.2.1 30 ((520 * x4) + x5).toNatClampNeg)).toNatClampNeg) + 1)), S.2.2))]) rfl rfl rfl ?_
        refine a_goto (tgt := 568) C d_makeCode_515 (by decide) ?_
        refine aw_lo (lo' := [some (.ref o), some (.int x1), none, none, some (.int x4), some (.int x5), none, none, none, none, none]) ⟨.inr rfl, .inr rfl, .inr rfl, .inr rfl, .inr rfl, .inr rfl, .inl rfl, .inr rfl, .inr rfl, .inr rfl, .inr rfl, trivial⟩ ?_
        exact s_makeCode_568 C hQ hA hR x1 x4 x5 (S.1, va_up S.2.1 27 (upd (S.2.1 27) ((257 * x1) + (S.2.1 30 ((520 * x4) + x5).toNatClampNeg)).toNatClampNeg ((S.2.1 27 ((257 * x1) + (S.2.1 30 ((520 * x4) + x5).toNatClampNeg)).toNatClampNeg) + 1)), S.2.2) R446 hR446 R454 hR454 hp
set_option maxRecDepth 100000 in
set_option maxHeartbeats 1000000 in
theorem se_makeCode_454 (C : fcx gG D z A X R_M c_M_makeCode 11 (none)) (hQ : X.2.2.2.2.2.2.2.2.2.2 = eQ gG D z X.2.2.2.2.2.2.2.1 X.2.2.2.2.1 L0 0 0 (pM_v K o ad)) (hA : A = owA gG L0 X.2.2.2.2.1.heap.size) (hR : X.2.2.2.1 = { frames := 1, cells := 1, slots := 6, locals := 100 }) (x1 : Int32) (x4 : Int32) (x5 : Int32) (S : ms) (R446 : Int32 → Int32 → ms → Prop) (hR446 : ∀ yx1 yx4 yS, R446 yx1 yx4 yS → aw gG D z A X 11 446 [some (.ref o), some (.int yx1), none, none, some (.int yx4), none, none, none, none, none, none] [] [(0, ly_M, (o, ad, yS.1, yS.2.1, yS.2.2))] 0 0) (hp : e_makeCode_454 x1 x4 x5 S R446 K) : aw gG D z A X 11 454 [some (.ref o), some (.int x1), none, none, some (.int x4), some (.int x5), none, none, none, none, none] [] [(0, ly_M, (o, ad, S.1, S.2.1, S.2.2))] 0 0 := by
  obtain ⟨I, μ, h0, hs⟩ := hp
  have key : ∀ (n : Nat) (yx1 : Int32) (yx4 : Int32) (yx5 : Int32) (yS : ms), μ yx1 yx4 yx5 yS < n → I yx1 yx4 yx5 yS → aw gG D z A X 11 454 [some (.ref o), some (.int yx1), none, none, some (.int yx4), some (.int yx5), none, none, none, none, none] [] [(0, ly_M, (o, ad, yS.1, yS.2.1, yS.2.2))] 0 0 := by
    intro n
    induction n with
    | zero => intro yx1 yx4 yx5 yS h; omega
    | succ n ih =>
      intro yx1 yx4 yx5 yS hn hI
      exact s_makeCode_454 C hQ hA hR yx1 yx4 yx5 yS R446 hR446 _ (fun zx1 zx4 zx5 zS hw => ih zx1 zx4 zx5 zS (by omega) hw.1) (hs yx1 yx4 yx5 yS hI)
  exact key (μ x1 x4 x5 S + 1) x1 x4 x5 S (Nat.lt_succ_self _) h0
set_option maxRecDepth 100000 in
set_option maxHeartbeats 1000000 in
theorem s_makeCode_446 (C : fcx gG D z A X R_M c_M_makeCode 11 (none)) (hQ : X.2.2.2.2.2.2.2.2.2.2 = eQ gG D z X.2.2.2.2.2.2.2.1 X.2.2.2.2.1 L0 0 0 (pM_v K o ad)) (hA : A = owA gG L0 X.2.2.2.2.1.heap.size) (hR : X.2.2.2.1 = { frames := 1, cells := 1, slots := 6, locals := 100 }) (x1 : Int32) (x4 : Int32) (S : ms) (R446 : Int32 → Int32 → ms → Prop) (hR446 : ∀ yx1 yx4 yS, R446 yx1 yx4 yS → aw gG D z A X 11 446 [some (.ref o), some (.int yx1), none, none, some (.int yx4), none, none, none, none, none, none] [] [(0, ly_M, (o, ad, yS.1, yS.2.1, yS.2.2))] 0 0) (hp : b_makeCode_446 x1 x4 S R446 K) : aw gG D z A X 11 446 [some (.ref o), some (.int x1), none, none, some (.int x4), none, none, none, none, none, none] [] [(0, ly_M, (o, ad, S.1, S.2.1, S.2.2))] 0 0 := by
  unfold b_makeCode_446 at hp
  refine a_iload C d_makeCode_446 rfl ?_
  refine a_if_lt (tgt := 580) C d_makeCode_448 (by decide) ⟨fun hc => ?_, fun hc => ?_⟩
  · have hp := hp.1 hc
    refine a_iconst (v := 0) C d_makeCode_580 (by decide) ?_
    refine a_istore (lo' := [some (.ref o), some (.int x1), none, none, some (.int 0), none, none, none, none, none, none]) C d_makeCode_581 (by decide) rfl ?_
    refine a_iconst (v := 1) C d_makeCode_583 (by decide) ?_
    refine a_istore (lo' := [some (.ref o), some (.int x1), none, none, some (.int 0), some (.int 1), none, none, none, none, none]) C d_makeCode_584 (by decide) rfl ?_
    refine aw_lo (lo' := [some (.ref o), some (.int x1), none, none, some (.int 0), some (.int 1), none, none, none, none, none]) ⟨.inr rfl, .inr rfl, .inr rfl, .inr rfl, .inr rfl, .inr rfl, .inr rfl, .inr rfl, .inr rfl, .inr rfl, .inr rfl, trivial⟩ ?_
    exact se_makeCode_586 C hQ hA hR x1 0 1 S  hp
  · have hp := hp.2 hc
    refine a_iconst (v := 0) C d_makeCode_451 (by decide) ?_
    refine a_istore (lo' := [some (.ref o), some (.int x1), none, none, some (.int x4), some (.int 0), none, none, none, none, none]) C d_makeCode_452 (by decide) rfl ?_
    refine aw_lo (lo' := [some (.ref o), some (.int x1), none, none, some (.int x4), some (.int 0), none, none, none, none, none]) ⟨.inr rfl, .inr rfl, .inr rfl, .inr rfl, .inr rfl, .inr rfl, .inr rfl, .inr rfl, .inr rfl, .inr rfl, .inr rfl, trivial⟩ ?_
    exact se_makeCode_454 C hQ hA hR x1 x4 0 S R446 hR446 hp
set_option maxRecDepth 100000 in
set_option maxHeartbeats 1000000 in
theorem se_makeCode_446 (C : fcx gG D z A X R_M c_M_makeCode 11 (none)) (hQ : X.2.2.2.2.2.2.2.2.2.2 = eQ gG D z X.2.2.2.2.2.2.2.1 X.2.2.2.2.1 L0 0 0 (pM_v K o ad)) (hA : A = owA gG L0 X.2.2.2.2.1.heap.size) (hR : X.2.2.2.1 = { frames := 1, cells := 1, slots := 6, locals := 100 }) (x1 : Int32) (x4 : Int32) (S : ms) (hp : e_makeCode_446 x1 x4 S K) : aw gG D z A X 11 446 [some (.ref o), some (.int x1), none, none, some (.int x4), none, none, none, none, none, none] [] [(0, ly_M, (o, ad, S.1, S.2.1, S.2.2))] 0 0 := by
  obtain ⟨I, μ, h0, hs⟩ := hp
  have key : ∀ (n : Nat) (yx1 : Int32) (yx4 : Int32) (yS : ms), μ yx1 yx4 yS < n → I yx1 yx4 yS → aw gG D z A X 11 446 [some (.ref o), some (.int yx1), none, none, some (.int yx4), none, none, none, none, none, none] [] [(0, ly_M, (o, ad, yS.1, yS.2.1, yS.2.2))] 0 0 := by
    intro n
    induction n with
    | zero => intro yx1 yx4 yS h; omega
    | succ n ih =>
      intro yx1 yx4 yS hn hI
      exact s_makeCode_446 C hQ hA hR yx1 yx4 yS _ (fun zx1 zx4 zS hw => ih zx1 zx4 zS (by omega) hw.1) (hs yx1 yx4 yS hI)
  exact key (μ x1 x4 S + 1) x1 x4 S (Nat.lt_succ_self _) h0
set_option maxRecDepth 100000 in
set_option maxHeartbeats 1000000 in
theorem s_makeCode_435 (C : fcx gG D z A X R_M c_M_makeCode 11 (none)) (hQ : X.2.2.2.2.2.2.2.2.2.2 = eQ gG D z X.2.2.2.2.2.2.2.1 X.2.2.2.2.1 L0 0 0 (pM_v K o ad)) (hA : A = owA gG L0 X.2.2.2.2.1.heap.size) (hR : X.2.2.2.1 = { frames := 1, cells := 1, slots := 6, locals := 100 }) (x1 : Int32) (x2 : Int32) (x4 : Int32) (s1 : Int32) (s2 : Int32) (S : ms) (R394 : Int32 → Int32 → Int32 → ms → Prop) (hR394 : ∀ yx1 yx2 yx4 yS, R394 yx1 yx2 yx4 yS → aw gG D z A X 11 394 [some (.ref o), some (.int yx1), some (.int yx2), none, some (.int yx4), none, none, none, none, none, none] [] [(0, ly_M, (o, ad, yS.1, yS.2.1, yS.2.2))] 0 0) (hp : b_makeCode_435 x1 x2 x4 s1 s2 S R394 K) : aw gG D z A X 11 435 [some (.ref o), some (.int x1), some (.int x2), none, some (.int x4), none, none, none, none, none, none] [.int s2, .int s1, .ref (ad 31)] [(0, ly_M, (o, ad, S.1, S.2.1, S.2.2))] 0 0 := by
  unfold b_makeCode_435 at hp
  refine a_iast C 0 31 d_makeCode_435 rfl rfl rfl hp.1 ?_
  have hp := hp.2
  refine aw_eq (lo' := _) (st' := _) (L' := [(0, ly_M, (o, ad, S.1, va_up S.2.1 31 (upd (S.2.1 31) s1.toNatClampNeg s2), S.2.2))]) rfl rfl rfl ?_
  refine a_iinc (v := x4 + 1) (lo' := [some (.ref o), some (.int x1), some (.int x2), none, some (.int (x4 + 1)), none, none, none, none, none, none]) C d_makeCode_436 rfl rfl (by decide) rfl ?_
  refine a_goto (tgt := 394) C d_makeCode_439 (by decide) ?_
  refine aw_lo (lo' := [some (.ref o), some (.int x1), some (.int x2), none, some (.int (x4 + 1)), none, none, none, none, none, none]) ⟨.inr rfl, .inr rfl, .inr rfl, .inr rfl, .inr rfl, .inr rfl, .inr rfl, .inr rfl, .inr rfl, .inr rfl, .inr rfl, trivial⟩ ?_
  exact hR394 x1 x2 (x4 + 1) (S.1, va_up S.2.1 31 (upd (S.2.1 31) s1.toNatClampNeg s2), S.2.2) hp
set_option maxRecDepth 100000 in
set_option maxHeartbeats 1000000 in
theorem s_makeCode_434 (C : fcx gG D z A X R_M c_M_makeCode 11 (none)) (hQ : X.2.2.2.2.2.2.2.2.2.2 = eQ gG D z X.2.2.2.2.2.2.2.1 X.2.2.2.2.1 L0 0 0 (pM_v K o ad)) (hA : A = owA gG L0 X.2.2.2.2.1.heap.size) (hR : X.2.2.2.1 = { frames := 1, cells := 1, slots := 6, locals := 100 }) (x1 : Int32) (x2 : Int32) (x4 : Int32) (s1 : Int32) (S : ms) (R394 : Int32 → Int32 → Int32 → ms → Prop) (hR394 : ∀ yx1 yx2 yx4 yS, R394 yx1 yx2 yx4 yS → aw gG D z A X 11 394 [some (.ref o), some (.int yx1), some (.int yx2), none, some (.int yx4), none, none, none, none, none, none] [] [(0, ly_M, (o, ad, yS.1, yS.2.1, yS.2.2))] 0 0) (hp : b_makeCode_434 x1 x2 x4 s1 S R394 K) : aw gG D z A X 11 434 [some (.ref o), some (.int x1), some (.int x2), none, some (.int x4), none, none, none, none, none, none] [.int s1, .ref (ad 31)] [(0, ly_M, (o, ad, S.1, S.2.1, S.2.2))] 0 0 := by
  unfold b_makeCode_434 at hp
  refine a_iconst (v := 0) C d_makeCode_434 (by decide) ?_
  refine aw_lo (lo' := [some (.ref o), some (.int x1), some (.int x2), none, some (.int x4), none, none, none, none, none, none]) ⟨.inr rfl, .inr rfl, .inr rfl, .inr rfl, .inr rfl, .inr rfl, .inr rfl, .inr rfl, .inr rfl, .inr rfl, .inr rfl, trivial⟩ ?_
  exact s_makeCode_435 C hQ hA hR x1 x2 x4 s1 0 S R394 hR394 hp
set_option maxRecDepth 100000 in
set_option maxHeartbeats 1000000 in
theorem s_makeCode_394 (C : fcx gG D z A X R_M c_M_makeCode 11 (none)) (hQ : X.2.2.2.2.2.2.2.2.2.2 = eQ gG D z X.2.2.2.2.2.2.2.1 X.2.2.2.2.1 L0 0 0 (pM_v K o ad)) (hA : A = owA gG L0 X.2.2.2.2.1.heap.size) (hR : X.2.2.2.1 = { frames := 1, cells := 1, slots := 6, locals := 100 }) (x1 : Int32) (x2 : Int32) (x4 : Int32) (S : ms) (R394 : Int32 → Int32 → Int32 → ms → Prop) (hR394 : ∀ yx1 yx2 yx4 yS, R394 yx1 yx2 yx4 yS → aw gG D z A X 11 394 [some (.ref o), some (.int yx1), some (.int yx2), none, some (.int yx4), none, none, none, none, none, none] [] [(0, ly_M, (o, ad, yS.1, yS.2.1, yS.2.2))] 0 0) (hp : b_makeCode_394 x1 x2 x4 S R394 K) : aw gG D z A X 11 394 [some (.ref o), some (.int x1), some (.int x2), none, some (.int x4), none, none, none, none, none, none] [] [(0, ly_M, (o, ad, S.1, S.2.1, S.2.2))] 0 0 := by
  unfold b_makeCode_394 at hp
  refine a_iload C d_makeCode_394 rfl ?_
  refine a_sipush (v := 8320) C d_makeCode_396 (by decide) ?_
  refine a_icmp_ge (tgt := 442) C d_makeCode_399 (by decide) ⟨fun hc => ?_, fun hc => ?_⟩
  · have hp := hp.1 hc
    refine a_bipush (v := 15) C d_makeCode_442 (by decide) ?_
    refine a_istore (lo' := [some (.ref o), some (.int x1), some (.int x2), none, some (.int 15), none, none, none, none, none, none]) C d_makeCode_444 (by decide) rfl ?_
    refine aw_lo (lo' := [some (.ref o), some (.int x1), none, none, some (.int 15), none, none, none, none, none, none]) ⟨.inr rfl, .inr rfl, .inl rfl, .inr rfl, .inr rfl, .inr rfl, .inr rfl, .inr rfl, .inr rfl, .inr rfl, .inr rfl, trivial⟩ ?_
    exact se_makeCode_446 C hQ hA hR x1 15 S  hp
  · have hp := hp.2 hc
    refine a_aload_n C d_makeCode_402 rfl rfl ?_
    refine a_getR C 0 31 d_makeCode_403 rfl rfl rfl (Nat.le_of_ble_eq_true rfl) f_M_100 ⟨Nat.le_of_ble_eq_true rfl, Nat.le_of_ble_eq_true rfl⟩ ?_
    refine a_iload C d_makeCode_406 rfl ?_
    refine a_iload C d_makeCode_408 rfl ?_
    refine a_sipush (v := 7800) C d_makeCode_410 (by decide) ?_
    refine a_icmp_lt (tgt := 434) C d_makeCode_413 (by decide) ⟨fun hc => ?_, fun hc => ?_⟩
    · have hp := hp.1 hc
      refine aw_lo (lo' := [some (.ref o), some (.int x1), some (.int x2), none, some (.int x4), none, none, none, none, none, none]) ⟨.inr rfl, .inr rfl, .inr rfl, .inr rfl, .inr rfl, .inr rfl, .inr rfl, .inr rfl, .inr rfl, .inr rfl, .inr rfl, trivial⟩ ?_
      exact s_makeCode_434 C hQ hA hR x1 x2 x4 x4 S R394 hR394 hp
    · have hp := hp.2 hc
      refine a_iload C d_makeCode_416 rfl ?_
      refine a_sipush (v := 7800) C d_makeCode_418 (by decide) ?_
      refine a_iconst (v := 2) C d_makeCode_421 (by decide) ?_
      refine a_iload_n C d_makeCode_422 rfl rfl ?_
      refine a_imul C d_makeCode_423 ?_
      refine a_iadd C d_makeCode_424 ?_
      refine a_iconst (v := 2) C d_makeCode_425 (by decide) ?_
      refine a_isub C d_makeCode_426 ?_
      refine a_icmp_ge (tgt := 434) C d_makeCode_427 (by decide) ⟨fun hc => ?_, fun hc => ?_⟩
      · have hp := hp.1 hc
        refine aw_lo (lo' := [some (.ref o), some (.int x1), some (.int x2), none, some (.int x4), none, none, none, none, none, none]) ⟨.inr rfl, .inr rfl, .inr rfl, .inr rfl, .inr rfl, .inr rfl, .inr rfl, .inr rfl, .inr rfl, .inr rfl, .inr rfl, trivial⟩ ?_
        exact s_makeCode_434 C hQ hA hR x1 x2 x4 x4 S R394 hR394 hp
      · have hp := hp.2 hc
        refine a_iconst (v := 1) C d_makeCode_430 (by decide) ?_
        refine a_goto (tgt := 435) C d_makeCode_431 (by decide) ?_
        refine aw_lo (lo' := [some (.ref o), some (.int x1), some (.int x2), none, some (.int x4), none, none, none, none, none, none]) ⟨.inr rfl, .inr rfl, .inr rfl, .inr rfl, .inr rfl, .inr rfl, .inr rfl, .inr rfl, .inr rfl, .inr rfl, .inr rfl, trivial⟩ ?_
        exact s_makeCode_435 C hQ hA hR x1 x2 x4 x4 1 S R394 hR394 hp
set_option maxRecDepth 100000 in
set_option maxHeartbeats 1000000 in
theorem se_makeCode_394 (C : fcx gG D z A X R_M c_M_makeCode 11 (none)) (hQ : X.2.2.2.2.2.2.2.2.2.2 = eQ gG D z X.2.2.2.2.2.2.2.1 X.2.2.2.2.1 L0 0 0 (pM_v K o ad)) (hA : A = owA gG L0 X.2.2.2.2.1.heap.size) (hR : X.2.2.2.1 = { frames := 1, cells := 1, slots := 6, locals := 100 }) (x1 : Int32) (x2 : Int32) (x4 : Int32) (S : ms) (hp : e_makeCode_394 x1 x2 x4 S K) : aw gG D z A X 11 394 [some (.ref o), some (.int x1), some (.int x2), none, some (.int x4), none, none, none, none, none, none] [] [(0, ly_M, (o, ad, S.1, S.2.1, S.2.2))] 0 0 := by
  obtain ⟨I, μ, h0, hs⟩ := hp
  have key : ∀ (n : Nat) (yx1 : Int32) (yx2 : Int32) (yx4 : Int32) (yS : ms), μ yx1 yx2 yx4 yS < n → I yx1 yx2 yx4 yS → aw gG D z A X 11 394 [some (.ref o), some (.int yx1), some (.int yx2), none, some (.int yx4), none, none, none, none, none, none] [] [(0, ly_M, (o, ad, yS.1, yS.2.1, yS.2.2))] 0 0 := by
    intro n
    induction n with
    | zero => intro yx1 yx2 yx4 yS h; omega
    | succ n ih =>
      intro yx1 yx2 yx4 yS hn hI
      exact s_makeCode_394 C hQ hA hR yx1 yx2 yx4 yS _ (fun zx1 zx2 zx4 zS hw => ih zx1 zx2 zx4 zS (by omega) hw.1) (hs yx1 yx2 yx4 yS hI)
  exact key (μ x1 x2 x4 S + 1) x1 x2 x4 S (Nat.lt_succ_self _) h0
set_option maxRecDepth 100000 in
set_option maxHeartbeats 1000000 in
theorem s_makeCode_375 (C : fcx gG D z A X R_M c_M_makeCode 11 (none)) (hQ : X.2.2.2.2.2.2.2.2.2.2 = eQ gG D z X.2.2.2.2.2.2.2.1 X.2.2.2.2.1 L0 0 0 (pM_v K o ad)) (hA : A = owA gG L0 X.2.2.2.2.1.heap.size) (hR : X.2.2.2.1 = { frames := 1, cells := 1, slots := 6, locals := 100 }) (x1 : Int32) (x2 : Int32) (x4 : Int32) (x5 : Int32) (x6 : Int32) (x8 : Int32) (s0 : Int32) (S : ms) (R162 : Int32 → Int32 → Int32 → Int32 → ms → Prop) (hR162 : ∀ yx1 yx2 yx3 yx4 yS, R162 yx1 yx2 yx3 yx4 yS → aw gG D z A X 11 162 [some (.ref o), some (.int yx1), some (.int yx2), some (.int yx3), some (.int yx4), none, none, none, none, none, none] [] [(0, ly_M, (o, ad, yS.1, yS.2.1, yS.2.2))] 0 0) (R190 : Int32 → Int32 → Int32 → Int32 → Int32 → Int32 → Int32 → ms → Prop) (hR190 : ∀ yx1 yx2 yx4 yx5 yx6 yx7 yx8 yS, R190 yx1 yx2 yx4 yx5 yx6 yx7 yx8 yS → aw gG D z A X 11 190 [some (.ref o), some (.int yx1), some (.int yx2), none, some (.int yx4), some (.int yx5), some (.int yx6), some (.int yx7), some (.int yx8), none, none] [] [(0, ly_M, (o, ad, yS.1, yS.2.1, yS.2.2))] 0 0) (hp : b_makeCode_375 x1 x2 x4 x5 x6 x8 s0 S R162 R190 K) : aw gG D z A X 11 375 [some (.ref o), some (.int x1), some (.int x2), none, some (.int x4), some (.int x5), some (.int x6), none, some (.int x8), none, none] [.int s0] [(0, ly_M, (o, ad, S.1, S.2.1, S.2.2))] 0 0 := by
  unfold b_makeCode_375 at hp
  refine a_istore (lo' := [some (.ref o), some (.int x1), some (.int x2), none, some (.int x4), some (.int x5), some (.int x6), some (.int s0), some (.int x8), none, none]) C d_makeCode_375 (by decide) rfl ?_
  refine a_goto (tgt := 190) C d_makeCode_377 (by decide) ?_
  refine aw_lo (lo' := [some (.ref o), some (.int x1), some (.int x2), none, some (.int x4), some (.int x5), some (.int x6), some (.int s0), some (.int x8), none, none]) ⟨.inr rfl, .inr rfl, .inr rfl, .inr rfl, .inr rfl, .inr rfl, .inr rfl, .inr rfl, .inr rfl, .inr rfl, .inr rfl, trivial⟩ ?_
  exact hR190 x1 x2 x4 x5 x6 s0 x8 S hp
set_option maxRecDepth 100000 in
set_option maxHeartbeats 1000000 in
theorem s_makeCode_359 (C : fcx gG D z A X R_M c_M_makeCode 11 (none)) (hQ : X.2.2.2.2.2.2.2.2.2.2 = eQ gG D z X.2.2.2.2.2.2.2.1 X.2.2.2.2.1 L0 0 0 (pM_v K o ad)) (hA : A = owA gG L0 X.2.2.2.2.1.heap.size) (hR : X.2.2.2.1 = { frames := 1, cells := 1, slots := 6, locals := 100 }) (x1 : Int32) (x2 : Int32) (x4 : Int32) (x5 : Int32) (x7 : Int32) (x8 : Int32) (x10 : Int32) (s0 : Int32) (S : ms) (R162 : Int32 → Int32 → Int32 → Int32 → ms → Prop) (hR162 : ∀ yx1 yx2 yx3 yx4 yS, R162 yx1 yx2 yx3 yx4 yS → aw gG D z A X 11 162 [some (.ref o), some (.int yx1), some (.int yx2), some (.int yx3), some (.int yx4), none, none, none, none, none, none] [] [(0, ly_M, (o, ad, yS.1, yS.2.1, yS.2.2))] 0 0) (R190 : Int32 → Int32 → Int32 → Int32 → Int32 → Int32 → Int32 → ms → Prop) (hR190 : ∀ yx1 yx2 yx4 yx5 yx6 yx7 yx8 yS, R190 yx1 yx2 yx4 yx5 yx6 yx7 yx8 yS → aw gG D z A X 11 190 [some (.ref o), some (.int yx1), some (.int yx2), none, some (.int yx4), some (.int yx5), some (.int yx6), some (.int yx7), some (.int yx8), none, none] [] [(0, ly_M, (o, ad, yS.1, yS.2.1, yS.2.2))] 0 0) (hp : b_makeCode_359 x1 x2 x4 x5 x7 x8 x10 s0 S R162 R190 K) : aw gG D z A X 11 359 [some (.ref o), some (.int x1), some (.int x2), none, some (.int x4), some (.int x5), none, some (.int x7), some (.int x8), none, some (.int x10)] [.int s0] [(0, ly_M, (o, ad, S.1, S.2.1, S.2.2))] 0 0 := by
  unfold b_makeCode_359 at hp
  refine a_istore (lo' := [some (.ref o), some (.int x1), some (.int x2), none, some (.int x4), some (.int x5), some (.int s0), some (.int x7), some (.int x8), none, some (.int x10)]) C d_makeCode_359 (by decide) rfl ?_
  refine a_iload C d_makeCode_361 rfl ?_
  refine a_if_eq (tgt := 371) C d_makeCode_363 (by decide) ⟨fun hc => ?_, fun hc => ?_⟩
  · have hp := hp.1 hc
    refine a_iload C d_makeCode_371 rfl ?_
    refine a_iconst (v := 1) C d_makeCode_373 (by decide) ?_
    refine a_iadd C d_makeCode_374 ?_
    refine aw_lo (lo' := [some (.ref o), some (.int x1), some (.int x2), none, some (.int x4), some (.int x5), some (.int s0), none, some (.int x8), none, none]) ⟨.inr rfl, .inr rfl, .inr rfl, .inr rfl, .inr rfl, .inr rfl, .inr rfl, .inl rfl, .inr rfl, .inr rfl, .inl rfl, trivial⟩ ?_
    exact s_makeCode_375 C hQ hA hR x1 x2 x4 x5 s0 x8 (x7 + 1) S R162 hR162 R190 hR190 hp
  · have hp := hp.2 hc
    refine a_iload C d_makeCode_366 rfl ?_
    refine a_goto (tgt := 375) C d_makeCode_368 (by decide) ?_
    refine aw_lo (lo' := [some (.ref o), some (.int x1), some (.int x2), none, some (.int x4), some (.int x5), some (.int s0), none, some (.int x8), none, none]) ⟨.inr rfl, .inr rfl, .inr rfl, .inr rfl, .inr rfl, .inr rfl, .inr rfl, .inl rfl, .inr rfl, .inr rfl, .inl rfl, trivial⟩ ?_
    exact s_makeCode_375 C hQ hA hR x1 x2 x4 x5 s0 x8 x7 S R162 hR162 R190 hR190 hp
set_option maxRecDepth 100000 in
set_option maxHeartbeats 1000000 in
theorem s_makeCode_344 (C : fcx gG D z A X R_M c_M_makeCode 11 (none)) (hQ : X.2.2.2.2.2.2.2.2.2.2 = eQ gG D z X.2.2.2.2.2.2.2.1 X.2.2.2.2.1 L0 0 0 (pM_v K o ad)) (hA : A = owA gG L0 X.2.2.2.2.1.heap.size) (hR : X.2.2.2.1 = { frames := 1, cells := 1, slots := 6, locals := 100 }) (x1 : Int32) (x2 : Int32) (x4 : Int32) (x5 : Int32) (x6 : Int32) (x7 : Int32) (x8 : Int32) (x10 : Int32) (s1 : Int32) (s2 : Int32) (S : ms) (R162 : Int32 → Int32 → Int32 → Int32 → ms → Prop) (hR162 : ∀ yx1 yx2 yx3 yx4 yS, R162 yx1 yx2 yx3 yx4 yS → aw gG D z A X 11 162 [some (.ref o), some (.int yx1), some (.int yx2), some (.int yx3), some (.int yx4), none, none, none, none, none, none] [] [(0, ly_M, (o, ad, yS.1, yS.2.1, yS.2.2))] 0 0) (R190 : Int32 → Int32 → Int32 → Int32 → Int32 → Int32 → Int32 → ms → Prop) (hR190 : ∀ yx1 yx2 yx4 yx5 yx6 yx7 yx8 yS, R190 yx1 yx2 yx4 yx5 yx6 yx7 yx8 yS → aw gG D z A X 11 190 [some (.ref o), some (.int yx1), some (.int yx2), none, some (.int yx4), some (.int yx5), some (.int yx6), some (.int yx7), some (.int yx8), none, none] [] [(0, ly_M, (o, ad, yS.1, yS.2.1, yS.2.2))] 0 0) (hp : b_makeCode_344 x1 x2 x4 x5 x6 x7 x8 x10 s1 s2 S R162 R190 K) : aw gG D z A X 11 344 [some (.ref o), some (.int x1), some (.int x2), none, some (.int x4), some (.int x5), some (.int x6), some (.int x7), some (.int x8), none, some (.int x10)] [.int s2, .int s1, .ref (ad 30)] [(0, ly_M, (o, ad, S.1, S.2.1, S.2.2))] 0 0 := by
  unfold b_makeCode_344 at hp
  refine a_iast C 0 30 d_makeCode_344 rfl rfl rfl hp.1 ?_
  have hp := hp.2
  refine aw_eq (lo' := _) (st' := _) (L' := [(0, ly_M, (o, ad, S.1, va_up S.2.1 30 (upd (S.2.1 30) s1.toNatClampNeg s2), S.2.2))]) rfl rfl rfl ?_
  refine a_iload C d_makeCode_345 rfl ?_
  refine a_if_eq (tgt := 357) C d_makeCode_347 (by decide) ⟨fun hc => ?_, fun hc => ?_⟩
  · have hp := hp.1 hc
    refine a_iload C d_makeCode_357 rfl ?_
    refine aw_lo (lo' := [some (.ref o), some (.int x1), some (.int x2), none, some (.int x4), some (.int x5), none, some (.int x7), some (.int x8), none, some (.int x10)]) ⟨.inr rfl, .inr rfl, .inr rfl, .inr rfl, .inr rfl, .inr rfl, .inl rfl, .inr rfl, .inr rfl, .inr rfl, .inr rfl, trivial⟩ ?_
    exact s_makeCode_359 C hQ hA hR x1 x2 x4 x5 x7 x8 x10 x6 (S.1, va_up S.2.1 30 (upd (S.2.1 30) s1.toNatClampNeg s2), S.2.2) R162 hR162 R190 hR190 hp
  · have hp := hp.2 hc
    refine a_iload C d_makeCode_350 rfl ?_
    refine a_iconst (v := 1) C d_makeCode_352 (by decide) ?_
    refine a_iadd C d_makeCode_353 ?_
    refine a_goto (tgt := 359) C d_makeCode_354 (by decide) ?_
    refine aw_lo (lo' := [some (.ref o), some (.int x1), some (.int x2), none, some (.int x4), some (.int x5), none, some (.int x7), some (.int x8), none, some (.int x10)]) ⟨.inr rfl, .inr rfl, .inr rfl, .inr rfl, .inr rfl, .inr rfl, .inl rfl, .inr rfl, .inr rfl, .inr rfl, .inr rfl, trivial⟩ ?_
    exact s_makeCode_359 C hQ hA hR x1 x2 x4 x5 x7 x8 x10 (x6 + 1) (S.1, va_up S.2.1 30 (upd (S.2.1 30) s1.toNatClampNeg s2), S.2.2) R162 hR162 R190 hR190 hp
set_option maxRecDepth 100000 in
set_option maxHeartbeats 1000000 in
theorem s_makeCode_308 (C : fcx gG D z A X R_M c_M_makeCode 11 (none)) (hQ : X.2.2.2.2.2.2.2.2.2.2 = eQ gG D z X.2.2.2.2.2.2.2.1 X.2.2.2.2.1 L0 0 0 (pM_v K o ad)) (hA : A = owA gG L0 X.2.2.2.2.1.heap.size) (hR : X.2.2.2.1 = { frames := 1, cells := 1, slots := 6, locals := 100 }) (x1 : Int32) (x2 : Int32) (x4 : Int32) (x5 : Int32) (x6 : Int32) (x7 : Int32) (x8 : Int32) (x10 : Int32) (s1 : Int32) (s2 : Int32) (S : ms) (R162 : Int32 → Int32 → Int32 → Int32 → ms → Prop) (hR162 : ∀ yx1 yx2 yx3 yx4 yS, R162 yx1 yx2 yx3 yx4 yS → aw gG D z A X 11 162 [some (.ref o), some (.int yx1), some (.int yx2), some (.int yx3), some (.int yx4), none, none, none, none, none, none] [] [(0, ly_M, (o, ad, yS.1, yS.2.1, yS.2.2))] 0 0) (R190 : Int32 → Int32 → Int32 → Int32 → Int32 → Int32 → Int32 → ms → Prop) (hR190 : ∀ yx1 yx2 yx4 yx5 yx6 yx7 yx8 yS, R190 yx1 yx2 yx4 yx5 yx6 yx7 yx8 yS → aw gG D z A X 11 190 [some (.ref o), some (.int yx1), some (.int yx2), none, some (.int yx4), some (.int yx5), some (.int yx6), some (.int yx7), some (.int yx8), none, none] [] [(0, ly_M, (o, ad, yS.1, yS.2.1, yS.2.2))] 0 0) (hp : b_makeCode_308 x1 x2 x4 x5 x6 x7 x8 x10 s1 s2 S R162 R190 K) : aw gG D z A X 11 308 [some (.ref o), some (.int x1), some (.int x2), none, some (.int x4), some (.int x5), some (.int x6), some (.int x7), some (.int x8), none, some (.int x10)] [.int s2, .int s1, .ref (ad 29)] [(0, ly_M, (o, ad, S.1, S.2.1, S.2.2))] 0 0 := by
  unfold b_makeCode_308 at hp
  refine a_iast C 0 29 d_makeCode_308 rfl rfl rfl hp.1 ?_
  have hp := hp.2
  refine aw_eq (lo' := _) (st' := _) (L' := [(0, ly_M, (o, ad, S.1, va_up S.2.1 29 (upd (S.2.1 29) s1.toNatClampNeg s2), S.2.2))]) rfl rfl rfl ?_
  refine a_aload_n C d_makeCode_309 rfl rfl ?_
  refine a_getR C 0 30 d_makeCode_310 rfl rfl rfl (Nat.le_of_ble_eq_true rfl) f_M_97 ⟨Nat.le_of_ble_eq_true rfl, Nat.le_of_ble_eq_true rfl⟩ ?_
  refine a_sipush (v := 520) C d_makeCode_313 (by decide) ?_
  refine a_iload C d_makeCode_316 rfl ?_
  refine a_imul C d_makeCode_318 ?_
  refine a_iload C d_makeCode_319 rfl ?_
  refine a_iadd C d_makeCode_321 ?_
  refine a_iload C d_makeCode_322 rfl ?_
  refine a_iadd C d_makeCode_324 ?_
  refine a_iload C d_makeCode_325 rfl ?_
  refine a_if_eq (tgt := 340) C d_makeCode_327 (by decide) ⟨fun hc => ?_, fun hc => ?_⟩
  · have hp := hp.1 hc
    refine a_iconst (v := (-1)) C d_makeCode_340 (by decide) ?_
    refine a_iload C d_makeCode_341 rfl ?_
    refine a_isub C d_makeCode_343 ?_
    refine aw_lo (lo' := [some (.ref o), some (.int x1), some (.int x2), none, some (.int x4), some (.int x5), some (.int x6), some (.int x7), some (.int x8), none, some (.int x10)]) ⟨.inr rfl, .inr rfl, .inr rfl, .inr rfl, .inr rfl, .inr rfl, .inr rfl, .inr rfl, .inr rfl, .inr rfl, .inr rfl, trivial⟩ ?_
    exact s_makeCode_344 C hQ hA hR x1 x2 x4 x5 x6 x7 x8 x10 (((520 * x4) + x6) + x7) ((-1) - x7) (S.1, va_up S.2.1 29 (upd (S.2.1 29) s1.toNatClampNeg s2), S.2.2) R162 hR162 R190 hR190 hp
  · have hp := hp.2 hc
    refine a_aload_n C d_makeCode_330 rfl rfl ?_
    refine a_getR C 0 30 d_makeCode_331 rfl rfl rfl (Nat.le_of_ble_eq_true rfl) f_M_97 ⟨Nat.le_of_ble_eq_true rfl, Nat.le_of_ble_eq_true rfl⟩ ?_
    refine a_iload C d_makeCode_334 rfl ?_
    refine a_iald C 0 30 d_makeCode_336 rfl rfl rfl hp.1 ?_
    have hp := hp.2
    refine a_goto (tgt := 344) C d_makeCode_337 (by decide) ?_
    refine aw_lo (lo' := [some (.ref o), some (.int x1), some (.int x2), none, some (.int x4), some (.int x5), some (.int x6), some (.int x7), some (.int x8), none, some (.int x10)]) ⟨.inr rfl, .inr rfl, .inr rfl, .inr rfl, .inr rfl, .inr rfl, .inr rfl, .inr rfl, .inr rfl, .inr rfl, .inr rfl, trivial⟩ ?_
    exact s_makeCode_344 C hQ hA hR x1 x2 x4 x5 x6 x7 x8 x10 (((520 * x4) + x6) + x7) ((va_up S.2.1 29 (upd (S.2.1 29) s1.toNatClampNeg s2)) 30 x6.toNatClampNeg) (S.1, va_up S.2.1 29 (upd (S.2.1 29) s1.toNatClampNeg s2), S.2.2) R162 hR162 R190 hR190 hp
set_option maxRecDepth 100000 in
set_option maxHeartbeats 1000000 in
theorem s_makeCode_273 (C : fcx gG D z A X R_M c_M_makeCode 11 (none)) (hQ : X.2.2.2.2.2.2.2.2.2.2 = eQ gG D z X.2.2.2.2.2.2.2.1 X.2.2.2.2.1 L0 0 0 (pM_v K o ad)) (hA : A = owA gG L0 X.2.2.2.2.1.heap.size) (hR : X.2.2.2.1 = { frames := 1, cells := 1, slots := 6, locals := 100 }) (x1 : Int32) (x2 : Int32) (x4 : Int32) (x5 : Int32) (x6 : Int32) (x7 : Int32) (x8 : Int32) (x9 : Int32) (s0 : Int32) (S : ms) (R162 : Int32 → Int32 → Int32 → Int32 → ms → Prop) (hR162 : ∀ yx1 yx2 yx3 yx4 yS, R162 yx1 yx2 yx3 yx4 yS → aw gG D z A X 11 162 [some (.ref o), some (.int yx1), some (.int yx2), some (.int yx3), some (.int yx4), none, none, none, none, none, none] [] [(0, ly_M, (o, ad, yS.1, yS.2.1, yS.2.2))] 0 0) (R190 : Int32 → Int32 → Int32 → Int32 → Int32 → Int32 → Int32 → ms → Prop) (hR190 : ∀ yx1 yx2 yx4 yx5 yx6 yx7 yx8 yS, R190 yx1 yx2 yx4 yx5 yx6 yx7 yx8 yS → aw gG D z A X 11 190 [some (.ref o), some (.int yx1), some (.int yx2), none, some (.int yx4), some (.int yx5), some (.int yx6), some (.int yx7), some (.int yx8), none, none] [] [(0, ly_M, (o, ad, yS.1, yS.2.1, yS.2.2))] 0 0) (hp : b_makeCode_273 x1 x2 x4 x5 x6 x7 x8 x9 s0 S R162 R190 K) : aw gG D z A X 11 273 [some (.ref o), some (.int x1), some (.int x2), none, some (.int x4), some (.int x5), some (.int x6), some (.int x7), some (.int x8), some (.int x9), none] [.int s0] [(0, ly_M, (o, ad, S.1, S.2.1, S.2.2))] 0 0 := by
  unfold b_makeCode_273 at hp
  refine a_istore (lo' := [some (.ref o), some (.int x1), some (.int x2), none, some (.int x4), some (.int x5), some (.int x6), some (.int x7), some (.int x8), some (.int x9), some (.int s0)]) C d_makeCode_273 (by decide) rfl ?_
  refine a_aload_n C d_makeCode_275 rfl rfl ?_
  refine a_getR C 0 29 d_makeCode_276 rfl rfl rfl (Nat.le_of_ble_eq_true rfl) f_M_94 ⟨Nat.le_of_ble_eq_true rfl, Nat.le_of_ble_eq_true rfl⟩ ?_
  refine a_sipush (v := 520) C d_makeCode_279 (by decide) ?_
  refine a_iload C d_makeCode_282 rfl ?_
  refine a_imul C d_makeCode_284 ?_
  refine a_iload C d_makeCode_285 rfl ?_
  refine a_iadd C d_makeCode_287 ?_
  refine a_iload C d_makeCode_288 rfl ?_
  refine a_iadd C d_makeCode_290 ?_
  refine a_iload C d_makeCode_291 rfl ?_
  refine a_if_eq (tgt := 306) C d_makeCode_293 (by decide) ⟨fun hc => ?_, fun hc => ?_⟩
  · have hp := hp.1 hc
    refine a_iload C d_makeCode_306 rfl ?_
    refine aw_lo (lo' := [some (.ref o), some (.int x1), some (.int x2), none, some (.int x4), some (.int x5), some (.int x6), some (.int x7), some (.int x8), none, some (.int s0)]) ⟨.inr rfl, .inr rfl, .inr rfl, .inr rfl, .inr rfl, .inr rfl, .inr rfl, .inr rfl, .inr rfl, .inl rfl, .inr rfl, trivial⟩ ?_
    exact s_makeCode_308 C hQ hA hR x1 x2 x4 x5 x6 x7 x8 s0 (((520 * x4) + x6) + x7) x9 S R162 hR162 R190 hR190 hp
  · have hp := hp.2 hc
    refine a_aload_n C d_makeCode_296 rfl rfl ?_
    refine a_getR C 0 29 d_makeCode_297 rfl rfl rfl (Nat.le_of_ble_eq_true rfl) f_M_94 ⟨Nat.le_of_ble_eq_true rfl, Nat.le_of_ble_eq_true rfl⟩ ?_
    refine a_iload C d_makeCode_300 rfl ?_
    refine a_iald C 0 29 d_makeCode_302 rfl rfl rfl hp.1 ?_
    have hp := hp.2
    refine a_goto (tgt := 308) C d_makeCode_303 (by decide) ?_
    refine aw_lo (lo' := [some (.ref o), some (.int x1), some (.int x2), none, some (.int x4), some (.int x5), some (.int x6), some (.int x7), some (.int x8), none, some (.int s0)]) ⟨.inr rfl, .inr rfl, .inr rfl, .inr rfl, .inr rfl, .inr rfl, .inr rfl, .inr rfl, .inr rfl, .inl rfl, .inr rfl, trivial⟩ ?_
    exact s_makeCode_308 C hQ hA hR x1 x2 x4 x5 x6 x7 x8 s0 (((520 * x4) + x6) + x7) (S.2.1 29 x6.toNatClampNeg) S R162 hR162 R190 hR190 hp
set_option maxRecDepth 100000 in
set_option maxHeartbeats 1000000 in
theorem s_makeCode_272 (C : fcx gG D z A X R_M c_M_makeCode 11 (none)) (hQ : X.2.2.2.2.2.2.2.2.2.2 = eQ gG D z X.2.2.2.2.2.2.2.1 X.2.2.2.2.1 L0 0 0 (pM_v K o ad)) (hA : A = owA gG L0 X.2.2.2.2.1.heap.size) (hR : X.2.2.2.1 = { frames := 1, cells := 1, slots := 6, locals := 100 }) (x1 : Int32) (x2 : Int32) (x4 : Int32) (x5 : Int32) (x6 : Int32) (x7 : Int32) (x8 : Int32) (x9 : Int32) (S : ms) (R162 : Int32 → Int32 → Int32 → Int32 → ms → Prop) (hR162 : ∀ yx1 yx2 yx3 yx4 yS, R162 yx1 yx2 yx3 yx4 yS → aw gG D z A X 11 162 [some (.ref o), some (.int yx1), some (.int yx2), some (.int yx3), some (.int yx4), none, none, none, none, none, none] [] [(0, ly_M, (o, ad, yS.1, yS.2.1, yS.2.2))] 0 0) (R190 : Int32 → Int32 → Int32 → Int32 → Int32 → Int32 → Int32 → ms → Prop) (hR190 : ∀ yx1 yx2 yx4 yx5 yx6 yx7 yx8 yS, R190 yx1 yx2 yx4 yx5 yx6 yx7 yx8 yS → aw gG D z A X 11 190 [some (.ref o), some (.int yx1), some (.int yx2), none, some (.int yx4), some (.int yx5), some (.int yx6), some (.int yx7), some (.int yx8), none, none] [] [(0, ly_M, (o, ad, yS.1, yS.2.1, yS.2.2))] 0 0) (hp : b_makeCode_272 x1 x2 x4 x5 x6 x7 x8 x9 S R162 R190 K) : aw gG D z A X 11 272 [some (.ref o), some (.int x1), some (.int x2), none, some (.int x4), some (.int x5), some (.int x6), some (.int x7), some (.int x8), some (.int x9), none] [] [(0, ly_M, (o, ad, S.1, S.2.1, S.2.2))] 0 0 := by
  unfold b_makeCode_272 at hp
  refine a_iconst (v := 0) C d_makeCode_272 (by decide) ?_
  refine aw_lo (lo' := [some (.ref o), some (.int x1), some (.int x2), none, some (.int x4), some (.int x5), some (.int x6), some (.int x7), some (.int x8), some (.int x9), none]) ⟨.inr rfl, .inr rfl, .inr rfl, .inr rfl, .inr rfl, .inr rfl, .inr rfl, .inr rfl, .inr rfl, .inr rfl, .inr rfl, trivial⟩ ?_
  exact s_makeCode_273 C hQ hA hR x1 x2 x4 x5 x6 x7 x8 x9 0 S R162 hR162 R190 hR190 hp
set_option maxRecDepth 100000 in
set_option maxHeartbeats 1000000 in
theorem s_makeCode_268 (C : fcx gG D z A X R_M c_M_makeCode 11 (none)) (hQ : X.2.2.2.2.2.2.2.2.2.2 = eQ gG D z X.2.2.2.2.2.2.2.1 X.2.2.2.2.1 L0 0 0 (pM_v K o ad)) (hA : A = owA gG L0 X.2.2.2.2.1.heap.size) (hR : X.2.2.2.1 = { frames := 1, cells := 1, slots := 6, locals := 100 }) (x1 : Int32) (x2 : Int32) (x4 : Int32) (x5 : Int32) (x6 : Int32) (x7 : Int32) (x8 : Int32) (x9 : Int32) (S : ms) (R162 : Int32 → Int32 → Int32 → Int32 → ms → Prop) (hR162 : ∀ yx1 yx2 yx3 yx4 yS, R162 yx1 yx2 yx3 yx4 yS → aw gG D z A X 11 162 [some (.ref o), some (.int yx1), some (.int yx2), some (.int yx3), some (.int yx4), none, none, none, none, none, none] [] [(0, ly_M, (o, ad, yS.1, yS.2.1, yS.2.2))] 0 0) (R190 : Int32 → Int32 → Int32 → Int32 → Int32 → Int32 → Int32 → ms → Prop) (hR190 : ∀ yx1 yx2 yx4 yx5 yx6 yx7 yx8 yS, R190 yx1 yx2 yx4 yx5 yx6 yx7 yx8 yS → aw gG D z A X 11 190 [some (.ref o), some (.int yx1), some (.int yx2), none, some (.int yx4), some (.int yx5), some (.int yx6), some (.int yx7), some (.int yx8), none, none] [] [(0, ly_M, (o, ad, yS.1, yS.2.1, yS.2.2))] 0 0) (hp : b_makeCode_268 x1 x2 x4 x5 x6 x7 x8 x9 S R162 R190 K) : aw gG D z A X 11 268 [some (.ref o), some (.int x1), some (.int x2), none, some (.int x4), some (.int x5), some (.int x6), some (.int x7), some (.int x8), some (.int x9), none] [] [(0, ly_M, (o, ad, S.1, S.2.1, S.2.2))] 0 0 := by
  unfold b_makeCode_268 at hp
  refine a_iconst (v := 1) C d_makeCode_268 (by decide) ?_
  refine a_goto (tgt := 273) C d_makeCode_269 (by decide) ?_
  refine aw_lo (lo' := [some (.ref o), some (.int x1), some (.int x2), none, some (.int x4), some (.int x5), some (.int x6), some (.int x7), some (.int x8), some (.int x9), none]) ⟨.inr rfl, .inr rfl, .inr rfl, .inr rfl, .inr rfl, .inr rfl, .inr rfl, .inr rfl, .inr rfl, .inr rfl, .inr rfl, trivial⟩ ?_
  exact s_makeCode_273 C hQ hA hR x1 x2 x4 x5 x6 x7 x8 x9 1 S R162 hR162 R190 hR190 hp
set_option maxRecDepth 100000 in
set_option maxHeartbeats 1000000 in
theorem s_makeCode_241 (C : fcx gG D z A X R_M c_M_makeCode 11 (none)) (hQ : X.2.2.2.2.2.2.2.2.2.2 = eQ gG D z X.2.2.2.2.2.2.2.1 X.2.2.2.2.1 L0 0 0 (pM_v K o ad)) (hA : A = owA gG L0 X.2.2.2.2.1.heap.size) (hR : X.2.2.2.1 = { frames := 1, cells := 1, slots := 6, locals := 100 }) (x1 : Int32) (x2 : Int32) (x4 : Int32) (x5 : Int32) (x6 : Int32) (x7 : Int32) (x8 : Int32) (s0 : Int32) (S : ms) (R162 : Int32 → Int32 → Int32 → Int32 → ms → Prop) (hR162 : ∀ yx1 yx2 yx3 yx4 yS, R162 yx1 yx2 yx3 yx4 yS → aw gG D z A X 11 162 [some (.ref o), some (.int yx1), some (.int yx2), some (.int yx3), some (.int yx4), none, none, none, none, none, none] [] [(0, ly_M, (o, ad, yS.1, yS.2.1, yS.2.2))] 0 0) (R190 : Int32 → Int32 → Int32 → Int32 → Int32 → Int32 → Int32 → ms → Prop) (hR190 : ∀ yx1 yx2 yx4 yx5 yx6 yx7 yx8 yS, R190 yx1 yx2 yx4 yx5 yx6 yx7 yx8 yS → aw gG D z A X 11 190 [some (.ref o), some (.int yx1), some (.int yx2), none, some (.int yx4), some (.int yx5), some (.int yx6), some (.int yx7), some (.int yx8), none, none] [] [(0, ly_M, (o, ad, yS.1, yS.2.1, yS.2.2))] 0 0) (hp : b_makeCode_241 x1 x2 x4 x5 x6 x7 x8 s0 S R162 R190 K) : aw gG D z A X 11 241 [some (.ref o), some (.int x1), some (.int x2), none, some (.int x4), some (.int x5), some (.int x6), some (.int x7), some (.int x8), none, none] [.int s0] [(0, ly_M, (o, ad, S.1, S.2.1, S.2.2))] 0 0 := by
  unfold b_makeCode_241 at hp
  refine a_istore (lo' := [some (.ref o), some (.int x1), some (.int x2), none, some (.int x4), some (.int x5), some (.int x6), some (.int x7), some (.int x8), some (.int s0), none]) C d_makeCode_241 (by decide) rfl ?_
  refine a_iload C d_makeCode_243 rfl ?_
  refine a_iload C d_makeCode_245 rfl ?_
  refine a_icmp_eq (tgt := 268) C d_makeCode_247 (by decide) ⟨fun hc => ?_, fun hc => ?_⟩
  · have hp := hp.1 hc
    refine aw_lo (lo' := [some (.ref o), some (.int x1), some (.int x2), none, some (.int x4), some (.int x5), some (.int x6), some (.int x7), some (.int x8), some (.int s0), none]) ⟨.inr rfl, .inr rfl, .inr rfl, .inr rfl, .inr rfl, .inr rfl, .inr rfl, .inr rfl, .inr rfl, .inr rfl, .inr rfl, trivial⟩ ?_
    exact s_makeCode_268 C hQ hA hR x1 x2 x4 x5 x6 x7 x8 s0 S R162 hR162 R190 hR190 hp
  · have hp := hp.2 hc
    refine a_iload C d_makeCode_250 rfl ?_
    refine a_iload_n C d_makeCode_252 rfl rfl ?_
    refine a_icmp_ge (tgt := 272) C d_makeCode_253 (by decide) ⟨fun hc => ?_, fun hc => ?_⟩
    · have hp := hp.1 hc
      refine aw_lo (lo' := [some (.ref o), some (.int x1), some (.int x2), none, some (.int x4), some (.int x5), some (.int x6), some (.int x7), some (.int x8), some (.int s0), none]) ⟨.inr rfl, .inr rfl, .inr rfl, .inr rfl, .inr rfl, .inr rfl, .inr rfl, .inr rfl, .inr rfl, .inr rfl, .inr rfl, trivial⟩ ?_
      exact s_makeCode_272 C hQ hA hR x1 x2 x4 x5 x6 x7 x8 s0 S R162 hR162 R190 hR190 hp
    · have hp := hp.2 hc
      refine a_aload_n C d_makeCode_256 rfl rfl ?_
      refine a_getR C 0 29 d_makeCode_257 rfl rfl rfl (Nat.le_of_ble_eq_true rfl) f_M_94 ⟨Nat.le_of_ble_eq_true rfl, Nat.le_of_ble_eq_true rfl⟩ ?_
      refine a_iload C d_makeCode_260 rfl ?_
      refine a_iald C 0 29 d_makeCode_262 rfl rfl rfl hp.1 ?_
      have hp := hp.2
      refine a_iload C d_makeCode_263 rfl ?_
      refine a_icmp_gt (tgt := 272) C d_makeCode_265 (by decide) ⟨fun hc => ?_, fun hc => ?_⟩
      · have hp := hp.1 hc
        refine aw_lo (lo' := [some (.ref o), some (.int x1), some (.int x2), none, some (.int x4), some (.int x5), some (.int x6), some (.int x7), some (.int x8), some (.int s0), none]) ⟨.inr rfl, .inr rfl, .inr rfl, .inr rfl, .inr rfl, .inr rfl, .inr rfl, .inr rfl, .inr rfl, .inr rfl, .inr rfl, trivial⟩ ?_
        exact s_makeCode_272 C hQ hA hR x1 x2 x4 x5 x6 x7 x8 s0 S R162 hR162 R190 hR190 hp
      · have hp := hp.2 hc
        refine aw_lo (lo' := [some (.ref o), some (.int x1), some (.int x2), none, some (.int x4), some (.int x5), some (.int x6), some (.int x7), some (.int x8), some (.int s0), none]) ⟨.inr rfl, .inr rfl, .inr rfl, .inr rfl, .inr rfl, .inr rfl, .inr rfl, .inr rfl, .inr rfl, .inr rfl, .inr rfl, trivial⟩ ?_
        exact s_makeCode_268 C hQ hA hR x1 x2 x4 x5 x6 x7 x8 s0 S R162 hR162 R190 hR190 hp
set_option maxRecDepth 100000 in
set_option maxHeartbeats 1000000 in
theorem s_makeCode_203 (C : fcx gG D z A X R_M c_M_makeCode 11 (none)) (hQ : X.2.2.2.2.2.2.2.2.2.2 = eQ gG D z X.2.2.2.2.2.2.2.1 X.2.2.2.2.1 L0 0 0 (pM_v K o ad)) (hA : A = owA gG L0 X.2.2.2.2.1.heap.size) (hR : X.2.2.2.1 = { frames := 1, cells := 1, slots := 6, locals := 100 }) (x1 : Int32) (x2 : Int32) (x4 : Int32) (x5 : Int32) (x6 : Int32) (x7 : Int32) (x8 : Int32) (S : ms) (R162 : Int32 → Int32 → Int32 → Int32 → ms → Prop) (hR162 : ∀ yx1 yx2 yx3 yx4 yS, R162 yx1 yx2 yx3 yx4 yS → aw gG D z A X 11 162 [some (.ref o), some (.int yx1), some (.int yx2), some (.int yx3), some (.int yx4), none, none, none, none, none, none] [] [(0, ly_M, (o, ad, yS.1, yS.2.1, yS.2.2))] 0 0) (R190 : Int32 → Int32 → Int32 → Int32 → Int32 → Int32 → Int32 → ms → Prop) (hR190 : ∀ yx1 yx2 yx4 yx5 yx6 yx7 yx8 yS, R190 yx1 yx2 yx4 yx5 yx6 yx7 yx8 yS → aw gG D z A X 11 190 [some (.ref o), some (.int yx1), some (.int yx2), none, some (.int yx4), some (.int yx5), some (.int yx6), some (.int yx7), some (.int yx8), none, none] [] [(0, ly_M, (o, ad, yS.1, yS.2.1, yS.2.2))] 0 0) (hp : b_makeCode_203 x1 x2 x4 x5 x6 x7 x8 S R162 R190 K) : aw gG D z A X 11 203 [some (.ref o), some (.int x1), some (.int x2), none, some (.int x4), some (.int x5), some (.int x6), some (.int x7), some (.int x8), none, none] [] [(0, ly_M, (o, ad, S.1, S.2.1, S.2.2))] 0 0 := by
  unfold b_makeCode_203 at hp
  refine a_iload C d_makeCode_203 rfl ?_
  refine a_iload C d_makeCode_205 rfl ?_
  refine a_icmp_ge (tgt := 240) C d_makeCode_207 (by decide) ⟨fun hc => ?_, fun hc => ?_⟩
  · have hp := hp.1 hc
    refine a_iconst (v := 0) C d_makeCode_240 (by decide) ?_
    refine aw_lo (lo' := [some (.ref o), some (.int x1), some (.int x2), none, some (.int x4), some (.int x5), some (.int x6), some (.int x7), some (.int x8), none, none]) ⟨.inr rfl, .inr rfl, .inr rfl, .inr rfl, .inr rfl, .inr rfl, .inr rfl, .inr rfl, .inr rfl, .inr rfl, .inr rfl, trivial⟩ ?_
    exact s_makeCode_241 C hQ hA hR x1 x2 x4 x5 x6 x7 x8 0 S R162 hR162 R190 hR190 hp
  · have hp := hp.2 hc
    refine a_aload_n C d_makeCode_210 rfl rfl ?_
    refine a_getR C 0 29 d_makeCode_211 rfl rfl rfl (Nat.le_of_ble_eq_true rfl) f_M_94 ⟨Nat.le_of_ble_eq_true rfl, Nat.le_of_ble_eq_true rfl⟩ ?_
    refine a_iload C d_makeCode_214 rfl ?_
    refine a_iconst (v := 2) C d_makeCode_216 (by decide) ?_
    refine a_iload C d_makeCode_217 rfl ?_
    refine a_imul C d_makeCode_219 ?_
    refine a_iadd C d_makeCode_220 ?_
    refine a_iald C 0 29 d_makeCode_221 rfl rfl rfl hp.1 ?_
    have hp := hp.2
    refine a_aload_n C d_makeCode_222 rfl rfl ?_
    refine a_getR C 0 29 d_makeCode_223 rfl rfl rfl (Nat.le_of_ble_eq_true rfl) f_M_94 ⟨Nat.le_of_ble_eq_true rfl, Nat.le_of_ble_eq_true rfl⟩ ?_
    refine a_iload C d_makeCode_226 rfl ?_
    refine a_iconst (v := 2) C d_makeCode_228 (by decide) ?_
    refine a_iload C d_makeCode_229 rfl ?_
    refine a_imul C d_makeCode_231 ?_
    refine a_iadd C d_makeCode_232 ?_
    refine a_iconst (v := 1) C d_makeCode_233 (by decide) ?_
    refine a_iadd C d_makeCode_234 ?_
    refine a_iald C 0 29 d_makeCode_235 rfl rfl rfl hp.1 ?_
    have hp := hp.2
    refine a_iadd C d_makeCode_236 ?_
    refine a_goto (tgt := 241) C d_makeCode_237 (by decide) ?_
    refine aw_lo (lo' := [some (.ref o), some (.int x1), some (.int x2), none, some (.int x4), some (.int x5), some (.int x6), some (.int x7), some (.int x8), none, none]) ⟨.inr rfl, .inr rfl, .inr rfl, .inr rfl, .inr rfl, .inr rfl, .inr rfl, .inr rfl, .inr rfl, .inr rfl, .inr rfl, trivial⟩ ?_
    exact s_makeCode_241 C hQ hA hR x1 x2 x4 x5 x6 x7 x8 ((S.2.1 29 (x8 + (2 * x7)).toNatClampNeg) + (S.2.1 29 ((x8 + (2 * x7)) + 1).toNatClampNeg)) S R162 hR162 R190 hR190 hp
set_option maxRecDepth 100000 in
set_option maxHeartbeats 1000000 in
theorem s_makeCode_190 (C : fcx gG D z A X R_M c_M_makeCode 11 (none)) (hQ : X.2.2.2.2.2.2.2.2.2.2 = eQ gG D z X.2.2.2.2.2.2.2.1 X.2.2.2.2.1 L0 0 0 (pM_v K o ad)) (hA : A = owA gG L0 X.2.2.2.2.1.heap.size) (hR : X.2.2.2.1 = { frames := 1, cells := 1, slots := 6, locals := 100 }) (x1 : Int32) (x2 : Int32) (x4 : Int32) (x5 : Int32) (x6 : Int32) (x7 : Int32) (x8 : Int32) (S : ms) (R162 : Int32 → Int32 → Int32 → Int32 → ms → Prop) (hR162 : ∀ yx1 yx2 yx3 yx4 yS, R162 yx1 yx2 yx3 yx4 yS → aw gG D z A X 11 162 [some (.ref o), some (.int yx1), some (.int yx2), some (.int yx3), some (.int yx4), none, none, none, none, none, none] [] [(0, ly_M, (o, ad, yS.1, yS.2.1, yS.2.2))] 0 0) (R190 : Int32 → Int32 → Int32 → Int32 → Int32 → Int32 → Int32 → ms → Prop) (hR190 : ∀ yx1 yx2 yx4 yx5 yx6 yx7 yx8 yS, R190 yx1 yx2 yx4 yx5 yx6 yx7 yx8 yS → aw gG D z A X 11 190 [some (.ref o), some (.int yx1), some (.int yx2), none, some (.int yx4), some (.int yx5), some (.int yx6), some (.int yx7), some (.int yx8), none, none] [] [(0, ly_M, (o, ad, yS.1, yS.2.1, yS.2.2))] 0 0) (hp : b_makeCode_190 x1 x2 x4 x5 x6 x7 x8 S R162 R190 K) : aw gG D z A X 11 190 [some (.ref o), some (.int x1), some (.int x2), none, some (.int x4), some (.int x5), some (.int x6), some (.int x7), some (.int x8), none, none] [] [(0, ly_M, (o, ad, S.1, S.2.1, S.2.2))] 0 0 := by
  unfold b_makeCode_190 at hp
  refine a_iload C d_makeCode_190 rfl ?_
  refine a_iload_n C d_makeCode_192 rfl rfl ?_
  refine a_icmp_lt (tgt := 203) C d_makeCode_193 (by decide) ⟨fun hc => ?_, fun hc => ?_⟩
  · have hp := hp.1 hc
    refine aw_lo (lo' := [some (.ref o), some (.int x1), some (.int x2), none, some (.int x4), some (.int x5), some (.int x6), some (.int x7), some (.int x8), none, none]) ⟨.inr rfl, .inr rfl, .inr rfl, .inr rfl, .inr rfl, .inr rfl, .inr rfl, .inr rfl, .inr rfl, .inr rfl, .inr rfl, trivial⟩ ?_
    exact s_makeCode_203 C hQ hA hR x1 x2 x4 x5 x6 x7 x8 S R162 hR162 R190 hR190 hp
  · have hp := hp.2 hc
    refine a_iload C d_makeCode_196 rfl ?_
    refine a_iload C d_makeCode_198 rfl ?_
    refine a_icmp_ge (tgt := 380) C d_makeCode_200 (by decide) ⟨fun hc => ?_, fun hc => ?_⟩
    · have hp := hp.1 hc
      refine a_iload_n C d_makeCode_380 rfl rfl ?_
      refine a_iload C d_makeCode_381 rfl ?_
      refine a_iadd C d_makeCode_383 ?_
      refine a_istore_n (lo' := [some (.ref o), some (.int x1), some (.int x2), some (.int (x2 + x5)), some (.int x4), some (.int x5), some (.int x6), some (.int x7), some (.int x8), none, none]) C d_makeCode_384 rfl (by decide) rfl ?_
      refine a_iinc (v := x4 + 1) (lo' := [some (.ref o), some (.int x1), some (.int x2), some (.int (x2 + x5)), some (.int (x4 + 1)), some (.int x5), some (.int x6), some (.int x7), some (.int x8), none, none]) C d_makeCode_385 rfl rfl (by decide) rfl ?_
      refine a_goto (tgt := 162) C d_makeCode_388 (by decide) ?_
      refine aw_lo (lo' := [some (.ref o), some (.int x1), some (.int x2), some (.int (x2 + x5)), some (.int (x4 + 1)), none, none, none, none, none, none]) ⟨.inr rfl, .inr rfl, .inr rfl, .inr rfl, .inr rfl, .inl rfl, .inl rfl, .inl rfl, .inl rfl, .inr rfl, .inr rfl, trivial⟩ ?_
      exact hR162 x1 x2 (x2 + x5) (x4 + 1) S hp
    · have hp := hp.2 hc
      refine aw_lo (lo' := [some (.ref o), some (.int x1), some (.int x2), none, some (.int x4), some (.int x5), some (.int x6), some (.int x7), some (.int x8), none, none]) ⟨.inr rfl, .inr rfl, .inr rfl, .inr rfl, .inr rfl, .inr rfl, .inr rfl, .inr rfl, .inr rfl, .inr rfl, .inr rfl, trivial⟩ ?_
      exact s_makeCode_203 C hQ hA hR x1 x2 x4 x5 x6 x7 x8 S R162 hR162 R190 hR190 hp
set_option maxRecDepth 100000 in
set_option maxHeartbeats 1000000 in
theorem se_makeCode_190 (C : fcx gG D z A X R_M c_M_makeCode 11 (none)) (hQ : X.2.2.2.2.2.2.2.2.2.2 = eQ gG D z X.2.2.2.2.2.2.2.1 X.2.2.2.2.1 L0 0 0 (pM_v K o ad)) (hA : A = owA gG L0 X.2.2.2.2.1.heap.size) (hR : X.2.2.2.1 = { frames := 1, cells := 1, slots := 6, locals := 100 }) (x1 : Int32) (x2 : Int32) (x4 : Int32) (x5 : Int32) (x6 : Int32) (x7 : Int32) (x8 : Int32) (S : ms) (R162 : Int32 → Int32 → Int32 → Int32 → ms → Prop) (hR162 : ∀ yx1 yx2 yx3 yx4 yS, R162 yx1 yx2 yx3 yx4 yS → aw gG D z A X 11 162 [some (.ref o), some (.int yx1), some (.int yx2), some (.int yx3), some (.int yx4), none, none, none, none, none, none] [] [(0, ly_M, (o, ad, yS.1, yS.2.1, yS.2.2))] 0 0) (hp : e_makeCode_190 x1 x2 x4 x5 x6 x7 x8 S R162 K) : aw gG D z A X 11 190 [some (.ref o), some (.int x1), some (.int x2), none, some (.int x4), some (.int x5), some (.int x6), some (.int x7), some (.int x8), none, none] [] [(0, ly_M, (o, ad, S.1, S.2.1, S.2.2))] 0 0 := by
  obtain ⟨I, μ, h0, hs⟩ := hp
  have key : ∀ (n : Nat) (yx1 : Int32) (yx2 : Int32) (yx4 : Int32) (yx5 : Int32) (yx6 : Int32) (yx7 : Int32) (yx8 : Int32) (yS : ms), μ yx1 yx2 yx4 yx5 yx6 yx7 yx8 yS < n → I yx1 yx2 yx4 yx5 yx6 yx7 yx8 yS → aw gG D z A X 11 190 [some (.ref o), some (.int yx1), some (.int yx2), none, some (.int yx4), some (.int yx5), some (.int yx6), some (.int yx7), some (.int yx8), none, none] [] [(0, ly_M, (o, ad, yS.1, yS.2.1, yS.2.2))] 0 0 := by
    intro n
    induction n with
    | zero => intro yx1 yx2 yx4 yx5 yx6 yx7 yx8 yS h; omega
    | succ n ih =>
      intro yx1 yx2 yx4 yx5 yx6 yx7 yx8 yS hn hI
      exact s_makeCode_190 C hQ hA hR yx1 yx2 yx4 yx5 yx6 yx7 yx8 yS R162 hR162 _ (fun zx1 zx2 zx4 zx5 zx6 zx7 zx8 zS hw => ih zx1 zx2 zx4 zx5 zx6 zx7 zx8 zS (by omega) hw.1) (hs yx1 yx2 yx4 yx5 yx6 yx7 yx8 yS hI)
  exact key (μ x1 x2 x4 x5 x6 x7 x8 S + 1) x1 x2 x4 x5 x6 x7 x8 S (Nat.lt_succ_self _) h0
set_option maxRecDepth 100000 in
set_option maxHeartbeats 1000000 in
theorem s_makeCode_162 (C : fcx gG D z A X R_M c_M_makeCode 11 (none)) (hQ : X.2.2.2.2.2.2.2.2.2.2 = eQ gG D z X.2.2.2.2.2.2.2.1 X.2.2.2.2.1 L0 0 0 (pM_v K o ad)) (hA : A = owA gG L0 X.2.2.2.2.1.heap.size) (hR : X.2.2.2.1 = { frames := 1, cells := 1, slots := 6, locals := 100 }) (x1 : Int32) (x2 : Int32) (x3 : Int32) (x4 : Int32) (S : ms) (R162 : Int32 → Int32 → Int32 → Int32 → ms → Prop) (hR162 : ∀ yx1 yx2 yx3 yx4 yS, R162 yx1 yx2 yx3 yx4 yS → aw gG D z A X 11 162 [some (.ref o), some (.int yx1), some (.int yx2), some (.int yx3), some (.int yx4), none, none, none, none, none, none] [] [(0, ly_M, (o, ad, yS.1, yS.2.1, yS.2.2))] 0 0) (hp : b_makeCode_162 x1 x2 x3 x4 S R162 K) : aw gG D z A X 11 162 [some (.ref o), some (.int x1), some (.int x2), some (.int x3), some (.int x4), none, none, none, none, none, none] [] [(0, ly_M, (o, ad, S.1, S.2.1, S.2.2))] 0 0 := by
  unfold b_makeCode_162 at hp
  refine a_iload C d_makeCode_162 rfl ?_
  refine a_bipush (v := 16) C d_makeCode_164 (by decide) ?_
  refine a_icmp_ge (tgt := 391) C d_makeCode_166 (by decide) ⟨fun hc => ?_, fun hc => ?_⟩
  · have hp := hp.1 hc
    refine a_iconst (v := 0) C d_makeCode_391 (by decide) ?_
    refine a_istore (lo' := [some (.ref o), some (.int x1), some (.int x2), some (.int x3), some (.int 0), none, none, none, none, none, none]) C d_makeCode_392 (by decide) rfl ?_
    refine aw_lo (lo' := [some (.ref o), some (.int x1), some (.int x2), none, some (.int 0), none, none, none, none, none, none]) ⟨.inr rfl, .inr rfl, .inr rfl, .inl rfl, .inr rfl, .inr rfl, .inr rfl, .inr rfl, .inr rfl, .inr rfl, .inr rfl, trivial⟩ ?_
    exact se_makeCode_394 C hQ hA hR x1 x2 0 S  hp
  · have hp := hp.2 hc
    refine a_iload_n C d_makeCode_169 rfl rfl ?_
    refine a_iconst (v := 2) C d_makeCode_170 (by decide) ?_
    refine a_idiv C d_makeCode_171 (by decide) ?_
    refine a_istore (lo' := [some (.ref o), some (.int x1), some (.int x2), some (.int x3), some (.int x4), some (.int (x3 / 2)), none, none, none, none, none]) C d_makeCode_172 (by decide) rfl ?_
    refine a_iconst (v := 0) C d_makeCode_174 (by decide) ?_
    refine a_istore (lo' := [some (.ref o), some (.int x1), some (.int x2), some (.int x3), some (.int x4), some (.int (x3 / 2)), some (.int 0), none, none, none, none]) C d_makeCode_175 (by decide) rfl ?_
    refine a_iconst (v := 0) C d_makeCode_177 (by decide) ?_
    refine a_istore (lo' := [some (.ref o), some (.int x1), some (.int x2), some (.int x3), some (.int x4), some (.int (x3 / 2)), some (.int 0), some (.int 0), none, none, none]) C d_makeCode_178 (by decide) rfl ?_
    refine a_sipush (v := 520) C d_makeCode_180 (by decide) ?_
    refine a_iload C d_makeCode_183 rfl ?_
    refine a_iconst (v := 1) C d_makeCode_185 (by decide) ?_
    refine a_isub C d_makeCode_186 ?_
    refine a_imul C d_makeCode_187 ?_
    refine a_istore (lo' := [some (.ref o), some (.int x1), some (.int x2), some (.int x3), some (.int x4), some (.int (x3 / 2)), some (.int 0), some (.int 0), some (.int (520 * (x4 - 1))), none, none]) C d_makeCode_188 (by decide) rfl ?_
    refine aw_lo (lo' := [some (.ref o), some (.int x1), some (.int x2), none, some (.int x4), some (.int (x3 / 2)), some (.int 0), some (.int 0), some (.int (520 * (x4 - 1))), none, none]) ⟨.inr rfl, .inr rfl, .inr rfl, .inl rfl, .inr rfl, .inr rfl, .inr rfl, .inr rfl, .inr rfl, .inr rfl, .inr rfl, trivial⟩ ?_
    exact se_makeCode_190 C hQ hA hR x1 x2 x4 (x3 / 2) 0 0 (520 * (x4 - 1)) S R162 hR162 hp
set_option maxRecDepth 100000 in
set_option maxHeartbeats 1000000 in
theorem se_makeCode_162 (C : fcx gG D z A X R_M c_M_makeCode 11 (none)) (hQ : X.2.2.2.2.2.2.2.2.2.2 = eQ gG D z X.2.2.2.2.2.2.2.1 X.2.2.2.2.1 L0 0 0 (pM_v K o ad)) (hA : A = owA gG L0 X.2.2.2.2.1.heap.size) (hR : X.2.2.2.1 = { frames := 1, cells := 1, slots := 6, locals := 100 }) (x1 : Int32) (x2 : Int32) (x3 : Int32) (x4 : Int32) (S : ms) (hp : e_makeCode_162 x1 x2 x3 x4 S K) : aw gG D z A X 11 162 [some (.ref o), some (.int x1), some (.int x2), some (.int x3), some (.int x4), none, none, none, none, none, none] [] [(0, ly_M, (o, ad, S.1, S.2.1, S.2.2))] 0 0 := by
  obtain ⟨I, μ, h0, hs⟩ := hp
  have key : ∀ (n : Nat) (yx1 : Int32) (yx2 : Int32) (yx3 : Int32) (yx4 : Int32) (yS : ms), μ yx1 yx2 yx3 yx4 yS < n → I yx1 yx2 yx3 yx4 yS → aw gG D z A X 11 162 [some (.ref o), some (.int yx1), some (.int yx2), some (.int yx3), some (.int yx4), none, none, none, none, none, none] [] [(0, ly_M, (o, ad, yS.1, yS.2.1, yS.2.2))] 0 0 := by
    intro n
    induction n with
    | zero => intro yx1 yx2 yx3 yx4 yS h; omega
    | succ n ih =>
      intro yx1 yx2 yx3 yx4 yS hn hI
      exact s_makeCode_162 C hQ hA hR yx1 yx2 yx3 yx4 yS _ (fun zx1 zx2 zx3 zx4 zS hw => ih zx1 zx2 zx3 zx4 zS (by omega) hw.1) (hs yx1 yx2 yx3 yx4 yS hI)
  exact key (μ x1 x2 x3 x4 S + 1) x1 x2 x3 x4 S (Nat.lt_succ_self _) h0
set_option maxRecDepth 100000 in
set_option maxHeartbeats 1000000 in
theorem s_makeCode_151 (C : fcx gG D z A X R_M c_M_makeCode 11 (none)) (hQ : X.2.2.2.2.2.2.2.2.2.2 = eQ gG D z X.2.2.2.2.2.2.2.1 X.2.2.2.2.1 L0 0 0 (pM_v K o ad)) (hA : A = owA gG L0 X.2.2.2.2.1.heap.size) (hR : X.2.2.2.1 = { frames := 1, cells := 1, slots := 6, locals := 100 }) (x1 : Int32) (x2 : Int32) (x3 : Int32) (S : ms) (R4 : Int32 → Int32 → Int32 → ms → Prop) (hR4 : ∀ yx1 yx2 yx3 yS, R4 yx1 yx2 yx3 yS → aw gG D z A X 11 4 [some (.ref o), some (.int yx1), some (.int yx2), some (.int yx3), none, none, none, none, none, none, none] [] [(0, ly_M, (o, ad, yS.1, yS.2.1, yS.2.2))] 0 0) (hp : b_makeCode_151 x1 x2 x3 S R4 K) : aw gG D z A X 11 151 [some (.ref o), some (.int x1), some (.int x2), some (.int x3), none, none, none, none, none, none, none] [] [(0, ly_M, (o, ad, S.1, S.2.1, S.2.2))] 0 0 := by
  unfold b_makeCode_151 at hp
  refine a_iinc (v := x3 + 1) (lo' := [some (.ref o), some (.int x1), some (.int x2), some (.int (x3 + 1)), none, none, none, none, none, none, none]) C d_makeCode_151 rfl rfl (by decide) rfl ?_
  refine a_goto (tgt := 4) C d_makeCode_154 (by decide) ?_
  refine aw_lo (lo' := [some (.ref o), some (.int x1), some (.int x2), some (.int (x3 + 1)), none, none, none, none, none, none, none]) ⟨.inr rfl, .inr rfl, .inr rfl, .inr rfl, .inr rfl, .inr rfl, .inr rfl, .inr rfl, .inr rfl, .inr rfl, .inr rfl, trivial⟩ ?_
  exact hR4 x1 x2 (x3 + 1) S hp
set_option maxRecDepth 100000 in
set_option maxHeartbeats 1000000 in
theorem s_makeCode_131 (C : fcx gG D z A X R_M c_M_makeCode 11 (none)) (hQ : X.2.2.2.2.2.2.2.2.2.2 = eQ gG D z X.2.2.2.2.2.2.2.1 X.2.2.2.2.1 L0 0 0 (pM_v K o ad)) (hA : A = owA gG L0 X.2.2.2.2.1.heap.size) (hR : X.2.2.2.1 = { frames := 1, cells := 1, slots := 6, locals := 100 }) (x1 : Int32) (x2 : Int32) (x3 : Int32) (x4 : Int32) (x5 : Int32) (S : ms) (R4 : Int32 → Int32 → Int32 → ms → Prop) (hR4 : ∀ yx1 yx2 yx3 yS, R4 yx1 yx2 yx3 yS → aw gG D z A X 11 4 [some (.ref o), some (.int yx1), some (.int yx2), some (.int yx3), none, none, none, none, none, none, none] [] [(0, ly_M, (o, ad, yS.1, yS.2.1, yS.2.2))] 0 0) (hp : b_makeCode_131 x1 x2 x3 x4 x5 S R4 K) : aw gG D z A X 11 131 [some (.ref o), some (.int x1), some (.int x2), some (.int x3), some (.int x4), some (.int x5), none, none, none, none, none] [] [(0, ly_M, (o, ad, S.1, S.2.1, S.2.2))] 0 0 := by
  unfold b_makeCode_131 at hp
  refine a_aload_n C d_makeCode_131 rfl rfl ?_
  refine a_getR C 0 29 d_makeCode_132 rfl rfl rfl (Nat.le_of_ble_eq_true rfl) f_M_94 ⟨Nat.le_of_ble_eq_true rfl, Nat.le_of_ble_eq_true rfl⟩ ?_
  refine a_iload C d_makeCode_135 rfl ?_
  refine a_iload C d_makeCode_137 rfl ?_
  refine a_iast C 0 29 d_makeCode_139 rfl rfl rfl hp.1 ?_
  have hp := hp.2
  refine aw_eq (lo' := _) (st' := _) (L' := [(0, ly_M, (o, ad, S.1, va_up S.2.1 29 (upd (S.2.1 29) x4.toNatClampNeg x5), S.2.2))]) rfl rfl rfl ?_
  refine a_aload_n C d_makeCode_140 rfl rfl ?_
  refine a_getR C 0 30 d_makeCode_141 rfl rfl rfl (Nat.le_of_ble_eq_true rfl) f_M_97 ⟨Nat.le_of_ble_eq_true rfl, Nat.le_of_ble_eq_true rfl⟩ ?_
  refine a_iload C d_makeCode_144 rfl ?_
  refine a_iload_n C d_makeCode_146 rfl rfl ?_
  refine a_iast C 0 30 d_makeCode_147 rfl rfl rfl hp.1 ?_
  have hp := hp.2
  refine aw_eq (lo' := _) (st' := _) (L' := [(0, ly_M, (o, ad, S.1, va_up (va_up S.2.1 29 (upd (S.2.1 29) x4.toNatClampNeg x5)) 30 (upd ((va_up S.2.1 29 (upd (S.2.1 29) x4.toNatClampNeg x5)) 30) x4.toNatClampNeg x3), S.2.2))]) rfl rfl rfl ?_
  refine a_iinc (v := x2 + 1) (lo' := [some (.ref o), some (.int x1), some (.int (x2 + 1)), some (.int x3), some (.int x4), some (.int x5), none, none, none, none, none]) C d_makeCode_148 rfl rfl (by decide) rfl ?_
  refine aw_lo (lo' := [some (.ref o), some (.int x1), some (.int (x2 + 1)), some (.int x3), none, none, none, none, none, none, none]) ⟨.inr rfl, .inr rfl, .inr rfl, .inr rfl, .inl rfl, .inl rfl, .inr rfl, .inr rfl, .inr rfl, .inr rfl, .inr rfl, trivial⟩ ?_
  exact s_makeCode_151 C hQ hA hR x1 (x2 + 1) x3 (S.1, va_up (va_up S.2.1 29 (upd (S.2.1 29) x4.toNatClampNeg x5)) 30 (upd ((va_up S.2.1 29 (upd (S.2.1 29) x4.toNatClampNeg x5)) 30) x4.toNatClampNeg x3), S.2.2) R4 hR4 hp
set_option maxRecDepth 100000 in
set_option maxHeartbeats 1000000 in
theorem s_makeCode_74 (C : fcx gG D z A X R_M c_M_makeCode 11 (none)) (hQ : X.2.2.2.2.2.2.2.2.2.2 = eQ gG D z X.2.2.2.2.2.2.2.1 X.2.2.2.2.1 L0 0 0 (pM_v K o ad)) (hA : A = owA gG L0 X.2.2.2.2.1.heap.size) (hR : X.2.2.2.1 = { frames := 1, cells := 1, slots := 6, locals := 100 }) (x1 : Int32) (x2 : Int32) (x3 : Int32) (x4 : Int32) (x5 : Int32) (S : ms) (R4 : Int32 → Int32 → Int32 → ms → Prop) (hR4 : ∀ yx1 yx2 yx3 yS, R4 yx1 yx2 yx3 yS → aw gG D z A X 11 4 [some (.ref o), some (.int yx1), some (.int yx2), some (.int yx3), none, none, none, none, none, none, none] [] [(0, ly_M, (o, ad, yS.1, yS.2.1, yS.2.2))] 0 0) (R74 : Int32 → Int32 → Int32 → Int32 → Int32 → ms → Prop) (hR74 : ∀ yx1 yx2 yx3 yx4 yx5 yS, R74 yx1 yx2 yx3 yx4 yx5 yS → aw gG D z A X 11 74 [some (.ref o), some (.int yx1), some (.int yx2), some (.int yx3), some (.int yx4), some (.int yx5), none, none, none, none, none] [] [(0, ly_M, (o, ad, yS.1, yS.2.1, yS.2.2))] 0 0) (hp : b_makeCode_74 x1 x2 x3 x4 x5 S R4 R74 K) : aw gG D z A X 11 74 [some (.ref o), some (.int x1), some (.int x2), some (.int x3), some (.int x4), some (.int x5), none, none, none, none, none] [] [(0, ly_M, (o, ad, S.1, S.2.1, S.2.2))] 0 0 := by
  unfold b_makeCode_74 at hp
  refine a_iload C d_makeCode_74 rfl ?_
  refine a_if_le (tgt := 131) C d_makeCode_76 (by decide) ⟨fun hc => ?_, fun hc => ?_⟩
  · have hp := hp.1 hc
    refine aw_lo (lo' := [some (.ref o), some (.int x1), some (.int x2), some (.int x3), some (.int x4), some (.int x5), none, none, none, none, none]) ⟨.inr rfl, .inr rfl, .inr rfl, .inr rfl, .inr rfl, .inr rfl, .inr rfl, .inr rfl, .inr rfl, .inr rfl, .inr rfl, trivial⟩ ?_
    exact s_makeCode_131 C hQ hA hR x1 x2 x3 x4 x5 S R4 hR4 hp
  · have hp := hp.2 hc
    refine a_aload_n C d_makeCode_79 rfl rfl ?_
    refine a_getR C 0 29 d_makeCode_80 rfl rfl rfl (Nat.le_of_ble_eq_true rfl) f_M_94 ⟨Nat.le_of_ble_eq_true rfl, Nat.le_of_ble_eq_true rfl⟩ ?_
    refine a_iload C d_makeCode_83 rfl ?_
    refine a_iconst (v := 1) C d_makeCode_85 (by decide) ?_
    refine a_isub C d_makeCode_86 ?_
    refine a_iald C 0 29 d_makeCode_87 rfl rfl rfl hp.1 ?_
    have hp := hp.2
    refine a_iload C d_makeCode_88 rfl ?_
    refine a_icmp_le (tgt := 131) C d_makeCode_90 (by decide) ⟨fun hc => ?_, fun hc => ?_⟩
    · have hp := hp.1 hc
      refine aw_lo (lo' := [some (.ref o), some (.int x1), some (.int x2), some (.int x3), some (.int x4), some (.int x5), none, none, none, none, none]) ⟨.inr rfl, .inr rfl, .inr rfl, .inr rfl, .inr rfl, .inr rfl, .inr rfl, .inr rfl, .inr rfl, .inr rfl, .inr rfl, trivial⟩ ?_
      exact s_makeCode_131 C hQ hA hR x1 x2 x3 x4 x5 S R4 hR4 hp
    · have hp := hp.2 hc
      refine a_aload_n C d_makeCode_93 rfl rfl ?_
      refine a_getR C 0 29 d_makeCode_94 rfl rfl rfl (Nat.le_of_ble_eq_true rfl) f_M_94 ⟨Nat.le_of_ble_eq_true rfl, Nat.le_of_ble_eq_true rfl⟩ ?_
      refine a_iload C d_makeCode_97 rfl ?_
      refine a_aload_n C d_makeCode_99 rfl rfl ?_
      refine a_getR C 0 29 d_makeCode_100 rfl rfl rfl (Nat.le_of_ble_eq_true rfl) f_M_94 ⟨Nat.le_of_ble_eq_true rfl, Nat.le_of_ble_eq_true rfl⟩ ?_
      refine a_iload C d_makeCode_103 rfl ?_
      refine a_iconst (v := 1) C d_makeCode_105 (by decide) ?_
      refine a_isub C d_makeCode_106 ?_
      refine a_iald C 0 29 d_makeCode_107 rfl rfl rfl hp.1 ?_
      have hp := hp.2
      refine a_iast C 0 29 d_makeCode_108 rfl rfl rfl hp.1 ?_
      have hp := hp.2
      refine aw_eq (lo' := _) (st' := _) (L' := [(0, ly_M, (o, ad, S.1, va_up S.2.1 29 (upd (S.2.1 29) x4.toNatClampNeg (S.2.1 29 (x4 - 1).toNatClampNeg)), S.2.2))]) rfl rfl rfl ?_
      refine a_aload_n C d_makeCode_109 rfl rfl ?_
      refine a_getR C 0 30 d_makeCode_110 rfl rfl rfl (Nat.le_of_ble_eq_true rfl) f_M_97 ⟨Nat.le_of_ble_eq_true rfl, Nat.le_of_ble_eq_true rfl⟩ ?_
      refine a_iload C d_makeCode_113 rfl ?_
      refine a_aload_n C d_makeCode_115 rfl rfl ?_
      refine a_getR C 0 30 d_makeCode_116 rfl rfl rfl (Nat.le_of_ble_eq_true rfl) f_M_97 ⟨Nat.le_of_ble_eq_true rfl, Nat.le_of_ble_eq_true rfl⟩ ?_
      refine a_iload C d_makeCode_119 rfl ?_
      refine a_iconst (v := 1) C d_makeCode_121 (by decide) ?_
      refine a_isub C d_makeCode_122 ?_
      refine a_iald C 0 30 d_makeCode_123 rfl rfl rfl hp.1 ?_
      have hp := hp.2
      refine a_iast C 0 30 d_makeCode_124 rfl rfl rfl hp.1 ?_
      have hp := hp.2
      refine aw_eq (lo' := _) (st' := _) (L' := [(0, ly_M, (o, ad, S.1, va_up (va_up S.2.1 29 (upd (S.2.1 29) x4.toNatClampNeg (S.2.1 29 (x4 - 1).toNatClampNeg))) 30 (upd ((va_up S.2.1 29 (upd (S.2.1 29) x4.toNatClampNeg (S.2.1 29 (x4 - 1).toNatClampNeg))) 30) x4.toNatClampNeg ((va_up S.2.1 29 (upd (S.2.1 29) x4.toNatClampNeg (S.2.1 29 (x4 - 1).toNatClampNeg))) 30 (x4 - 1).toNatClampNeg)), S.2.2))]) rfl rfl rfl ?_
      refine a_iinc (v := x4 + (-1)) (lo' := [some (.ref o), some (.int x1), some (.int x2), some (.int x3), some (.int (x4 + (-1))), some (.int x5), none, none, none, none, none]) C d_makeCode_125 rfl rfl (by decide) rfl ?_
      refine a_goto (tgt := 74) C d_makeCode_128 (by decide) ?_
      refine aw_lo (lo' := [some (.ref o), some (.int x1), some (.int x2), some (.int x3), some (.int (x4 + (-1))), some (.int x5), none, none, none, none, none]) ⟨.inr rfl, .inr rfl, .inr rfl, .inr rfl, .inr rfl, .inr rfl, .inr rfl, .inr rfl, .inr rfl, .inr rfl, .inr rfl, trivial⟩ ?_
      exact hR74 x1 x2 x3 (x4 + (-1)) x5 (S.1, va_up (va_up S.2.1 29 (upd (S.2.1 29) x4.toNatClampNeg (S.2.1 29 (x4 - 1).toNatClampNeg))) 30 (upd ((va_up S.2.1 29 (upd (S.2.1 29) x4.toNatClampNeg (S.2.1 29 (x4 - 1).toNatClampNeg))) 30) x4.toNatClampNeg ((va_up S.2.1 29 (upd (S.2.1 29) x4.toNatClampNeg (S.2.1 29 (x4 - 1).toNatClampNeg))) 30 (x4 - 1).toNatClampNeg)), S.2.2) hp
set_option maxRecDepth 100000 in
set_option maxHeartbeats 1000000 in
theorem se_makeCode_74 (C : fcx gG D z A X R_M c_M_makeCode 11 (none)) (hQ : X.2.2.2.2.2.2.2.2.2.2 = eQ gG D z X.2.2.2.2.2.2.2.1 X.2.2.2.2.1 L0 0 0 (pM_v K o ad)) (hA : A = owA gG L0 X.2.2.2.2.1.heap.size) (hR : X.2.2.2.1 = { frames := 1, cells := 1, slots := 6, locals := 100 }) (x1 : Int32) (x2 : Int32) (x3 : Int32) (x4 : Int32) (x5 : Int32) (S : ms) (R4 : Int32 → Int32 → Int32 → ms → Prop) (hR4 : ∀ yx1 yx2 yx3 yS, R4 yx1 yx2 yx3 yS → aw gG D z A X 11 4 [some (.ref o), some (.int yx1), some (.int yx2), some (.int yx3), none, none, none, none, none, none, none] [] [(0, ly_M, (o, ad, yS.1, yS.2.1, yS.2.2))] 0 0) (hp : e_makeCode_74 x1 x2 x3 x4 x5 S R4 K) : aw gG D z A X 11 74 [some (.ref o), some (.int x1), some (.int x2), some (.int x3), some (.int x4), some (.int x5), none, none, none, none, none] [] [(0, ly_M, (o, ad, S.1, S.2.1, S.2.2))] 0 0 := by
  obtain ⟨I, μ, h0, hs⟩ := hp
  have key : ∀ (n : Nat) (yx1 : Int32) (yx2 : Int32) (yx3 : Int32) (yx4 : Int32) (yx5 : Int32) (yS : ms), μ yx1 yx2 yx3 yx4 yx5 yS < n → I yx1 yx2 yx3 yx4 yx5 yS → aw gG D z A X 11 74 [some (.ref o), some (.int yx1), some (.int yx2), some (.int yx3), some (.int yx4), some (.int yx5), none, none, none, none, none] [] [(0, ly_M, (o, ad, yS.1, yS.2.1, yS.2.2))] 0 0 := by
    intro n
    induction n with
    | zero => intro yx1 yx2 yx3 yx4 yx5 yS h; omega
    | succ n ih =>
      intro yx1 yx2 yx3 yx4 yx5 yS hn hI
      exact s_makeCode_74 C hQ hA hR yx1 yx2 yx3 yx4 yx5 yS R4 hR4 _ (fun zx1 zx2 zx3 zx4 zx5 zS hw => ih zx1 zx2 zx3 zx4 zx5 zS (by omega) hw.1) (hs yx1 yx2 yx3 yx4 yx5 yS hI)
  exact key (μ x1 x2 x3 x4 x5 S + 1) x1 x2 x3 x4 x5 S (Nat.lt_succ_self _) h0
set_option maxRecDepth 100000 in
set_option maxHeartbeats 1000000 in
theorem s_makeCode_72 (C : fcx gG D z A X R_M c_M_makeCode 11 (none)) (hQ : X.2.2.2.2.2.2.2.2.2.2 = eQ gG D z X.2.2.2.2.2.2.2.1 X.2.2.2.2.1 L0 0 0 (pM_v K o ad)) (hA : A = owA gG L0 X.2.2.2.2.1.heap.size) (hR : X.2.2.2.1 = { frames := 1, cells := 1, slots := 6, locals := 100 }) (x1 : Int32) (x2 : Int32) (x3 : Int32) (x4 : Int32) (s0 : Int32) (S : ms) (R4 : Int32 → Int32 → Int32 → ms → Prop) (hR4 : ∀ yx1 yx2 yx3 yS, R4 yx1 yx2 yx3 yS → aw gG D z A X 11 4 [some (.ref o), some (.int yx1), some (.int yx2), some (.int yx3), none, none, none, none, none, none, none] [] [(0, ly_M, (o, ad, yS.1, yS.2.1, yS.2.2))] 0 0) (hp : b_makeCode_72 x1 x2 x3 x4 s0 S R4 K) : aw gG D z A X 11 72 [some (.ref o), some (.int x1), some (.int x2), some (.int x3), some (.int x4), none, none, none, none, none, none] [.int s0] [(0, ly_M, (o, ad, S.1, S.2.1, S.2.2))] 0 0 := by
  unfold b_makeCode_72 at hp
  refine a_istore (lo' := [some (.ref o), some (.int x1), some (.int x2), some (.int x3), some (.int x4), some (.int s0), none, none, none, none, none]) C d_makeCode_72 (by decide) rfl ?_
  refine aw_lo (lo' := [some (.ref o), some (.int x1), some (.int x2), some (.int x3), some (.int x4), some (.int s0), none, none, none, none, none]) ⟨.inr rfl, .inr rfl, .inr rfl, .inr rfl, .inr rfl, .inr rfl, .inr rfl, .inr rfl, .inr rfl, .inr rfl, .inr rfl, trivial⟩ ?_
  exact se_makeCode_74 C hQ hA hR x1 x2 x3 x4 s0 S R4 hR4 hp
set_option maxRecDepth 100000 in
set_option maxHeartbeats 1000000 in
theorem s_makeCode_46 (C : fcx gG D z A X R_M c_M_makeCode 11 (none)) (hQ : X.2.2.2.2.2.2.2.2.2.2 = eQ gG D z X.2.2.2.2.2.2.2.1 X.2.2.2.2.1 L0 0 0 (pM_v K o ad)) (hA : A = owA gG L0 X.2.2.2.2.1.heap.size) (hR : X.2.2.2.1 = { frames := 1, cells := 1, slots := 6, locals := 100 }) (x1 : Int32) (x2 : Int32) (x3 : Int32) (S : ms) (R4 : Int32 → Int32 → Int32 → ms → Prop) (hR4 : ∀ yx1 yx2 yx3 yS, R4 yx1 yx2 yx3 yS → aw gG D z A X 11 4 [some (.ref o), some (.int yx1), some (.int yx2), some (.int yx3), none, none, none, none, none, none, none] [] [(0, ly_M, (o, ad, yS.1, yS.2.1, yS.2.2))] 0 0) (hp : b_makeCode_46 x1 x2 x3 S R4 K) : aw gG D z A X 11 46 [some (.ref o), some (.int x1), some (.int x2), some (.int x3), none, none, none, none, none, none, none] [] [(0, ly_M, (o, ad, S.1, S.2.1, S.2.2))] 0 0 := by
  unfold b_makeCode_46 at hp
  refine a_iload_n C d_makeCode_46 rfl rfl ?_
  refine a_istore (lo' := [some (.ref o), some (.int x1), some (.int x2), some (.int x3), some (.int x2), none, none, none, none, none, none]) C d_makeCode_47 (by decide) rfl ?_
  refine a_iload_n C d_makeCode_49 rfl rfl ?_
  refine a_sipush (v := 256) C d_makeCode_50 (by decide) ?_
  refine a_icmp_ne (tgt := 60) C d_makeCode_53 (by decide) ⟨fun hc => ?_, fun hc => ?_⟩
  · have hp := hp.1 hc
    refine a_aload_n C d_makeCode_60 rfl rfl ?_
    refine a_getR C 0 26 d_makeCode_61 rfl rfl rfl (Nat.le_of_ble_eq_true rfl) f_M_85 ⟨Nat.le_of_ble_eq_true rfl, Nat.le_of_ble_eq_true rfl⟩ ?_
    refine a_sipush (v := 257) C d_makeCode_64 (by decide) ?_
    refine a_iload_n C d_makeCode_67 rfl rfl ?_
    refine a_imul C d_makeCode_68 ?_
    refine a_iload_n C d_makeCode_69 rfl rfl ?_
    refine a_iadd C d_makeCode_70 ?_
    refine a_iald C 0 26 d_makeCode_71 rfl rfl rfl hp.1 ?_
    have hp := hp.2
    refine aw_lo (lo' := [some (.ref o), some (.int x1), some (.int x2), some (.int x3), some (.int x2), none, none, none, none, none, none]) ⟨.inr rfl, .inr rfl, .inr rfl, .inr rfl, .inr rfl, .inr rfl, .inr rfl, .inr rfl, .inr rfl, .inr rfl, .inr rfl, trivial⟩ ?_
    exact s_makeCode_72 C hQ hA hR x1 x2 x3 x2 (S.2.1 26 ((257 * x1) + x3).toNatClampNeg) S R4 hR4 hp
  · have hp := hp.2 hc
    refine a_iconst (v := 0) C d_makeCode_56 (by decide) ?_
    refine a_goto (tgt := 72) C d_makeCode_57 (by decide) ?_
    refine aw_lo (lo' := [some (.ref o), some (.int x1), some (.int x2), some (.int x3), some (.int x2), none, none, none, none, none, none]) ⟨.inr rfl, .inr rfl, .inr rfl, .inr rfl, .inr rfl, .inr rfl, .inr rfl, .inr rfl, .inr rfl, .inr rfl, .inr rfl, trivial⟩ ?_
    exact s_makeCode_72 C hQ hA hR x1 x2 x3 x2 0 S R4 hR4 hp
set_option maxRecDepth 100000 in
set_option maxHeartbeats 1000000 in
theorem s_makeCode_4 (C : fcx gG D z A X R_M c_M_makeCode 11 (none)) (hQ : X.2.2.2.2.2.2.2.2.2.2 = eQ gG D z X.2.2.2.2.2.2.2.1 X.2.2.2.2.1 L0 0 0 (pM_v K o ad)) (hA : A = owA gG L0 X.2.2.2.2.1.heap.size) (hR : X.2.2.2.1 = { frames := 1, cells := 1, slots := 6, locals := 100 }) (x1 : Int32) (x2 : Int32) (x3 : Int32) (S : ms) (R4 : Int32 → Int32 → Int32 → ms → Prop) (hR4 : ∀ yx1 yx2 yx3 yS, R4 yx1 yx2 yx3 yS → aw gG D z A X 11 4 [some (.ref o), some (.int yx1), some (.int yx2), some (.int yx3), none, none, none, none, none, none, none] [] [(0, ly_M, (o, ad, yS.1, yS.2.1, yS.2.2))] 0 0) (hp : b_makeCode_4 x1 x2 x3 S R4 K) : aw gG D z A X 11 4 [some (.ref o), some (.int x1), some (.int x2), some (.int x3), none, none, none, none, none, none, none] [] [(0, ly_M, (o, ad, S.1, S.2.1, S.2.2))] 0 0 := by
  unfold b_makeCode_4 at hp
  refine a_iload_n C d_makeCode_4 rfl rfl ?_
  refine a_sipush (v := 256) C d_makeCode_5 (by decide) ?_
  refine a_icmp_gt (tgt := 157) C d_makeCode_8 (by decide) ⟨fun hc => ?_, fun hc => ?_⟩
  · have hp := hp.1 hc
    refine a_iload_n C d_makeCode_157 rfl rfl ?_
    refine a_istore_n (lo' := [some (.ref o), some (.int x1), some (.int x2), some (.int x2), none, none, none, none, none, none, none]) C d_makeCode_158 rfl (by decide) rfl ?_
    refine a_iconst (v := 1) C d_makeCode_159 (by decide) ?_
    refine a_istore (lo' := [some (.ref o), some (.int x1), some (.int x2), some (.int x2), some (.int 1), none, none, none, none, none, none]) C d_makeCode_160 (by decide) rfl ?_
    refine aw_lo (lo' := [some (.ref o), some (.int x1), some (.int x2), some (.int x2), some (.int 1), none, none, none, none, none, none]) ⟨.inr rfl, .inr rfl, .inr rfl, .inr rfl, .inr rfl, .inr rfl, .inr rfl, .inr rfl, .inr rfl, .inr rfl, .inr rfl, trivial⟩ ?_
    exact se_makeCode_162 C hQ hA hR x1 x2 x2 1 S  hp
  · have hp := hp.2 hc
    refine a_aload_n C d_makeCode_11 rfl rfl ?_
    refine a_getR C 0 27 d_makeCode_12 rfl rfl rfl (Nat.le_of_ble_eq_true rfl) f_M_88 ⟨Nat.le_of_ble_eq_true rfl, Nat.le_of_ble_eq_true rfl⟩ ?_
    refine a_sipush (v := 257) C d_makeCode_15 (by decide) ?_
    refine a_iload_n C d_makeCode_18 rfl rfl ?_
    refine a_imul C d_makeCode_19 ?_
    refine a_iload_n C d_makeCode_20 rfl rfl ?_
    refine a_iadd C d_makeCode_21 ?_
    refine a_iconst (v := 0) C d_makeCode_22 (by decide) ?_
    refine a_iast C 0 27 d_makeCode_23 rfl rfl rfl hp.1 ?_
    have hp := hp.2
    refine aw_eq (lo' := _) (st' := _) (L' := [(0, ly_M, (o, ad, S.1, va_up S.2.1 27 (upd (S.2.1 27) ((257 * x1) + x3).toNatClampNeg 0), S.2.2))]) rfl rfl rfl ?_
    refine a_iload_n C d_makeCode_24 rfl rfl ?_
    refine a_sipush (v := 256) C d_makeCode_25 (by decide) ?_
    refine a_icmp_eq (tgt := 46) C d_makeCode_28 (by decide) ⟨fun hc => ?_, fun hc => ?_⟩
    · have hp := hp.1 hc
      refine aw_lo (lo' := [some (.ref o), some (.int x1), some (.int x2), some (.int x3), none, none, none, none, none, none, none]) ⟨.inr rfl, .inr rfl, .inr rfl, .inr rfl, .inr rfl, .inr rfl, .inr rfl, .inr rfl, .inr rfl, .inr rfl, .inr rfl, trivial⟩ ?_
      exact s_makeCode_46 C hQ hA hR x1 x2 x3 (S.1, va_up S.2.1 27 (upd (S.2.1 27) ((257 * x1) + x3).toNatClampNeg 0), S.2.2) R4 hR4 hp
    · have hp := hp.2 hc
      refine a_aload_n C d_makeCode_31 rfl rfl ?_
      refine a_getR C 0 26 d_makeCode_32 rfl rfl rfl (Nat.le_of_ble_eq_true rfl) f_M_85 ⟨Nat.le_of_ble_eq_true rfl, Nat.le_of_ble_eq_true rfl⟩ ?_
      refine a_sipush (v := 257) C d_makeCode_35 (by decide) ?_
      refine a_iload_n C d_makeCode_38 rfl rfl ?_
      refine a_imul C d_makeCode_39 ?_
      refine a_iload_n C d_makeCode_40 rfl rfl ?_
      refine a_iadd C d_makeCode_41 ?_
      refine a_iald C 0 26 d_makeCode_42 rfl rfl rfl hp.1 ?_
      have hp := hp.2
      refine a_if_le (tgt := 151) C d_makeCode_43 (by decide) ⟨fun hc => ?_, fun hc => ?_⟩
      · have hp := hp.1 hc
        refine aw_lo (lo' := [some (.ref o), some (.int x1), some (.int x2), some (.int x3), none, none, none, none, none, none, none]) ⟨.inr rfl, .inr rfl, .inr rfl, .inr rfl, .inr rfl, .inr rfl, .inr rfl, .inr rfl, .inr rfl, .inr rfl, .inr rfl, trivial⟩ ?_
        exact s_makeCode_151 C hQ hA hR x1 x2 x3 (S.1, va_up S.2.1 27 (upd (S.2.1 27) ((257 * x1) + x3).toNatClampNeg 0), S.2.2) R4 hR4 hp
      · have hp := hp.2 hc
        refine aw_lo (lo' := [some (.ref o), some (.int x1), some (.int x2), some (.int x3), none, none, none, none, none, none, none]) ⟨.inr rfl, .inr rfl, .inr rfl, .inr rfl, .inr rfl, .inr rfl, .inr rfl, .inr rfl, .inr rfl, .inr rfl, .inr rfl, trivial⟩ ?_
        exact s_makeCode_46 C hQ hA hR x1 x2 x3 (S.1, va_up S.2.1 27 (upd (S.2.1 27) ((257 * x1) + x3).toNatClampNeg 0), S.2.2) R4 hR4 hp
set_option maxRecDepth 100000 in
set_option maxHeartbeats 1000000 in
theorem se_makeCode_4 (C : fcx gG D z A X R_M c_M_makeCode 11 (none)) (hQ : X.2.2.2.2.2.2.2.2.2.2 = eQ gG D z X.2.2.2.2.2.2.2.1 X.2.2.2.2.1 L0 0 0 (pM_v K o ad)) (hA : A = owA gG L0 X.2.2.2.2.1.heap.size) (hR : X.2.2.2.1 = { frames := 1, cells := 1, slots := 6, locals := 100 }) (x1 : Int32) (x2 : Int32) (x3 : Int32) (S : ms) (hp : e_makeCode_4 x1 x2 x3 S K) : aw gG D z A X 11 4 [some (.ref o), some (.int x1), some (.int x2), some (.int x3), none, none, none, none, none, none, none] [] [(0, ly_M, (o, ad, S.1, S.2.1, S.2.2))] 0 0 := by
  obtain ⟨I, μ, h0, hs⟩ := hp
  have key : ∀ (n : Nat) (yx1 : Int32) (yx2 : Int32) (yx3 : Int32) (yS : ms), μ yx1 yx2 yx3 yS < n → I yx1 yx2 yx3 yS → aw gG D z A X 11 4 [some (.ref o), some (.int yx1), some (.int yx2), some (.int yx3), none, none, none, none, none, none, none] [] [(0, ly_M, (o, ad, yS.1, yS.2.1, yS.2.2))] 0 0 := by
    intro n
    induction n with
    | zero => intro yx1 yx2 yx3 yS h; omega
    | succ n ih =>
      intro yx1 yx2 yx3 yS hn hI
      exact s_makeCode_4 C hQ hA hR yx1 yx2 yx3 yS _ (fun zx1 zx2 zx3 zS hw => ih zx1 zx2 zx3 zS (by omega) hw.1) (hs yx1 yx2 yx3 yS hI)
  exact key (μ x1 x2 x3 S + 1) x1 x2 x3 S (Nat.lt_succ_self _) h0
set_option maxRecDepth 100000 in
set_option maxHeartbeats 1000000 in
theorem s_makeCode_0 (C : fcx gG D z A X R_M c_M_makeCode 11 (none)) (hQ : X.2.2.2.2.2.2.2.2.2.2 = eQ gG D z X.2.2.2.2.2.2.2.1 X.2.2.2.2.1 L0 0 0 (pM_v K o ad)) (hA : A = owA gG L0 X.2.2.2.2.1.heap.size) (hR : X.2.2.2.1 = { frames := 1, cells := 1, slots := 6, locals := 100 }) (x1 : Int32) (S : ms) (hp : p_makeCode x1 S K) : aw gG D z A X 11 0 [some (.ref o), some (.int x1), none, none, none, none, none, none, none, none, none] [] [(0, ly_M, (o, ad, S.1, S.2.1, S.2.2))] 0 0 := by
  unfold p_makeCode at hp
  refine a_iconst (v := 0) C d_makeCode_0 (by decide) ?_
  refine a_istore_n (lo' := [some (.ref o), some (.int x1), some (.int 0), none, none, none, none, none, none, none, none]) C d_makeCode_1 rfl (by decide) rfl ?_
  refine a_iconst (v := 0) C d_makeCode_2 (by decide) ?_
  refine a_istore_n (lo' := [some (.ref o), some (.int x1), some (.int 0), some (.int 0), none, none, none, none, none, none, none]) C d_makeCode_3 rfl (by decide) rfl ?_
  refine aw_lo (lo' := [some (.ref o), some (.int x1), some (.int 0), some (.int 0), none, none, none, none, none, none, none]) ⟨.inr rfl, .inr rfl, .inr rfl, .inr rfl, .inr rfl, .inr rfl, .inr rfl, .inr rfl, .inr rfl, .inr rfl, .inr rfl, trivial⟩ ?_
  exact se_makeCode_4 C hQ hA hR x1 0 0 S  hp
end M_makeCode
section M_makeCodec
variable {D : va_G} {z : Nat → ClassId} {o : Nat} {ad : Nat → Nat}
set_option maxRecDepth 100000 in
theorem ct_makeCode {l : Launch} (x1 : Int32) (S : ms) {K : ms → Prop} (hp : p_makeCode x1 S K) : ct gG D z l n_M_makeCode c_M_makeCode 11 (none) 1 100 [.ref o, .int x1] [(0, ly_M, (o, ad, S.1, S.2.1, S.2.2))] 0 0 (pM_v K o ad) := by
  refine ct_of (lo := [some (.ref o), some (.int x1), none, none, none, none, none, none, none, none, none]) (by decide) g_ok (Nat.le_of_ble_eq_true rfl) rfl ?_
  intro X A _ C hR hQ hA _
  exact s_makeCode_0 C hQ hA hR x1 S hp
end M_makeCodec
def p_put (x1 : Int32) (S : ms) (K : ms → Prop) : Prop :=
  vp_in (S.1 9) 65536 ∧ (K (upd S.1 9 ((S.1 9) + 1), va_up S.2.1 8 (upd (S.2.1 8) (S.1 9).toNatClampNeg x1), S.2.2))
section M_put
variable {D : va_G} {z : Nat → ClassId} {A : Nat → Prop} {X : cx} {L0 : fw} {K : ms → Prop} {o : Nat} {ad : Nat → Nat}
set_option maxRecDepth 100000 in
set_option maxHeartbeats 1000000 in
theorem s_put_0 (C : fcx gG D z A X R_M c_M_put 2 (none)) (hQ : X.2.2.2.2.2.2.2.2.2.2 = eQ gG D z X.2.2.2.2.2.2.2.1 X.2.2.2.2.1 L0 0 0 (pM_v K o ad)) (hA : A = owA gG L0 X.2.2.2.2.1.heap.size) (hR : X.2.2.2.1 = { frames := 1, cells := 1, slots := 6, locals := 100 }) (x1 : Int32) (S : ms) (hp : p_put x1 S K) : aw gG D z A X 2 0 [some (.ref o), some (.int x1)] [] [(0, ly_M, (o, ad, S.1, S.2.1, S.2.2))] 0 0 := by
  unfold p_put at hp
  refine a_aload_n C d_put_0 rfl rfl ?_
  refine a_getR C 0 8 d_put_1 rfl rfl rfl (Nat.le_of_ble_eq_true rfl) f_M_31 ⟨Nat.le_of_ble_eq_true rfl, Nat.le_of_ble_eq_true rfl⟩ ?_
  refine a_aload_n C d_put_4 rfl rfl ?_
  refine a_getI C 0 9 d_put_5 rfl rfl rfl (Nat.le_of_ble_eq_true rfl) f_M_197 (Nat.le_of_ble_eq_true rfl) ?_
  refine a_iload_n C d_put_8 rfl rfl ?_
  refine a_iast C 0 8 d_put_9 rfl rfl rfl hp.1 ?_
  have hp := hp.2
  refine aw_eq (lo' := _) (st' := _) (L' := [(0, ly_M, (o, ad, S.1, va_up S.2.1 8 (upd (S.2.1 8) (S.1 9).toNatClampNeg x1), S.2.2))]) rfl rfl rfl ?_
  refine a_aload_n C d_put_10 rfl rfl ?_
  refine a_dup C d_put_11 rfl ?_
  refine a_getI C 0 9 d_put_12 rfl rfl rfl (Nat.le_of_ble_eq_true rfl) f_M_197 (Nat.le_of_ble_eq_true rfl) ?_
  refine a_iconst (v := 1) C d_put_15 (by decide) ?_
  refine a_iadd C d_put_16 ?_
  refine a_putI (ty := .int) C 0 9 d_put_17 rfl rfl rfl (Nat.le_of_ble_eq_true rfl) f_M_197 (Nat.le_of_ble_eq_true rfl) rfl rfl rfl rfl ?_
  refine aw_eq (lo' := _) (st' := _) (L' := [(0, ly_M, (o, ad, upd S.1 9 ((S.1 9) + 1), va_up S.2.1 8 (upd (S.2.1 8) (S.1 9).toNatClampNeg x1), S.2.2))]) rfl rfl rfl ?_
  exact a_vret C hQ hA d_put_20 rfl ⟨(upd S.1 9 ((S.1 9) + 1), va_up S.2.1 8 (upd (S.2.1 8) (S.1 9).toNatClampNeg x1), S.2.2), hp, rfl, rfl⟩
end M_put
section M_putc
variable {D : va_G} {z : Nat → ClassId} {o : Nat} {ad : Nat → Nat}
set_option maxRecDepth 100000 in
theorem ct_put {l : Launch} (x1 : Int32) (S : ms) {K : ms → Prop} (hp : p_put x1 S K) : ct gG D z l n_M_put c_M_put 2 (none) 1 100 [.ref o, .int x1] [(0, ly_M, (o, ad, S.1, S.2.1, S.2.2))] 0 0 (pM_v K o ad) := by
  refine ct_of (lo := [some (.ref o), some (.int x1)]) (by decide) g_ok (Nat.le_of_ble_eq_true rfl) rfl ?_
  intro X A _ C hR hQ hA _
  exact s_put_0 C hQ hA hR x1 S hp
end M_putc
def p_putTwo (x1 : Int32) (S : ms) (K : ms → Prop) : Prop :=
  p_put ((x1 >>> (8 &&& 31 : Int32) : Int32) &&& 255) S (fun S9 => p_put (x1 &&& 255) (S9.1, S9.2.1, S9.2.2) (fun S18 => K (S18.1, S18.2.1, S18.2.2)))
section M_putTwo
variable {D : va_G} {z : Nat → ClassId} {A : Nat → Prop} {X : cx} {L0 : fw} {K : ms → Prop} {o : Nat} {ad : Nat → Nat}
set_option maxRecDepth 100000 in
set_option maxHeartbeats 1000000 in
theorem s_putTwo_0 (C : fcx gG D z A X R_M c_M_putTwo 2 (none)) (hQ : X.2.2.2.2.2.2.2.2.2.2 = eQ gG D z X.2.2.2.2.2.2.2.1 X.2.2.2.2.1 L0 0 0 (pM_v K o ad)) (hA : A = owA gG L0 X.2.2.2.2.1.heap.size) (hR : X.2.2.2.1 = { frames := 2, cells := 1, slots := 6, locals := 200 }) (x1 : Int32) (S : ms) (hp : p_putTwo x1 S K) : aw gG D z A X 2 0 [some (.ref o), some (.int x1)] [] [(0, ly_M, (o, ad, S.1, S.2.1, S.2.2))] 0 0 := by
  unfold p_putTwo at hp
  refine a_aload_n C d_putTwo_0 rfl rfl ?_
  refine a_iload_n C d_putTwo_1 rfl rfl ?_
  refine a_bipush (v := 8) C d_putTwo_2 (by decide) ?_
  refine a_ishr C d_putTwo_4 ?_
  refine a_sipush (v := 255) C d_putTwo_5 (by decide) ?_
  refine a_iand C d_putTwo_8 ?_
  refine a_call (Lr := []) (rest := []) (av := .ref o :: [.int ((x1 >>> (8 &&& 31 : Int32) : Int32) &&& 255)]) C [0] [] d_putTwo_9 (ct_put ((x1 >>> (8 &&& 31 : Int32) : Int32) &&& 255) S hp) cd_M_put i_M (Nat.le_of_ble_eq_true rfl) (by rw [hR]; exact Nat.le_of_ble_eq_true rfl) (by rw [hR]; exact Nat.le_of_ble_eq_true rfl) (by rw [hR]; exact Nat.le_of_ble_eq_true rfl) (by rw [hR]; exact Nat.le_of_ble_eq_true rfl) rfl rfl (by decide) (by decide) (by decide) (inv_V C 0 d_putTwo_9 l_M_200 im_M_put se_M_put cd_M_put ⟨by decide, by decide⟩ ln_M_put rfl rfl rfl rfl rfl) (fun oc L1 hL => ?_)
  obtain ⟨S9, hp, rfl, rfl⟩ := hL
  refine ⟨_, rfl, ?_⟩
  refine aw_eq (lo' := _) (st' := []) (L' := [(0, ly_M, (o, ad, S9.1, S9.2.1, S9.2.2))]) rfl rfl rfl ?_
  refine a_aload_n C d_putTwo_12 rfl rfl ?_
  refine a_iload_n C d_putTwo_13 rfl rfl ?_
  refine a_sipush (v := 255) C d_putTwo_14 (by decide) ?_
  refine a_iand C d_putTwo_17 ?_
  refine a_call (Lr := []) (rest := []) (av := .ref o :: [.int (x1 &&& 255)]) C [0] [] d_putTwo_18 (ct_put (x1 &&& 255) (S9.1, S9.2.1, S9.2.2) hp) cd_M_put i_M (Nat.le_of_ble_eq_true rfl) (by rw [hR]; exact Nat.le_of_ble_eq_true rfl) (by rw [hR]; exact Nat.le_of_ble_eq_true rfl) (by rw [hR]; exact Nat.le_of_ble_eq_true rfl) (by rw [hR]; exact Nat.le_of_ble_eq_true rfl) rfl rfl (by decide) (by decide) (by decide) (inv_V C 0 d_putTwo_18 l_M_200 im_M_put se_M_put cd_M_put ⟨by decide, by decide⟩ ln_M_put rfl rfl rfl rfl rfl) (fun oc L1 hL => ?_)
  obtain ⟨S18, hp, rfl, rfl⟩ := hL
  refine ⟨_, rfl, ?_⟩
  refine aw_eq (lo' := _) (st' := []) (L' := [(0, ly_M, (o, ad, S18.1, S18.2.1, S18.2.2))]) rfl rfl rfl ?_
  exact a_vret C hQ hA d_putTwo_21 rfl ⟨(S18.1, S18.2.1, S18.2.2), hp, rfl, rfl⟩
end M_putTwo
section M_putTwoc
variable {D : va_G} {z : Nat → ClassId} {o : Nat} {ad : Nat → Nat}
set_option maxRecDepth 100000 in
theorem ct_putTwo {l : Launch} (x1 : Int32) (S : ms) {K : ms → Prop} (hp : p_putTwo x1 S K) : ct gG D z l n_M_putTwo c_M_putTwo 2 (none) 2 200 [.ref o, .int x1] [(0, ly_M, (o, ad, S.1, S.2.1, S.2.2))] 0 0 (pM_v K o ad) := by
  refine ct_of (lo := [some (.ref o), some (.int x1)]) (by decide) g_ok (Nat.le_of_ble_eq_true rfl) rfl ?_
  intro X A _ C hR hQ hA _
  exact s_putTwo_0 C hQ hA hR x1 S hp
end M_putTwoc
def p_mark (x1 : Int32) (S : ms) (K : ms → Prop) : Prop :=
  p_put 255 S (fun S4 => p_put x1 (S4.1, S4.2.1, S4.2.2) (fun S9 => K (S9.1, S9.2.1, S9.2.2)))
section M_mark
variable {D : va_G} {z : Nat → ClassId} {A : Nat → Prop} {X : cx} {L0 : fw} {K : ms → Prop} {o : Nat} {ad : Nat → Nat}
set_option maxRecDepth 100000 in
set_option maxHeartbeats 1000000 in
theorem s_mark_0 (C : fcx gG D z A X R_M c_M_mark 2 (none)) (hQ : X.2.2.2.2.2.2.2.2.2.2 = eQ gG D z X.2.2.2.2.2.2.2.1 X.2.2.2.2.1 L0 0 0 (pM_v K o ad)) (hA : A = owA gG L0 X.2.2.2.2.1.heap.size) (hR : X.2.2.2.1 = { frames := 2, cells := 1, slots := 6, locals := 200 }) (x1 : Int32) (S : ms) (hp : p_mark x1 S K) : aw gG D z A X 2 0 [some (.ref o), some (.int x1)] [] [(0, ly_M, (o, ad, S.1, S.2.1, S.2.2))] 0 0 := by
  unfold p_mark at hp
  refine a_aload_n C d_mark_0 rfl rfl ?_
  refine a_sipush (v := 255) C d_mark_1 (by decide) ?_
  refine a_call (Lr := []) (rest := []) (av := .ref o :: [.int 255]) C [0] [] d_mark_4 (ct_put 255 S hp) cd_M_put i_M (Nat.le_of_ble_eq_true rfl) (by rw [hR]; exact Nat.le_of_ble_eq_true rfl) (by rw [hR]; exact Nat.le_of_ble_eq_true rfl) (by rw [hR]; exact Nat.le_of_ble_eq_true rfl) (by rw [hR]; exact Nat.le_of_ble_eq_true rfl) rfl rfl (by decide) (by decide) (by decide) (inv_V C 0 d_mark_4 l_M_200 im_M_put se_M_put cd_M_put ⟨by decide, by decide⟩ ln_M_put rfl rfl rfl rfl rfl) (fun oc L1 hL => ?_)
  obtain ⟨S4, hp, rfl, rfl⟩ := hL
  refine ⟨_, rfl, ?_⟩
  refine aw_eq (lo' := _) (st' := []) (L' := [(0, ly_M, (o, ad, S4.1, S4.2.1, S4.2.2))]) rfl rfl rfl ?_
  refine a_aload_n C d_mark_7 rfl rfl ?_
  refine a_iload_n C d_mark_8 rfl rfl ?_
  refine a_call (Lr := []) (rest := []) (av := .ref o :: [.int x1]) C [0] [] d_mark_9 (ct_put x1 (S4.1, S4.2.1, S4.2.2) hp) cd_M_put i_M (Nat.le_of_ble_eq_true rfl) (by rw [hR]; exact Nat.le_of_ble_eq_true rfl) (by rw [hR]; exact Nat.le_of_ble_eq_true rfl) (by rw [hR]; exact Nat.le_of_ble_eq_true rfl) (by rw [hR]; exact Nat.le_of_ble_eq_true rfl) rfl rfl (by decide) (by decide) (by decide) (inv_V C 0 d_mark_9 l_M_200 im_M_put se_M_put cd_M_put ⟨by decide, by decide⟩ ln_M_put rfl rfl rfl rfl rfl) (fun oc L1 hL => ?_)
  obtain ⟨S9, hp, rfl, rfl⟩ := hL
  refine ⟨_, rfl, ?_⟩
  refine aw_eq (lo' := _) (st' := []) (L' := [(0, ly_M, (o, ad, S9.1, S9.2.1, S9.2.2))]) rfl rfl rfl ?_
  exact a_vret C hQ hA d_mark_12 rfl ⟨(S9.1, S9.2.1, S9.2.2), hp, rfl, rfl⟩
end M_mark
section M_markc
variable {D : va_G} {z : Nat → ClassId} {o : Nat} {ad : Nat → Nat}
set_option maxRecDepth 100000 in
theorem ct_mark {l : Launch} (x1 : Int32) (S : ms) {K : ms → Prop} (hp : p_mark x1 S K) : ct gG D z l n_M_mark c_M_mark 2 (none) 2 200 [.ref o, .int x1] [(0, ly_M, (o, ad, S.1, S.2.1, S.2.2))] 0 0 (pM_v K o ad) := by
  refine ct_of (lo := [some (.ref o), some (.int x1)]) (by decide) g_ok (Nat.le_of_ble_eq_true rfl) rfl ?_
  intro X A _ C hR hQ hA _
  exact s_mark_0 C hQ hA hR x1 S hp
end M_markc
def b_putBits_76 (x1 : Int32) (x3 : Int32) (S : ms) (R4 : Int32 → Int32 → ms → Prop) (K : ms → Prop) : Prop :=
  R4 x1 (x3 + (-1)) S
def b_putBits_66 (x1 : Int32) (x3 : Int32) (S : ms) (R4 : Int32 → Int32 → ms → Prop) (K : ms → Prop) : Prop :=
  b_putBits_76 x1 x3 (upd (upd S.1 32 0) 33 0, S.2.1, S.2.2) R4 K
def b_putBits_4 (x1 : Int32) (x3 : Int32) (S : ms) (R4 : Int32 → Int32 → ms → Prop) (K : ms → Prop) : Prop :=
  (x3 < 0 → (K S)) ∧ (¬ (x3 < 0) → ((¬ ((upd (upd S.1 33 ((2 * (S.1 33)) + ((x1 >>> (x3 &&& 31 : Int32) : Int32) &&& 1))) 32 (((upd S.1 33 ((2 * (S.1 33)) + ((x1 >>> (x3 &&& 31 : Int32) : Int32) &&& 1))) 32) + 1)) 32) = 8 → (b_putBits_76 x1 x3 (upd (upd S.1 33 ((2 * (S.1 33)) + ((x1 >>> (x3 &&& 31 : Int32) : Int32) &&& 1))) 32 (((upd S.1 33 ((2 * (S.1 33)) + ((x1 >>> (x3 &&& 31 : Int32) : Int32) &&& 1))) 32) + 1), S.2.1, S.2.2) R4 K)) ∧ (((upd (upd S.1 33 ((2 * (S.1 33)) + ((x1 >>> (x3 &&& 31 : Int32) : Int32) &&& 1))) 32 (((upd S.1 33 ((2 * (S.1 33)) + ((x1 >>> (x3 &&& 31 : Int32) : Int32) &&& 1))) 32) + 1)) 32) = 8 → (p_put ((upd (upd S.1 33 ((2 * (S.1 33)) + ((x1 >>> (x3 &&& 31 : Int32) : Int32) &&& 1))) 32 (((upd S.1 33 ((2 * (S.1 33)) + ((x1 >>> (x3 &&& 31 : Int32) : Int32) &&& 1))) 32) + 1)) 33) (upd (upd S.1 33 ((2 * (S.1 33)) + ((x1 >>> (x3 &&& 31 : Int32) : Int32) &&& 1))) 32 (((upd S.1 33 ((2 * (S.1 33)) + ((x1 >>> (x3 &&& 31 : Int32) : Int32) &&& 1))) 32) + 1), S.2.1, S.2.2) (fun S48 => (¬ (S48.1 33) = 255 → (b_putBits_66 x1 x3 (S48.1, S48.2.1, S48.2.2) R4 K)) ∧ ((S48.1 33) = 255 → (p_put 0 (S48.1, S48.2.1, S48.2.2) (fun S63 => b_putBits_66 x1 x3 (S63.1, S63.2.1, S63.2.2) R4 K))))))))
def e_putBits_4 (x1 : Int32) (x3 : Int32) (S : ms) (K : ms → Prop) : Prop :=
  ∃ (I : Int32 → Int32 → ms → Prop) (μ : Int32 → Int32 → ms → Nat), I x1 x3 S ∧ ∀ yx1 yx3 yS, I yx1 yx3 yS → b_putBits_4 yx1 yx3 yS (fun zx1 zx3 zS => I zx1 zx3 zS ∧ μ zx1 zx3 zS < μ yx1 yx3 yS) K
def p_putBits (x1 : Int32) (x2 : Int32) (S : ms) (K : ms → Prop) : Prop :=
  e_putBits_4 x1 (x2 - 1) S K
section M_putBits
variable {D : va_G} {z : Nat → ClassId} {A : Nat → Prop} {X : cx} {L0 : fw} {K : ms → Prop} {o : Nat} {ad : Nat → Nat}
set_option maxRecDepth 100000 in
set_option maxHeartbeats 1000000 in
theorem s_putBits_76 (C : fcx gG D z A X R_M c_M_putBits 4 (none)) (hQ : X.2.2.2.2.2.2.2.2.2.2 = eQ gG D z X.2.2.2.2.2.2.2.1 X.2.2.2.2.1 L0 0 0 (pM_v K o ad)) (hA : A = owA gG L0 X.2.2.2.2.1.heap.size) (hR : X.2.2.2.1 = { frames := 2, cells := 1, slots := 6, locals := 200 }) (x1 : Int32) (x3 : Int32) (S : ms) (R4 : Int32 → Int32 → ms → Prop) (hR4 : ∀ yx1 yx3 yS, R4 yx1 yx3 yS → aw gG D z A X 4 4 [some (.ref o), some (.int yx1), none, some (.int yx3)] [] [(0, ly_M, (o, ad, yS.1, yS.2.1, yS.2.2))] 0 0) (hp : b_putBits_76 x1 x3 S R4 K) : aw gG D z A X 4 76 [some (.ref o), some (.int x1), none, some (.int x3)] [] [(0, ly_M, (o, ad, S.1, S.2.1, S.2.2))] 0 0 := by
  unfold b_putBits_76 at hp
  refine a_iinc (v := x3 + (-1)) (lo' := [some (.ref o), some (.int x1), none, some (.int (x3 + (-1)))]) C d_putBits_76 rfl rfl (by decide) rfl ?_
  refine a_goto (tgt := 4) C d_putBits_79 (by decide) ?_
  refine aw_lo (lo' := [some (.ref o), some (.int x1), none, some (.int (x3 + (-1)))]) ⟨.inr rfl, .inr rfl, .inr rfl, .inr rfl, trivial⟩ ?_
  exact hR4 x1 (x3 + (-1)) S hp
set_option maxRecDepth 100000 in
set_option maxHeartbeats 1000000 in
theorem s_putBits_66 (C : fcx gG D z A X R_M c_M_putBits 4 (none)) (hQ : X.2.2.2.2.2.2.2.2.2.2 = eQ gG D z X.2.2.2.2.2.2.2.1 X.2.2.2.2.1 L0 0 0 (pM_v K o ad)) (hA : A = owA gG L0 X.2.2.2.2.1.heap.size) (hR : X.2.2.2.1 = { frames := 2, cells := 1, slots := 6, locals := 200 }) (x1 : Int32) (x3 : Int32) (S : ms) (R4 : Int32 → Int32 → ms → Prop) (hR4 : ∀ yx1 yx3 yS, R4 yx1 yx3 yS → aw gG D z A X 4 4 [some (.ref o), some (.int yx1), none, some (.int yx3)] [] [(0, ly_M, (o, ad, yS.1, yS.2.1, yS.2.2))] 0 0) (hp : b_putBits_66 x1 x3 S R4 K) : aw gG D z A X 4 66 [some (.ref o), some (.int x1), none, some (.int x3)] [] [(0, ly_M, (o, ad, S.1, S.2.1, S.2.2))] 0 0 := by
  unfold b_putBits_66 at hp
  refine a_aload_n C d_putBits_66 rfl rfl ?_
  refine a_iconst (v := 0) C d_putBits_67 (by decide) ?_
  refine a_putI (ty := .int) C 0 32 d_putBits_68 rfl rfl rfl (Nat.le_of_ble_eq_true rfl) f_M_207 (Nat.le_of_ble_eq_true rfl) rfl rfl rfl rfl ?_
  refine aw_eq (lo' := _) (st' := _) (L' := [(0, ly_M, (o, ad, upd S.1 32 0, S.2.1, S.2.2))]) rfl rfl rfl ?_
  refine a_aload_n C d_putBits_71 rfl rfl ?_
  refine a_iconst (v := 0) C d_putBits_72 (by decide) ?_
  refine a_putI (ty := .int) C 0 33 d_putBits_73 rfl rfl rfl (Nat.le_of_ble_eq_true rfl) f_M_204 (Nat.le_of_ble_eq_true rfl) rfl rfl rfl rfl ?_
  refine aw_eq (lo' := _) (st' := _) (L' := [(0, ly_M, (o, ad, upd (upd S.1 32 0) 33 0, S.2.1, S.2.2))]) rfl rfl rfl ?_
  refine aw_lo (lo' := [some (.ref o), some (.int x1), none, some (.int x3)]) ⟨.inr rfl, .inr rfl, .inr rfl, .inr rfl, trivial⟩ ?_
  exact s_putBits_76 C hQ hA hR x1 x3 (upd (upd S.1 32 0) 33 0, S.2.1, S.2.2) R4 hR4 hp
set_option maxRecDepth 100000 in
set_option maxHeartbeats 1000000 in
theorem s_putBits_4 (C : fcx gG D z A X R_M c_M_putBits 4 (none)) (hQ : X.2.2.2.2.2.2.2.2.2.2 = eQ gG D z X.2.2.2.2.2.2.2.1 X.2.2.2.2.1 L0 0 0 (pM_v K o ad)) (hA : A = owA gG L0 X.2.2.2.2.1.heap.size) (hR : X.2.2.2.1 = { frames := 2, cells := 1, slots := 6, locals := 200 }) (x1 : Int32) (x3 : Int32) (S : ms) (R4 : Int32 → Int32 → ms → Prop) (hR4 : ∀ yx1 yx3 yS, R4 yx1 yx3 yS → aw gG D z A X 4 4 [some (.ref o), some (.int yx1), none, some (.int yx3)] [] [(0, ly_M, (o, ad, yS.1, yS.2.1, yS.2.2))] 0 0) (hp : b_putBits_4 x1 x3 S R4 K) : aw gG D z A X 4 4 [some (.ref o), some (.int x1), none, some (.int x3)] [] [(0, ly_M, (o, ad, S.1, S.2.1, S.2.2))] 0 0 := by
  unfold b_putBits_4 at hp
  refine a_iload_n C d_putBits_4 rfl rfl ?_
  refine a_if_lt (tgt := 82) C d_putBits_5 (by decide) ⟨fun hc => ?_, fun hc => ?_⟩
  · have hp := hp.1 hc
    exact a_vret C hQ hA d_putBits_82 rfl ⟨S, hp, rfl, rfl⟩
  · have hp := hp.2 hc
    refine a_aload_n C d_putBits_8 rfl rfl ?_
    refine a_iconst (v := 2) C d_putBits_9 (by decide) ?_
    refine a_aload_n C d_putBits_10 rfl rfl ?_
    refine a_getI C 0 33 d_putBits_11 rfl rfl rfl (Nat.le_of_ble_eq_true rfl) f_M_204 (Nat.le_of_ble_eq_true rfl) ?_
    refine a_imul C d_putBits_14 ?_
    refine a_iload_n C d_putBits_15 rfl rfl ?_
    refine a_iload_n C d_putBits_16 rfl rfl ?_
    refine a_ishr C d_putBits_17 ?_
    refine a_iconst (v := 1) C d_putBits_18 (by decide) ?_
    refine a_iand C d_putBits_19 ?_
    refine a_iadd C d_putBits_20 ?_
    refine a_putI (ty := .int) C 0 33 d_putBits_21 rfl rfl rfl (Nat.le_of_ble_eq_true rfl) f_M_204 (Nat.le_of_ble_eq_true rfl) rfl rfl rfl rfl ?_
    refine aw_eq (lo' := _) (st' := _) (L' := [(0, ly_M, (o, ad, upd S.1 33 ((2 * (S.1 33)) + ((x1 >>> (x3 &&& 31 : Int32) : Int32) &&& 1)), S.2.1, S.2.2))]) rfl rfl rfl ?_
    refine a_aload_n C d_putBits_24 rfl rfl ?_
    refine a_dup C d_putBits_25 rfl ?_
    refine a_getI C 0 32 d_putBits_26 rfl rfl rfl (Nat.le_of_ble_eq_true rfl) f_M_207 (Nat.le_of_ble_eq_true rfl) ?_
    refine a_iconst (v := 1) C d_putBits_29 (by decide) ?_
    refine a_iadd C d_putBits_30 ?_
    refine a_putI (ty := .int) C 0 32 d_putBits_31 rfl rfl rfl (Nat.le_of_ble_eq_true rfl) f_M_207 (Nat.le_of_ble_eq_true rfl) rfl rfl rfl rfl ?_
    refine aw_eq (lo' := _) (st' := _) (L' := [(0, ly_M, (o, ad, upd (upd S.1 33 ((2 * (S.1 33)) + ((x1 >>> (x3 &&& 31 : Int32) : Int32) &&& 1))) 32 (((upd S.1 33 ((2 * (S.1 33)) + ((x1 >>> (x3 &&& 31 : Int32) : Int32) &&& 1))) 32) + 1), S.2.1, S.2.2))]) rfl rfl rfl ?_
    refine a_aload_n C d_putBits_34 rfl rfl ?_
    refine a_getI C 0 32 d_putBits_35 rfl rfl rfl (Nat.le_of_ble_eq_true rfl) f_M_207 (Nat.le_of_ble_eq_true rfl) ?_
    refine a_bipush (v := 8) C d_putBits_38 (by decide) ?_
    refine a_icmp_ne (tgt := 76) C d_putBits_40 (by decide) ⟨fun hc => ?_, fun hc => ?_⟩
    · have hp := hp.1 hc
      refine aw_lo (lo' := [some (.ref o), some (.int x1), none, some (.int x3)]) ⟨.inr rfl, .inr rfl, .inr rfl, .inr rfl, trivial⟩ ?_
      exact s_putBits_76 C hQ hA hR x1 x3 (upd (upd S.1 33 ((2 * (S.1 33)) + ((x1 >>> (x3 &&& 31 : Int32) : Int32) &&& 1))) 32 (((upd S.1 33 ((2 * (S.1 33)) + ((x1 >>> (x3 &&& 31 : Int32) : Int32) &&& 1))) 32) + 1), S.2.1, S.2.2) R4 hR4 hp
    · have hp := hp.2 hc
      refine a_aload_n C d_putBits_43 rfl rfl ?_
      refine a_aload_n C d_putBits_44 rfl rfl ?_
      refine a_getI C 0 33 d_putBits_45 rfl rfl rfl (Nat.le_of_ble_eq_true rfl) f_M_204 (Nat.le_of_ble_eq_true rfl) ?_
      refine a_call (Lr := []) (rest := []) (av := .ref o :: [.int ((upd (upd S.1 33 ((2 * (S.1 33)) + ((x1 >>> (x3 &&& 31 : Int32) : Int32) &&& 1))) 32 (((upd S.1 33 ((2 * (S.1 33)) + ((x1 >>> (x3 &&& 31 : Int32) : Int32) &&& 1))) 32) + 1)) 33)]) C [0] [] d_putBits_48 (ct_put ((upd (upd S.1 33 ((2 * (S.1 33)) + ((x1 >>> (x3 &&& 31 : Int32) : Int32) &&& 1))) 32 (((upd S.1 33 ((2 * (S.1 33)) + ((x1 >>> (x3 &&& 31 : Int32) : Int32) &&& 1))) 32) + 1)) 33) (upd (upd S.1 33 ((2 * (S.1 33)) + ((x1 >>> (x3 &&& 31 : Int32) : Int32) &&& 1))) 32 (((upd S.1 33 ((2 * (S.1 33)) + ((x1 >>> (x3 &&& 31 : Int32) : Int32) &&& 1))) 32) + 1), S.2.1, S.2.2) hp) cd_M_put i_M (Nat.le_of_ble_eq_true rfl) (by rw [hR]; exact Nat.le_of_ble_eq_true rfl) (by rw [hR]; exact Nat.le_of_ble_eq_true rfl) (by rw [hR]; exact Nat.le_of_ble_eq_true rfl) (by rw [hR]; exact Nat.le_of_ble_eq_true rfl) rfl rfl (by decide) (by decide) (by decide) (inv_V C 0 d_putBits_48 l_M_200 im_M_put se_M_put cd_M_put ⟨by decide, by decide⟩ ln_M_put rfl rfl rfl rfl rfl) (fun oc L1 hL => ?_)
      obtain ⟨S48, hp, rfl, rfl⟩ := hL
      refine ⟨_, rfl, ?_⟩
      refine aw_eq (lo' := _) (st' := []) (L' := [(0, ly_M, (o, ad, S48.1, S48.2.1, S48.2.2))]) rfl rfl rfl ?_
      refine a_aload_n C d_putBits_51 rfl rfl ?_
      refine a_getI C 0 33 d_putBits_52 rfl rfl rfl (Nat.le_of_ble_eq_true rfl) f_M_204 (Nat.le_of_ble_eq_true rfl) ?_
      refine a_sipush (v := 255) C d_putBits_55 (by decide) ?_
      refine a_icmp_ne (tgt := 66) C d_putBits_58 (by decide) ⟨fun hc => ?_, fun hc => ?_⟩
      · have hp := hp.1 hc
        refine aw_lo (lo' := [some (.ref o), some (.int x1), none, some (.int x3)]) ⟨.inr rfl, .inr rfl, .inr rfl, .inr rfl, trivial⟩ ?_
        exact s_putBits_66 C hQ hA hR x1 x3 (S48.1, S48.2.1, S48.2.2) R4 hR4 hp
      · have hp := hp.2 hc
        refine a_aload_n C d_putBits_61 rfl rfl ?_
        refine a_iconst (v := 0) C d_putBits_62 (by decide) ?_
        refine a_call (Lr := []) (rest := []) (av := .ref o :: [.int 0]) C [0] [] d_putBits_63 (ct_put 0 (S48.1, S48.2.1, S48.2.2) hp) cd_M_put i_M (Nat.le_of_ble_eq_true rfl) (by rw [hR]; exact Nat.le_of_ble_eq_true rfl) (by rw [hR]; exact Nat.le_of_ble_eq_true rfl) (by rw [hR]; exact Nat.le_of_ble_eq_true rfl) (by rw [hR]; exact Nat.le_of_ble_eq_true rfl) rfl rfl (by decide) (by decide) (by decide) (inv_V C 0 d_putBits_63 l_M_200 im_M_put se_M_put cd_M_put ⟨by decide, by decide⟩ ln_M_put rfl rfl rfl rfl rfl) (fun oc L1 hL => ?_)
        obtain ⟨S63, hp, rfl, rfl⟩ := hL
        refine ⟨_, rfl, ?_⟩
        refine aw_eq (lo' := _) (st' := []) (L' := [(0, ly_M, (o, ad, S63.1, S63.2.1, S63.2.2))]) rfl rfl rfl ?_
        refine aw_lo (lo' := [some (.ref o), some (.int x1), none, some (.int x3)]) ⟨.inr rfl, .inr rfl, .inr rfl, .inr rfl, trivial⟩ ?_
        exact s_putBits_66 C hQ hA hR x1 x3 (S63.1, S63.2.1, S63.2.2) R4 hR4 hp
set_option maxRecDepth 100000 in
set_option maxHeartbeats 1000000 in
theorem se_putBits_4 (C : fcx gG D z A X R_M c_M_putBits 4 (none)) (hQ : X.2.2.2.2.2.2.2.2.2.2 = eQ gG D z X.2.2.2.2.2.2.2.1 X.2.2.2.2.1 L0 0 0 (pM_v K o ad)) (hA : A = owA gG L0 X.2.2.2.2.1.heap.size) (hR : X.2.2.2.1 = { frames := 2, cells := 1, slots := 6, locals := 200 }) (x1 : Int32) (x3 : Int32) (S : ms) (hp : e_putBits_4 x1 x3 S K) : aw gG D z A X 4 4 [some (.ref o), some (.int x1), none, some (.int x3)] [] [(0, ly_M, (o, ad, S.1, S.2.1, S.2.2))] 0 0 := by
  obtain ⟨I, μ, h0, hs⟩ := hp
  have key : ∀ (n : Nat) (yx1 : Int32) (yx3 : Int32) (yS : ms), μ yx1 yx3 yS < n → I yx1 yx3 yS → aw gG D z A X 4 4 [some (.ref o), some (.int yx1), none, some (.int yx3)] [] [(0, ly_M, (o, ad, yS.1, yS.2.1, yS.2.2))] 0 0 := by
    intro n
    induction n with
    | zero => intro yx1 yx3 yS h; omega
    | succ n ih =>
      intro yx1 yx3 yS hn hI
      exact s_putBits_4 C hQ hA hR yx1 yx3 yS _ (fun zx1 zx3 zS hw => ih zx1 zx3 zS (by omega) hw.1) (hs yx1 yx3 yS hI)
  exact key (μ x1 x3 S + 1) x1 x3 S (Nat.lt_succ_self _) h0
set_option maxRecDepth 100000 in
set_option maxHeartbeats 1000000 in
theorem s_putBits_0 (C : fcx gG D z A X R_M c_M_putBits 4 (none)) (hQ : X.2.2.2.2.2.2.2.2.2.2 = eQ gG D z X.2.2.2.2.2.2.2.1 X.2.2.2.2.1 L0 0 0 (pM_v K o ad)) (hA : A = owA gG L0 X.2.2.2.2.1.heap.size) (hR : X.2.2.2.1 = { frames := 2, cells := 1, slots := 6, locals := 200 }) (x1 : Int32) (x2 : Int32) (S : ms) (hp : p_putBits x1 x2 S K) : aw gG D z A X 4 0 [some (.ref o), some (.int x1), some (.int x2), none] [] [(0, ly_M, (o, ad, S.1, S.2.1, S.2.2))] 0 0 := by
  unfold p_putBits at hp
  refine a_iload_n C d_putBits_0 rfl rfl ?_
  refine a_iconst (v := 1) C d_putBits_1 (by decide) ?_
  refine a_isub C d_putBits_2 ?_
  refine a_istore_n (lo' := [some (.ref o), some (.int x1), some (.int x2), some (.int (x2 - 1))]) C d_putBits_3 rfl (by decide) rfl ?_
  refine aw_lo (lo' := [some (.ref o), some (.int x1), none, some (.int (x2 - 1))]) ⟨.inr rfl, .inr rfl, .inl rfl, .inr rfl, trivial⟩ ?_
  exact se_putBits_4 C hQ hA hR x1 (x2 - 1) S  hp
end M_putBits
section M_putBitsc
variable {D : va_G} {z : Nat → ClassId} {o : Nat} {ad : Nat → Nat}
set_option maxRecDepth 100000 in
theorem ct_putBits {l : Launch} (x1 : Int32) (x2 : Int32) (S : ms) {K : ms → Prop} (hp : p_putBits x1 x2 S K) : ct gG D z l n_M_putBits c_M_putBits 4 (none) 2 200 [.ref o, .int x1, .int x2] [(0, ly_M, (o, ad, S.1, S.2.1, S.2.2))] 0 0 (pM_v K o ad) := by
  refine ct_of (lo := [some (.ref o), some (.int x1), some (.int x2), none]) (by decide) g_ok (Nat.le_of_ble_eq_true rfl) rfl ?_
  intro X A _ C hR hQ hA _
  exact s_putBits_0 C hQ hA hR x1 x2 S hp
end M_putBitsc
def b_fillUp_0  (S : ms) (R0 : ms → Prop) (K : ms → Prop) : Prop :=
  ((S.1 32) ≤ 0 → (K S)) ∧ (¬ ((S.1 32) ≤ 0) → (p_putBits 1 1 S (fun S10 => R0 (S10.1, S10.2.1, S10.2.2))))
def e_fillUp_0  (S : ms) (K : ms → Prop) : Prop :=
  ∃ (I : ms → Prop) (μ : ms → Nat), I S ∧ ∀ yS, I yS → b_fillUp_0 yS (fun zS => I zS ∧ μ zS < μ yS) K
def p_fillUp (S : ms) (K : ms → Prop) : Prop := e_fillUp_0 S K
section M_fillUp
variable {D : va_G} {z : Nat → ClassId} {A : Nat → Prop} {X : cx} {L0 : fw} {K : ms → Prop} {o : Nat} {ad : Nat → Nat}
set_option maxRecDepth 100000 in
set_option maxHeartbeats 1000000 in
theorem s_fillUp_0 (C : fcx gG D z A X R_M c_M_fillUp 1 (none)) (hQ : X.2.2.2.2.2.2.2.2.2.2 = eQ gG D z X.2.2.2.2.2.2.2.1 X.2.2.2.2.1 L0 0 0 (pM_v K o ad)) (hA : A = owA gG L0 X.2.2.2.2.1.heap.size) (hR : X.2.2.2.1 = { frames := 3, cells := 1, slots := 6, locals := 300 })  (S : ms) (R0 : ms → Prop) (hR0 : ∀ yS, R0 yS → aw gG D z A X 1 0 [some (.ref o)] [] [(0, ly_M, (o, ad, yS.1, yS.2.1, yS.2.2))] 0 0) (hp : b_fillUp_0  S R0 K) : aw gG D z A X 1 0 [some (.ref o)] [] [(0, ly_M, (o, ad, S.1, S.2.1, S.2.2))] 0 0 := by
  unfold b_fillUp_0 at hp
  refine a_aload_n C d_fillUp_0 rfl rfl ?_
  refine a_getI C 0 32 d_fillUp_1 rfl rfl rfl (Nat.le_of_ble_eq_true rfl) f_M_207 (Nat.le_of_ble_eq_true rfl) ?_
  refine a_if_le (tgt := 16) C d_fillUp_4 (by decide) ⟨fun hc => ?_, fun hc => ?_⟩
  · have hp := hp.1 hc
    exact a_vret C hQ hA d_fillUp_16 rfl ⟨S, hp, rfl, rfl⟩
  · have hp := hp.2 hc
    refine a_aload_n C d_fillUp_7 rfl rfl ?_
    refine a_iconst (v := 1) C d_fillUp_8 (by decide) ?_
    refine a_iconst (v := 1) C d_fillUp_9 (by decide) ?_
    refine a_call (Lr := []) (rest := []) (av := .ref o :: [.int 1, .int 1]) C [0] [] d_fillUp_10 (ct_putBits 1 1 S hp) cd_M_putBits i_M (Nat.le_of_ble_eq_true rfl) (by rw [hR]; exact Nat.le_of_ble_eq_true rfl) (by rw [hR]; exact Nat.le_of_ble_eq_true rfl) (by rw [hR]; exact Nat.le_of_ble_eq_true rfl) (by rw [hR]; exact Nat.le_of_ble_eq_true rfl) rfl rfl (by decide) (by decide) (by decide) (inv_V C 0 d_fillUp_10 l_M_210 im_M_putBits se_M_putBits cd_M_putBits ⟨by decide, by decide⟩ ln_M_putBits rfl rfl rfl rfl rfl) (fun oc L1 hL => ?_)
    obtain ⟨S10, hp, rfl, rfl⟩ := hL
    refine ⟨_, rfl, ?_⟩
    refine aw_eq (lo' := _) (st' := []) (L' := [(0, ly_M, (o, ad, S10.1, S10.2.1, S10.2.2))]) rfl rfl rfl ?_
    refine a_goto (tgt := 0) C d_fillUp_13 (by decide) ?_
    refine aw_lo (lo' := [some (.ref o)]) ⟨.inr rfl, trivial⟩ ?_
    exact hR0 (S10.1, S10.2.1, S10.2.2) hp
set_option maxRecDepth 100000 in
set_option maxHeartbeats 1000000 in
theorem se_fillUp_0 (C : fcx gG D z A X R_M c_M_fillUp 1 (none)) (hQ : X.2.2.2.2.2.2.2.2.2.2 = eQ gG D z X.2.2.2.2.2.2.2.1 X.2.2.2.2.1 L0 0 0 (pM_v K o ad)) (hA : A = owA gG L0 X.2.2.2.2.1.heap.size) (hR : X.2.2.2.1 = { frames := 3, cells := 1, slots := 6, locals := 300 })  (S : ms) (hp : e_fillUp_0  S K) : aw gG D z A X 1 0 [some (.ref o)] [] [(0, ly_M, (o, ad, S.1, S.2.1, S.2.2))] 0 0 := by
  obtain ⟨I, μ, h0, hs⟩ := hp
  have key : ∀ (n : Nat)  (yS : ms), μ yS < n → I yS → aw gG D z A X 1 0 [some (.ref o)] [] [(0, ly_M, (o, ad, yS.1, yS.2.1, yS.2.2))] 0 0 := by
    intro n
    induction n with
    | zero => intro yS h; omega
    | succ n ih =>
      intro yS hn hI
      exact s_fillUp_0 C hQ hA hR yS _ (fun zS hw => ih zS (by omega) hw.1) (hs yS hI)
  exact key (μ S + 1) S (Nat.lt_succ_self _) h0
end M_fillUp
section M_fillUpc
variable {D : va_G} {z : Nat → ClassId} {o : Nat} {ad : Nat → Nat}
set_option maxRecDepth 100000 in
theorem ct_fillUp {l : Launch}  (S : ms) {K : ms → Prop} (hp : p_fillUp  S K) : ct gG D z l n_M_fillUp c_M_fillUp 1 (none) 3 300 [.ref o] [(0, ly_M, (o, ad, S.1, S.2.1, S.2.2))] 0 0 (pM_v K o ad) := by
  refine ct_of (lo := [some (.ref o)]) (by decide) g_ok (Nat.le_of_ble_eq_true rfl) rfl ?_
  intro X A _ C hR hQ hA _
  exact se_fillUp_0 C hQ hA hR  S hp
end M_fillUpc
def b_symbol_51  (S : ms) (K : ms → Prop) : Prop :=
  K S
def p_symbol (x1 : Int32) (x2 : Int32) (x3 : Int32) (S : ms) (K : ms → Prop) : Prop :=
  (x1 = 0 → (vp_in ((257 * x2) + x3) 1028 ∧ (vp_in ((257 * x2) + x3) 1028 ∧ (p_putBits (S.2.1 28 ((257 * x2) + x3).toNatClampNeg) (S.2.1 27 ((257 * x2) + x3).toNatClampNeg) S (fun S48 => b_symbol_51 (S48.1, S48.2.1, S48.2.2) K))))) ∧ (¬ (x1 = 0) → (vp_in ((257 * x2) + x3) 1028 ∧ (vp_in ((257 * x2) + x3) 1028 ∧ (b_symbol_51 (S.1, va_up S.2.1 26 (upd (S.2.1 26) ((257 * x2) + x3).toNatClampNeg ((S.2.1 26 ((257 * x2) + x3).toNatClampNeg) + 1)), S.2.2) K))))
section M_symbol
variable {D : va_G} {z : Nat → ClassId} {A : Nat → Prop} {X : cx} {L0 : fw} {K : ms → Prop} {o : Nat} {ad : Nat → Nat}
set_option maxRecDepth 100000 in
set_option maxHeartbeats 1000000 in
theorem s_symbol_51 (C : fcx gG D z A X R_M c_M_symbol 4 (none)) (hQ : X.2.2.2.2.2.2.2.2.2.2 = eQ gG D z X.2.2.2.2.2.2.2.1 X.2.2.2.2.1 L0 0 0 (pM_v K o ad)) (hA : A = owA gG L0 X.2.2.2.2.1.heap.size) (hR : X.2.2.2.1 = { frames := 3, cells := 1, slots := 6, locals := 300 })  (S : ms) (hp : b_symbol_51  S K) : aw gG D z A X 4 51 [some (.ref o), none, none, none] [] [(0, ly_M, (o, ad, S.1, S.2.1, S.2.2))] 0 0 := by
  unfold b_symbol_51 at hp
  exact a_vret C hQ hA d_symbol_51 rfl ⟨S, hp, rfl, rfl⟩
set_option maxRecDepth 100000 in
set_option maxHeartbeats 1000000 in
theorem s_symbol_0 (C : fcx gG D z A X R_M c_M_symbol 4 (none)) (hQ : X.2.2.2.2.2.2.2.2.2.2 = eQ gG D z X.2.2.2.2.2.2.2.1 X.2.2.2.2.1 L0 0 0 (pM_v K o ad)) (hA : A = owA gG L0 X.2.2.2.2.1.heap.size) (hR : X.2.2.2.1 = { frames := 3, cells := 1, slots := 6, locals := 300 }) (x1 : Int32) (x2 : Int32) (x3 : Int32) (S : ms) (hp : p_symbol x1 x2 x3 S K) : aw gG D z A X 4 0 [some (.ref o), some (.int x1), some (.int x2), some (.int x3)] [] [(0, ly_M, (o, ad, S.1, S.2.1, S.2.2))] 0 0 := by
  unfold p_symbol at hp
  refine a_iload_n C d_symbol_0 rfl rfl ?_
  refine a_if_eq (tgt := 23) C d_symbol_1 (by decide) ⟨fun hc => ?_, fun hc => ?_⟩
  · have hp := hp.1 hc
    refine a_aload_n C d_symbol_23 rfl rfl ?_
    refine a_aload_n C d_symbol_24 rfl rfl ?_
    refine a_getR C 0 28 d_symbol_25 rfl rfl rfl (Nat.le_of_ble_eq_true rfl) f_M_91 ⟨Nat.le_of_ble_eq_true rfl, Nat.le_of_ble_eq_true rfl⟩ ?_
    refine a_sipush (v := 257) C d_symbol_28 (by decide) ?_
    refine a_iload_n C d_symbol_31 rfl rfl ?_
    refine a_imul C d_symbol_32 ?_
    refine a_iload_n C d_symbol_33 rfl rfl ?_
    refine a_iadd C d_symbol_34 ?_
    refine a_iald C 0 28 d_symbol_35 rfl rfl rfl hp.1 ?_
    have hp := hp.2
    refine a_aload_n C d_symbol_36 rfl rfl ?_
    refine a_getR C 0 27 d_symbol_37 rfl rfl rfl (Nat.le_of_ble_eq_true rfl) f_M_88 ⟨Nat.le_of_ble_eq_true rfl, Nat.le_of_ble_eq_true rfl⟩ ?_
    refine a_sipush (v := 257) C d_symbol_40 (by decide) ?_
    refine a_iload_n C d_symbol_43 rfl rfl ?_
    refine a_imul C d_symbol_44 ?_
    refine a_iload_n C d_symbol_45 rfl rfl ?_
    refine a_iadd C d_symbol_46 ?_
    refine a_iald C 0 27 d_symbol_47 rfl rfl rfl hp.1 ?_
    have hp := hp.2
    refine a_call (Lr := []) (rest := []) (av := .ref o :: [.int (S.2.1 28 ((257 * x2) + x3).toNatClampNeg), .int (S.2.1 27 ((257 * x2) + x3).toNatClampNeg)]) C [0] [] d_symbol_48 (ct_putBits (S.2.1 28 ((257 * x2) + x3).toNatClampNeg) (S.2.1 27 ((257 * x2) + x3).toNatClampNeg) S hp) cd_M_putBits i_M (Nat.le_of_ble_eq_true rfl) (by rw [hR]; exact Nat.le_of_ble_eq_true rfl) (by rw [hR]; exact Nat.le_of_ble_eq_true rfl) (by rw [hR]; exact Nat.le_of_ble_eq_true rfl) (by rw [hR]; exact Nat.le_of_ble_eq_true rfl) rfl rfl (by decide) (by decide) (by decide) (inv_V C 0 d_symbol_48 l_M_210 im_M_putBits se_M_putBits cd_M_putBits ⟨by decide, by decide⟩ ln_M_putBits rfl rfl rfl rfl rfl) (fun oc L1 hL => ?_)
    obtain ⟨S48, hp, rfl, rfl⟩ := hL
    refine ⟨_, rfl, ?_⟩
    refine aw_eq (lo' := _) (st' := []) (L' := [(0, ly_M, (o, ad, S48.1, S48.2.1, S48.2.2))]) rfl rfl rfl ?_
    refine aw_lo (lo' := [some (.ref o), none, none, none]) ⟨.inr rfl, .inl rfl, .inl rfl, .inl rfl, trivial⟩ ?_
    exact s_symbol_51 C hQ hA hR (S48.1, S48.2.1, S48.2.2)  hp
  · have hp := hp.2 hc
    refine a_aload_n C d_symbol_4 rfl rfl ?_
    refine a_getR C 0 26 d_symbol_5 rfl rfl rfl (Nat.le_of_ble_eq_true rfl) f_M_85 ⟨Nat.le_of_ble_eq_true rfl, Nat.le_of_ble_eq_true rfl⟩ ?_
    refine a_sipush (v := 257) C d_symbol_8 (by decide) ?_
    refine a_iload_n C d_symbol_11 rfl rfl ?_
    refine a_imul C d_symbol_12 ?_
    refine a_iload_n C d_symbol_13 rfl rfl ?_
    refine a_iadd C d_symbol_14 ?_
    refine a_dup2 C d_symbol_15 rfl rfl ?_
    refine a_iald C 0 26 d_symbol_16 rfl rfl rfl hp.1 ?_
    have hp := hp.2
    refine a_iconst (v := 1) C d_symbol_17 (by decide) ?_
    refine a_iadd C d_symbol_18 ?_
    refine a_iast C 0 26 d_symbol_19 rfl rfl rfl hp.1 ?_
    have hp := hp.2
    refine aw_eq (lo' := _) (st' := _) (L' := [(0, ly_M, (o, ad, S.1, va_up S.2.1 26 (upd (S.2.1 26) ((257 * x2) + x3).toNatClampNeg ((S.2.1 26 ((257 * x2) + x3).toNatClampNeg) + 1)), S.2.2))]) rfl rfl rfl ?_
    refine a_goto (tgt := 51) C d_symbol_20 (by decide) ?_
    refine aw_lo (lo' := [some (.ref o), none, none, none]) ⟨.inr rfl, .inl rfl, .inl rfl, .inl rfl, trivial⟩ ?_
    exact s_symbol_51 C hQ hA hR (S.1, va_up S.2.1 26 (upd (S.2.1 26) ((257 * x2) + x3).toNatClampNeg ((S.2.1 26 ((257 * x2) + x3).toNatClampNeg) + 1)), S.2.2)  hp
end M_symbol
section M_symbolc
variable {D : va_G} {z : Nat → ClassId} {o : Nat} {ad : Nat → Nat}
set_option maxRecDepth 100000 in
theorem ct_symbol {l : Launch} (x1 : Int32) (x2 : Int32) (x3 : Int32) (S : ms) {K : ms → Prop} (hp : p_symbol x1 x2 x3 S K) : ct gG D z l n_M_symbol c_M_symbol 4 (none) 3 300 [.ref o, .int x1, .int x2, .int x3] [(0, ly_M, (o, ad, S.1, S.2.1, S.2.2))] 0 0 (pM_v K o ad) := by
  refine ct_of (lo := [some (.ref o), some (.int x1), some (.int x2), some (.int x3)]) (by decide) g_ok (Nat.le_of_ble_eq_true rfl) rfl ?_
  intro X A _ C hR hQ hA _
  exact s_symbol_0 C hQ hA hR x1 x2 x3 S hp
end M_symbolc
def b_bitsOf_13 (x1 : Int32) (x2 : Int32) (R13 : Int32 → Int32 → Prop) (K : Int32 → Prop) : Prop :=
  ((x1 >>> (x2 &&& 31 : Int32) : Int32) ≤ 0 → (K x2)) ∧ (¬ ((x1 >>> (x2 &&& 31 : Int32) : Int32) ≤ 0) → (R13 x1 (x2 + 1)))
def e_bitsOf_13 (x1 : Int32) (x2 : Int32) (K : Int32 → Prop) : Prop :=
  ∃ (I : Int32 → Int32 → Prop) (μ : Int32 → Int32 → Nat), I x1 x2 ∧ ∀ yx1 yx2, I yx1 yx2 → b_bitsOf_13 yx1 yx2 (fun zx1 zx2 => I zx1 zx2 ∧ μ zx1 zx2 < μ yx1 yx2) K
def b_bitsOf_10 (s0 : Int32) (K : Int32 → Prop) : Prop :=
  e_bitsOf_13 s0 0 K
def p_bitsOf (x0 : Int32) (K : Int32 → Prop) : Prop :=
  (0 ≤ x0 → (b_bitsOf_10 x0 K)) ∧ (¬ (0 ≤ x0) → (b_bitsOf_10 (-x0) K))
section M_bitsOf
variable {D : va_G} {z : Nat → ClassId} {A : Nat → Prop} {X : cx} {L0 : fw} {K : Int32 → Prop}
set_option maxRecDepth 100000 in
set_option maxHeartbeats 1000000 in
theorem s_bitsOf_13 (C : fcx gG D z A X R_M c_M_bitsOf 3 (some .int)) (hQ : X.2.2.2.2.2.2.2.2.2.2 = eQ gG D z X.2.2.2.2.2.2.2.1 X.2.2.2.2.1 L0 0 0 (pS_i K)) (hA : A = owA gG L0 X.2.2.2.2.1.heap.size) (hR : X.2.2.2.1 = { frames := 1, cells := 1, slots := 6, locals := 100 }) (x1 : Int32) (x2 : Int32) (R13 : Int32 → Int32 → Prop) (hR13 : ∀ yx1 yx2, R13 yx1 yx2 → aw gG D z A X 3 13 [none, some (.int yx1), some (.int yx2)] [] ([] : fw) 0 0) (hp : b_bitsOf_13 x1 x2 R13 K) : aw gG D z A X 3 13 [none, some (.int x1), some (.int x2)] [] ([] : fw) 0 0 := by
  unfold b_bitsOf_13 at hp
  refine a_iload_n C d_bitsOf_13 rfl rfl ?_
  refine a_iload_n C d_bitsOf_14 rfl rfl ?_
  refine a_ishr C d_bitsOf_15 ?_
  refine a_if_le (tgt := 25) C d_bitsOf_16 (by decide) ⟨fun hc => ?_, fun hc => ?_⟩
  · have hp := hp.1 hc
    refine a_iload_n C d_bitsOf_25 rfl rfl ?_
    exact a_iret (ty := .int) C hQ hA d_bitsOf_26 rfl rfl ⟨_, hp, rfl, rfl⟩
  · have hp := hp.2 hc
    refine a_iinc (v := x2 + 1) (lo' := [none, some (.int x1), some (.int (x2 + 1))]) C d_bitsOf_19 rfl rfl (by decide) rfl ?_
    refine a_goto (tgt := 13) C d_bitsOf_22 (by decide) ?_
    refine aw_lo (lo' := [none, some (.int x1), some (.int (x2 + 1))]) ⟨.inr rfl, .inr rfl, .inr rfl, trivial⟩ ?_
    exact hR13 x1 (x2 + 1) hp
set_option maxRecDepth 100000 in
set_option maxHeartbeats 1000000 in
theorem se_bitsOf_13 (C : fcx gG D z A X R_M c_M_bitsOf 3 (some .int)) (hQ : X.2.2.2.2.2.2.2.2.2.2 = eQ gG D z X.2.2.2.2.2.2.2.1 X.2.2.2.2.1 L0 0 0 (pS_i K)) (hA : A = owA gG L0 X.2.2.2.2.1.heap.size) (hR : X.2.2.2.1 = { frames := 1, cells := 1, slots := 6, locals := 100 }) (x1 : Int32) (x2 : Int32) (hp : e_bitsOf_13 x1 x2 K) : aw gG D z A X 3 13 [none, some (.int x1), some (.int x2)] [] ([] : fw) 0 0 := by
  obtain ⟨I, μ, h0, hs⟩ := hp
  have key : ∀ (n : Nat) (yx1 : Int32) (yx2 : Int32), μ yx1 yx2 < n → I yx1 yx2 → aw gG D z A X 3 13 [none, some (.int yx1), some (.int yx2)] [] ([] : fw) 0 0 := by
    intro n
    induction n with
    | zero => intro yx1 yx2 h; omega
    | succ n ih =>
      intro yx1 yx2 hn hI
      exact s_bitsOf_13 C hQ hA hR yx1 yx2 _ (fun zx1 zx2 hw => ih zx1 zx2 (by omega) hw.1) (hs yx1 yx2 hI)
  exact key (μ x1 x2 + 1) x1 x2 (Nat.lt_succ_self _) h0
set_option maxRecDepth 100000 in
set_option maxHeartbeats 1000000 in
theorem s_bitsOf_10 (C : fcx gG D z A X R_M c_M_bitsOf 3 (some .int)) (hQ : X.2.2.2.2.2.2.2.2.2.2 = eQ gG D z X.2.2.2.2.2.2.2.1 X.2.2.2.2.1 L0 0 0 (pS_i K)) (hA : A = owA gG L0 X.2.2.2.2.1.heap.size) (hR : X.2.2.2.1 = { frames := 1, cells := 1, slots := 6, locals := 100 }) (s0 : Int32) (hp : b_bitsOf_10 s0 K) : aw gG D z A X 3 10 [none, none, none] [.int s0] ([] : fw) 0 0 := by
  unfold b_bitsOf_10 at hp
  refine a_istore_n (lo' := [none, some (.int s0), none]) C d_bitsOf_10 rfl (by decide) rfl ?_
  refine a_iconst (v := 0) C d_bitsOf_11 (by decide) ?_
  refine a_istore_n (lo' := [none, some (.int s0), some (.int 0)]) C d_bitsOf_12 rfl (by decide) rfl ?_
  refine aw_lo (lo' := [none, some (.int s0), some (.int 0)]) ⟨.inr rfl, .inr rfl, .inr rfl, trivial⟩ ?_
  exact se_bitsOf_13 C hQ hA hR s0 0  hp
set_option maxRecDepth 100000 in
set_option maxHeartbeats 1000000 in
theorem s_bitsOf_0 (C : fcx gG D z A X R_M c_M_bitsOf 3 (some .int)) (hQ : X.2.2.2.2.2.2.2.2.2.2 = eQ gG D z X.2.2.2.2.2.2.2.1 X.2.2.2.2.1 L0 0 0 (pS_i K)) (hA : A = owA gG L0 X.2.2.2.2.1.heap.size) (hR : X.2.2.2.1 = { frames := 1, cells := 1, slots := 6, locals := 100 }) (x0 : Int32) (hp : p_bitsOf x0 K) : aw gG D z A X 3 0 [some (.int x0), none, none] [] ([] : fw) 0 0 := by
  unfold p_bitsOf at hp
  refine a_iload_n C d_bitsOf_0 rfl rfl ?_
  refine a_if_ge (tgt := 9) C d_bitsOf_1 (by decide) ⟨fun hc => ?_, fun hc => ?_⟩
  · have hp := hp.1 hc
    refine a_iload_n C d_bitsOf_9 rfl rfl ?_
    refine aw_lo (lo' := [none, none, none]) ⟨.inl rfl, .inr rfl, .inr rfl, trivial⟩ ?_
    exact s_bitsOf_10 C hQ hA hR x0  hp
  · have hp := hp.2 hc
    refine a_iload_n C d_bitsOf_4 rfl rfl ?_
    refine a_ineg C d_bitsOf_5 ?_
    refine a_goto (tgt := 10) C d_bitsOf_6 (by decide) ?_
    refine aw_lo (lo' := [none, none, none]) ⟨.inl rfl, .inr rfl, .inr rfl, trivial⟩ ?_
    exact s_bitsOf_10 C hQ hA hR (-x0)  hp
end M_bitsOf
section M_bitsOfc
variable {D : va_G} {z : Nat → ClassId}
set_option maxRecDepth 100000 in
theorem ct_bitsOf {l : Launch} (x0 : Int32) {K : Int32 → Prop} (hp : p_bitsOf x0 K) : ct gG D z l n_M_bitsOf c_M_bitsOf 3 (some .int) 1 100 [.int x0] ([] : fw) 0 0 (pS_i K) := by
  refine ct_of (lo := [some (.int x0), none, none]) (by decide) g_ok (Nat.le_of_ble_eq_true rfl) rfl ?_
  intro X A _ C hR hQ hA _
  exact s_bitsOf_0 C hQ hA hR x0 hp
end M_bitsOfc
def b_number_24  (S : ms) (K : ms → Prop) : Prop :=
  K S
def b_number_20 (x3 : Int32) (s1 : Int32) (S : ms) (K : ms → Prop) : Prop :=
  p_putBits s1 x3 S (fun S21 => b_number_24 (S21.1, S21.2.1, S21.2.2) K)
def p_number (x1 : Int32) (x2 : Int32) (x3 : Int32) (S : ms) (K : ms → Prop) : Prop :=
  (¬ x1 = 0 → (b_number_24 S K)) ∧ (x1 = 0 → ((0 ≤ x2 → (b_number_20 x3 x2 S K)) ∧ (¬ (0 ≤ x2) → (b_number_20 x3 ((x2 + ((1 : Int32) <<< (x3 &&& 31 : Int32) : Int32)) - 1) S K))))
section M_number
variable {D : va_G} {z : Nat → ClassId} {A : Nat → Prop} {X : cx} {L0 : fw} {K : ms → Prop} {o : Nat} {ad : Nat → Nat}
set_option maxRecDepth 100000 in
set_option maxHeartbeats 1000000 in
theorem s_number_24 (C : fcx gG D z A X R_M c_M_number 4 (none)) (hQ : X.2.2.2.2.2.2.2.2.2.2 = eQ gG D z X.2.2.2.2.2.2.2.1 X.2.2.2.2.1 L0 0 0 (pM_v K o ad)) (hA : A = owA gG L0 X.2.2.2.2.1.heap.size) (hR : X.2.2.2.1 = { frames := 3, cells := 1, slots := 6, locals := 300 })  (S : ms) (hp : b_number_24  S K) : aw gG D z A X 4 24 [some (.ref o), none, none, none] [] [(0, ly_M, (o, ad, S.1, S.2.1, S.2.2))] 0 0 := by
  unfold b_number_24 at hp
  exact a_vret C hQ hA d_number_24 rfl ⟨S, hp, rfl, rfl⟩
set_option maxRecDepth 100000 in
set_option maxHeartbeats 1000000 in
theorem s_number_20 (C : fcx gG D z A X R_M c_M_number 4 (none)) (hQ : X.2.2.2.2.2.2.2.2.2.2 = eQ gG D z X.2.2.2.2.2.2.2.1 X.2.2.2.2.1 L0 0 0 (pM_v K o ad)) (hA : A = owA gG L0 X.2.2.2.2.1.heap.size) (hR : X.2.2.2.1 = { frames := 3, cells := 1, slots := 6, locals := 300 }) (x3 : Int32) (s1 : Int32) (S : ms) (hp : b_number_20 x3 s1 S K) : aw gG D z A X 4 20 [some (.ref o), none, none, some (.int x3)] [.int s1, .ref o] [(0, ly_M, (o, ad, S.1, S.2.1, S.2.2))] 0 0 := by
  unfold b_number_20 at hp
  refine a_iload_n C d_number_20 rfl rfl ?_
  refine a_call (Lr := []) (rest := []) (av := .ref o :: [.int s1, .int x3]) C [0] [] d_number_21 (ct_putBits s1 x3 S hp) cd_M_putBits i_M (Nat.le_of_ble_eq_true rfl) (by rw [hR]; exact Nat.le_of_ble_eq_true rfl) (by rw [hR]; exact Nat.le_of_ble_eq_true rfl) (by rw [hR]; exact Nat.le_of_ble_eq_true rfl) (by rw [hR]; exact Nat.le_of_ble_eq_true rfl) rfl rfl (by decide) (by decide) (by decide) (inv_V C 0 d_number_21 l_M_210 im_M_putBits se_M_putBits cd_M_putBits ⟨by decide, by decide⟩ ln_M_putBits rfl rfl rfl rfl rfl) (fun oc L1 hL => ?_)
  obtain ⟨S21, hp, rfl, rfl⟩ := hL
  refine ⟨_, rfl, ?_⟩
  refine aw_eq (lo' := _) (st' := []) (L' := [(0, ly_M, (o, ad, S21.1, S21.2.1, S21.2.2))]) rfl rfl rfl ?_
  refine aw_lo (lo' := [some (.ref o), none, none, none]) ⟨.inr rfl, .inr rfl, .inr rfl, .inl rfl, trivial⟩ ?_
  exact s_number_24 C hQ hA hR (S21.1, S21.2.1, S21.2.2)  hp
set_option maxRecDepth 100000 in
set_option maxHeartbeats 1000000 in
theorem s_number_0 (C : fcx gG D z A X R_M c_M_number 4 (none)) (hQ : X.2.2.2.2.2.2.2.2.2.2 = eQ gG D z X.2.2.2.2.2.2.2.1 X.2.2.2.2.1 L0 0 0 (pM_v K o ad)) (hA : A = owA gG L0 X.2.2.2.2.1.heap.size) (hR : X.2.2.2.1 = { frames := 3, cells := 1, slots := 6, locals := 300 }) (x1 : Int32) (x2 : Int32) (x3 : Int32) (S : ms) (hp : p_number x1 x2 x3 S K) : aw gG D z A X 4 0 [some (.ref o), some (.int x1), some (.int x2), some (.int x3)] [] [(0, ly_M, (o, ad, S.1, S.2.1, S.2.2))] 0 0 := by
  unfold p_number at hp
  refine a_iload_n C d_number_0 rfl rfl ?_
  refine a_if_ne (tgt := 24) C d_number_1 (by decide) ⟨fun hc => ?_, fun hc => ?_⟩
  · have hp := hp.1 hc
    refine aw_lo (lo' := [some (.ref o), none, none, none]) ⟨.inr rfl, .inl rfl, .inl rfl, .inl rfl, trivial⟩ ?_
    exact s_number_24 C hQ hA hR S  hp
  · have hp := hp.2 hc
    refine a_aload_n C d_number_4 rfl rfl ?_
    refine a_iload_n C d_number_5 rfl rfl ?_
    refine a_if_ge (tgt := 19) C d_number_6 (by decide) ⟨fun hc => ?_, fun hc => ?_⟩
    · have hp := hp.1 hc
      refine a_iload_n C d_number_19 rfl rfl ?_
      refine aw_lo (lo' := [some (.ref o), none, none, some (.int x3)]) ⟨.inr rfl, .inl rfl, .inl rfl, .inr rfl, trivial⟩ ?_
      exact s_number_20 C hQ hA hR x3 x2 S  hp
    · have hp := hp.2 hc
      refine a_iload_n C d_number_9 rfl rfl ?_
      refine a_iconst (v := 1) C d_number_10 (by decide) ?_
      refine a_iload_n C d_number_11 rfl rfl ?_
      refine a_ishl C d_number_12 ?_
      refine a_iadd C d_number_13 ?_
      refine a_iconst (v := 1) C d_number_14 (by decide) ?_
      refine a_isub C d_number_15 ?_
      refine a_goto (tgt := 20) C d_number_16 (by decide) ?_
      refine aw_lo (lo' := [some (.ref o), none, none, some (.int x3)]) ⟨.inr rfl, .inl rfl, .inl rfl, .inr rfl, trivial⟩ ?_
      exact s_number_20 C hQ hA hR x3 ((x2 + ((1 : Int32) <<< (x3 &&& 31 : Int32) : Int32)) - 1) S  hp
end M_number
section M_numberc
variable {D : va_G} {z : Nat → ClassId} {o : Nat} {ad : Nat → Nat}
set_option maxRecDepth 100000 in
theorem ct_number {l : Launch} (x1 : Int32) (x2 : Int32) (x3 : Int32) (S : ms) {K : ms → Prop} (hp : p_number x1 x2 x3 S K) : ct gG D z l n_M_number c_M_number 4 (none) 3 300 [.ref o, .int x1, .int x2, .int x3] [(0, ly_M, (o, ad, S.1, S.2.1, S.2.2))] 0 0 (pM_v K o ad) := by
  refine ct_of (lo := [some (.ref o), some (.int x1), some (.int x2), some (.int x3)]) (by decide) g_ok (Nat.le_of_ble_eq_true rfl) rfl ?_
  intro X A _ C hR hQ hA _
  exact s_number_0 C hQ hA hR x1 x2 x3 S hp
end M_numberc
def b_tell_188  (S : ms) (K : ms → Prop) : Prop :=
  K S
def b_tell_167 (x1 : Int32) (x2 : Int32) (x3 : Int32) (x4 : Int32) (x7 : Int32) (x8 : Int32) (S : ms) (R74 : Int32 → Int32 → Int32 → Int32 → Int32 → Int32 → ms → Prop) (K : ms → Prop) : Prop :=
  R74 x1 x2 x3 x4 x7 (x8 + 1) S
def b_tell_107 (x1 : Int32) (x2 : Int32) (x3 : Int32) (x4 : Int32) (x7 : Int32) (x8 : Int32) (x9 : Int32) (S : ms) (R74 : Int32 → Int32 → Int32 → Int32 → Int32 → Int32 → ms → Prop) (R107 : Int32 → Int32 → Int32 → Int32 → Int32 → Int32 → Int32 → ms → Prop) (K : ms → Prop) : Prop :=
  (x7 ≤ 15 → (p_bitsOf x9 (fun v145 => p_symbol x1 (x4 + 1) ((16 * x7) + v145) S (fun S149 => p_bitsOf x9 (fun v158 => p_number x1 x9 v158 (S149.1, S149.2.1, S149.2.2) (fun S161 => b_tell_167 x1 x2 x3 x4 0 x8 (S161.1, S161.2.1, S161.2.2) R74 K)))))) ∧ (¬ (x7 ≤ 15) → (p_symbol x1 (x4 + 1) 240 S (fun S123 => R107 x1 x2 x3 x4 (x7 + (-16)) x8 x9 (S123.1, S123.2.1, S123.2.2))))
def e_tell_107 (x1 : Int32) (x2 : Int32) (x3 : Int32) (x4 : Int32) (x7 : Int32) (x8 : Int32) (x9 : Int32) (S : ms) (R74 : Int32 → Int32 → Int32 → Int32 → Int32 → Int32 → ms → Prop) (K : ms → Prop) : Prop :=
  ∃ (I : Int32 → Int32 → Int32 → Int32 → Int32 → Int32 → Int32 → ms → Prop) (μ : Int32 → Int32 → Int32 → Int32 → Int32 → Int32 → Int32 → ms → Nat), I x1 x2 x3 x4 x7 x8 x9 S ∧ ∀ yx1 yx2 yx3 yx4 yx7 yx8 yx9 yS, I yx1 yx2 yx3 yx4 yx7 yx8 yx9 yS → b_tell_107 yx1 yx2 yx3 yx4 yx7 yx8 yx9 yS R74 (fun zx1 zx2 zx3 zx4 zx7 zx8 zx9 zS => I zx1 zx2 zx3 zx4 zx7 zx8 zx9 zS ∧ μ zx1 zx2 zx3 zx4 zx7 zx8 zx9 zS < μ yx1 yx2 yx3 yx4 yx7 yx8 yx9 yS) K
def b_tell_74 (x1 : Int32) (x2 : Int32) (x3 : Int32) (x4 : Int32) (x7 : Int32) (x8 : Int32) (S : ms) (R74 : Int32 → Int32 → Int32 → Int32 → Int32 → Int32 → ms → Prop) (K : ms → Prop) : Prop :=
  (64 ≤ x8 → ((x7 ≤ 0 → (b_tell_188 S K)) ∧ (¬ (x7 ≤ 0) → (p_symbol x1 (x4 + 1) 0 S (fun S185 => b_tell_188 (S185.1, S185.2.1, S185.2.2) K))))) ∧ (¬ (64 ≤ x8) → (p_levelCell 0 x2 x3 x8 (fun v90 => vp_in v90 36864 ∧ ((¬ (S.2.1 19 v90.toNatClampNeg) = 0 → (e_tell_107 x1 x2 x3 x4 x7 x8 (S.2.1 19 v90.toNatClampNeg) S R74 K)) ∧ ((S.2.1 19 v90.toNatClampNeg) = 0 → (b_tell_167 x1 x2 x3 x4 (x7 + 1) x8 S R74 K))))))
def e_tell_74 (x1 : Int32) (x2 : Int32) (x3 : Int32) (x4 : Int32) (x7 : Int32) (x8 : Int32) (S : ms) (K : ms → Prop) : Prop :=
  ∃ (I : Int32 → Int32 → Int32 → Int32 → Int32 → Int32 → ms → Prop) (μ : Int32 → Int32 → Int32 → Int32 → Int32 → Int32 → ms → Nat), I x1 x2 x3 x4 x7 x8 S ∧ ∀ yx1 yx2 yx3 yx4 yx7 yx8 yS, I yx1 yx2 yx3 yx4 yx7 yx8 yS → b_tell_74 yx1 yx2 yx3 yx4 yx7 yx8 yS (fun zx1 zx2 zx3 zx4 zx7 zx8 zS => I zx1 zx2 zx3 zx4 zx7 zx8 zS ∧ μ zx1 zx2 zx3 zx4 zx7 zx8 zS < μ yx1 yx2 yx3 yx4 yx7 yx8 yS) K
def b_tell_9 (x1 : Int32) (x2 : Int32) (x3 : Int32) (s0 : Int32) (S : ms) (K : ms → Prop) : Prop :=
  p_levelCell 0 x2 x3 0 (fun v19 => vp_in v19 36864 ∧ (vp_in x2 3 ∧ (vp_in x2 3 ∧ (p_bitsOf ((S.2.1 19 v19.toNatClampNeg) - (S.2.1 53 x2.toNatClampNeg)) (fun v50 => p_symbol x1 s0 v50 (S.1, va_up S.2.1 53 (upd (S.2.1 53) x2.toNatClampNeg (S.2.1 19 v19.toNatClampNeg)), S.2.2) (fun S53 => p_bitsOf ((S.2.1 19 v19.toNatClampNeg) - (S.2.1 53 x2.toNatClampNeg)) (fun v62 => p_number x1 ((S.2.1 19 v19.toNatClampNeg) - (S.2.1 53 x2.toNatClampNeg)) v62 (S53.1, S53.2.1, S53.2.2) (fun S65 => e_tell_74 x1 x2 x3 s0 0 1 (S65.1, S65.2.1, S65.2.2) K))))))))
def p_tell (x1 : Int32) (x2 : Int32) (x3 : Int32) (S : ms) (K : ms → Prop) : Prop :=
  (¬ x2 = 0 → (b_tell_9 x1 x2 x3 2 S K)) ∧ (x2 = 0 → (b_tell_9 x1 x2 x3 0 S K))
section M_tell
variable {D : va_G} {z : Nat → ClassId} {A : Nat → Prop} {X : cx} {L0 : fw} {K : ms → Prop} {o : Nat} {ad : Nat → Nat}
set_option maxRecDepth 100000 in
set_option maxHeartbeats 1000000 in
theorem s_tell_188 (C : fcx gG D z A X R_M c_M_tell 10 (none)) (hQ : X.2.2.2.2.2.2.2.2.2.2 = eQ gG D z X.2.2.2.2.2.2.2.1 X.2.2.2.2.1 L0 0 0 (pM_v K o ad)) (hA : A = owA gG L0 X.2.2.2.2.1.heap.size) (hR : X.2.2.2.1 = { frames := 4, cells := 1, slots := 6, locals := 400 })  (S : ms) (hp : b_tell_188  S K) : aw gG D z A X 10 188 [some (.ref o), none, none, none, none, none, none, none, none, none] [] [(0, ly_M, (o, ad, S.1, S.2.1, S.2.2))] 0 0 := by
  unfold b_tell_188 at hp
  exact a_vret C hQ hA d_tell_188 rfl ⟨S, hp, rfl, rfl⟩
set_option maxRecDepth 100000 in
set_option maxHeartbeats 1000000 in
theorem s_tell_167 (C : fcx gG D z A X R_M c_M_tell 10 (none)) (hQ : X.2.2.2.2.2.2.2.2.2.2 = eQ gG D z X.2.2.2.2.2.2.2.1 X.2.2.2.2.1 L0 0 0 (pM_v K o ad)) (hA : A = owA gG L0 X.2.2.2.2.1.heap.size) (hR : X.2.2.2.1 = { frames := 4, cells := 1, slots := 6, locals := 400 }) (x1 : Int32) (x2 : Int32) (x3 : Int32) (x4 : Int32) (x7 : Int32) (x8 : Int32) (S : ms) (R74 : Int32 → Int32 → Int32 → Int32 → Int32 → Int32 → ms → Prop) (hR74 : ∀ yx1 yx2 yx3 yx4 yx7 yx8 yS, R74 yx1 yx2 yx3 yx4 yx7 yx8 yS → aw gG D z A X 10 74 [some (.ref o), some (.int yx1), some (.int yx2), some (.int yx3), some (.int yx4), none, none, some (.int yx7), some (.int yx8), none] [] [(0, ly_M, (o, ad, yS.1, yS.2.1, yS.2.2))] 0 0) (hp : b_tell_167 x1 x2 x3 x4 x7 x8 S R74 K) : aw gG D z A X 10 167 [some (.ref o), some (.int x1), some (.int x2), some (.int x3), some (.int x4), none, none, some (.int x7), some (.int x8), none] [] [(0, ly_M, (o, ad, S.1, S.2.1, S.2.2))] 0 0 := by
  unfold b_tell_167 at hp
  refine a_iinc (v := x8 + 1) (lo' := [some (.ref o), some (.int x1), some (.int x2), some (.int x3), some (.int x4), none, none, some (.int x7), some (.int (x8 + 1)), none]) C d_tell_167 rfl rfl (by decide) rfl ?_
  refine a_goto (tgt := 74) C d_tell_170 (by decide) ?_
  refine aw_lo (lo' := [some (.ref o), some (.int x1), some (.int x2), some (.int x3), some (.int x4), none, none, some (.int x7), some (.int (x8 + 1)), none]) ⟨.inr rfl, .inr rfl, .inr rfl, .inr rfl, .inr rfl, .inr rfl, .inr rfl, .inr rfl, .inr rfl, .inr rfl, trivial⟩ ?_
  exact hR74 x1 x2 x3 x4 x7 (x8 + 1) S hp
set_option maxRecDepth 100000 in
set_option maxHeartbeats 1000000 in
theorem s_tell_107 (C : fcx gG D z A X R_M c_M_tell 10 (none)) (hQ : X.2.2.2.2.2.2.2.2.2.2 = eQ gG D z X.2.2.2.2.2.2.2.1 X.2.2.2.2.1 L0 0 0 (pM_v K o ad)) (hA : A = owA gG L0 X.2.2.2.2.1.heap.size) (hR : X.2.2.2.1 = { frames := 4, cells := 1, slots := 6, locals := 400 }) (x1 : Int32) (x2 : Int32) (x3 : Int32) (x4 : Int32) (x7 : Int32) (x8 : Int32) (x9 : Int32) (S : ms) (R74 : Int32 → Int32 → Int32 → Int32 → Int32 → Int32 → ms → Prop) (hR74 : ∀ yx1 yx2 yx3 yx4 yx7 yx8 yS, R74 yx1 yx2 yx3 yx4 yx7 yx8 yS → aw gG D z A X 10 74 [some (.ref o), some (.int yx1), some (.int yx2), some (.int yx3), some (.int yx4), none, none, some (.int yx7), some (.int yx8), none] [] [(0, ly_M, (o, ad, yS.1, yS.2.1, yS.2.2))] 0 0) (R107 : Int32 → Int32 → Int32 → Int32 → Int32 → Int32 → Int32 → ms → Prop) (hR107 : ∀ yx1 yx2 yx3 yx4 yx7 yx8 yx9 yS, R107 yx1 yx2 yx3 yx4 yx7 yx8 yx9 yS → aw gG D z A X 10 107 [some (.ref o), some (.int yx1), some (.int yx2), some (.int yx3), some (.int yx4), none, none, some (.int yx7), some (.int yx8), some (.int yx9)] [] [(0, ly_M, (o, ad, yS.1, yS.2.1, yS.2.2))] 0 0) (hp : b_tell_107 x1 x2 x3 x4 x7 x8 x9 S R74 R107 K) : aw gG D z A X 10 107 [some (.ref o), some (.int x1), some (.int x2), some (.int x3), some (.int x4), none, none, some (.int x7), some (.int x8), some (.int x9)] [] [(0, ly_M, (o, ad, S.1, S.2.1, S.2.2))] 0 0 := by
  unfold b_tell_107 at hp
  refine a_iload C d_tell_107 rfl ?_
  refine a_bipush (v := 15) C d_tell_109 (by decide) ?_
  refine a_icmp_le (tgt := 132) C d_tell_111 (by decide) ⟨fun hc => ?_, fun hc => ?_⟩
  · have hp := hp.1 hc
    refine a_aload_n C d_tell_132 rfl rfl ?_
    refine a_iload_n C d_tell_133 rfl rfl ?_
    refine a_iload C d_tell_134 rfl ?_
    refine a_iconst (v := 1) C d_tell_136 (by decide) ?_
    refine a_iadd C d_tell_137 ?_
    refine a_bipush (v := 16) C d_tell_138 (by decide) ?_
    refine a_iload C d_tell_140 rfl ?_
    refine a_imul C d_tell_142 ?_
    refine a_iload C d_tell_143 rfl ?_
    refine a_call (Lr := [(0, ly_M, (o, ad, S.1, S.2.1, S.2.2))]) (rest := [.int (16 * x7), .int (x4 + 1), .int x1, .ref o]) (av := [.int x9]) C [] [0] d_tell_145 (ct_bitsOf x9 hp) cd_M_bitsOf i_M (Nat.le_of_ble_eq_true rfl) (by rw [hR]; exact Nat.le_of_ble_eq_true rfl) (by rw [hR]; exact Nat.le_of_ble_eq_true rfl) (by rw [hR]; exact Nat.le_of_ble_eq_true rfl) (by rw [hR]; exact Nat.le_of_ble_eq_true rfl) rfl rfl (by decide) (by decide) (by decide) (inv_S C d_tell_145 l_M_214 st_M_bitsOf i_M cd_M_bitsOf ⟨by decide, by decide⟩ ln_M_bitsOf rfl) (fun oc L1 hL => ?_)
    obtain ⟨v145, hp, rfl, rfl⟩ := hL
    refine ⟨_, rfl, ?_⟩
    refine aw_eq (lo' := _) (st' := [.int v145, .int (16 * x7), .int (x4 + 1), .int x1, .ref o]) (L' := [(0, ly_M, (o, ad, S.1, S.2.1, S.2.2))]) rfl rfl rfl ?_
    refine a_iadd C d_tell_148 ?_
    refine a_call (Lr := []) (rest := []) (av := .ref o :: [.int x1, .int (x4 + 1), .int ((16 * x7) + v145)]) C [0] [] d_tell_149 (ct_symbol x1 (x4 + 1) ((16 * x7) + v145) S hp) cd_M_symbol i_M (Nat.le_of_ble_eq_true rfl) (by rw [hR]; exact Nat.le_of_ble_eq_true rfl) (by rw [hR]; exact Nat.le_of_ble_eq_true rfl) (by rw [hR]; exact Nat.le_of_ble_eq_true rfl) (by rw [hR]; exact Nat.le_of_ble_eq_true rfl) rfl rfl (by decide) (by decide) (by decide) (inv_V C 0 d_tell_149 l_M_217 im_M_symbol se_M_symbol cd_M_symbol ⟨by decide, by decide⟩ ln_M_symbol rfl rfl rfl rfl rfl) (fun oc L1 hL => ?_)
    obtain ⟨S149, hp, rfl, rfl⟩ := hL
    refine ⟨_, rfl, ?_⟩
    refine aw_eq (lo' := _) (st' := []) (L' := [(0, ly_M, (o, ad, S149.1, S149.2.1, S149.2.2))]) rfl rfl rfl ?_
    refine a_aload_n C d_tell_152 rfl rfl ?_
    refine a_iload_n C d_tell_153 rfl rfl ?_
    refine a_iload C d_tell_154 rfl ?_
    refine a_iload C d_tell_156 rfl ?_
    refine a_call (Lr := [(0, ly_M, (o, ad, S149.1, S149.2.1, S149.2.2))]) (rest := [.int x9, .int x1, .ref o]) (av := [.int x9]) C [] [0] d_tell_158 (ct_bitsOf x9 hp) cd_M_bitsOf i_M (Nat.le_of_ble_eq_true rfl) (by rw [hR]; exact Nat.le_of_ble_eq_true rfl) (by rw [hR]; exact Nat.le_of_ble_eq_true rfl) (by rw [hR]; exact Nat.le_of_ble_eq_true rfl) (by rw [hR]; exact Nat.le_of_ble_eq_true rfl) rfl rfl (by decide) (by decide) (by decide) (inv_S C d_tell_158 l_M_214 st_M_bitsOf i_M cd_M_bitsOf ⟨by decide, by decide⟩ ln_M_bitsOf rfl) (fun oc L1 hL => ?_)
    obtain ⟨v158, hp, rfl, rfl⟩ := hL
    refine ⟨_, rfl, ?_⟩
    refine aw_eq (lo' := _) (st' := [.int v158, .int x9, .int x1, .ref o]) (L' := [(0, ly_M, (o, ad, S149.1, S149.2.1, S149.2.2))]) rfl rfl rfl ?_
    refine a_call (Lr := []) (rest := []) (av := .ref o :: [.int x1, .int x9, .int v158]) C [0] [] d_tell_161 (ct_number x1 x9 v158 (S149.1, S149.2.1, S149.2.2) hp) cd_M_number i_M (Nat.le_of_ble_eq_true rfl) (by rw [hR]; exact Nat.le_of_ble_eq_true rfl) (by rw [hR]; exact Nat.le_of_ble_eq_true rfl) (by rw [hR]; exact Nat.le_of_ble_eq_true rfl) (by rw [hR]; exact Nat.le_of_ble_eq_true rfl) rfl rfl (by decide) (by decide) (by decide) (inv_V C 0 d_tell_161 l_M_221 im_M_number se_M_number cd_M_number ⟨by decide, by decide⟩ ln_M_number rfl rfl rfl rfl rfl) (fun oc L1 hL => ?_)
    obtain ⟨S161, hp, rfl, rfl⟩ := hL
    refine ⟨_, rfl, ?_⟩
    refine aw_eq (lo' := _) (st' := []) (L' := [(0, ly_M, (o, ad, S161.1, S161.2.1, S161.2.2))]) rfl rfl rfl ?_
    refine a_iconst (v := 0) C d_tell_164 (by decide) ?_
    refine a_istore (lo' := [some (.ref o), some (.int x1), some (.int x2), some (.int x3), some (.int x4), none, none, some (.int 0), some (.int x8), some (.int x9)]) C d_tell_165 (by decide) rfl ?_
    refine aw_lo (lo' := [some (.ref o), some (.int x1), some (.int x2), some (.int x3), some (.int x4), none, none, some (.int 0), some (.int x8), none]) ⟨.inr rfl, .inr rfl, .inr rfl, .inr rfl, .inr rfl, .inr rfl, .inr rfl, .inr rfl, .inr rfl, .inl rfl, trivial⟩ ?_
    exact s_tell_167 C hQ hA hR x1 x2 x3 x4 0 x8 (S161.1, S161.2.1, S161.2.2) R74 hR74 hp
  · have hp := hp.2 hc
    refine a_aload_n C d_tell_114 rfl rfl ?_
    refine a_iload_n C d_tell_115 rfl rfl ?_
    refine a_iload C d_tell_116 rfl ?_
    refine a_iconst (v := 1) C d_tell_118 (by decide) ?_
    refine a_iadd C d_tell_119 ?_
    refine a_sipush (v := 240) C d_tell_120 (by decide) ?_
    refine a_call (Lr := []) (rest := []) (av := .ref o :: [.int x1, .int (x4 + 1), .int 240]) C [0] [] d_tell_123 (ct_symbol x1 (x4 + 1) 240 S hp) cd_M_symbol i_M (Nat.le_of_ble_eq_true rfl) (by rw [hR]; exact Nat.le_of_ble_eq_true rfl) (by rw [hR]; exact Nat.le_of_ble_eq_true rfl) (by rw [hR]; exact Nat.le_of_ble_eq_true rfl) (by rw [hR]; exact Nat.le_of_ble_eq_true rfl) rfl rfl (by decide) (by decide) (by decide) (inv_V C 0 d_tell_123 l_M_217 im_M_symbol se_M_symbol cd_M_symbol ⟨by decide, by decide⟩ ln_M_symbol rfl rfl rfl rfl rfl) (fun oc L1 hL => ?_)
    obtain ⟨S123, hp, rfl, rfl⟩ := hL
    refine ⟨_, rfl, ?_⟩
    refine aw_eq (lo' := _) (st' := []) (L' := [(0, ly_M, (o, ad, S123.1, S123.2.1, S123.2.2))]) rfl rfl rfl ?_
    refine a_iinc (v := x7 + (-16)) (lo' := [some (.ref o), some (.int x1), some (.int x2), some (.int x3), some (.int x4), none, none, some (.int (x7 + (-16))), some (.int x8), some (.int x9)]) C d_tell_126 rfl rfl (by decide) rfl ?_
    refine a_goto (tgt := 107) C d_tell_129 (by decide) ?_
    refine aw_lo (lo' := [some (.ref o), some (.int x1), some (.int x2), some (.int x3), some (.int x4), none, none, some (.int (x7 + (-16))), some (.int x8), some (.int x9)]) ⟨.inr rfl, .inr rfl, .inr rfl, .inr rfl, .inr rfl, .inr rfl, .inr rfl, .inr rfl, .inr rfl, .inr rfl, trivial⟩ ?_
    exact hR107 x1 x2 x3 x4 (x7 + (-16)) x8 x9 (S123.1, S123.2.1, S123.2.2) hp
set_option maxRecDepth 100000 in
set_option maxHeartbeats 1000000 in
theorem se_tell_107 (C : fcx gG D z A X R_M c_M_tell 10 (none)) (hQ : X.2.2.2.2.2.2.2.2.2.2 = eQ gG D z X.2.2.2.2.2.2.2.1 X.2.2.2.2.1 L0 0 0 (pM_v K o ad)) (hA : A = owA gG L0 X.2.2.2.2.1.heap.size) (hR : X.2.2.2.1 = { frames := 4, cells := 1, slots := 6, locals := 400 }) (x1 : Int32) (x2 : Int32) (x3 : Int32) (x4 : Int32) (x7 : Int32) (x8 : Int32) (x9 : Int32) (S : ms) (R74 : Int32 → Int32 → Int32 → Int32 → Int32 → Int32 → ms → Prop) (hR74 : ∀ yx1 yx2 yx3 yx4 yx7 yx8 yS, R74 yx1 yx2 yx3 yx4 yx7 yx8 yS → aw gG D z A X 10 74 [some (.ref o), some (.int yx1), some (.int yx2), some (.int yx3), some (.int yx4), none, none, some (.int yx7), some (.int yx8), none] [] [(0, ly_M, (o, ad, yS.1, yS.2.1, yS.2.2))] 0 0) (hp : e_tell_107 x1 x2 x3 x4 x7 x8 x9 S R74 K) : aw gG D z A X 10 107 [some (.ref o), some (.int x1), some (.int x2), some (.int x3), some (.int x4), none, none, some (.int x7), some (.int x8), some (.int x9)] [] [(0, ly_M, (o, ad, S.1, S.2.1, S.2.2))] 0 0 := by
  obtain ⟨I, μ, h0, hs⟩ := hp
  have key : ∀ (n : Nat) (yx1 : Int32) (yx2 : Int32) (yx3 : Int32) (yx4 : Int32) (yx7 : Int32) (yx8 : Int32) (yx9 : Int32) (yS : ms), μ yx1 yx2 yx3 yx4 yx7 yx8 yx9 yS < n → I yx1 yx2 yx3 yx4 yx7 yx8 yx9 yS → aw gG D z A X 10 107 [some (.ref o), some (.int yx1), some (.int yx2), some (.int yx3), some (.int yx4), none, none, some (.int yx7), some (.int yx8), some (.int yx9)] [] [(0, ly_M, (o, ad, yS.1, yS.2.1, yS.2.2))] 0 0 := by
    intro n
    induction n with
    | zero => intro yx1 yx2 yx3 yx4 yx7 yx8 yx9 yS h; omega
    | succ n ih =>
      intro yx1 yx2 yx3 yx4 yx7 yx8 yx9 yS hn hI
      exact s_tell_107 C hQ hA hR yx1 yx2 yx3 yx4 yx7 yx8 yx9 yS R74 hR74 _ (fun zx1 zx2 zx3 zx4 zx7 zx8 zx9 zS hw => ih zx1 zx2 zx3 zx4 zx7 zx8 zx9 zS (by omega) hw.1) (hs yx1 yx2 yx3 yx4 yx7 yx8 yx9 yS hI)
  exact key (μ x1 x2 x3 x4 x7 x8 x9 S + 1) x1 x2 x3 x4 x7 x8 x9 S (Nat.lt_succ_self _) h0
set_option maxRecDepth 100000 in
set_option maxHeartbeats 1000000 in
theorem s_tell_74 (C : fcx gG D z A X R_M c_M_tell 10 (none)) (hQ : X.2.2.2.2.2.2.2.2.2.2 = eQ gG D z X.2.2.2.2.2.2.2.1 X.2.2.2.2.1 L0 0 0 (pM_v K o ad)) (hA : A = owA gG L0 X.2.2.2.2.1.heap.size) (hR : X.2.2.2.1 = { frames := 4, cells := 1, slots := 6, locals := 400 }) (x1 : Int32) (x2 : Int32) (x3 : Int32) (x4 : Int32) (x7 : Int32) (x8 : Int32) (S : ms) (R74 : Int32 → Int32 → Int32 → Int32 → Int32 → Int32 → ms → Prop) (hR74 : ∀ yx1 yx2 yx3 yx4 yx7 yx8 yS, R74 yx1 yx2 yx3 yx4 yx7 yx8 yS → aw gG D z A X 10 74 [some (.ref o), some (.int yx1), some (.int yx2), some (.int yx3), some (.int yx4), none, none, some (.int yx7), some (.int yx8), none] [] [(0, ly_M, (o, ad, yS.1, yS.2.1, yS.2.2))] 0 0) (hp : b_tell_74 x1 x2 x3 x4 x7 x8 S R74 K) : aw gG D z A X 10 74 [some (.ref o), some (.int x1), some (.int x2), some (.int x3), some (.int x4), none, none, some (.int x7), some (.int x8), none] [] [(0, ly_M, (o, ad, S.1, S.2.1, S.2.2))] 0 0 := by
  unfold b_tell_74 at hp
  refine a_iload C d_tell_74 rfl ?_
  refine a_bipush (v := 64) C d_tell_76 (by decide) ?_
  refine a_icmp_ge (tgt := 173) C d_tell_78 (by decide) ⟨fun hc => ?_, fun hc => ?_⟩
  · have hp := hp.1 hc
    refine a_iload C d_tell_173 rfl ?_
    refine a_if_le (tgt := 188) C d_tell_175 (by decide) ⟨fun hc => ?_, fun hc => ?_⟩
    · have hp := hp.1 hc
      refine aw_lo (lo' := [some (.ref o), none, none, none, none, none, none, none, none, none]) ⟨.inr rfl, .inl rfl, .inl rfl, .inl rfl, .inl rfl, .inr rfl, .inr rfl, .inl rfl, .inl rfl, .inr rfl, trivial⟩ ?_
      exact s_tell_188 C hQ hA hR S  hp
    · have hp := hp.2 hc
      refine a_aload_n C d_tell_178 rfl rfl ?_
      refine a_iload_n C d_tell_179 rfl rfl ?_
      refine a_iload C d_tell_180 rfl ?_
      refine a_iconst (v := 1) C d_tell_182 (by decide) ?_
      refine a_iadd C d_tell_183 ?_
      refine a_iconst (v := 0) C d_tell_184 (by decide) ?_
      refine a_call (Lr := []) (rest := []) (av := .ref o :: [.int x1, .int (x4 + 1), .int 0]) C [0] [] d_tell_185 (ct_symbol x1 (x4 + 1) 0 S hp) cd_M_symbol i_M (Nat.le_of_ble_eq_true rfl) (by rw [hR]; exact Nat.le_of_ble_eq_true rfl) (by rw [hR]; exact Nat.le_of_ble_eq_true rfl) (by rw [hR]; exact Nat.le_of_ble_eq_true rfl) (by rw [hR]; exact Nat.le_of_ble_eq_true rfl) rfl rfl (by decide) (by decide) (by decide) (inv_V C 0 d_tell_185 l_M_217 im_M_symbol se_M_symbol cd_M_symbol ⟨by decide, by decide⟩ ln_M_symbol rfl rfl rfl rfl rfl) (fun oc L1 hL => ?_)
      obtain ⟨S185, hp, rfl, rfl⟩ := hL
      refine ⟨_, rfl, ?_⟩
      refine aw_eq (lo' := _) (st' := []) (L' := [(0, ly_M, (o, ad, S185.1, S185.2.1, S185.2.2))]) rfl rfl rfl ?_
      refine aw_lo (lo' := [some (.ref o), none, none, none, none, none, none, none, none, none]) ⟨.inr rfl, .inl rfl, .inl rfl, .inl rfl, .inl rfl, .inr rfl, .inr rfl, .inl rfl, .inl rfl, .inr rfl, trivial⟩ ?_
      exact s_tell_188 C hQ hA hR (S185.1, S185.2.1, S185.2.2)  hp
  · have hp := hp.2 hc
    refine a_aload_n C d_tell_81 rfl rfl ?_
    refine a_getR C 0 19 d_tell_82 rfl rfl rfl (Nat.le_of_ble_eq_true rfl) f_M_63 ⟨Nat.le_of_ble_eq_true rfl, Nat.le_of_ble_eq_true rfl⟩ ?_
    refine a_iconst (v := 0) C d_tell_85 (by decide) ?_
    refine a_iload_n C d_tell_86 rfl rfl ?_
    refine a_iload_n C d_tell_87 rfl rfl ?_
    refine a_iload C d_tell_88 rfl ?_
    refine a_call (Lr := [(0, ly_M, (o, ad, S.1, S.2.1, S.2.2))]) (rest := [.ref (ad 19)]) (av := [.int 0, .int x2, .int x3, .int x8]) C [] [0] d_tell_90 (ct_levelCell 0 x2 x3 x8 hp) cd_M_levelCell i_M (Nat.le_of_ble_eq_true rfl) (by rw [hR]; exact Nat.le_of_ble_eq_true rfl) (by rw [hR]; exact Nat.le_of_ble_eq_true rfl) (by rw [hR]; exact Nat.le_of_ble_eq_true rfl) (by rw [hR]; exact Nat.le_of_ble_eq_true rfl) rfl rfl (by decide) (by decide) (by decide) (inv_S C d_tell_90 l_M_193 st_M_levelCell i_M cd_M_levelCell ⟨by decide, by decide⟩ ln_M_levelCell rfl) (fun oc L1 hL => ?_)
    obtain ⟨v90, hp, rfl, rfl⟩ := hL
    refine ⟨_, rfl, ?_⟩
    refine aw_eq (lo' := _) (st' := [.int v90, .ref (ad 19)]) (L' := [(0, ly_M, (o, ad, S.1, S.2.1, S.2.2))]) rfl rfl rfl ?_
    refine a_iald C 0 19 d_tell_93 rfl rfl rfl hp.1 ?_
    have hp := hp.2
    refine a_istore (lo' := [some (.ref o), some (.int x1), some (.int x2), some (.int x3), some (.int x4), none, none, some (.int x7), some (.int x8), some (.int (S.2.1 19 v90.toNatClampNeg))]) C d_tell_94 (by decide) rfl ?_
    refine a_iload C d_tell_96 rfl ?_
    refine a_if_ne (tgt := 107) C d_tell_98 (by decide) ⟨fun hc => ?_, fun hc => ?_⟩
    · have hp := hp.1 hc
      refine aw_lo (lo' := [some (.ref o), some (.int x1), some (.int x2), some (.int x3), some (.int x4), none, none, some (.int x7), some (.int x8), some (.int (S.2.1 19 v90.toNatClampNeg))]) ⟨.inr rfl, .inr rfl, .inr rfl, .inr rfl, .inr rfl, .inr rfl, .inr rfl, .inr rfl, .inr rfl, .inr rfl, trivial⟩ ?_
      exact se_tell_107 C hQ hA hR x1 x2 x3 x4 x7 x8 (S.2.1 19 v90.toNatClampNeg) S R74 hR74 hp
    · have hp := hp.2 hc
      refine a_iinc (v := x7 + 1) (lo' := [some (.ref o), some (.int x1), some (.int x2), some (.int x3), some (.int x4), none, none, some (.int (x7 + 1)), some (.int x8), some (.int (S.2.1 19 v90.toNatClampNeg))]) C d_tell_101 rfl rfl (by decide) rfl ?_
      refine a_goto (tgt := 167) C d_tell_104 (by decide) ?_
      refine aw_lo (lo' := [some (.ref o), some (.int x1), some (.int x2), some (.int x3), some (.int x4), none, none, some (.int (x7 + 1)), some (.int x8), none]) ⟨.inr rfl, .inr rfl, .inr rfl, .inr rfl, .inr rfl, .inr rfl, .inr rfl, .inr rfl, .inr rfl, .inl rfl, trivial⟩ ?_
      exact s_tell_167 C hQ hA hR x1 x2 x3 x4 (x7 + 1) x8 S R74 hR74 hp
set_option maxRecDepth 100000 in
set_option maxHeartbeats 1000000 in
theorem se_tell_74 (C : fcx gG D z A X R_M c_M_tell 10 (none)) (hQ : X.2.2.2.2.2.2.2.2.2.2 = eQ gG D z X.2.2.2.2.2.2.2.1 X.2.2.2.2.1 L0 0 0 (pM_v K o ad)) (hA : A = owA gG L0 X.2.2.2.2.1.heap.size) (hR : X.2.2.2.1 = { frames := 4, cells := 1, slots := 6, locals := 400 }) (x1 : Int32) (x2 : Int32) (x3 : Int32) (x4 : Int32) (x7 : Int32) (x8 : Int32) (S : ms) (hp : e_tell_74 x1 x2 x3 x4 x7 x8 S K) : aw gG D z A X 10 74 [some (.ref o), some (.int x1), some (.int x2), some (.int x3), some (.int x4), none, none, some (.int x7), some (.int x8), none] [] [(0, ly_M, (o, ad, S.1, S.2.1, S.2.2))] 0 0 := by
  obtain ⟨I, μ, h0, hs⟩ := hp
  have key : ∀ (n : Nat) (yx1 : Int32) (yx2 : Int32) (yx3 : Int32) (yx4 : Int32) (yx7 : Int32) (yx8 : Int32) (yS : ms), μ yx1 yx2 yx3 yx4 yx7 yx8 yS < n → I yx1 yx2 yx3 yx4 yx7 yx8 yS → aw gG D z A X 10 74 [some (.ref o), some (.int yx1), some (.int yx2), some (.int yx3), some (.int yx4), none, none, some (.int yx7), some (.int yx8), none] [] [(0, ly_M, (o, ad, yS.1, yS.2.1, yS.2.2))] 0 0 := by
    intro n
    induction n with
    | zero => intro yx1 yx2 yx3 yx4 yx7 yx8 yS h; omega
    | succ n ih =>
      intro yx1 yx2 yx3 yx4 yx7 yx8 yS hn hI
      exact s_tell_74 C hQ hA hR yx1 yx2 yx3 yx4 yx7 yx8 yS _ (fun zx1 zx2 zx3 zx4 zx7 zx8 zS hw => ih zx1 zx2 zx3 zx4 zx7 zx8 zS (by omega) hw.1) (hs yx1 yx2 yx3 yx4 yx7 yx8 yS hI)
  exact key (μ x1 x2 x3 x4 x7 x8 S + 1) x1 x2 x3 x4 x7 x8 S (Nat.lt_succ_self _) h0
set_option maxRecDepth 100000 in
set_option maxHeartbeats 1000000 in
theorem s_tell_9 (C : fcx gG D z A X R_M c_M_tell 10 (none)) (hQ : X.2.2.2.2.2.2.2.2.2.2 = eQ gG D z X.2.2.2.2.2.2.2.1 X.2.2.2.2.1 L0 0 0 (pM_v K o ad)) (hA : A = owA gG L0 X.2.2.2.2.1.heap.size) (hR : X.2.2.2.1 = { frames := 4, cells := 1, slots := 6, locals := 400 }) (x1 : Int32) (x2 : Int32) (x3 : Int32) (s0 : Int32) (S : ms) (hp : b_tell_9 x1 x2 x3 s0 S K) : aw gG D z A X 10 9 [some (.ref o), some (.int x1), some (.int x2), some (.int x3), none, none, none, none, none, none] [.int s0] [(0, ly_M, (o, ad, S.1, S.2.1, S.2.2))] 0 0 := by
  unfold b_tell_9 at hp
  refine a_istore (lo' := [some (.ref o), some (.int x1), some (.int x2), some (.int x3), some (.int s0), none, none, none, none, none]) C d_tell_9 (by decide) rfl ?_
  refine a_aload_n C d_tell_11 rfl rfl ?_
  refine a_getR C 0 19 d_tell_12 rfl rfl rfl (Nat.le_of_ble_eq_true rfl) f_M_63 ⟨Nat.le_of_ble_eq_true rfl, Nat.le_of_ble_eq_true rfl⟩ ?_
  refine a_iconst (v := 0) C d_tell_15 (by decide) ?_
  refine a_iload_n C d_tell_16 rfl rfl ?_
  refine a_iload_n C d_tell_17 rfl rfl ?_
  refine a_iconst (v := 0) C d_tell_18 (by decide) ?_
  refine a_call (Lr := [(0, ly_M, (o, ad, S.1, S.2.1, S.2.2))]) (rest := [.ref (ad 19)]) (av := [.int 0, .int x2, .int x3, .int 0]) C [] [0] d_tell_19 (ct_levelCell 0 x2 x3 0 hp) cd_M_levelCell i_M (Nat.le_of_ble_eq_true rfl) (by rw [hR]; exact Nat.le_of_ble_eq_true rfl) (by rw [hR]; exact Nat.le_of_ble_eq_true rfl) (by rw [hR]; exact Nat.le_of_ble_eq_true rfl) (by rw [hR]; exact Nat.le_of_ble_eq_true rfl) rfl rfl (by decide) (by decide) (by decide) (inv_S C d_tell_19 l_M_193 st_M_levelCell i_M cd_M_levelCell ⟨by decide, by decide⟩ ln_M_levelCell rfl) (fun oc L1 hL => ?_)
  obtain ⟨v19, hp, rfl, rfl⟩ := hL
  refine ⟨_, rfl, ?_⟩
  refine aw_eq (lo' := _) (st' := [.int v19, .ref (ad 19)]) (L' := [(0, ly_M, (o, ad, S.1, S.2.1, S.2.2))]) rfl rfl rfl ?_
  refine a_iald C 0 19 d_tell_22 rfl rfl rfl hp.1 ?_
  have hp := hp.2
  refine a_istore (lo' := [some (.ref o), some (.int x1), some (.int x2), some (.int x3), some (.int s0), some (.int (S.2.1 19 v19.toNatClampNeg)), none, none, none, none]) C d_tell_23 (by decide) rfl ?_
  refine a_iload C d_tell_25 rfl ?_
  refine a_aload_n C d_tell_27 rfl rfl ?_
  refine a_getR C 0 53 d_tell_28 rfl rfl rfl (Nat.le_of_ble_eq_true rfl) f_M_139 ⟨Nat.le_of_ble_eq_true rfl, Nat.le_of_ble_eq_true rfl⟩ ?_
  refine a_iload_n C d_tell_31 rfl rfl ?_
  refine a_iald C 0 53 d_tell_32 rfl rfl rfl hp.1 ?_
  have hp := hp.2
  refine a_isub C d_tell_33 ?_
  refine a_istore (lo' := [some (.ref o), some (.int x1), some (.int x2), some (.int x3), some (.int s0), some (.int (S.2.1 19 v19.toNatClampNeg)), some (.int ((S.2.1 19 v19.toNatClampNeg) - (S.2.1 53 x2.toNatClampNeg))), none, none, none]) C d_tell_34 (by decide) rfl ?_
  refine a_aload_n C d_tell_36 rfl rfl ?_
  refine a_getR C 0 53 d_tell_37 rfl rfl rfl (Nat.le_of_ble_eq_true rfl) f_M_139 ⟨Nat.le_of_ble_eq_true rfl, Nat.le_of_ble_eq_true rfl⟩ ?_
  refine a_iload_n C d_tell_40 rfl rfl ?_
  refine a_iload C d_tell_41 rfl ?_
  refine a_iast C 0 53 d_tell_43 rfl rfl rfl hp.1 ?_
  have hp := hp.2
  refine aw_eq (lo' := _) (st' := _) (L' := [(0, ly_M, (o, ad, S.1, va_up S.2.1 53 (upd (S.2.1 53) x2.toNatClampNeg (S.2.1 19 v19.toNatClampNeg)), S.2.2))]) rfl rfl rfl ?_
  refine a_aload_n C d_tell_44 rfl rfl ?_
  refine a_iload_n C d_tell_45 rfl rfl ?_
  refine a_iload C d_tell_46 rfl ?_
  refine a_iload C d_tell_48 rfl ?_
  refine a_call (Lr := [(0, ly_M, (o, ad, S.1, va_up S.2.1 53 (upd (S.2.1 53) x2.toNatClampNeg (S.2.1 19 v19.toNatClampNeg)), S.2.2))]) (rest := [.int s0, .int x1, .ref o]) (av := [.int ((S.2.1 19 v19.toNatClampNeg) - (S.2.1 53 x2.toNatClampNeg))]) C [] [0] d_tell_50 (ct_bitsOf ((S.2.1 19 v19.toNatClampNeg) - (S.2.1 53 x2.toNatClampNeg)) hp) cd_M_bitsOf i_M (Nat.le_of_ble_eq_true rfl) (by rw [hR]; exact Nat.le_of_ble_eq_true rfl) (by rw [hR]; exact Nat.le_of_ble_eq_true rfl) (by rw [hR]; exact Nat.le_of_ble_eq_true rfl) (by rw [hR]; exact Nat.le_of_ble_eq_true rfl) rfl rfl (by decide) (by decide) (by decide) (inv_S C d_tell_50 l_M_214 st_M_bitsOf i_M cd_M_bitsOf ⟨by decide, by decide⟩ ln_M_bitsOf rfl) (fun oc L1 hL => ?_)
  obtain ⟨v50, hp, rfl, rfl⟩ := hL
  refine ⟨_, rfl, ?_⟩
  refine aw_eq (lo' := _) (st' := [.int v50, .int s0, .int x1, .ref o]) (L' := [(0, ly_M, (o, ad, S.1, va_up S.2.1 53 (upd (S.2.1 53) x2.toNatClampNeg (S.2.1 19 v19.toNatClampNeg)), S.2.2))]) rfl rfl rfl ?_
  refine a_call (Lr := []) (rest := []) (av := .ref o :: [.int x1, .int s0, .int v50]) C [0] [] d_tell_53 (ct_symbol x1 s0 v50 (S.1, va_up S.2.1 53 (upd (S.2.1 53) x2.toNatClampNeg (S.2.1 19 v19.toNatClampNeg)), S.2.2) hp) cd_M_symbol i_M (Nat.le_of_ble_eq_true rfl) (by rw [hR]; exact Nat.le_of_ble_eq_true rfl) (by rw [hR]; exact Nat.le_of_ble_eq_true rfl) (by rw [hR]; exact Nat.le_of_ble_eq_true rfl) (by rw [hR]; exact Nat.le_of_ble_eq_true rfl) rfl rfl (by decide) (by decide) (by decide) (inv_V C 0 d_tell_53 l_M_217 im_M_symbol se_M_symbol cd_M_symbol ⟨by decide, by decide⟩ ln_M_symbol rfl rfl rfl rfl rfl) (fun oc L1 hL => ?_)
  obtain ⟨S53, hp, rfl, rfl⟩ := hL
  refine ⟨_, rfl, ?_⟩
  refine aw_eq (lo' := _) (st' := []) (L' := [(0, ly_M, (o, ad, S53.1, S53.2.1, S53.2.2))]) rfl rfl rfl ?_
  refine a_aload_n C d_tell_56 rfl rfl ?_
  refine a_iload_n C d_tell_57 rfl rfl ?_
  refine a_iload C d_tell_58 rfl ?_
  refine a_iload C d_tell_60 rfl ?_
  refine a_call (Lr := [(0, ly_M, (o, ad, S53.1, S53.2.1, S53.2.2))]) (rest := [.int ((S.2.1 19 v19.toNatClampNeg) - (S.2.1 53 x2.toNatClampNeg)), .int x1, .ref o]) (av := [.int ((S.2.1 19 v19.toNatClampNeg) - (S.2.1 53 x2.toNatClampNeg))]) C [] [0] d_tell_62 (ct_bitsOf ((S.2.1 19 v19.toNatClampNeg) - (S.2.1 53 x2.toNatClampNeg)) hp) cd_M_bitsOf i_M (Nat.le_of_ble_eq_true rfl) (by rw [hR]; exact Nat.le_of_ble_eq_true rfl) (by rw [hR]; exact Nat.le_of_ble_eq_true rfl) (by rw [hR]; exact Nat.le_of_ble_eq_true rfl) (by rw [hR]; exact Nat.le_of_ble_eq_true rfl) rfl rfl (by decide) (by decide) (by decide) (inv_S C d_tell_62 l_M_214 st_M_bitsOf i_M cd_M_bitsOf ⟨by decide, by decide⟩ ln_M_bitsOf rfl) (fun oc L1 hL => ?_)
  obtain ⟨v62, hp, rfl, rfl⟩ := hL
  refine ⟨_, rfl, ?_⟩
  refine aw_eq (lo' := _) (st' := [.int v62, .int ((S.2.1 19 v19.toNatClampNeg) - (S.2.1 53 x2.toNatClampNeg)), .int x1, .ref o]) (L' := [(0, ly_M, (o, ad, S53.1, S53.2.1, S53.2.2))]) rfl rfl rfl ?_
  refine a_call (Lr := []) (rest := []) (av := .ref o :: [.int x1, .int ((S.2.1 19 v19.toNatClampNeg) - (S.2.1 53 x2.toNatClampNeg)), .int v62]) C [0] [] d_tell_65 (ct_number x1 ((S.2.1 19 v19.toNatClampNeg) - (S.2.1 53 x2.toNatClampNeg)) v62 (S53.1, S53.2.1, S53.2.2) hp) cd_M_number i_M (Nat.le_of_ble_eq_true rfl) (by rw [hR]; exact Nat.le_of_ble_eq_true rfl) (by rw [hR]; exact Nat.le_of_ble_eq_true rfl) (by rw [hR]; exact Nat.le_of_ble_eq_true rfl) (by rw [hR]; exact Nat.le_of_ble_eq_true rfl) rfl rfl (by decide) (by decide) (by decide) (inv_V C 0 d_tell_65 l_M_221 im_M_number se_M_number cd_M_number ⟨by decide, by decide⟩ ln_M_number rfl rfl rfl rfl rfl) (fun oc L1 hL => ?_)
  obtain ⟨S65, hp, rfl, rfl⟩ := hL
  refine ⟨_, rfl, ?_⟩
  refine aw_eq (lo' := _) (st' := []) (L' := [(0, ly_M, (o, ad, S65.1, S65.2.1, S65.2.2))]) rfl rfl rfl ?_
  refine a_iconst (v := 0) C d_tell_68 (by decide) ?_
  refine a_istore (lo' := [some (.ref o), some (.int x1), some (.int x2), some (.int x3), some (.int s0), some (.int (S.2.1 19 v19.toNatClampNeg)), some (.int ((S.2.1 19 v19.toNatClampNeg) - (S.2.1 53 x2.toNatClampNeg))), some (.int 0), none, none]) C d_tell_69 (by decide) rfl ?_
  refine a_iconst (v := 1) C d_tell_71 (by decide) ?_
  refine a_istore (lo' := [some (.ref o), some (.int x1), some (.int x2), some (.int x3), some (.int s0), some (.int (S.2.1 19 v19.toNatClampNeg)), some (.int ((S.2.1 19 v19.toNatClampNeg) - (S.2.1 53 x2.toNatClampNeg))), some (.int 0), some (.int 1), none]) C d_tell_72 (by decide) rfl ?_
  refine aw_lo (lo' := [some (.ref o), some (.int x1), some (.int x2), some (.int x3), some (.int s0), none, none, some (.int 0), some (.int 1), none]) ⟨.inr rfl, .inr rfl, .inr rfl, .inr rfl, .inr rfl, .inl rfl, .inl rfl, .inr rfl, .inr rfl, .inr rfl, trivial⟩ ?_
  exact se_tell_74 C hQ hA hR x1 x2 x3 s0 0 1 (S65.1, S65.2.1, S65.2.2)  hp
set_option maxRecDepth 100000 in
set_option maxHeartbeats 1000000 in
theorem s_tell_0 (C : fcx gG D z A X R_M c_M_tell 10 (none)) (hQ : X.2.2.2.2.2.2.2.2.2.2 = eQ gG D z X.2.2.2.2.2.2.2.1 X.2.2.2.2.1 L0 0 0 (pM_v K o ad)) (hA : A = owA gG L0 X.2.2.2.2.1.heap.size) (hR : X.2.2.2.1 = { frames := 4, cells := 1, slots := 6, locals := 400 }) (x1 : Int32) (x2 : Int32) (x3 : Int32) (S : ms) (hp : p_tell x1 x2 x3 S K) : aw gG D z A X 10 0 [some (.ref o), some (.int x1), some (.int x2), some (.int x3), none, none, none, none, none, none] [] [(0, ly_M, (o, ad, S.1, S.2.1, S.2.2))] 0 0 := by
  unfold p_tell at hp
  refine a_iload_n C d_tell_0 rfl rfl ?_
  refine a_if_ne (tgt := 8) C d_tell_1 (by decide) ⟨fun hc => ?_, fun hc => ?_⟩
  · have hp := hp.1 hc
    refine a_iconst (v := 2) C d_tell_8 (by decide) ?_
    refine aw_lo (lo' := [some (.ref o), some (.int x1), some (.int x2), some (.int x3), none, none, none, none, none, none]) ⟨.inr rfl, .inr rfl, .inr rfl, .inr rfl, .inr rfl, .inr rfl, .inr rfl, .inr rfl, .inr rfl, .inr rfl, trivial⟩ ?_
    exact s_tell_9 C hQ hA hR x1 x2 x3 2 S  hp
  · have hp := hp.2 hc
    refine a_iconst (v := 0) C d_tell_4 (by decide) ?_
    refine a_goto (tgt := 9) C d_tell_5 (by decide) ?_
    refine aw_lo (lo' := [some (.ref o), some (.int x1), some (.int x2), some (.int x3), none, none, none, none, none, none]) ⟨.inr rfl, .inr rfl, .inr rfl, .inr rfl, .inr rfl, .inr rfl, .inr rfl, .inr rfl, .inr rfl, .inr rfl, trivial⟩ ?_
    exact s_tell_9 C hQ hA hR x1 x2 x3 0 S  hp
end M_tell
section M_tellc
variable {D : va_G} {z : Nat → ClassId} {o : Nat} {ad : Nat → Nat}
set_option maxRecDepth 100000 in
theorem ct_tell {l : Launch} (x1 : Int32) (x2 : Int32) (x3 : Int32) (S : ms) {K : ms → Prop} (hp : p_tell x1 x2 x3 S K) : ct gG D z l n_M_tell c_M_tell 10 (none) 4 400 [.ref o, .int x1, .int x2, .int x3] [(0, ly_M, (o, ad, S.1, S.2.1, S.2.2))] 0 0 (pM_v K o ad) := by
  refine ct_of (lo := [some (.ref o), some (.int x1), some (.int x2), some (.int x3), none, none, none, none, none, none]) (by decide) g_ok (Nat.le_of_ble_eq_true rfl) rfl ?_
  intro X A _ C hR hQ hA _
  exact s_tell_0 C hQ hA hR x1 x2 x3 S hp
end M_tellc
