abbrev ms : Type := (Nat → Int32) × (Nat → Nat → Int32) × (Nat → Nat → Int64)
theorem up_at {α : Type} {f : Nat → α} {k : Nat} {a : α} : va_up f k a k = a := by simp [va_up]
theorem up_ne {α : Type} {f : Nat → α} {k j : Nat} {a : α} (h : j ≠ k) : va_up f k a j = f j := by simp [va_up, h]
def b_turn1_133 (s0 : Int32) (K : Int32 → Prop) : Prop :=
  K s0
def b_turn1_120 (x1 : Int32) (s0 : Int32) (K : Int32 → Prop) : Prop :=
  (x1 ≤ 8 → (b_turn1_133 s0 K)) ∧ (¬ (x1 ≤ 8) → (b_turn1_133 (-s0) K))
def b_turn1_29 (x1 : Int32) (s0 : Int32) (K : Int32 → Prop) : Prop :=
  (¬ s0 = 0 → ((¬ s0 = 1 → ((¬ s0 = 2 → ((¬ s0 = 3 → ((¬ s0 = 4 → ((¬ s0 = 5 → ((¬ s0 = 6 → ((¬ s0 = 7 → (b_turn1_120 x1 0 K)) ∧ (s0 = 7 → (b_turn1_120 x1 799 K)))) ∧ (s0 = 6 → (b_turn1_120 x1 1567 K)))) ∧ (s0 = 5 → (b_turn1_120 x1 2276 K)))) ∧ (s0 = 4 → (b_turn1_120 x1 2896 K)))) ∧ (s0 = 3 → (b_turn1_120 x1 3406 K)))) ∧ (s0 = 2 → (b_turn1_120 x1 3784 K)))) ∧ (s0 = 1 → (b_turn1_120 x1 4017 K)))) ∧ (s0 = 0 → (b_turn1_120 x1 4096 K))
def b_turn1_14 (s0 : Int32) (K : Int32 → Prop) : Prop :=
  (s0 ≤ 8 → (b_turn1_29 s0 s0 K)) ∧ (¬ (s0 ≤ 8) → (b_turn1_29 s0 (16 - s0) K))
def p_turn1 (x0 : Int32) (K : Int32 → Prop) : Prop :=
  (x0 ≤ 16 → (b_turn1_14 x0 K)) ∧ (¬ (x0 ≤ 16) → (b_turn1_14 (32 - x0) K))
def p_thrown  (S : ms) (K : Int32 → ms → Prop) : Prop :=
  K (S.1 0) S
def p_cell (x0 : Int32) (x1 : Int32) (x2 : Int32) (K : Int32 → Prop) : Prop :=
  K ((3 * ((64 * x1) + x0)) + x2)
def b_canvas_67 (x4 : Int32) (S : ms) (R67 : Int32 → ms → Prop) (K : ms → Prop) : Prop :=
  (12288 ≤ x4 → (K S)) ∧ (¬ (12288 ≤ x4) → (vp_in x4 12288 ∧ (R67 (x4 + 1) (S.1, va_up S.2.1 4 (upd (S.2.1 4) x4.toNatClampNeg 0), S.2.2))))
def e_canvas_67 (x4 : Int32) (S : ms) (K : ms → Prop) : Prop :=
  ∃ (I : Int32 → ms → Prop) (μ : Int32 → ms → Nat), I x4 S ∧ ∀ yx4 yS, I yx4 yS → b_canvas_67 yx4 yS (fun zx4 zS => I zx4 zS ∧ μ zx4 zS < μ yx4 yS) K
def b_canvas_38 (x1 : Int32) (x2 : Int32) (x3 : Int32) (s1 : Int32) (S : ms) (K : ms → Prop) : Prop :=
  (((upd S.1 0 s1) 0) ≤ 0 → (e_canvas_67 0 (upd (upd (upd (upd S.1 0 s1) 1 x1) 2 x2) 3 x3, S.2.1, S.2.2) K)) ∧ (¬ (((upd S.1 0 s1) 0) ≤ 0) → (K (upd S.1 0 s1, S.2.1, S.2.2)))
def b_canvas_37 (x1 : Int32) (x2 : Int32) (x3 : Int32) (S : ms) (K : ms → Prop) : Prop :=
  b_canvas_38 x1 x2 x3 0 S K
def b_canvas_33 (x1 : Int32) (x2 : Int32) (x3 : Int32) (S : ms) (K : ms → Prop) : Prop :=
  b_canvas_38 x1 x2 x3 1 S K
def p_canvas (x1 : Int32) (x2 : Int32) (x3 : Int32) (S : ms) (K : ms → Prop) : Prop :=
  (x1 < 1 → (b_canvas_33 x1 x2 x3 S K)) ∧ (¬ (x1 < 1) → ((64 < x1 → (b_canvas_33 x1 x2 x3 S K)) ∧ (¬ (64 < x1) → ((x2 < 1 → (b_canvas_33 x1 x2 x3 S K)) ∧ (¬ (x2 < 1) → ((64 < x2 → (b_canvas_33 x1 x2 x3 S K)) ∧ (¬ (64 < x2) → ((x3 = 1 → (b_canvas_37 x1 x2 x3 S K)) ∧ (¬ (x3 = 1) → ((x3 = 3 → (b_canvas_37 x1 x2 x3 S K)) ∧ (¬ (x3 = 3) → (b_canvas_33 x1 x2 x3 S K))))))))))))
def b_isOut_77 (s0 : Int32) (S : ms) (K : Int32 → ms → Prop) : Prop :=
  narrow .boolean (.int s0) = .int s0 ∧ K s0 S
def b_isOut_62 (s1 : Int32) (S : ms) (K : Int32 → ms → Prop) : Prop :=
  (((upd S.1 0 s1) 0) ≤ 0 → (b_isOut_77 0 (upd S.1 0 s1, S.2.1, S.2.2) K)) ∧ (¬ (((upd S.1 0 s1) 0) ≤ 0) → (b_isOut_77 1 (upd S.1 0 s1, S.2.1, S.2.2) K))
def b_isOut_57  (S : ms) (K : Int32 → ms → Prop) : Prop :=
  b_isOut_62 1 S K
def p_isOut (x1 : Int32) (x2 : Int32) (x3 : Int32) (x4 : Int32) (S : ms) (K : Int32 → ms → Prop) : Prop :=
  (x1 < 0 → (b_isOut_57 S K)) ∧ (¬ (x1 < 0) → ((x2 < 0 → (b_isOut_57 S K)) ∧ (¬ (x2 < 0) → ((x3 < 1 → (b_isOut_57 S K)) ∧ (¬ (x3 < 1) → ((x4 < 1 → (b_isOut_57 S K)) ∧ (¬ (x4 < 1) → (((S.1 1) ≤ x1 → (b_isOut_57 S K)) ∧ (¬ ((S.1 1) ≤ x1) → (((S.1 2) ≤ x2 → (b_isOut_57 S K)) ∧ (¬ ((S.1 2) ≤ x2) → ((((S.1 1) - x1) < x3 → (b_isOut_57 S K)) ∧ (¬ (((S.1 1) - x1) < x3) → ((x4 ≤ ((S.1 2) - x2) → (b_isOut_62 0 S K)) ∧ (¬ (x4 ≤ ((S.1 2) - x2)) → (b_isOut_57 S K))))))))))))))))
def b_byteOf_29 (s0 : Int32) (S : ms) (K : Int32 → ms → Prop) : Prop :=
  K s0 S
def p_byteOf (x1 : Int32) (x2 : Int32) (S : ms) (K : Int32 → ms → Prop) : Prop :=
  (¬ (S.1 3) = 1 → (b_byteOf_29 ((x1 >>> ((16 - (8 * x2)) &&& 31 : Int32) : Int32) &&& 255) S K)) ∧ ((S.1 3) = 1 → (b_byteOf_29 (x1 &&& 255) S K))
def b_slope_35 (x1 : Int32) (x2 : Int32) (x3 : Int32) (x4 : Int32) (x5 : Int32) (x6 : Int32) (x7 : Int32) (x8 : Int32) (x9 : Int32) (S : ms) (R16 : Int32 → Int32 → Int32 → Int32 → Int32 → Int32 → Int32 → ms → Prop) (R26 : Int32 → Int32 → Int32 → Int32 → Int32 → Int32 → Int32 → Int32 → ms → Prop) (R35 : Int32 → Int32 → Int32 → Int32 → Int32 → Int32 → Int32 → Int32 → Int32 → ms → Prop) (K : ms → Prop) : Prop :=
  ((S.1 3) ≤ x9 → (R26 x1 x2 x3 x4 x5 x6 x7 (x8 + 1) S)) ∧ (¬ ((S.1 3) ≤ x9) → (p_byteOf x5 x9 S (fun v49 S49 => p_cell (x1 + x8) (x2 + x7) x9 (fun v68 => p_byteOf x6 x9 (S49.1, S49.2.1, S49.2.2) (fun v78 S78 => ¬ x3 = 0 ∧ (vp_in v68 12288 ∧ (R35 x1 x2 x3 x4 x5 x6 x7 x8 (x9 + 1) (S78.1, va_up S78.2.1 4 (upd (S78.2.1 4) v68.toNatClampNeg (v49 + (((v78 - v49) * x8) / x3))), S78.2.2))))))))
def e_slope_35 (x1 : Int32) (x2 : Int32) (x3 : Int32) (x4 : Int32) (x5 : Int32) (x6 : Int32) (x7 : Int32) (x8 : Int32) (x9 : Int32) (S : ms) (R16 : Int32 → Int32 → Int32 → Int32 → Int32 → Int32 → Int32 → ms → Prop) (R26 : Int32 → Int32 → Int32 → Int32 → Int32 → Int32 → Int32 → Int32 → ms → Prop) (K : ms → Prop) : Prop :=
  ∃ (I : Int32 → Int32 → Int32 → Int32 → Int32 → Int32 → Int32 → Int32 → Int32 → ms → Prop) (μ : Int32 → Int32 → Int32 → Int32 → Int32 → Int32 → Int32 → Int32 → Int32 → ms → Nat), I x1 x2 x3 x4 x5 x6 x7 x8 x9 S ∧ ∀ yx1 yx2 yx3 yx4 yx5 yx6 yx7 yx8 yx9 yS, I yx1 yx2 yx3 yx4 yx5 yx6 yx7 yx8 yx9 yS → b_slope_35 yx1 yx2 yx3 yx4 yx5 yx6 yx7 yx8 yx9 yS R16 R26 (fun zx1 zx2 zx3 zx4 zx5 zx6 zx7 zx8 zx9 zS => I zx1 zx2 zx3 zx4 zx5 zx6 zx7 zx8 zx9 zS ∧ μ zx1 zx2 zx3 zx4 zx5 zx6 zx7 zx8 zx9 zS < μ yx1 yx2 yx3 yx4 yx5 yx6 yx7 yx8 yx9 yS) K
def b_slope_26 (x1 : Int32) (x2 : Int32) (x3 : Int32) (x4 : Int32) (x5 : Int32) (x6 : Int32) (x7 : Int32) (x8 : Int32) (S : ms) (R16 : Int32 → Int32 → Int32 → Int32 → Int32 → Int32 → Int32 → ms → Prop) (R26 : Int32 → Int32 → Int32 → Int32 → Int32 → Int32 → Int32 → Int32 → ms → Prop) (K : ms → Prop) : Prop :=
  (x3 ≤ x8 → (R16 x1 x2 x3 x4 x5 x6 (x7 + 1) S)) ∧ (¬ (x3 ≤ x8) → (e_slope_35 x1 x2 x3 x4 x5 x6 x7 x8 0 S R16 R26 K))
def e_slope_26 (x1 : Int32) (x2 : Int32) (x3 : Int32) (x4 : Int32) (x5 : Int32) (x6 : Int32) (x7 : Int32) (x8 : Int32) (S : ms) (R16 : Int32 → Int32 → Int32 → Int32 → Int32 → Int32 → Int32 → ms → Prop) (K : ms → Prop) : Prop :=
  ∃ (I : Int32 → Int32 → Int32 → Int32 → Int32 → Int32 → Int32 → Int32 → ms → Prop) (μ : Int32 → Int32 → Int32 → Int32 → Int32 → Int32 → Int32 → Int32 → ms → Nat), I x1 x2 x3 x4 x5 x6 x7 x8 S ∧ ∀ yx1 yx2 yx3 yx4 yx5 yx6 yx7 yx8 yS, I yx1 yx2 yx3 yx4 yx5 yx6 yx7 yx8 yS → b_slope_26 yx1 yx2 yx3 yx4 yx5 yx6 yx7 yx8 yS R16 (fun zx1 zx2 zx3 zx4 zx5 zx6 zx7 zx8 zS => I zx1 zx2 zx3 zx4 zx5 zx6 zx7 zx8 zS ∧ μ zx1 zx2 zx3 zx4 zx5 zx6 zx7 zx8 zS < μ yx1 yx2 yx3 yx4 yx5 yx6 yx7 yx8 yS) K
def b_slope_16 (x1 : Int32) (x2 : Int32) (x3 : Int32) (x4 : Int32) (x5 : Int32) (x6 : Int32) (x7 : Int32) (S : ms) (R16 : Int32 → Int32 → Int32 → Int32 → Int32 → Int32 → Int32 → ms → Prop) (K : ms → Prop) : Prop :=
  (x4 ≤ x7 → (K S)) ∧ (¬ (x4 ≤ x7) → (e_slope_26 x1 x2 x3 x4 x5 x6 x7 0 S R16 K))
def e_slope_16 (x1 : Int32) (x2 : Int32) (x3 : Int32) (x4 : Int32) (x5 : Int32) (x6 : Int32) (x7 : Int32) (S : ms) (K : ms → Prop) : Prop :=
  ∃ (I : Int32 → Int32 → Int32 → Int32 → Int32 → Int32 → Int32 → ms → Prop) (μ : Int32 → Int32 → Int32 → Int32 → Int32 → Int32 → Int32 → ms → Nat), I x1 x2 x3 x4 x5 x6 x7 S ∧ ∀ yx1 yx2 yx3 yx4 yx5 yx6 yx7 yS, I yx1 yx2 yx3 yx4 yx5 yx6 yx7 yS → b_slope_16 yx1 yx2 yx3 yx4 yx5 yx6 yx7 yS (fun zx1 zx2 zx3 zx4 zx5 zx6 zx7 zS => I zx1 zx2 zx3 zx4 zx5 zx6 zx7 zS ∧ μ zx1 zx2 zx3 zx4 zx5 zx6 zx7 zS < μ yx1 yx2 yx3 yx4 yx5 yx6 yx7 yS) K
def p_slope (x1 : Int32) (x2 : Int32) (x3 : Int32) (x4 : Int32) (x5 : Int32) (x6 : Int32) (S : ms) (K : ms → Prop) : Prop :=
  p_isOut x1 x2 x3 x4 S (fun v6 S6 => (v6 = 0 → (e_slope_16 x1 x2 x3 x4 x5 x6 0 (S6.1, S6.2.1, S6.2.2) K)) ∧ (¬ (v6 = 0) → (K (S6.1, S6.2.1, S6.2.2))))
def p_fill (x1 : Int32) (x2 : Int32) (x3 : Int32) (x4 : Int32) (x5 : Int32) (S : ms) (K : ms → Prop) : Prop :=
  p_slope x1 x2 x3 x4 x5 x5 S (fun S10 => K (S10.1, S10.2.1, S10.2.2))
def b_at_67 (s0 : Int32) (S : ms) (K : Int32 → ms → Prop) : Prop :=
  K s0 S
def b_at_42 (x1 : Int32) (x2 : Int32) (x3 : Int32) (s1 : Int32) (S : ms) (K : Int32 → ms → Prop) : Prop :=
  (((upd S.1 0 s1) 0) ≤ 0 → (p_cell x1 x2 x3 (fun v63 => vp_in v63 12288 ∧ (b_at_67 (S.2.1 4 v63.toNatClampNeg) (upd S.1 0 s1, S.2.1, S.2.2) K)))) ∧ (¬ (((upd S.1 0 s1) 0) ≤ 0) → (b_at_67 0 (upd S.1 0 s1, S.2.1, S.2.2) K))
def b_at_37 (x1 : Int32) (x2 : Int32) (x3 : Int32) (S : ms) (K : Int32 → ms → Prop) : Prop :=
  b_at_42 x1 x2 x3 1 S K
def p_at (x1 : Int32) (x2 : Int32) (x3 : Int32) (S : ms) (K : Int32 → ms → Prop) : Prop :=
  (x1 < 0 → (b_at_37 x1 x2 x3 S K)) ∧ (¬ (x1 < 0) → (((S.1 1) ≤ x1 → (b_at_37 x1 x2 x3 S K)) ∧ (¬ ((S.1 1) ≤ x1) → ((x2 < 0 → (b_at_37 x1 x2 x3 S K)) ∧ (¬ (x2 < 0) → (((S.1 2) ≤ x2 → (b_at_37 x1 x2 x3 S K)) ∧ (¬ ((S.1 2) ≤ x2) → ((x3 < 0 → (b_at_37 x1 x2 x3 S K)) ∧ (¬ (x3 < 0) → ((x3 < (S.1 3) → (b_at_42 x1 x2 x3 0 S K)) ∧ (¬ (x3 < (S.1 3)) → (b_at_37 x1 x2 x3 S K))))))))))))
def b_scale_124  (S : ms) (K : ms → Prop) : Prop :=
  K S
def b_scale_117 (x1 : Int32) (x2 : Int32) (x3 : Int32) (x4 : Int32) (s1 : Int32) (s2 : Int32) (S : ms) (R49 : Int32 → Int32 → Int32 → Int32 → ms → Prop) (K : ms → Prop) : Prop :=
  vp_in s1 128 ∧ (R49 x1 x2 x3 (x4 + 1) (S.1, va_up S.2.1 5 (upd (S.2.1 5) s1.toNatClampNeg s2), S.2.2))
def b_scale_49 (x1 : Int32) (x2 : Int32) (x3 : Int32) (x4 : Int32) (S : ms) (R49 : Int32 → Int32 → Int32 → Int32 → ms → Prop) (K : ms → Prop) : Prop :=
  (64 ≤ x4 → (b_scale_124 S K)) ∧ (¬ (64 ≤ x4) → ((¬ (S.1 0) = 0 → (b_scale_124 S K)) ∧ ((S.1 0) = 0 → ((1 ≤ (x2 + (x3 * ((x4 / 8) + (x4 - x4 / 8 * 8)))) → (((x2 + (x3 * ((x4 / 8) + (x4 - x4 / 8 * 8)))) ≤ 255 → (b_scale_117 x1 x2 x3 x4 ((64 * x1) + x4) (x2 + (x3 * ((x4 / 8) + (x4 - x4 / 8 * 8)))) S R49 K)) ∧ (¬ ((x2 + (x3 * ((x4 / 8) + (x4 - x4 / 8 * 8)))) ≤ 255) → (b_scale_117 x1 x2 x3 x4 ((64 * x1) + x4) 255 S R49 K)))) ∧ (¬ (1 ≤ (x2 + (x3 * ((x4 / 8) + (x4 - x4 / 8 * 8))))) → (b_scale_117 x1 x2 x3 x4 ((64 * x1) + x4) 1 S R49 K))))))
def e_scale_49 (x1 : Int32) (x2 : Int32) (x3 : Int32) (x4 : Int32) (S : ms) (K : ms → Prop) : Prop :=
  ∃ (I : Int32 → Int32 → Int32 → Int32 → ms → Prop) (μ : Int32 → Int32 → Int32 → Int32 → ms → Nat), I x1 x2 x3 x4 S ∧ ∀ yx1 yx2 yx3 yx4 yS, I yx1 yx2 yx3 yx4 yS → b_scale_49 yx1 yx2 yx3 yx4 yS (fun zx1 zx2 zx3 zx4 zS => I zx1 zx2 zx3 zx4 zS ∧ μ zx1 zx2 zx3 zx4 zS < μ yx1 yx2 yx3 yx4 yS) K
def b_scale_43 (x1 : Int32) (x2 : Int32) (x3 : Int32) (s1 : Int32) (S : ms) (K : ms → Prop) : Prop :=
  e_scale_49 x1 x2 x3 0 (upd S.1 0 s1, S.2.1, S.2.2) K
def b_scale_38 (x1 : Int32) (x2 : Int32) (x3 : Int32) (S : ms) (K : ms → Prop) : Prop :=
  b_scale_43 x1 x2 x3 1 S K
def b_scale_10 (x1 : Int32) (x2 : Int32) (x3 : Int32) (S : ms) (K : ms → Prop) : Prop :=
  (x2 < (-1000) → (b_scale_38 x1 x2 x3 S K)) ∧ (¬ (x2 < (-1000)) → ((1000 < x2 → (b_scale_38 x1 x2 x3 S K)) ∧ (¬ (1000 < x2) → ((x3 < (-1000) → (b_scale_38 x1 x2 x3 S K)) ∧ (¬ (x3 < (-1000)) → ((x3 ≤ 1000 → (b_scale_43 x1 x2 x3 0 S K)) ∧ (¬ (x3 ≤ 1000) → (b_scale_38 x1 x2 x3 S K))))))))
def p_scale (x1 : Int32) (x2 : Int32) (x3 : Int32) (S : ms) (K : ms → Prop) : Prop :=
  (x1 = 0 → (b_scale_10 x1 x2 x3 S K)) ∧ (¬ (x1 = 0) → ((¬ x1 = 1 → (b_scale_38 x1 x2 x3 S K)) ∧ (x1 = 1 → (b_scale_10 x1 x2 x3 S K))))
def b_entry_81  (S : ms) (K : ms → Prop) : Prop :=
  K S
def b_entry_53 (x1 : Int32) (x2 : Int32) (x3 : Int32) (x4 : Int32) (s1 : Int32) (S : ms) (K : ms → Prop) : Prop :=
  (¬ ((upd S.1 0 s1) 0) = 0 → (b_entry_81 (upd S.1 0 s1, S.2.1, S.2.2) K)) ∧ (((upd S.1 0 s1) 0) = 0 → (vp_in (((64 * x1) + (8 * x2)) + x3) 128 ∧ (b_entry_81 (upd S.1 0 s1, va_up S.2.1 5 (upd (S.2.1 5) (((64 * x1) + (8 * x2)) + x3).toNatClampNeg x4), S.2.2) K)))
def b_entry_48 (x1 : Int32) (x2 : Int32) (x3 : Int32) (x4 : Int32) (S : ms) (K : ms → Prop) : Prop :=
  b_entry_53 x1 x2 x3 x4 2 S K
def b_entry_34 (x1 : Int32) (x2 : Int32) (x3 : Int32) (x4 : Int32) (S : ms) (K : ms → Prop) : Prop :=
  (x4 < 1 → (b_entry_48 x1 x2 x3 x4 S K)) ∧ (¬ (x4 < 1) → ((x4 ≤ 255 → (b_entry_53 x1 x2 x3 x4 0 S K)) ∧ (¬ (x4 ≤ 255) → (b_entry_48 x1 x2 x3 x4 S K))))
def b_entry_21 (x1 : Int32) (x2 : Int32) (x3 : Int32) (x4 : Int32) (S : ms) (K : ms → Prop) : Prop :=
  b_entry_53 x1 x2 x3 x4 1 S K
def p_entry (x1 : Int32) (x2 : Int32) (x3 : Int32) (x4 : Int32) (S : ms) (K : ms → Prop) : Prop :=
  (x2 < 0 → (b_entry_21 x1 x2 x3 x4 S K)) ∧ (¬ (x2 < 0) → ((7 < x2 → (b_entry_21 x1 x2 x3 x4 S K)) ∧ (¬ (7 < x2) → ((x3 < 0 → (b_entry_21 x1 x2 x3 x4 S K)) ∧ (¬ (x3 < 0) → ((x3 ≤ 7 → ((x1 = 0 → (b_entry_34 x1 x2 x3 x4 S K)) ∧ (¬ (x1 = 0) → ((¬ x1 = 1 → (b_entry_48 x1 x2 x3 x4 S K)) ∧ (x1 = 1 → (b_entry_34 x1 x2 x3 x4 S K)))))) ∧ (¬ (x3 ≤ 7) → (b_entry_21 x1 x2 x3 x4 S K))))))))
def b_toWeights_120 (x1 : Int32) (x2 : Int32) (x3 : Int64) (x5 : Int32) (S : ms) (R99 : Int32 → ms → Prop) (R107 : Int32 → Int32 → ms → Prop) (R120 : Int32 → Int32 → Int64 → Int32 → ms → Prop) (K : ms → Prop) : Prop :=
  (8 ≤ x5 → (vp_in ((8 * x2) + x1) 64 ∧ (R107 x1 (x2 + 1) (S.1, va_up S.2.1 25 (upd (S.2.1 25) ((8 * x2) + x1).toNatClampNeg ((x3 >>> ((17 : Int32).toInt64 &&& 63 : Int64) : Int64).toInt32)), S.2.2)))) ∧ (¬ (8 ≤ x5) → (vp_in ((8 * x5) + x2) 64 ∧ (vp_in ((8 * x5) + x1) 64 ∧ (R120 x1 x2 (x3 + (((S.2.1 23 ((8 * x5) + x2).toNatClampNeg).toInt64) * (S.2.2 24 ((8 * x5) + x1).toNatClampNeg))) (x5 + 1) S))))
def e_toWeights_120 (x1 : Int32) (x2 : Int32) (x3 : Int64) (x5 : Int32) (S : ms) (R99 : Int32 → ms → Prop) (R107 : Int32 → Int32 → ms → Prop) (K : ms → Prop) : Prop :=
  ∃ (I : Int32 → Int32 → Int64 → Int32 → ms → Prop) (μ : Int32 → Int32 → Int64 → Int32 → ms → Nat), I x1 x2 x3 x5 S ∧ ∀ yx1 yx2 yx3 yx5 yS, I yx1 yx2 yx3 yx5 yS → b_toWeights_120 yx1 yx2 yx3 yx5 yS R99 R107 (fun zx1 zx2 zx3 zx5 zS => I zx1 zx2 zx3 zx5 zS ∧ μ zx1 zx2 zx3 zx5 zS < μ yx1 yx2 yx3 yx5 yS) K
def b_toWeights_107 (x1 : Int32) (x2 : Int32) (S : ms) (R99 : Int32 → ms → Prop) (R107 : Int32 → Int32 → ms → Prop) (K : ms → Prop) : Prop :=
  (8 ≤ x2 → (R99 (x1 + 1) S)) ∧ (¬ (8 ≤ x2) → (e_toWeights_120 x1 x2 65536 0 S R99 R107 K))
def e_toWeights_107 (x1 : Int32) (x2 : Int32) (S : ms) (R99 : Int32 → ms → Prop) (K : ms → Prop) : Prop :=
  ∃ (I : Int32 → Int32 → ms → Prop) (μ : Int32 → Int32 → ms → Nat), I x1 x2 S ∧ ∀ yx1 yx2 yS, I yx1 yx2 yS → b_toWeights_107 yx1 yx2 yS R99 (fun zx1 zx2 zS => I zx1 zx2 zS ∧ μ zx1 zx2 zS < μ yx1 yx2 yS) K
def b_toWeights_99 (x1 : Int32) (S : ms) (R99 : Int32 → ms → Prop) (K : ms → Prop) : Prop :=
  (8 ≤ x1 → (K S)) ∧ (¬ (8 ≤ x1) → (e_toWeights_107 x1 0 S R99 K))
def e_toWeights_99 (x1 : Int32) (S : ms) (K : ms → Prop) : Prop :=
  ∃ (I : Int32 → ms → Prop) (μ : Int32 → ms → Nat), I x1 S ∧ ∀ yx1 yS, I yx1 yS → b_toWeights_99 yx1 yS (fun zx1 zS => I zx1 zS ∧ μ zx1 zS < μ yx1 yS) K
def b_toWeights_23 (x1 : Int32) (x2 : Int32) (x3 : Int64) (x5 : Int32) (S : ms) (R2 : Int32 → ms → Prop) (R10 : Int32 → Int32 → ms → Prop) (R23 : Int32 → Int32 → Int64 → Int32 → ms → Prop) (K : ms → Prop) : Prop :=
  (8 ≤ x5 → (vp_in ((8 * x1) + x2) 64 ∧ (R10 x1 (x2 + 1) (S.1, S.2.1, va_up S.2.2 24 (vp_updL (S.2.2 24) ((8 * x1) + x2).toNatClampNeg (x3 >>> ((9 : Int32).toInt64 &&& 63 : Int64) : Int64)))))) ∧ (¬ (8 ≤ x5) → (vp_in ((8 * x5) + x2) 64 ∧ (vp_in ((8 * x1) + x5) 64 ∧ (R23 x1 x2 (x3 + (((S.2.1 23 ((8 * x5) + x2).toNatClampNeg).toInt64) * (((S.2.1 25 ((8 * x1) + x5).toNatClampNeg) - 128).toInt64))) (x5 + 1) S))))
def e_toWeights_23 (x1 : Int32) (x2 : Int32) (x3 : Int64) (x5 : Int32) (S : ms) (R2 : Int32 → ms → Prop) (R10 : Int32 → Int32 → ms → Prop) (K : ms → Prop) : Prop :=
  ∃ (I : Int32 → Int32 → Int64 → Int32 → ms → Prop) (μ : Int32 → Int32 → Int64 → Int32 → ms → Nat), I x1 x2 x3 x5 S ∧ ∀ yx1 yx2 yx3 yx5 yS, I yx1 yx2 yx3 yx5 yS → b_toWeights_23 yx1 yx2 yx3 yx5 yS R2 R10 (fun zx1 zx2 zx3 zx5 zS => I zx1 zx2 zx3 zx5 zS ∧ μ zx1 zx2 zx3 zx5 zS < μ yx1 yx2 yx3 yx5 yS) K
def b_toWeights_10 (x1 : Int32) (x2 : Int32) (S : ms) (R2 : Int32 → ms → Prop) (R10 : Int32 → Int32 → ms → Prop) (K : ms → Prop) : Prop :=
  (8 ≤ x2 → (R2 (x1 + 1) S)) ∧ (¬ (8 ≤ x2) → (e_toWeights_23 x1 x2 256 0 S R2 R10 K))
def e_toWeights_10 (x1 : Int32) (x2 : Int32) (S : ms) (R2 : Int32 → ms → Prop) (K : ms → Prop) : Prop :=
  ∃ (I : Int32 → Int32 → ms → Prop) (μ : Int32 → Int32 → ms → Nat), I x1 x2 S ∧ ∀ yx1 yx2 yS, I yx1 yx2 yS → b_toWeights_10 yx1 yx2 yS R2 (fun zx1 zx2 zS => I zx1 zx2 zS ∧ μ zx1 zx2 zS < μ yx1 yx2 yS) K
def b_toWeights_2 (x1 : Int32) (S : ms) (R2 : Int32 → ms → Prop) (K : ms → Prop) : Prop :=
  (8 ≤ x1 → (e_toWeights_99 0 S K)) ∧ (¬ (8 ≤ x1) → (e_toWeights_10 x1 0 S R2 K))
def e_toWeights_2 (x1 : Int32) (S : ms) (K : ms → Prop) : Prop :=
  ∃ (I : Int32 → ms → Prop) (μ : Int32 → ms → Nat), I x1 S ∧ ∀ yx1 yS, I yx1 yS → b_toWeights_2 yx1 yS (fun zx1 zS => I zx1 zS ∧ μ zx1 zS < μ yx1 yS) K
def p_toWeights  (S : ms) (K : ms → Prop) : Prop :=
  e_toWeights_2 0 S K
def b_toSamples_203 (x1 : Int32) (x2 : Int32) (s1 : Int32) (s2 : Int32) (S : ms) (R95 : Int32 → ms → Prop) (R103 : Int32 → Int32 → ms → Prop) (K : ms → Prop) : Prop :=
  vp_in s1 64 ∧ (R103 x1 (x2 + 1) (S.1, va_up S.2.1 25 (upd (S.2.1 25) s1.toNatClampNeg s2), S.2.2))
def b_toSamples_116 (x1 : Int32) (x2 : Int32) (x3 : Int64) (x5 : Int32) (S : ms) (R95 : Int32 → ms → Prop) (R103 : Int32 → Int32 → ms → Prop) (R116 : Int32 → Int32 → Int64 → Int32 → ms → Prop) (K : ms → Prop) : Prop :=
  (8 ≤ x5 → ((0 ≤ (lg_cmp (128 + (x3 >>> ((17 : Int32).toInt64 &&& 63 : Int64) : Int64)) 0) → (((lg_cmp (128 + (x3 >>> ((17 : Int32).toInt64 &&& 63 : Int64) : Int64)) 255) ≤ 0 → (b_toSamples_203 x1 x2 ((8 * x1) + x2) ((128 + (x3 >>> ((17 : Int32).toInt64 &&& 63 : Int64) : Int64)).toInt32) S R95 R103 K)) ∧ (¬ ((lg_cmp (128 + (x3 >>> ((17 : Int32).toInt64 &&& 63 : Int64) : Int64)) 255) ≤ 0) → (b_toSamples_203 x1 x2 ((8 * x1) + x2) 255 S R95 R103 K)))) ∧ (¬ (0 ≤ (lg_cmp (128 + (x3 >>> ((17 : Int32).toInt64 &&& 63 : Int64) : Int64)) 0)) → (b_toSamples_203 x1 x2 ((8 * x1) + x2) 0 S R95 R103 K)))) ∧ (¬ (8 ≤ x5) → (vp_in ((8 * x1) + x5) 64 ∧ (vp_in ((8 * x5) + x2) 64 ∧ (R116 x1 x2 (x3 + (((S.2.1 23 ((8 * x1) + x5).toNatClampNeg).toInt64) * (S.2.2 24 ((8 * x5) + x2).toNatClampNeg))) (x5 + 1) S))))
def e_toSamples_116 (x1 : Int32) (x2 : Int32) (x3 : Int64) (x5 : Int32) (S : ms) (R95 : Int32 → ms → Prop) (R103 : Int32 → Int32 → ms → Prop) (K : ms → Prop) : Prop :=
  ∃ (I : Int32 → Int32 → Int64 → Int32 → ms → Prop) (μ : Int32 → Int32 → Int64 → Int32 → ms → Nat), I x1 x2 x3 x5 S ∧ ∀ yx1 yx2 yx3 yx5 yS, I yx1 yx2 yx3 yx5 yS → b_toSamples_116 yx1 yx2 yx3 yx5 yS R95 R103 (fun zx1 zx2 zx3 zx5 zS => I zx1 zx2 zx3 zx5 zS ∧ μ zx1 zx2 zx3 zx5 zS < μ yx1 yx2 yx3 yx5 yS) K
def b_toSamples_103 (x1 : Int32) (x2 : Int32) (S : ms) (R95 : Int32 → ms → Prop) (R103 : Int32 → Int32 → ms → Prop) (K : ms → Prop) : Prop :=
  (8 ≤ x2 → (R95 (x1 + 1) S)) ∧ (¬ (8 ≤ x2) → (e_toSamples_116 x1 x2 65536 0 S R95 R103 K))
def e_toSamples_103 (x1 : Int32) (x2 : Int32) (S : ms) (R95 : Int32 → ms → Prop) (K : ms → Prop) : Prop :=
  ∃ (I : Int32 → Int32 → ms → Prop) (μ : Int32 → Int32 → ms → Nat), I x1 x2 S ∧ ∀ yx1 yx2 yS, I yx1 yx2 yS → b_toSamples_103 yx1 yx2 yS R95 (fun zx1 zx2 zS => I zx1 zx2 zS ∧ μ zx1 zx2 zS < μ yx1 yx2 yS) K
def b_toSamples_95 (x1 : Int32) (S : ms) (R95 : Int32 → ms → Prop) (K : ms → Prop) : Prop :=
  (8 ≤ x1 → (K S)) ∧ (¬ (8 ≤ x1) → (e_toSamples_103 x1 0 S R95 K))
def e_toSamples_95 (x1 : Int32) (S : ms) (K : ms → Prop) : Prop :=
  ∃ (I : Int32 → ms → Prop) (μ : Int32 → ms → Nat), I x1 S ∧ ∀ yx1 yS, I yx1 yS → b_toSamples_95 yx1 yS (fun zx1 zS => I zx1 zS ∧ μ zx1 zS < μ yx1 yS) K
def b_toSamples_23 (x1 : Int32) (x2 : Int32) (x3 : Int64) (x5 : Int32) (S : ms) (R2 : Int32 → ms → Prop) (R10 : Int32 → Int32 → ms → Prop) (R23 : Int32 → Int32 → Int64 → Int32 → ms → Prop) (K : ms → Prop) : Prop :=
  (8 ≤ x5 → (vp_in ((8 * x1) + x2) 64 ∧ (R10 x1 (x2 + 1) (S.1, S.2.1, va_up S.2.2 24 (vp_updL (S.2.2 24) ((8 * x1) + x2).toNatClampNeg (x3 >>> ((9 : Int32).toInt64 &&& 63 : Int64) : Int64)))))) ∧ (¬ (8 ≤ x5) → (vp_in ((8 * x2) + x5) 64 ∧ (vp_in ((8 * x1) + x5) 64 ∧ (R23 x1 x2 (x3 + (((S.2.1 23 ((8 * x2) + x5).toNatClampNeg).toInt64) * ((S.2.1 25 ((8 * x1) + x5).toNatClampNeg).toInt64))) (x5 + 1) S))))
def e_toSamples_23 (x1 : Int32) (x2 : Int32) (x3 : Int64) (x5 : Int32) (S : ms) (R2 : Int32 → ms → Prop) (R10 : Int32 → Int32 → ms → Prop) (K : ms → Prop) : Prop :=
  ∃ (I : Int32 → Int32 → Int64 → Int32 → ms → Prop) (μ : Int32 → Int32 → Int64 → Int32 → ms → Nat), I x1 x2 x3 x5 S ∧ ∀ yx1 yx2 yx3 yx5 yS, I yx1 yx2 yx3 yx5 yS → b_toSamples_23 yx1 yx2 yx3 yx5 yS R2 R10 (fun zx1 zx2 zx3 zx5 zS => I zx1 zx2 zx3 zx5 zS ∧ μ zx1 zx2 zx3 zx5 zS < μ yx1 yx2 yx3 yx5 yS) K
def b_toSamples_10 (x1 : Int32) (x2 : Int32) (S : ms) (R2 : Int32 → ms → Prop) (R10 : Int32 → Int32 → ms → Prop) (K : ms → Prop) : Prop :=
  (8 ≤ x2 → (R2 (x1 + 1) S)) ∧ (¬ (8 ≤ x2) → (e_toSamples_23 x1 x2 256 0 S R2 R10 K))
def e_toSamples_10 (x1 : Int32) (x2 : Int32) (S : ms) (R2 : Int32 → ms → Prop) (K : ms → Prop) : Prop :=
  ∃ (I : Int32 → Int32 → ms → Prop) (μ : Int32 → Int32 → ms → Nat), I x1 x2 S ∧ ∀ yx1 yx2 yS, I yx1 yx2 yS → b_toSamples_10 yx1 yx2 yS R2 (fun zx1 zx2 zS => I zx1 zx2 zS ∧ μ zx1 zx2 zS < μ yx1 yx2 yS) K
def b_toSamples_2 (x1 : Int32) (S : ms) (R2 : Int32 → ms → Prop) (K : ms → Prop) : Prop :=
  (8 ≤ x1 → (e_toSamples_95 0 S K)) ∧ (¬ (8 ≤ x1) → (e_toSamples_10 x1 0 S R2 K))
def e_toSamples_2 (x1 : Int32) (S : ms) (K : ms → Prop) : Prop :=
  ∃ (I : Int32 → ms → Prop) (μ : Int32 → ms → Nat), I x1 S ∧ ∀ yx1 yS, I yx1 yS → b_toSamples_2 yx1 yS (fun zx1 zS => I zx1 zS ∧ μ zx1 zS < μ yx1 yS) K
def p_toSamples  (S : ms) (K : ms → Prop) : Prop :=
  e_toSamples_2 0 S K
def p_upward (x0 : Int32) (x1 : Int32) (K : Int32 → Prop) : Prop :=
  ¬ x1 = 0 ∧ (K (((x0 + x1) - 1) / x1))
def b_greatest_59 (x1 : Int32) (x2 : Int32) (x4 : Int32) (s0 : Int32) (S : ms) (R5 : Int32 → Int32 → Int32 → Int32 → ms → Prop) (K : Int32 → ms → Prop) : Prop :=
  R5 x1 x2 s0 (x4 + 1) S
def b_greatest_45 (x1 : Int32) (x2 : Int32) (x3 : Int32) (x4 : Int32) (s0 : Int32) (S : ms) (R5 : Int32 → Int32 → Int32 → Int32 → ms → Prop) (K : Int32 → ms → Prop) : Prop :=
  (s0 ≤ x3 → (b_greatest_59 x1 x2 x4 x3 S R5 K)) ∧ (¬ (s0 ≤ x3) → (b_greatest_59 x1 x2 x4 s0 S R5 K))
def b_greatest_5 (x1 : Int32) (x2 : Int32) (x3 : Int32) (x4 : Int32) (S : ms) (R5 : Int32 → Int32 → Int32 → Int32 → ms → Prop) (K : Int32 → ms → Prop) : Prop :=
  vp_in x1 3 ∧ (((S.2.1 14 x1.toNatClampNeg) ≤ x4 → (K x3 S)) ∧ (¬ ((S.2.1 14 x1.toNatClampNeg) ≤ x4) → ((x2 = 0 → (vp_in ((3 * x1) + x4) 9 ∧ (b_greatest_45 x1 x2 x3 x4 (S.2.1 16 ((3 * x1) + x4).toNatClampNeg) S R5 K))) ∧ (¬ (x2 = 0) → (vp_in ((3 * x1) + x4) 9 ∧ (b_greatest_45 x1 x2 x3 x4 (S.2.1 15 ((3 * x1) + x4).toNatClampNeg) S R5 K))))))
def e_greatest_5 (x1 : Int32) (x2 : Int32) (x3 : Int32) (x4 : Int32) (S : ms) (K : Int32 → ms → Prop) : Prop :=
  ∃ (I : Int32 → Int32 → Int32 → Int32 → ms → Prop) (μ : Int32 → Int32 → Int32 → Int32 → ms → Nat), I x1 x2 x3 x4 S ∧ ∀ yx1 yx2 yx3 yx4 yS, I yx1 yx2 yx3 yx4 yS → b_greatest_5 yx1 yx2 yx3 yx4 yS (fun zx1 zx2 zx3 zx4 zS => I zx1 zx2 zx3 zx4 zS ∧ μ zx1 zx2 zx3 zx4 zS < μ yx1 yx2 yx3 yx4 yS) K
def p_greatest (x1 : Int32) (x2 : Int32) (S : ms) (K : Int32 → ms → Prop) : Prop :=
  e_greatest_5 x1 x2 1 0 S K
def b_makeGrids_109 (x1 : Int32) (x4 : Int32) (S : ms) (R109 : Int32 → Int32 → ms → Prop) (K : ms → Prop) : Prop :=
  (12288 ≤ x4 → (K S)) ∧ (¬ (12288 ≤ x4) → (vp_in ((12288 * x1) + x4) 36864 ∧ (R109 x1 (x4 + 1) (S.1, va_up S.2.1 19 (upd (S.2.1 19) ((12288 * x1) + x4).toNatClampNeg 0), S.2.2))))
def e_makeGrids_109 (x1 : Int32) (x4 : Int32) (S : ms) (K : ms → Prop) : Prop :=
  ∃ (I : Int32 → Int32 → ms → Prop) (μ : Int32 → Int32 → ms → Nat), I x1 x4 S ∧ ∀ yx1 yx4 yS, I yx1 yx4 yS → b_makeGrids_109 yx1 yx4 yS (fun zx1 zx4 zS => I zx1 zx4 zS ∧ μ zx1 zx4 zS < μ yx1 yx4 yS) K
def b_makeGrids_17 (x1 : Int32) (x2 : Int32) (x3 : Int32) (x4 : Int32) (S : ms) (R17 : Int32 → Int32 → Int32 → Int32 → ms → Prop) (K : ms → Prop) : Prop :=
  vp_in x1 3 ∧ (((S.2.1 14 x1.toNatClampNeg) ≤ x4 → (e_makeGrids_109 x1 0 S K)) ∧ (¬ ((S.2.1 14 x1.toNatClampNeg) ≤ x4) → (vp_in ((3 * x1) + x4) 9 ∧ (vp_in x1 3 ∧ (p_upward (S.2.1 12 x1.toNatClampNeg) (8 * x2) (fun v59 => vp_in ((3 * x1) + x4) 9 ∧ (vp_in ((3 * x1) + x4) 9 ∧ (vp_in x1 3 ∧ (p_upward ((va_up S.2.1 17 (upd (S.2.1 17) ((3 * x1) + x4).toNatClampNeg ((S.2.1 15 ((3 * x1) + x4).toNatClampNeg) * v59))) 13 x1.toNatClampNeg) (8 * x3) (fun v95 => vp_in ((3 * x1) + x4) 9 ∧ (R17 x1 x2 x3 (x4 + 1) (S.1, va_up (va_up S.2.1 17 (upd (S.2.1 17) ((3 * x1) + x4).toNatClampNeg ((S.2.1 15 ((3 * x1) + x4).toNatClampNeg) * v59))) 18 (upd ((va_up S.2.1 17 (upd (S.2.1 17) ((3 * x1) + x4).toNatClampNeg ((S.2.1 15 ((3 * x1) + x4).toNatClampNeg) * v59))) 18) ((3 * x1) + x4).toNatClampNeg (((va_up S.2.1 17 (upd (S.2.1 17) ((3 * x1) + x4).toNatClampNeg ((S.2.1 15 ((3 * x1) + x4).toNatClampNeg) * v59))) 16 ((3 * x1) + x4).toNatClampNeg) * v95)), S.2.2))))))))))))
def e_makeGrids_17 (x1 : Int32) (x2 : Int32) (x3 : Int32) (x4 : Int32) (S : ms) (K : ms → Prop) : Prop :=
  ∃ (I : Int32 → Int32 → Int32 → Int32 → ms → Prop) (μ : Int32 → Int32 → Int32 → Int32 → ms → Nat), I x1 x2 x3 x4 S ∧ ∀ yx1 yx2 yx3 yx4 yS, I yx1 yx2 yx3 yx4 yS → b_makeGrids_17 yx1 yx2 yx3 yx4 yS (fun zx1 zx2 zx3 zx4 zS => I zx1 zx2 zx3 zx4 zS ∧ μ zx1 zx2 zx3 zx4 zS < μ yx1 yx2 yx3 yx4 yS) K
def p_makeGrids (x1 : Int32) (S : ms) (K : ms → Prop) : Prop :=
  p_greatest x1 1 S (fun v3 S3 => p_greatest x1 0 (S3.1, S3.2.1, S3.2.2) (fun v10 S10 => e_makeGrids_17 x1 v3 v10 0 (S10.1, S10.2.1, S10.2.2) K))
def p_layerWide (x1 : Int32) (x2 : Int32) (S : ms) (K : Int32 → ms → Prop) : Prop :=
  vp_in x1 3 ∧ (vp_in ((3 * x1) + x2) 9 ∧ (p_greatest x1 1 S (fun v20 S20 => p_upward ((S.2.1 12 x1.toNatClampNeg) * (S.2.1 15 ((3 * x1) + x2).toNatClampNeg)) v20 (fun v23 => K v23 (S20.1, S20.2.1, S20.2.2)))))
def p_layerHigh (x1 : Int32) (x2 : Int32) (S : ms) (K : Int32 → ms → Prop) : Prop :=
  vp_in x1 3 ∧ (vp_in ((3 * x1) + x2) 9 ∧ (p_greatest x1 0 S (fun v20 S20 => p_upward ((S.2.1 13 x1.toNatClampNeg) * (S.2.1 16 ((3 * x1) + x2).toNatClampNeg)) v20 (fun v23 => K v23 (S20.1, S20.2.1, S20.2.2)))))
def p_levelCell (x0 : Int32) (x1 : Int32) (x2 : Int32) (x3 : Int32) (K : Int32 → Prop) : Prop :=
  K ((64 * ((64 * ((3 * x0) + x1)) + x2)) + x3)
def b_sampleOf_166 (s0 : Int32) (S : ms) (K : Int32 → ms → Prop) : Prop :=
  K s0 S
def b_sampleOf_148 (s0 : Int32) (S : ms) (K : Int32 → ms → Prop) : Prop :=
  (s0 ≤ 255 → (b_sampleOf_166 s0 S K)) ∧ (¬ (s0 ≤ 255) → (b_sampleOf_166 255 S K))
def p_sampleOf (x1 : Int32) (x2 : Int32) (x3 : Int32) (S : ms) (K : Int32 → ms → Prop) : Prop :=
  p_cell x1 x2 0 (fun v7 => vp_in v7 12288 ∧ ((¬ (S.1 3) = 1 → (p_cell x1 x2 1 (fun v31 => vp_in v31 12288 ∧ (p_cell x1 x2 2 (fun v44 => vp_in v44 12288 ∧ ((¬ x3 = 0 → ((¬ x3 = 1 → (b_sampleOf_148 (128 + (((((32768 * (S.2.1 4 v7.toNatClampNeg)) - (27439 * (S.2.1 4 v31.toNatClampNeg))) - (5329 * (S.2.1 4 v44.toNatClampNeg))) + 32768) >>> (16 &&& 31 : Int32) : Int32)) S K)) ∧ (x3 = 1 → (b_sampleOf_148 (128 + ((((((-11059) * (S.2.1 4 v7.toNatClampNeg)) - (21709 * (S.2.1 4 v31.toNatClampNeg))) + (32768 * (S.2.1 4 v44.toNatClampNeg))) + 32768) >>> (16 &&& 31 : Int32) : Int32)) S K)))) ∧ (x3 = 0 → (b_sampleOf_148 (((((19595 * (S.2.1 4 v7.toNatClampNeg)) + (38470 * (S.2.1 4 v31.toNatClampNeg))) + (7471 * (S.2.1 4 v44.toNatClampNeg))) + 32768) >>> (16 &&& 31 : Int32) : Int32) S K)))))))) ∧ ((S.1 3) = 1 → (K (S.2.1 4 v7.toNatClampNeg) S))))
def b_makeRaster_146 (x1 : Int32) (x2 : Int32) (x3 : Int32) (x4 : Int32) (x5 : Int32) (x6 : Int32) (x8 : Int32) (x9 : Int32) (s0 : Int32) (s2 : Int32) (s3 : Int32) (S : ms) (R36 : Int32 → Int32 → Int32 → Int32 → Int32 → ms → Prop) (R50 : Int32 → Int32 → Int32 → Int32 → Int32 → Int32 → ms → Prop) (R70 : Int32 → Int32 → Int32 → Int32 → Int32 → Int32 → Int32 → Int32 → ms → Prop) (R79 : Int32 → Int32 → Int32 → Int32 → Int32 → Int32 → Int32 → Int32 → Int32 → ms → Prop) (K : ms → Prop) : Prop :=
  p_sampleOf s2 s3 x1 S (fun v147 S147 => R79 x1 x2 x3 x4 x5 x6 (s0 + v147) x8 (x9 + 1) (S147.1, S147.2.1, S147.2.2))
def b_makeRaster_126 (x1 : Int32) (x2 : Int32) (x3 : Int32) (x4 : Int32) (x5 : Int32) (x6 : Int32) (x8 : Int32) (x9 : Int32) (x11 : Int32) (s0 : Int32) (s2 : Int32) (S : ms) (R36 : Int32 → Int32 → Int32 → Int32 → Int32 → ms → Prop) (R50 : Int32 → Int32 → Int32 → Int32 → Int32 → Int32 → ms → Prop) (R70 : Int32 → Int32 → Int32 → Int32 → Int32 → Int32 → Int32 → Int32 → ms → Prop) (R79 : Int32 → Int32 → Int32 → Int32 → Int32 → Int32 → Int32 → Int32 → Int32 → ms → Prop) (K : ms → Prop) : Prop :=
  ((S.1 2) ≤ x11 → (b_makeRaster_146 x1 x2 x3 x4 x5 x6 x8 x9 s0 s2 ((S.1 2) - 1) S R36 R50 R70 R79 K)) ∧ (¬ ((S.1 2) ≤ x11) → (b_makeRaster_146 x1 x2 x3 x4 x5 x6 x8 x9 s0 s2 x11 S R36 R50 R70 R79 K))
def b_makeRaster_79 (x1 : Int32) (x2 : Int32) (x3 : Int32) (x4 : Int32) (x5 : Int32) (x6 : Int32) (x7 : Int32) (x8 : Int32) (x9 : Int32) (S : ms) (R36 : Int32 → Int32 → Int32 → Int32 → Int32 → ms → Prop) (R50 : Int32 → Int32 → Int32 → Int32 → Int32 → Int32 → ms → Prop) (R70 : Int32 → Int32 → Int32 → Int32 → Int32 → Int32 → Int32 → Int32 → ms → Prop) (R79 : Int32 → Int32 → Int32 → Int32 → Int32 → Int32 → Int32 → Int32 → Int32 → ms → Prop) (K : ms → Prop) : Prop :=
  (x2 ≤ x9 → (R70 x1 x2 x3 x4 x5 x6 x7 (x8 + 1) S)) ∧ (¬ (x2 ≤ x9) → (((S.1 1) ≤ ((x6 * x2) + x9) → (b_makeRaster_126 x1 x2 x3 x4 x5 x6 x8 x9 ((x5 * x3) + x8) x7 ((S.1 1) - 1) S R36 R50 R70 R79 K)) ∧ (¬ ((S.1 1) ≤ ((x6 * x2) + x9)) → (b_makeRaster_126 x1 x2 x3 x4 x5 x6 x8 x9 ((x5 * x3) + x8) x7 ((x6 * x2) + x9) S R36 R50 R70 R79 K))))
def e_makeRaster_79 (x1 : Int32) (x2 : Int32) (x3 : Int32) (x4 : Int32) (x5 : Int32) (x6 : Int32) (x7 : Int32) (x8 : Int32) (x9 : Int32) (S : ms) (R36 : Int32 → Int32 → Int32 → Int32 → Int32 → ms → Prop) (R50 : Int32 → Int32 → Int32 → Int32 → Int32 → Int32 → ms → Prop) (R70 : Int32 → Int32 → Int32 → Int32 → Int32 → Int32 → Int32 → Int32 → ms → Prop) (K : ms → Prop) : Prop :=
  ∃ (I : Int32 → Int32 → Int32 → Int32 → Int32 → Int32 → Int32 → Int32 → Int32 → ms → Prop) (μ : Int32 → Int32 → Int32 → Int32 → Int32 → Int32 → Int32 → Int32 → Int32 → ms → Nat), I x1 x2 x3 x4 x5 x6 x7 x8 x9 S ∧ ∀ yx1 yx2 yx3 yx4 yx5 yx6 yx7 yx8 yx9 yS, I yx1 yx2 yx3 yx4 yx5 yx6 yx7 yx8 yx9 yS → b_makeRaster_79 yx1 yx2 yx3 yx4 yx5 yx6 yx7 yx8 yx9 yS R36 R50 R70 (fun zx1 zx2 zx3 zx4 zx5 zx6 zx7 zx8 zx9 zS => I zx1 zx2 zx3 zx4 zx5 zx6 zx7 zx8 zx9 zS ∧ μ zx1 zx2 zx3 zx4 zx5 zx6 zx7 zx8 zx9 zS < μ yx1 yx2 yx3 yx4 yx5 yx6 yx7 yx8 yx9 yS) K
def b_makeRaster_70 (x1 : Int32) (x2 : Int32) (x3 : Int32) (x4 : Int32) (x5 : Int32) (x6 : Int32) (x7 : Int32) (x8 : Int32) (S : ms) (R36 : Int32 → Int32 → Int32 → Int32 → Int32 → ms → Prop) (R50 : Int32 → Int32 → Int32 → Int32 → Int32 → Int32 → ms → Prop) (R70 : Int32 → Int32 → Int32 → Int32 → Int32 → Int32 → Int32 → Int32 → ms → Prop) (K : ms → Prop) : Prop :=
  (x3 ≤ x8 → (¬ x4 = 0 ∧ (vp_in ((64 * x5) + x6) 4096 ∧ (R50 x1 x2 x3 x4 x5 (x6 + 1) (S.1, va_up S.2.1 21 (upd (S.2.1 21) ((64 * x5) + x6).toNatClampNeg (x7 / x4)), S.2.2))))) ∧ (¬ (x3 ≤ x8) → (e_makeRaster_79 x1 x2 x3 x4 x5 x6 x7 x8 0 S R36 R50 R70 K))
def e_makeRaster_70 (x1 : Int32) (x2 : Int32) (x3 : Int32) (x4 : Int32) (x5 : Int32) (x6 : Int32) (x7 : Int32) (x8 : Int32) (S : ms) (R36 : Int32 → Int32 → Int32 → Int32 → Int32 → ms → Prop) (R50 : Int32 → Int32 → Int32 → Int32 → Int32 → Int32 → ms → Prop) (K : ms → Prop) : Prop :=
  ∃ (I : Int32 → Int32 → Int32 → Int32 → Int32 → Int32 → Int32 → Int32 → ms → Prop) (μ : Int32 → Int32 → Int32 → Int32 → Int32 → Int32 → Int32 → Int32 → ms → Nat), I x1 x2 x3 x4 x5 x6 x7 x8 S ∧ ∀ yx1 yx2 yx3 yx4 yx5 yx6 yx7 yx8 yS, I yx1 yx2 yx3 yx4 yx5 yx6 yx7 yx8 yS → b_makeRaster_70 yx1 yx2 yx3 yx4 yx5 yx6 yx7 yx8 yS R36 R50 (fun zx1 zx2 zx3 zx4 zx5 zx6 zx7 zx8 zS => I zx1 zx2 zx3 zx4 zx5 zx6 zx7 zx8 zS ∧ μ zx1 zx2 zx3 zx4 zx5 zx6 zx7 zx8 zS < μ yx1 yx2 yx3 yx4 yx5 yx6 yx7 yx8 yS) K
def b_makeRaster_50 (x1 : Int32) (x2 : Int32) (x3 : Int32) (x4 : Int32) (x5 : Int32) (x6 : Int32) (S : ms) (R36 : Int32 → Int32 → Int32 → Int32 → Int32 → ms → Prop) (R50 : Int32 → Int32 → Int32 → Int32 → Int32 → Int32 → ms → Prop) (K : ms → Prop) : Prop :=
  p_layerWide 0 x1 S (fun v55 S55 => (v55 ≤ x6 → (R36 x1 x2 x3 x4 (x5 + 1) (S55.1, S55.2.1, S55.2.2))) ∧ (¬ (v55 ≤ x6) → (e_makeRaster_70 x1 x2 x3 x4 x5 x6 (x4 / 2) 0 (S55.1, S55.2.1, S55.2.2) R36 R50 K)))
def e_makeRaster_50 (x1 : Int32) (x2 : Int32) (x3 : Int32) (x4 : Int32) (x5 : Int32) (x6 : Int32) (S : ms) (R36 : Int32 → Int32 → Int32 → Int32 → Int32 → ms → Prop) (K : ms → Prop) : Prop :=
  ∃ (I : Int32 → Int32 → Int32 → Int32 → Int32 → Int32 → ms → Prop) (μ : Int32 → Int32 → Int32 → Int32 → Int32 → Int32 → ms → Nat), I x1 x2 x3 x4 x5 x6 S ∧ ∀ yx1 yx2 yx3 yx4 yx5 yx6 yS, I yx1 yx2 yx3 yx4 yx5 yx6 yS → b_makeRaster_50 yx1 yx2 yx3 yx4 yx5 yx6 yS R36 (fun zx1 zx2 zx3 zx4 zx5 zx6 zS => I zx1 zx2 zx3 zx4 zx5 zx6 zS ∧ μ zx1 zx2 zx3 zx4 zx5 zx6 zS < μ yx1 yx2 yx3 yx4 yx5 yx6 yS) K
def b_makeRaster_36 (x1 : Int32) (x2 : Int32) (x3 : Int32) (x4 : Int32) (x5 : Int32) (S : ms) (R36 : Int32 → Int32 → Int32 → Int32 → Int32 → ms → Prop) (K : ms → Prop) : Prop :=
  p_layerHigh 0 x1 S (fun v41 S41 => (v41 ≤ x5 → (K (S41.1, S41.2.1, S41.2.2))) ∧ (¬ (v41 ≤ x5) → (e_makeRaster_50 x1 x2 x3 x4 x5 0 (S41.1, S41.2.1, S41.2.2) R36 K)))
def e_makeRaster_36 (x1 : Int32) (x2 : Int32) (x3 : Int32) (x4 : Int32) (x5 : Int32) (S : ms) (K : ms → Prop) : Prop :=
  ∃ (I : Int32 → Int32 → Int32 → Int32 → Int32 → ms → Prop) (μ : Int32 → Int32 → Int32 → Int32 → Int32 → ms → Nat), I x1 x2 x3 x4 x5 S ∧ ∀ yx1 yx2 yx3 yx4 yx5 yS, I yx1 yx2 yx3 yx4 yx5 yS → b_makeRaster_36 yx1 yx2 yx3 yx4 yx5 yS (fun zx1 zx2 zx3 zx4 zx5 zS => I zx1 zx2 zx3 zx4 zx5 zS ∧ μ zx1 zx2 zx3 zx4 zx5 zS < μ yx1 yx2 yx3 yx4 yx5 yS) K
def p_makeRaster (x1 : Int32) (S : ms) (K : ms → Prop) : Prop :=
  p_greatest 0 1 S (fun v3 S3 => vp_in x1 9 ∧ (¬ (S3.2.1 15 x1.toNatClampNeg) = 0 ∧ (p_greatest 0 0 (S3.1, S3.2.1, S3.2.2) (fun v17 S17 => vp_in x1 9 ∧ (¬ (S17.2.1 16 x1.toNatClampNeg) = 0 ∧ (e_makeRaster_36 x1 (v3 / (S3.2.1 15 x1.toNatClampNeg)) (v17 / (S17.2.1 16 x1.toNatClampNeg)) ((v3 / (S3.2.1 15 x1.toNatClampNeg)) * (v17 / (S17.2.1 16 x1.toNatClampNeg))) 0 (S17.1, S17.2.1, S17.2.2) K))))))
def b_makeLevels_224 (x1 : Int32) (x2 : Int32) (x7 : Int32) (s1 : Int32) (s2 : Int32) (S : ms) (R130 : Int32 → Int32 → Int32 → ms → Prop) (K : ms → Prop) : Prop :=
  vp_in s1 36864 ∧ (R130 x1 x2 (x7 + 1) (S.1, va_up S.2.1 19 (upd (S.2.1 19) s1.toNatClampNeg s2), S.2.2))
def b_makeLevels_189 (x1 : Int32) (x2 : Int32) (x7 : Int32) (x8 : Int32) (x9 : Int32) (s0 : Int32) (S : ms) (R130 : Int32 → Int32 → Int32 → ms → Prop) (K : ms → Prop) : Prop :=
  ¬ x9 = 0 ∧ (p_levelCell 0 x1 x2 x7 (fun v208 => (0 ≤ x8 → (b_makeLevels_224 x1 x2 x7 v208 ((s0 + (x9 / 2)) / x9) S R130 K)) ∧ (¬ (0 ≤ x8) → (b_makeLevels_224 x1 x2 x7 v208 (-((s0 + (x9 / 2)) / x9)) S R130 K))))
def b_makeLevels_165 (x1 : Int32) (x2 : Int32) (x7 : Int32) (x8 : Int32) (s1 : Int32) (S : ms) (R130 : Int32 → Int32 → Int32 → ms → Prop) (K : ms → Prop) : Prop :=
  vp_in x7 64 ∧ (vp_in (s1 + (S.2.1 22 x7.toNatClampNeg)) 128 ∧ ((0 ≤ x8 → (b_makeLevels_189 x1 x2 x7 x8 (S.2.1 5 (s1 + (S.2.1 22 x7.toNatClampNeg)).toNatClampNeg) x8 S R130 K)) ∧ (¬ (0 ≤ x8) → (b_makeLevels_189 x1 x2 x7 x8 (S.2.1 5 (s1 + (S.2.1 22 x7.toNatClampNeg)).toNatClampNeg) (-x8) S R130 K))))
def b_makeLevels_130 (x1 : Int32) (x2 : Int32) (x7 : Int32) (S : ms) (R130 : Int32 → Int32 → Int32 → ms → Prop) (K : ms → Prop) : Prop :=
  (64 ≤ x7 → (K S)) ∧ (¬ (64 ≤ x7) → (vp_in x7 64 ∧ (vp_in (S.2.1 22 x7.toNatClampNeg) 64 ∧ ((¬ x1 = 0 → (b_makeLevels_165 x1 x2 x7 (S.2.1 25 (S.2.1 22 x7.toNatClampNeg).toNatClampNeg) 64 S R130 K)) ∧ (x1 = 0 → (b_makeLevels_165 x1 x2 x7 (S.2.1 25 (S.2.1 22 x7.toNatClampNeg).toNatClampNeg) 0 S R130 K))))))
def e_makeLevels_130 (x1 : Int32) (x2 : Int32) (x7 : Int32) (S : ms) (K : ms → Prop) : Prop :=
  ∃ (I : Int32 → Int32 → Int32 → ms → Prop) (μ : Int32 → Int32 → Int32 → ms → Nat), I x1 x2 x7 S ∧ ∀ yx1 yx2 yx7 yS, I yx1 yx2 yx7 yS → b_makeLevels_130 yx1 yx2 yx7 yS (fun zx1 zx2 zx7 zS => I zx1 zx2 zx7 zS ∧ μ zx1 zx2 zx7 zS < μ yx1 yx2 yx7 yS) K
def b_makeLevels_114 (x1 : Int32) (x2 : Int32) (x3 : Int32) (x4 : Int32) (x5 : Int32) (x6 : Int32) (x7 : Int32) (s1 : Int32) (s3 : Int32) (s4 : Int32) (S : ms) (R48 : Int32 → Int32 → Int32 → Int32 → Int32 → Int32 → Int32 → ms → Prop) (K : ms → Prop) : Prop :=
  vp_in (s3 + s4) 4096 ∧ (vp_in s1 64 ∧ (R48 x1 x2 x3 x4 x5 x6 (x7 + 1) (S.1, va_up S.2.1 25 (upd (S.2.1 25) s1.toNatClampNeg (S.2.1 21 (s3 + s4).toNatClampNeg)), S.2.2)))
def b_makeLevels_101 (x1 : Int32) (x2 : Int32) (x3 : Int32) (x4 : Int32) (x5 : Int32) (x6 : Int32) (x7 : Int32) (x8 : Int32) (s1 : Int32) (s3 : Int32) (s4 : Int32) (S : ms) (R48 : Int32 → Int32 → Int32 → Int32 → Int32 → Int32 → Int32 → ms → Prop) (K : ms → Prop) : Prop :=
  (x3 ≤ x8 → (b_makeLevels_114 x1 x2 x3 x4 x5 x6 x7 s1 (s3 * s4) x3 S R48 K)) ∧ (¬ (x3 ≤ x8) → (b_makeLevels_114 x1 x2 x3 x4 x5 x6 x7 s1 (s3 * s4) x8 S R48 K))
def b_makeLevels_48 (x1 : Int32) (x2 : Int32) (x3 : Int32) (x4 : Int32) (x5 : Int32) (x6 : Int32) (x7 : Int32) (S : ms) (R48 : Int32 → Int32 → Int32 → Int32 → Int32 → Int32 → Int32 → ms → Prop) (K : ms → Prop) : Prop :=
  (64 ≤ x7 → (p_toWeights S (fun S124 => e_makeLevels_130 x1 x2 0 (S124.1, S124.2.1, S124.2.2) K))) ∧ (¬ (64 ≤ x7) → ((x4 ≤ (x6 + (x7 / 8)) → (b_makeLevels_101 x1 x2 x3 x4 x5 x6 x7 (x5 + (x7 - x7 / 8 * 8)) x7 64 x4 S R48 K)) ∧ (¬ (x4 ≤ (x6 + (x7 / 8))) → (b_makeLevels_101 x1 x2 x3 x4 x5 x6 x7 (x5 + (x7 - x7 / 8 * 8)) x7 64 (x6 + (x7 / 8)) S R48 K))))
def e_makeLevels_48 (x1 : Int32) (x2 : Int32) (x3 : Int32) (x4 : Int32) (x5 : Int32) (x6 : Int32) (x7 : Int32) (S : ms) (K : ms → Prop) : Prop :=
  ∃ (I : Int32 → Int32 → Int32 → Int32 → Int32 → Int32 → Int32 → ms → Prop) (μ : Int32 → Int32 → Int32 → Int32 → Int32 → Int32 → Int32 → ms → Nat), I x1 x2 x3 x4 x5 x6 x7 S ∧ ∀ yx1 yx2 yx3 yx4 yx5 yx6 yx7 yS, I yx1 yx2 yx3 yx4 yx5 yx6 yx7 yS → b_makeLevels_48 yx1 yx2 yx3 yx4 yx5 yx6 yx7 yS (fun zx1 zx2 zx3 zx4 zx5 zx6 zx7 zS => I zx1 zx2 zx3 zx4 zx5 zx6 zx7 zS ∧ μ zx1 zx2 zx3 zx4 zx5 zx6 zx7 zS < μ yx1 yx2 yx3 yx4 yx5 yx6 yx7 yS) K
def p_makeLevels (x1 : Int32) (x2 : Int32) (S : ms) (K : ms → Prop) : Prop :=
  p_layerWide 0 x1 S (fun v3 S3 => p_layerHigh 0 x1 (S3.1, S3.2.1, S3.2.2) (fun v12 S12 => vp_in x1 9 ∧ (¬ (S12.2.1 17 x1.toNatClampNeg) = 0 ∧ (vp_in x1 9 ∧ (¬ (S12.2.1 17 x1.toNatClampNeg) = 0 ∧ (e_makeLevels_48 x1 x2 (v3 - 1) (v12 - 1) (8 * (x2 - x2 / (S12.2.1 17 x1.toNatClampNeg) * (S12.2.1 17 x1.toNatClampNeg))) (8 * (x2 / (S12.2.1 17 x1.toNatClampNeg))) 0 (S12.1, S12.2.1, S12.2.2) K))))))
def b_makeCode_646 (x1 : Int32) (x4 : Int32) (x5 : Int32) (x6 : Int32) (S : ms) (R586 : Int32 → Int32 → Int32 → ms → Prop) (R602 : Int32 → Int32 → Int32 → Int32 → ms → Prop) (K : ms → Prop) : Prop :=
  R602 x1 x4 x5 (x6 + 1) S
def b_makeCode_602 (x1 : Int32) (x4 : Int32) (x5 : Int32) (x6 : Int32) (S : ms) (R586 : Int32 → Int32 → Int32 → ms → Prop) (R602 : Int32 → Int32 → Int32 → Int32 → ms → Prop) (K : ms → Prop) : Prop :=
  (256 ≤ x6 → (R586 x1 x4 (x5 + 1) S)) ∧ (¬ (256 ≤ x6) → (vp_in ((257 * x1) + x6) 1028 ∧ ((¬ (S.2.1 27 ((257 * x1) + x6).toNatClampNeg) = x5 → (b_makeCode_646 x1 x4 x5 x6 S R586 R602 K)) ∧ ((S.2.1 27 ((257 * x1) + x6).toNatClampNeg) = x5 → (vp_in ((257 * x1) + x6) 1028 ∧ (b_makeCode_646 x1 (x4 + 1) x5 x6 (S.1, va_up S.2.1 28 (upd (S.2.1 28) ((257 * x1) + x6).toNatClampNeg x4), S.2.2) R586 R602 K))))))
def e_makeCode_602 (x1 : Int32) (x4 : Int32) (x5 : Int32) (x6 : Int32) (S : ms) (R586 : Int32 → Int32 → Int32 → ms → Prop) (K : ms → Prop) : Prop :=
  ∃ (I : Int32 → Int32 → Int32 → Int32 → ms → Prop) (μ : Int32 → Int32 → Int32 → Int32 → ms → Nat), I x1 x4 x5 x6 S ∧ ∀ yx1 yx4 yx5 yx6 yS, I yx1 yx4 yx5 yx6 yS → b_makeCode_602 yx1 yx4 yx5 yx6 yS R586 (fun zx1 zx4 zx5 zx6 zS => I zx1 zx4 zx5 zx6 zS ∧ μ zx1 zx4 zx5 zx6 zS < μ yx1 yx4 yx5 yx6 yS) K
def b_makeCode_586 (x1 : Int32) (x4 : Int32) (x5 : Int32) (S : ms) (R586 : Int32 → Int32 → Int32 → ms → Prop) (K : ms → Prop) : Prop :=
  (16 < x5 → (K S)) ∧ (¬ (16 < x5) → (e_makeCode_602 x1 (2 * x4) x5 0 S R586 K))
def e_makeCode_586 (x1 : Int32) (x4 : Int32) (x5 : Int32) (S : ms) (K : ms → Prop) : Prop :=
  ∃ (I : Int32 → Int32 → Int32 → ms → Prop) (μ : Int32 → Int32 → Int32 → ms → Nat), I x1 x4 x5 S ∧ ∀ yx1 yx4 yx5 yS, I yx1 yx4 yx5 yS → b_makeCode_586 yx1 yx4 yx5 yS (fun zx1 zx4 zx5 zS => I zx1 zx4 zx5 zS ∧ μ zx1 zx4 zx5 zS < μ yx1 yx4 yx5 yS) K
def b_makeCode_568 (x1 : Int32) (x4 : Int32) (x5 : Int32) (S : ms) (R446 : Int32 → Int32 → ms → Prop) (R454 : Int32 → Int32 → Int32 → ms → Prop) (K : ms → Prop) : Prop :=
  R454 x1 x4 (x5 + 1) S
def b_makeCode_518 (x1 : Int32) (x4 : Int32) (x5 : Int32) (x6 : Int32) (S : ms) (R446 : Int32 → Int32 → ms → Prop) (R454 : Int32 → Int32 → Int32 → ms → Prop) (K : ms → Prop) : Prop :=
  vp_in x6 8320 ∧ (((S.2.1 31 x6.toNatClampNeg) ≤ 0 → (b_makeCode_568 x1 x4 x5 S R446 R454 K)) ∧ (¬ ((S.2.1 31 x6.toNatClampNeg) ≤ 0) → (vp_in x6 8320 ∧ (vp_in ((520 * (x4 - 1)) + (2 * ((-1) - (S.2.1 30 x6.toNatClampNeg)))) 8320 ∧ (vp_in (((520 * (x4 - 1)) + (2 * ((-1) - (S.2.1 30 x6.toNatClampNeg)))) + 1) 8320 ∧ (b_makeCode_568 x1 x4 x5 (S.1, va_up (va_up S.2.1 31 (upd (S.2.1 31) ((520 * (x4 - 1)) + (2 * ((-1) - (S.2.1 30 x6.toNatClampNeg)))).toNatClampNeg 1)) 31 (upd ((va_up S.2.1 31 (upd (S.2.1 31) ((520 * (x4 - 1)) + (2 * ((-1) - (S.2.1 30 x6.toNatClampNeg)))).toNatClampNeg 1)) 31) (((520 * (x4 - 1)) + (2 * ((-1) - (S.2.1 30 x6.toNatClampNeg)))) + 1).toNatClampNeg 1), S.2.2) R446 R454 K))))))
def b_makeCode_454 (x1 : Int32) (x4 : Int32) (x5 : Int32) (S : ms) (R446 : Int32 → Int32 → ms → Prop) (R454 : Int32 → Int32 → Int32 → ms → Prop) (K : ms → Prop) : Prop :=
  (520 ≤ x5 → (R446 x1 (x4 + (-1)) S)) ∧ (¬ (520 ≤ x5) → (vp_in ((520 * x4) + x5) 8320 ∧ (((S.2.1 31 ((520 * x4) + x5).toNatClampNeg) ≤ 0 → (b_makeCode_518 x1 x4 x5 ((520 * x4) + x5) S R446 R454 K)) ∧ (¬ ((S.2.1 31 ((520 * x4) + x5).toNatClampNeg) ≤ 0) → (vp_in ((520 * x4) + x5) 8320 ∧ (((S.2.1 30 ((520 * x4) + x5).toNatClampNeg) < 0 → (b_makeCode_518 x1 x4 x5 ((520 * x4) + x5) S R446 R454 K)) ∧ (¬ ((S.2.1 30 ((520 * x4) + x5).toNatClampNeg) < 0) → (vp_in ((520 * x4) + x5) 8320 ∧ (vp_in ((257 * x1) + (S.2.1 30 ((520 * x4) + x5).toNatClampNeg)) 1028 ∧ (vp_in ((257 * x1) + (S.2.1 30 ((520 * x4) + x5).toNatClampNeg)) 1028 ∧ (b_makeCode_568 x1 x4 x5 (S.1, va_up S.2.1 27 (upd (S.2.1 27) ((257 * x1) + (S.2.1 30 ((520 * x4) + x5).toNatClampNeg)).toNatClampNeg ((S.2.1 27 ((257 * x1) + (S.2.1 30 ((520 * x4) + x5).toNatClampNeg)).toNatClampNeg) + 1)), S.2.2) R446 R454 K)))))))))))
def e_makeCode_454 (x1 : Int32) (x4 : Int32) (x5 : Int32) (S : ms) (R446 : Int32 → Int32 → ms → Prop) (K : ms → Prop) : Prop :=
  ∃ (I : Int32 → Int32 → Int32 → ms → Prop) (μ : Int32 → Int32 → Int32 → ms → Nat), I x1 x4 x5 S ∧ ∀ yx1 yx4 yx5 yS, I yx1 yx4 yx5 yS → b_makeCode_454 yx1 yx4 yx5 yS R446 (fun zx1 zx4 zx5 zS => I zx1 zx4 zx5 zS ∧ μ zx1 zx4 zx5 zS < μ yx1 yx4 yx5 yS) K
def b_makeCode_446 (x1 : Int32) (x4 : Int32) (S : ms) (R446 : Int32 → Int32 → ms → Prop) (K : ms → Prop) : Prop :=
  (x4 < 0 → (e_makeCode_586 x1 0 1 S K)) ∧ (¬ (x4 < 0) → (e_makeCode_454 x1 x4 0 S R446 K))
def e_makeCode_446 (x1 : Int32) (x4 : Int32) (S : ms) (K : ms → Prop) : Prop :=
  ∃ (I : Int32 → Int32 → ms → Prop) (μ : Int32 → Int32 → ms → Nat), I x1 x4 S ∧ ∀ yx1 yx4 yS, I yx1 yx4 yS → b_makeCode_446 yx1 yx4 yS (fun zx1 zx4 zS => I zx1 zx4 zS ∧ μ zx1 zx4 zS < μ yx1 yx4 yS) K
def b_makeCode_435 (x1 : Int32) (x2 : Int32) (x4 : Int32) (s1 : Int32) (s2 : Int32) (S : ms) (R394 : Int32 → Int32 → Int32 → ms → Prop) (K : ms → Prop) : Prop :=
  vp_in s1 8320 ∧ (R394 x1 x2 (x4 + 1) (S.1, va_up S.2.1 31 (upd (S.2.1 31) s1.toNatClampNeg s2), S.2.2))
def b_makeCode_434 (x1 : Int32) (x2 : Int32) (x4 : Int32) (s1 : Int32) (S : ms) (R394 : Int32 → Int32 → Int32 → ms → Prop) (K : ms → Prop) : Prop :=
  b_makeCode_435 x1 x2 x4 s1 0 S R394 K
def b_makeCode_394 (x1 : Int32) (x2 : Int32) (x4 : Int32) (S : ms) (R394 : Int32 → Int32 → Int32 → ms → Prop) (K : ms → Prop) : Prop :=
  (8320 ≤ x4 → (e_makeCode_446 x1 15 S K)) ∧ (¬ (8320 ≤ x4) → ((x4 < 7800 → (b_makeCode_434 x1 x2 x4 x4 S R394 K)) ∧ (¬ (x4 < 7800) → ((((7800 + (2 * x2)) - 2) ≤ x4 → (b_makeCode_434 x1 x2 x4 x4 S R394 K)) ∧ (¬ (((7800 + (2 * x2)) - 2) ≤ x4) → (b_makeCode_435 x1 x2 x4 x4 1 S R394 K))))))
def e_makeCode_394 (x1 : Int32) (x2 : Int32) (x4 : Int32) (S : ms) (K : ms → Prop) : Prop :=
  ∃ (I : Int32 → Int32 → Int32 → ms → Prop) (μ : Int32 → Int32 → Int32 → ms → Nat), I x1 x2 x4 S ∧ ∀ yx1 yx2 yx4 yS, I yx1 yx2 yx4 yS → b_makeCode_394 yx1 yx2 yx4 yS (fun zx1 zx2 zx4 zS => I zx1 zx2 zx4 zS ∧ μ zx1 zx2 zx4 zS < μ yx1 yx2 yx4 yS) K
def b_makeCode_375 (x1 : Int32) (x2 : Int32) (x4 : Int32) (x5 : Int32) (x6 : Int32) (x8 : Int32) (s0 : Int32) (S : ms) (R162 : Int32 → Int32 → Int32 → Int32 → ms → Prop) (R190 : Int32 → Int32 → Int32 → Int32 → Int32 → Int32 → Int32 → ms → Prop) (K : ms → Prop) : Prop :=
  R190 x1 x2 x4 x5 x6 s0 x8 S
def b_makeCode_359 (x1 : Int32) (x2 : Int32) (x4 : Int32) (x5 : Int32) (x7 : Int32) (x8 : Int32) (x10 : Int32) (s0 : Int32) (S : ms) (R162 : Int32 → Int32 → Int32 → Int32 → ms → Prop) (R190 : Int32 → Int32 → Int32 → Int32 → Int32 → Int32 → Int32 → ms → Prop) (K : ms → Prop) : Prop :=
  (x10 = 0 → (b_makeCode_375 x1 x2 x4 x5 s0 x8 (x7 + 1) S R162 R190 K)) ∧ (¬ (x10 = 0) → (b_makeCode_375 x1 x2 x4 x5 s0 x8 x7 S R162 R190 K))
def b_makeCode_344 (x1 : Int32) (x2 : Int32) (x4 : Int32) (x5 : Int32) (x6 : Int32) (x7 : Int32) (x8 : Int32) (x10 : Int32) (s1 : Int32) (s2 : Int32) (S : ms) (R162 : Int32 → Int32 → Int32 → Int32 → ms → Prop) (R190 : Int32 → Int32 → Int32 → Int32 → Int32 → Int32 → Int32 → ms → Prop) (K : ms → Prop) : Prop :=
  vp_in s1 8320 ∧ ((x10 = 0 → (b_makeCode_359 x1 x2 x4 x5 x7 x8 x10 x6 (S.1, va_up S.2.1 30 (upd (S.2.1 30) s1.toNatClampNeg s2), S.2.2) R162 R190 K)) ∧ (¬ (x10 = 0) → (b_makeCode_359 x1 x2 x4 x5 x7 x8 x10 (x6 + 1) (S.1, va_up S.2.1 30 (upd (S.2.1 30) s1.toNatClampNeg s2), S.2.2) R162 R190 K)))
def b_makeCode_308 (x1 : Int32) (x2 : Int32) (x4 : Int32) (x5 : Int32) (x6 : Int32) (x7 : Int32) (x8 : Int32) (x10 : Int32) (s1 : Int32) (s2 : Int32) (S : ms) (R162 : Int32 → Int32 → Int32 → Int32 → ms → Prop) (R190 : Int32 → Int32 → Int32 → Int32 → Int32 → Int32 → Int32 → ms → Prop) (K : ms → Prop) : Prop :=
  vp_in s1 8320 ∧ ((x10 = 0 → (b_makeCode_344 x1 x2 x4 x5 x6 x7 x8 x10 (((520 * x4) + x6) + x7) ((-1) - x7) (S.1, va_up S.2.1 29 (upd (S.2.1 29) s1.toNatClampNeg s2), S.2.2) R162 R190 K)) ∧ (¬ (x10 = 0) → (vp_in x6 8320 ∧ (b_makeCode_344 x1 x2 x4 x5 x6 x7 x8 x10 (((520 * x4) + x6) + x7) ((va_up S.2.1 29 (upd (S.2.1 29) s1.toNatClampNeg s2)) 30 x6.toNatClampNeg) (S.1, va_up S.2.1 29 (upd (S.2.1 29) s1.toNatClampNeg s2), S.2.2) R162 R190 K))))
def b_makeCode_273 (x1 : Int32) (x2 : Int32) (x4 : Int32) (x5 : Int32) (x6 : Int32) (x7 : Int32) (x8 : Int32) (x9 : Int32) (s0 : Int32) (S : ms) (R162 : Int32 → Int32 → Int32 → Int32 → ms → Prop) (R190 : Int32 → Int32 → Int32 → Int32 → Int32 → Int32 → Int32 → ms → Prop) (K : ms → Prop) : Prop :=
  (s0 = 0 → (b_makeCode_308 x1 x2 x4 x5 x6 x7 x8 s0 (((520 * x4) + x6) + x7) x9 S R162 R190 K)) ∧ (¬ (s0 = 0) → (vp_in x6 8320 ∧ (b_makeCode_308 x1 x2 x4 x5 x6 x7 x8 s0 (((520 * x4) + x6) + x7) (S.2.1 29 x6.toNatClampNeg) S R162 R190 K)))
def b_makeCode_272 (x1 : Int32) (x2 : Int32) (x4 : Int32) (x5 : Int32) (x6 : Int32) (x7 : Int32) (x8 : Int32) (x9 : Int32) (S : ms) (R162 : Int32 → Int32 → Int32 → Int32 → ms → Prop) (R190 : Int32 → Int32 → Int32 → Int32 → Int32 → Int32 → Int32 → ms → Prop) (K : ms → Prop) : Prop :=
  b_makeCode_273 x1 x2 x4 x5 x6 x7 x8 x9 0 S R162 R190 K
def b_makeCode_268 (x1 : Int32) (x2 : Int32) (x4 : Int32) (x5 : Int32) (x6 : Int32) (x7 : Int32) (x8 : Int32) (x9 : Int32) (S : ms) (R162 : Int32 → Int32 → Int32 → Int32 → ms → Prop) (R190 : Int32 → Int32 → Int32 → Int32 → Int32 → Int32 → Int32 → ms → Prop) (K : ms → Prop) : Prop :=
  b_makeCode_273 x1 x2 x4 x5 x6 x7 x8 x9 1 S R162 R190 K
def b_makeCode_241 (x1 : Int32) (x2 : Int32) (x4 : Int32) (x5 : Int32) (x6 : Int32) (x7 : Int32) (x8 : Int32) (s0 : Int32) (S : ms) (R162 : Int32 → Int32 → Int32 → Int32 → ms → Prop) (R190 : Int32 → Int32 → Int32 → Int32 → Int32 → Int32 → Int32 → ms → Prop) (K : ms → Prop) : Prop :=
  (x7 = x5 → (b_makeCode_268 x1 x2 x4 x5 x6 x7 x8 s0 S R162 R190 K)) ∧ (¬ (x7 = x5) → ((x2 ≤ x6 → (b_makeCode_272 x1 x2 x4 x5 x6 x7 x8 s0 S R162 R190 K)) ∧ (¬ (x2 ≤ x6) → (vp_in x6 8320 ∧ ((s0 < (S.2.1 29 x6.toNatClampNeg) → (b_makeCode_272 x1 x2 x4 x5 x6 x7 x8 s0 S R162 R190 K)) ∧ (¬ (s0 < (S.2.1 29 x6.toNatClampNeg)) → (b_makeCode_268 x1 x2 x4 x5 x6 x7 x8 s0 S R162 R190 K)))))))
def b_makeCode_203 (x1 : Int32) (x2 : Int32) (x4 : Int32) (x5 : Int32) (x6 : Int32) (x7 : Int32) (x8 : Int32) (S : ms) (R162 : Int32 → Int32 → Int32 → Int32 → ms → Prop) (R190 : Int32 → Int32 → Int32 → Int32 → Int32 → Int32 → Int32 → ms → Prop) (K : ms → Prop) : Prop :=
  (x5 ≤ x7 → (b_makeCode_241 x1 x2 x4 x5 x6 x7 x8 0 S R162 R190 K)) ∧ (¬ (x5 ≤ x7) → (vp_in (x8 + (2 * x7)) 8320 ∧ (vp_in ((x8 + (2 * x7)) + 1) 8320 ∧ (b_makeCode_241 x1 x2 x4 x5 x6 x7 x8 ((S.2.1 29 (x8 + (2 * x7)).toNatClampNeg) + (S.2.1 29 ((x8 + (2 * x7)) + 1).toNatClampNeg)) S R162 R190 K))))
def b_makeCode_190 (x1 : Int32) (x2 : Int32) (x4 : Int32) (x5 : Int32) (x6 : Int32) (x7 : Int32) (x8 : Int32) (S : ms) (R162 : Int32 → Int32 → Int32 → Int32 → ms → Prop) (R190 : Int32 → Int32 → Int32 → Int32 → Int32 → Int32 → Int32 → ms → Prop) (K : ms → Prop) : Prop :=
  (x6 < x2 → (b_makeCode_203 x1 x2 x4 x5 x6 x7 x8 S R162 R190 K)) ∧ (¬ (x6 < x2) → ((x5 ≤ x7 → (R162 x1 x2 (x2 + x5) (x4 + 1) S)) ∧ (¬ (x5 ≤ x7) → (b_makeCode_203 x1 x2 x4 x5 x6 x7 x8 S R162 R190 K))))
def e_makeCode_190 (x1 : Int32) (x2 : Int32) (x4 : Int32) (x5 : Int32) (x6 : Int32) (x7 : Int32) (x8 : Int32) (S : ms) (R162 : Int32 → Int32 → Int32 → Int32 → ms → Prop) (K : ms → Prop) : Prop :=
  ∃ (I : Int32 → Int32 → Int32 → Int32 → Int32 → Int32 → Int32 → ms → Prop) (μ : Int32 → Int32 → Int32 → Int32 → Int32 → Int32 → Int32 → ms → Nat), I x1 x2 x4 x5 x6 x7 x8 S ∧ ∀ yx1 yx2 yx4 yx5 yx6 yx7 yx8 yS, I yx1 yx2 yx4 yx5 yx6 yx7 yx8 yS → b_makeCode_190 yx1 yx2 yx4 yx5 yx6 yx7 yx8 yS R162 (fun zx1 zx2 zx4 zx5 zx6 zx7 zx8 zS => I zx1 zx2 zx4 zx5 zx6 zx7 zx8 zS ∧ μ zx1 zx2 zx4 zx5 zx6 zx7 zx8 zS < μ yx1 yx2 yx4 yx5 yx6 yx7 yx8 yS) K
def b_makeCode_162 (x1 : Int32) (x2 : Int32) (x3 : Int32) (x4 : Int32) (S : ms) (R162 : Int32 → Int32 → Int32 → Int32 → ms → Prop) (K : ms → Prop) : Prop :=
  (16 ≤ x4 → (e_makeCode_394 x1 x2 0 S K)) ∧ (¬ (16 ≤ x4) → (e_makeCode_190 x1 x2 x4 (x3 / 2) 0 0 (520 * (x4 - 1)) S R162 K))
def e_makeCode_162 (x1 : Int32) (x2 : Int32) (x3 : Int32) (x4 : Int32) (S : ms) (K : ms → Prop) : Prop :=
  ∃ (I : Int32 → Int32 → Int32 → Int32 → ms → Prop) (μ : Int32 → Int32 → Int32 → Int32 → ms → Nat), I x1 x2 x3 x4 S ∧ ∀ yx1 yx2 yx3 yx4 yS, I yx1 yx2 yx3 yx4 yS → b_makeCode_162 yx1 yx2 yx3 yx4 yS (fun zx1 zx2 zx3 zx4 zS => I zx1 zx2 zx3 zx4 zS ∧ μ zx1 zx2 zx3 zx4 zS < μ yx1 yx2 yx3 yx4 yS) K
def b_makeCode_151 (x1 : Int32) (x2 : Int32) (x3 : Int32) (S : ms) (R4 : Int32 → Int32 → Int32 → ms → Prop) (K : ms → Prop) : Prop :=
  R4 x1 x2 (x3 + 1) S
def b_makeCode_131 (x1 : Int32) (x2 : Int32) (x3 : Int32) (x4 : Int32) (x5 : Int32) (S : ms) (R4 : Int32 → Int32 → Int32 → ms → Prop) (K : ms → Prop) : Prop :=
  vp_in x4 8320 ∧ (vp_in x4 8320 ∧ (b_makeCode_151 x1 (x2 + 1) x3 (S.1, va_up (va_up S.2.1 29 (upd (S.2.1 29) x4.toNatClampNeg x5)) 30 (upd ((va_up S.2.1 29 (upd (S.2.1 29) x4.toNatClampNeg x5)) 30) x4.toNatClampNeg x3), S.2.2) R4 K))
def b_makeCode_74 (x1 : Int32) (x2 : Int32) (x3 : Int32) (x4 : Int32) (x5 : Int32) (S : ms) (R4 : Int32 → Int32 → Int32 → ms → Prop) (R74 : Int32 → Int32 → Int32 → Int32 → Int32 → ms → Prop) (K : ms → Prop) : Prop :=
  (x4 ≤ 0 → (b_makeCode_131 x1 x2 x3 x4 x5 S R4 K)) ∧ (¬ (x4 ≤ 0) → (vp_in (x4 - 1) 8320 ∧ (((S.2.1 29 (x4 - 1).toNatClampNeg) ≤ x5 → (b_makeCode_131 x1 x2 x3 x4 x5 S R4 K)) ∧ (¬ ((S.2.1 29 (x4 - 1).toNatClampNeg) ≤ x5) → (vp_in (x4 - 1) 8320 ∧ (vp_in x4 8320 ∧ (vp_in (x4 - 1) 8320 ∧ (vp_in x4 8320 ∧ (R74 x1 x2 x3 (x4 + (-1)) x5 (S.1, va_up (va_up S.2.1 29 (upd (S.2.1 29) x4.toNatClampNeg (S.2.1 29 (x4 - 1).toNatClampNeg))) 30 (upd ((va_up S.2.1 29 (upd (S.2.1 29) x4.toNatClampNeg (S.2.1 29 (x4 - 1).toNatClampNeg))) 30) x4.toNatClampNeg ((va_up S.2.1 29 (upd (S.2.1 29) x4.toNatClampNeg (S.2.1 29 (x4 - 1).toNatClampNeg))) 30 (x4 - 1).toNatClampNeg)), S.2.2))))))))))
def e_makeCode_74 (x1 : Int32) (x2 : Int32) (x3 : Int32) (x4 : Int32) (x5 : Int32) (S : ms) (R4 : Int32 → Int32 → Int32 → ms → Prop) (K : ms → Prop) : Prop :=
  ∃ (I : Int32 → Int32 → Int32 → Int32 → Int32 → ms → Prop) (μ : Int32 → Int32 → Int32 → Int32 → Int32 → ms → Nat), I x1 x2 x3 x4 x5 S ∧ ∀ yx1 yx2 yx3 yx4 yx5 yS, I yx1 yx2 yx3 yx4 yx5 yS → b_makeCode_74 yx1 yx2 yx3 yx4 yx5 yS R4 (fun zx1 zx2 zx3 zx4 zx5 zS => I zx1 zx2 zx3 zx4 zx5 zS ∧ μ zx1 zx2 zx3 zx4 zx5 zS < μ yx1 yx2 yx3 yx4 yx5 yS) K
def b_makeCode_72 (x1 : Int32) (x2 : Int32) (x3 : Int32) (x4 : Int32) (s0 : Int32) (S : ms) (R4 : Int32 → Int32 → Int32 → ms → Prop) (K : ms → Prop) : Prop :=
  e_makeCode_74 x1 x2 x3 x4 s0 S R4 K
def b_makeCode_46 (x1 : Int32) (x2 : Int32) (x3 : Int32) (S : ms) (R4 : Int32 → Int32 → Int32 → ms → Prop) (K : ms → Prop) : Prop :=
  (¬ x3 = 256 → (vp_in ((257 * x1) + x3) 1028 ∧ (b_makeCode_72 x1 x2 x3 x2 (S.2.1 26 ((257 * x1) + x3).toNatClampNeg) S R4 K))) ∧ (x3 = 256 → (b_makeCode_72 x1 x2 x3 x2 0 S R4 K))
def b_makeCode_4 (x1 : Int32) (x2 : Int32) (x3 : Int32) (S : ms) (R4 : Int32 → Int32 → Int32 → ms → Prop) (K : ms → Prop) : Prop :=
  (256 < x3 → (e_makeCode_162 x1 x2 x2 1 S K)) ∧ (¬ (256 < x3) → (vp_in ((257 * x1) + x3) 1028 ∧ ((x3 = 256 → (b_makeCode_46 x1 x2 x3 (S.1, va_up S.2.1 27 (upd (S.2.1 27) ((257 * x1) + x3).toNatClampNeg 0), S.2.2) R4 K)) ∧ (¬ (x3 = 256) → (vp_in ((257 * x1) + x3) 1028 ∧ ((((va_up S.2.1 27 (upd (S.2.1 27) ((257 * x1) + x3).toNatClampNeg 0)) 26 ((257 * x1) + x3).toNatClampNeg) ≤ 0 → (b_makeCode_151 x1 x2 x3 (S.1, va_up S.2.1 27 (upd (S.2.1 27) ((257 * x1) + x3).toNatClampNeg 0), S.2.2) R4 K)) ∧ (¬ (((va_up S.2.1 27 (upd (S.2.1 27) ((257 * x1) + x3).toNatClampNeg 0)) 26 ((257 * x1) + x3).toNatClampNeg) ≤ 0) → (b_makeCode_46 x1 x2 x3 (S.1, va_up S.2.1 27 (upd (S.2.1 27) ((257 * x1) + x3).toNatClampNeg 0), S.2.2) R4 K))))))))
def e_makeCode_4 (x1 : Int32) (x2 : Int32) (x3 : Int32) (S : ms) (K : ms → Prop) : Prop :=
  ∃ (I : Int32 → Int32 → Int32 → ms → Prop) (μ : Int32 → Int32 → Int32 → ms → Nat), I x1 x2 x3 S ∧ ∀ yx1 yx2 yx3 yS, I yx1 yx2 yx3 yS → b_makeCode_4 yx1 yx2 yx3 yS (fun zx1 zx2 zx3 zS => I zx1 zx2 zx3 zS ∧ μ zx1 zx2 zx3 zS < μ yx1 yx2 yx3 yS) K
def p_makeCode (x1 : Int32) (S : ms) (K : ms → Prop) : Prop :=
  e_makeCode_4 x1 0 0 S K
def p_put (x1 : Int32) (S : ms) (K : ms → Prop) : Prop :=
  vp_in (S.1 9) 65536 ∧ (K (upd S.1 9 ((S.1 9) + 1), va_up S.2.1 8 (upd (S.2.1 8) (S.1 9).toNatClampNeg x1), S.2.2))
def p_putTwo (x1 : Int32) (S : ms) (K : ms → Prop) : Prop :=
  p_put ((x1 >>> (8 &&& 31 : Int32) : Int32) &&& 255) S (fun S9 => p_put (x1 &&& 255) (S9.1, S9.2.1, S9.2.2) (fun S18 => K (S18.1, S18.2.1, S18.2.2)))
def p_mark (x1 : Int32) (S : ms) (K : ms → Prop) : Prop :=
  p_put 255 S (fun S4 => p_put x1 (S4.1, S4.2.1, S4.2.2) (fun S9 => K (S9.1, S9.2.1, S9.2.2)))
def b_putBits_76 (x1 : Int32) (x3 : Int32) (S : ms) (R4 : Int32 → Int32 → ms → Prop) (K : ms → Prop) : Prop :=
  R4 x1 (x3 + (-1)) S
def b_putBits_66 (x1 : Int32) (x3 : Int32) (S : ms) (R4 : Int32 → Int32 → ms → Prop) (K : ms → Prop) : Prop :=
  b_putBits_76 x1 x3 (upd (upd S.1 32 0) 33 0, S.2.1, S.2.2) R4 K
def b_putBits_4 (x1 : Int32) (x3 : Int32) (S : ms) (R4 : Int32 → Int32 → ms → Prop) (K : ms → Prop) : Prop :=
  (x3 < 0 → (K S)) ∧ (¬ (x3 < 0) → ((¬ ((upd (upd S.1 33 ((2 * (S.1 33)) + ((x1 >>> (x3 &&& 31 : Int32) : Int32) &&& 1))) 32 (((upd S.1 33 ((2 * (S.1 33)) + ((x1 >>> (x3 &&& 31 : Int32) : Int32) &&& 1))) 32) + 1)) 32) = 8 → (b_putBits_76 x1 x3 (upd (upd S.1 33 ((2 * (S.1 33)) + ((x1 >>> (x3 &&& 31 : Int32) : Int32) &&& 1))) 32 (((upd S.1 33 ((2 * (S.1 33)) + ((x1 >>> (x3 &&& 31 : Int32) : Int32) &&& 1))) 32) + 1), S.2.1, S.2.2) R4 K)) ∧ (((upd (upd S.1 33 ((2 * (S.1 33)) + ((x1 >>> (x3 &&& 31 : Int32) : Int32) &&& 1))) 32 (((upd S.1 33 ((2 * (S.1 33)) + ((x1 >>> (x3 &&& 31 : Int32) : Int32) &&& 1))) 32) + 1)) 32) = 8 → (p_put ((upd (upd S.1 33 ((2 * (S.1 33)) + ((x1 >>> (x3 &&& 31 : Int32) : Int32) &&& 1))) 32 (((upd S.1 33 ((2 * (S.1 33)) + ((x1 >>> (x3 &&& 31 : Int32) : Int32) &&& 1))) 32) + 1)) 33) (upd (upd S.1 33 ((2 * (S.1 33)) + ((x1 >>> (x3 &&& 31 : Int32) : Int32) &&& 1))) 32 (((upd S.1 33 ((2 * (S.1 33)) + ((x1 >>> (x3 &&& 31 : Int32) : Int32) &&& 1))) 32) + 1), S.2.1, S.2.2) (fun S48 => (¬ (S48.1 33) = 255 → (b_putBits_66 x1 x3 (S48.1, S48.2.1, S48.2.2) R4 K)) ∧ ((S48.1 33) = 255 → (p_put 0 (S48.1, S48.2.1, S48.2.2) (fun S63 => b_putBits_66 x1 x3 (S63.1, S63.2.1, S63.2.2) R4 K))))))))
def e_putBits_4 (x1 : Int32) (x3 : Int32) (S : ms) (K : ms → Prop) : Prop :=
  ∃ (I : Int32 → Int32 → ms → Prop) (μ : Int32 → Int32 → ms → Nat), I x1 x3 S ∧ ∀ yx1 yx3 yS, I yx1 yx3 yS → b_putBits_4 yx1 yx3 yS (fun zx1 zx3 zS => I zx1 zx3 zS ∧ μ zx1 zx3 zS < μ yx1 yx3 yS) K
def p_putBits (x1 : Int32) (x2 : Int32) (S : ms) (K : ms → Prop) : Prop :=
  e_putBits_4 x1 (x2 - 1) S K
def b_fillUp_0  (S : ms) (R0 : ms → Prop) (K : ms → Prop) : Prop :=
  ((S.1 32) ≤ 0 → (K S)) ∧ (¬ ((S.1 32) ≤ 0) → (p_putBits 1 1 S (fun S10 => R0 (S10.1, S10.2.1, S10.2.2))))
def e_fillUp_0  (S : ms) (K : ms → Prop) : Prop :=
  ∃ (I : ms → Prop) (μ : ms → Nat), I S ∧ ∀ yS, I yS → b_fillUp_0 yS (fun zS => I zS ∧ μ zS < μ yS) K
def p_fillUp (S : ms) (K : ms → Prop) : Prop := e_fillUp_0 S K
def b_symbol_51  (S : ms) (K : ms → Prop) : Prop :=
  K S
def p_symbol (x1 : Int32) (x2 : Int32) (x3 : Int32) (S : ms) (K : ms → Prop) : Prop :=
  (x1 = 0 → (vp_in ((257 * x2) + x3) 1028 ∧ (vp_in ((257 * x2) + x3) 1028 ∧ (p_putBits (S.2.1 28 ((257 * x2) + x3).toNatClampNeg) (S.2.1 27 ((257 * x2) + x3).toNatClampNeg) S (fun S48 => b_symbol_51 (S48.1, S48.2.1, S48.2.2) K))))) ∧ (¬ (x1 = 0) → (vp_in ((257 * x2) + x3) 1028 ∧ (vp_in ((257 * x2) + x3) 1028 ∧ (b_symbol_51 (S.1, va_up S.2.1 26 (upd (S.2.1 26) ((257 * x2) + x3).toNatClampNeg ((S.2.1 26 ((257 * x2) + x3).toNatClampNeg) + 1)), S.2.2) K))))
def b_bitsOf_13 (x1 : Int32) (x2 : Int32) (R13 : Int32 → Int32 → Prop) (K : Int32 → Prop) : Prop :=
  ((x1 >>> (x2 &&& 31 : Int32) : Int32) ≤ 0 → (K x2)) ∧ (¬ ((x1 >>> (x2 &&& 31 : Int32) : Int32) ≤ 0) → (R13 x1 (x2 + 1)))
def e_bitsOf_13 (x1 : Int32) (x2 : Int32) (K : Int32 → Prop) : Prop :=
  ∃ (I : Int32 → Int32 → Prop) (μ : Int32 → Int32 → Nat), I x1 x2 ∧ ∀ yx1 yx2, I yx1 yx2 → b_bitsOf_13 yx1 yx2 (fun zx1 zx2 => I zx1 zx2 ∧ μ zx1 zx2 < μ yx1 yx2) K
def b_bitsOf_10 (s0 : Int32) (K : Int32 → Prop) : Prop :=
  e_bitsOf_13 s0 0 K
def p_bitsOf (x0 : Int32) (K : Int32 → Prop) : Prop :=
  (0 ≤ x0 → (b_bitsOf_10 x0 K)) ∧ (¬ (0 ≤ x0) → (b_bitsOf_10 (-x0) K))
def b_number_24  (S : ms) (K : ms → Prop) : Prop :=
  K S
def b_number_20 (x3 : Int32) (s1 : Int32) (S : ms) (K : ms → Prop) : Prop :=
  p_putBits s1 x3 S (fun S21 => b_number_24 (S21.1, S21.2.1, S21.2.2) K)
def p_number (x1 : Int32) (x2 : Int32) (x3 : Int32) (S : ms) (K : ms → Prop) : Prop :=
  (¬ x1 = 0 → (b_number_24 S K)) ∧ (x1 = 0 → ((0 ≤ x2 → (b_number_20 x3 x2 S K)) ∧ (¬ (0 ≤ x2) → (b_number_20 x3 ((x2 + ((1 : Int32) <<< (x3 &&& 31 : Int32) : Int32)) - 1) S K))))
def b_tell_188  (S : ms) (K : ms → Prop) : Prop :=
  K S
def b_tell_167 (x1 : Int32) (x2 : Int32) (x3 : Int32) (x4 : Int32) (x7 : Int32) (x8 : Int32) (S : ms) (R74 : Int32 → Int32 → Int32 → Int32 → Int32 → Int32 → ms → Prop) (K : ms → Prop) : Prop :=
  R74 x1 x2 x3 x4 x7 (x8 + 1) S
def b_tell_107 (x1 : Int32) (x2 : Int32) (x3 : Int32) (x4 : Int32) (x7 : Int32) (x8 : Int32) (x9 : Int32) (S : ms) (R74 : Int32 → Int32 → Int32 → Int32 → Int32 → Int32 → ms → Prop) (R107 : Int32 → Int32 → Int32 → Int32 → Int32 → Int32 → Int32 → ms → Prop) (K : ms → Prop) : Prop :=
  (x7 ≤ 15 → (p_bitsOf x9 (fun v145 => p_symbol x1 (x4 + 1) ((16 * x7) + v145) S (fun S149 => p_bitsOf x9 (fun v158 => p_number x1 x9 v158 (S149.1, S149.2.1, S149.2.2) (fun S161 => b_tell_167 x1 x2 x3 x4 0 x8 (S161.1, S161.2.1, S161.2.2) R74 K)))))) ∧ (¬ (x7 ≤ 15) → (p_symbol x1 (x4 + 1) 240 S (fun S123 => R107 x1 x2 x3 x4 (x7 + (-16)) x8 x9 (S123.1, S123.2.1, S123.2.2))))
def e_tell_107 (x1 : Int32) (x2 : Int32) (x3 : Int32) (x4 : Int32) (x7 : Int32) (x8 : Int32) (x9 : Int32) (S : ms) (R74 : Int32 → Int32 → Int32 → Int32 → Int32 → Int32 → ms → Prop) (K : ms → Prop) : Prop :=
  ∃ (I : Int32 → Int32 → Int32 → Int32 → Int32 → Int32 → Int32 → ms → Prop) (μ : Int32 → Int32 → Int32 → Int32 → Int32 → Int32 → Int32 → ms → Nat), I x1 x2 x3 x4 x7 x8 x9 S ∧ ∀ yx1 yx2 yx3 yx4 yx7 yx8 yx9 yS, I yx1 yx2 yx3 yx4 yx7 yx8 yx9 yS → b_tell_107 yx1 yx2 yx3 yx4 yx7 yx8 yx9 yS R74 (fun zx1 zx2 zx3 zx4 zx7 zx8 zx9 zS => I zx1 zx2 zx3 zx4 zx7 zx8 zx9 zS ∧ μ zx1 zx2 zx3 zx4 zx7 zx8 zx9 zS < μ yx1 yx2 yx3 yx4 yx7 yx8 yx9 yS) K
def b_tell_74 (x1 : Int32) (x2 : Int32) (x3 : Int32) (x4 : Int32) (x7 : Int32) (x8 : Int32) (S : ms) (R74 : Int32 → Int32 → Int32 → Int32 → Int32 → Int32 → ms → Prop) (K : ms → Prop) : Prop :=
  (64 ≤ x8 → ((x7 ≤ 0 → (b_tell_188 S K)) ∧ (¬ (x7 ≤ 0) → (p_symbol x1 (x4 + 1) 0 S (fun S185 => b_tell_188 (S185.1, S185.2.1, S185.2.2) K))))) ∧ (¬ (64 ≤ x8) → (p_levelCell 0 x2 x3 x8 (fun v90 => vp_in v90 36864 ∧ ((¬ (S.2.1 19 v90.toNatClampNeg) = 0 → (e_tell_107 x1 x2 x3 x4 x7 x8 (S.2.1 19 v90.toNatClampNeg) S R74 K)) ∧ ((S.2.1 19 v90.toNatClampNeg) = 0 → (b_tell_167 x1 x2 x3 x4 (x7 + 1) x8 S R74 K))))))
def e_tell_74 (x1 : Int32) (x2 : Int32) (x3 : Int32) (x4 : Int32) (x7 : Int32) (x8 : Int32) (S : ms) (K : ms → Prop) : Prop :=
  ∃ (I : Int32 → Int32 → Int32 → Int32 → Int32 → Int32 → ms → Prop) (μ : Int32 → Int32 → Int32 → Int32 → Int32 → Int32 → ms → Nat), I x1 x2 x3 x4 x7 x8 S ∧ ∀ yx1 yx2 yx3 yx4 yx7 yx8 yS, I yx1 yx2 yx3 yx4 yx7 yx8 yS → b_tell_74 yx1 yx2 yx3 yx4 yx7 yx8 yS (fun zx1 zx2 zx3 zx4 zx7 zx8 zS => I zx1 zx2 zx3 zx4 zx7 zx8 zS ∧ μ zx1 zx2 zx3 zx4 zx7 zx8 zS < μ yx1 yx2 yx3 yx4 yx7 yx8 yS) K
def b_tell_9 (x1 : Int32) (x2 : Int32) (x3 : Int32) (s0 : Int32) (S : ms) (K : ms → Prop) : Prop :=
  p_levelCell 0 x2 x3 0 (fun v19 => vp_in v19 36864 ∧ (vp_in x2 3 ∧ (vp_in x2 3 ∧ (p_bitsOf ((S.2.1 19 v19.toNatClampNeg) - (S.2.1 53 x2.toNatClampNeg)) (fun v50 => p_symbol x1 s0 v50 (S.1, va_up S.2.1 53 (upd (S.2.1 53) x2.toNatClampNeg (S.2.1 19 v19.toNatClampNeg)), S.2.2) (fun S53 => p_bitsOf ((S.2.1 19 v19.toNatClampNeg) - (S.2.1 53 x2.toNatClampNeg)) (fun v62 => p_number x1 ((S.2.1 19 v19.toNatClampNeg) - (S.2.1 53 x2.toNatClampNeg)) v62 (S53.1, S53.2.1, S53.2.2) (fun S65 => e_tell_74 x1 x2 x3 s0 0 1 (S65.1, S65.2.1, S65.2.2) K))))))))
def p_tell (x1 : Int32) (x2 : Int32) (x3 : Int32) (S : ms) (K : ms → Prop) : Prop :=
  (¬ x2 = 0 → (b_tell_9 x1 x2 x3 2 S K)) ∧ (x2 = 0 → (b_tell_9 x1 x2 x3 0 S K))
def b_units_261 (x1 : Int32) (x2 : Int32) (x3 : Int32) (x6 : Int32) (x7 : Int32) (x8 : Int32) (x9 : Int32) (x10 : Int32) (x11 : Int32) (x12 : Int32) (x13 : Int32) (x14 : Int32) (S : ms) (R122 : Int32 → Int32 → Int32 → Int32 → Int32 → Int32 → ms → Prop) (R213 : Int32 → Int32 → Int32 → Int32 → Int32 → Int32 → Int32 → Int32 → Int32 → ms → Prop) (R261 : Int32 → Int32 → Int32 → Int32 → Int32 → Int32 → Int32 → Int32 → Int32 → Int32 → Int32 → Int32 → ms → Prop) (K : ms → Prop) : Prop :=
  ((x12 * x13) ≤ x14 → (R213 x1 x2 x3 x6 x7 x8 x9 x10 (x11 + 1) S)) ∧ (¬ ((x12 * x13) ≤ x14) → (¬ x12 = 0 ∧ (¬ x12 = 0 ∧ (vp_in x11 9 ∧ (p_tell x1 x11 ((((x10 * x13) + (x14 / x12)) * (S.2.1 17 x11.toNatClampNeg)) + ((x9 * x12) + (x14 - x14 / x12 * x12))) S (fun S314 => R261 x1 x2 x3 x6 x7 x8 x9 x10 x11 x12 x13 (x14 + 1) (S314.1, S314.2.1, S314.2.2)))))))
def e_units_261 (x1 : Int32) (x2 : Int32) (x3 : Int32) (x6 : Int32) (x7 : Int32) (x8 : Int32) (x9 : Int32) (x10 : Int32) (x11 : Int32) (x12 : Int32) (x13 : Int32) (x14 : Int32) (S : ms) (R122 : Int32 → Int32 → Int32 → Int32 → Int32 → Int32 → ms → Prop) (R213 : Int32 → Int32 → Int32 → Int32 → Int32 → Int32 → Int32 → Int32 → Int32 → ms → Prop) (K : ms → Prop) : Prop :=
  ∃ (I : Int32 → Int32 → Int32 → Int32 → Int32 → Int32 → Int32 → Int32 → Int32 → Int32 → Int32 → Int32 → ms → Prop) (μ : Int32 → Int32 → Int32 → Int32 → Int32 → Int32 → Int32 → Int32 → Int32 → Int32 → Int32 → Int32 → ms → Nat), I x1 x2 x3 x6 x7 x8 x9 x10 x11 x12 x13 x14 S ∧ ∀ yx1 yx2 yx3 yx6 yx7 yx8 yx9 yx10 yx11 yx12 yx13 yx14 yS, I yx1 yx2 yx3 yx6 yx7 yx8 yx9 yx10 yx11 yx12 yx13 yx14 yS → b_units_261 yx1 yx2 yx3 yx6 yx7 yx8 yx9 yx10 yx11 yx12 yx13 yx14 yS R122 R213 (fun zx1 zx2 zx3 zx6 zx7 zx8 zx9 zx10 zx11 zx12 zx13 zx14 zS => I zx1 zx2 zx3 zx6 zx7 zx8 zx9 zx10 zx11 zx12 zx13 zx14 zS ∧ μ zx1 zx2 zx3 zx6 zx7 zx8 zx9 zx10 zx11 zx12 zx13 zx14 zS < μ yx1 yx2 yx3 yx6 yx7 yx8 yx9 yx10 yx11 yx12 yx13 yx14 yS) K
def b_units_256 (x1 : Int32) (x2 : Int32) (x3 : Int32) (x6 : Int32) (x7 : Int32) (x8 : Int32) (x9 : Int32) (x10 : Int32) (x11 : Int32) (x12 : Int32) (s0 : Int32) (S : ms) (R122 : Int32 → Int32 → Int32 → Int32 → Int32 → Int32 → ms → Prop) (R213 : Int32 → Int32 → Int32 → Int32 → Int32 → Int32 → Int32 → Int32 → Int32 → ms → Prop) (K : ms → Prop) : Prop :=
  e_units_261 x1 x2 x3 x6 x7 x8 x9 x10 x11 x12 s0 0 S R122 R213 K
def b_units_239 (x1 : Int32) (x2 : Int32) (x3 : Int32) (x6 : Int32) (x7 : Int32) (x8 : Int32) (x9 : Int32) (x10 : Int32) (x11 : Int32) (s0 : Int32) (S : ms) (R122 : Int32 → Int32 → Int32 → Int32 → Int32 → Int32 → ms → Prop) (R213 : Int32 → Int32 → Int32 → Int32 → Int32 → Int32 → Int32 → Int32 → Int32 → ms → Prop) (K : ms → Prop) : Prop :=
  (x3 = 0 → (vp_in x11 9 ∧ (b_units_256 x1 x2 x3 x6 x7 x8 x9 x10 x11 s0 (S.2.1 16 x11.toNatClampNeg) S R122 R213 K))) ∧ (¬ (x3 = 0) → (b_units_256 x1 x2 x3 x6 x7 x8 x9 x10 x11 s0 1 S R122 R213 K))
def b_units_213 (x1 : Int32) (x2 : Int32) (x3 : Int32) (x6 : Int32) (x7 : Int32) (x8 : Int32) (x9 : Int32) (x10 : Int32) (x11 : Int32) (S : ms) (R122 : Int32 → Int32 → Int32 → Int32 → Int32 → Int32 → ms → Prop) (R213 : Int32 → Int32 → Int32 → Int32 → Int32 → Int32 → Int32 → Int32 → Int32 → ms → Prop) (K : ms → Prop) : Prop :=
  vp_in 0 3 ∧ (((S.2.1 14 (0 : Int32).toNatClampNeg) ≤ x11 → (R122 x1 x2 x3 x6 x7 (x8 + 1) S)) ∧ (¬ ((S.2.1 14 (0 : Int32).toNatClampNeg) ≤ x11) → ((x3 = 0 → (vp_in x11 9 ∧ (b_units_239 x1 x2 x3 x6 x7 x8 x9 x10 x11 (S.2.1 15 x11.toNatClampNeg) S R122 R213 K))) ∧ (¬ (x3 = 0) → (b_units_239 x1 x2 x3 x6 x7 x8 x9 x10 x11 1 S R122 R213 K)))))
def e_units_213 (x1 : Int32) (x2 : Int32) (x3 : Int32) (x6 : Int32) (x7 : Int32) (x8 : Int32) (x9 : Int32) (x10 : Int32) (x11 : Int32) (S : ms) (R122 : Int32 → Int32 → Int32 → Int32 → Int32 → Int32 → ms → Prop) (K : ms → Prop) : Prop :=
  ∃ (I : Int32 → Int32 → Int32 → Int32 → Int32 → Int32 → Int32 → Int32 → Int32 → ms → Prop) (μ : Int32 → Int32 → Int32 → Int32 → Int32 → Int32 → Int32 → Int32 → Int32 → ms → Nat), I x1 x2 x3 x6 x7 x8 x9 x10 x11 S ∧ ∀ yx1 yx2 yx3 yx6 yx7 yx8 yx9 yx10 yx11 yS, I yx1 yx2 yx3 yx6 yx7 yx8 yx9 yx10 yx11 yS → b_units_213 yx1 yx2 yx3 yx6 yx7 yx8 yx9 yx10 yx11 yS R122 (fun zx1 zx2 zx3 zx6 zx7 zx8 zx9 zx10 zx11 zS => I zx1 zx2 zx3 zx6 zx7 zx8 zx9 zx10 zx11 zS ∧ μ zx1 zx2 zx3 zx6 zx7 zx8 zx9 zx10 zx11 zS < μ yx1 yx2 yx3 yx6 yx7 yx8 yx9 yx10 yx11 yS) K
def b_units_196 (x1 : Int32) (x2 : Int32) (x3 : Int32) (x6 : Int32) (x7 : Int32) (x8 : Int32) (S : ms) (R122 : Int32 → Int32 → Int32 → Int32 → Int32 → Int32 → ms → Prop) (K : ms → Prop) : Prop :=
  ¬ x6 = 0 ∧ (¬ x6 = 0 ∧ (e_units_213 x1 x2 x3 x6 x7 x8 (x8 - x8 / x6 * x6) (x8 / x6) 0 S R122 K))
def b_units_176 (x1 : Int32) (x2 : Int32) (x3 : Int32) (x6 : Int32) (x7 : Int32) (x8 : Int32) (x9 : Int32) (S : ms) (R122 : Int32 → Int32 → Int32 → Int32 → Int32 → Int32 → ms → Prop) (R176 : Int32 → Int32 → Int32 → Int32 → Int32 → Int32 → Int32 → ms → Prop) (K : ms → Prop) : Prop :=
  (3 ≤ x9 → (b_units_196 x1 x2 x3 x6 x7 x8 S R122 K)) ∧ (¬ (3 ≤ x9) → (vp_in x9 3 ∧ (R176 x1 x2 x3 x6 x7 x8 (x9 + 1) (S.1, va_up S.2.1 53 (upd (S.2.1 53) x9.toNatClampNeg 0), S.2.2))))
def e_units_176 (x1 : Int32) (x2 : Int32) (x3 : Int32) (x6 : Int32) (x7 : Int32) (x8 : Int32) (x9 : Int32) (S : ms) (R122 : Int32 → Int32 → Int32 → Int32 → Int32 → Int32 → ms → Prop) (K : ms → Prop) : Prop :=
  ∃ (I : Int32 → Int32 → Int32 → Int32 → Int32 → Int32 → Int32 → ms → Prop) (μ : Int32 → Int32 → Int32 → Int32 → Int32 → Int32 → Int32 → ms → Nat), I x1 x2 x3 x6 x7 x8 x9 S ∧ ∀ yx1 yx2 yx3 yx6 yx7 yx8 yx9 yS, I yx1 yx2 yx3 yx6 yx7 yx8 yx9 yS → b_units_176 yx1 yx2 yx3 yx6 yx7 yx8 yx9 yS R122 (fun zx1 zx2 zx3 zx6 zx7 zx8 zx9 zS => I zx1 zx2 zx3 zx6 zx7 zx8 zx9 zS ∧ μ zx1 zx2 zx3 zx6 zx7 zx8 zx9 zS < μ yx1 yx2 yx3 yx6 yx7 yx8 yx9 yS) K
def b_units_173 (x1 : Int32) (x2 : Int32) (x3 : Int32) (x6 : Int32) (x7 : Int32) (x8 : Int32) (S : ms) (R122 : Int32 → Int32 → Int32 → Int32 → Int32 → Int32 → ms → Prop) (K : ms → Prop) : Prop :=
  e_units_176 x1 x2 x3 x6 x7 x8 0 S R122 K
def b_units_122 (x1 : Int32) (x2 : Int32) (x3 : Int32) (x6 : Int32) (x7 : Int32) (x8 : Int32) (S : ms) (R122 : Int32 → Int32 → Int32 → Int32 → Int32 → Int32 → ms → Prop) (K : ms → Prop) : Prop :=
  ((x6 * x7) ≤ x8 → (K S)) ∧ (¬ ((x6 * x7) ≤ x8) → ((x2 ≤ 0 → (b_units_196 x1 x2 x3 x6 x7 x8 S R122 K)) ∧ (¬ (x2 ≤ 0) → ((x8 ≤ 0 → (b_units_196 x1 x2 x3 x6 x7 x8 S R122 K)) ∧ (¬ (x8 ≤ 0) → (¬ x2 = 0 ∧ ((¬ (x8 - x8 / x2 * x2) = 0 → (b_units_196 x1 x2 x3 x6 x7 x8 S R122 K)) ∧ ((x8 - x8 / x2 * x2) = 0 → ((¬ x1 = 0 → (b_units_173 x1 x2 x3 x6 x7 x8 S R122 K)) ∧ (x1 = 0 → (p_fillUp S (fun S153 => ¬ x2 = 0 ∧ (p_mark (208 + (((x8 / x2) - 1) - ((x8 / x2) - 1) / 8 * 8)) (S153.1, S153.2.1, S153.2.2) (fun S170 => b_units_173 x1 x2 x3 x6 x7 x8 (S170.1, S170.2.1, S170.2.2) R122 K))))))))))))))
def e_units_122 (x1 : Int32) (x2 : Int32) (x3 : Int32) (x6 : Int32) (x7 : Int32) (x8 : Int32) (S : ms) (K : ms → Prop) : Prop :=
  ∃ (I : Int32 → Int32 → Int32 → Int32 → Int32 → Int32 → ms → Prop) (μ : Int32 → Int32 → Int32 → Int32 → Int32 → Int32 → ms → Nat), I x1 x2 x3 x6 x7 x8 S ∧ ∀ yx1 yx2 yx3 yx6 yx7 yx8 yS, I yx1 yx2 yx3 yx6 yx7 yx8 yS → b_units_122 yx1 yx2 yx3 yx6 yx7 yx8 yS (fun zx1 zx2 zx3 zx6 zx7 zx8 zS => I zx1 zx2 zx3 zx6 zx7 zx8 zS ∧ μ zx1 zx2 zx3 zx6 zx7 zx8 zS < μ yx1 yx2 yx3 yx6 yx7 yx8 yS) K
def b_units_99 (x1 : Int32) (x2 : Int32) (x3 : Int32) (x6 : Int32) (x7 : Int32) (x8 : Int32) (S : ms) (R99 : Int32 → Int32 → Int32 → Int32 → Int32 → Int32 → ms → Prop) (K : ms → Prop) : Prop :=
  (3 ≤ x8 → (e_units_122 x1 x2 x3 x6 x7 0 S K)) ∧ (¬ (3 ≤ x8) → (vp_in x8 3 ∧ (R99 x1 x2 x3 x6 x7 (x8 + 1) (S.1, va_up S.2.1 53 (upd (S.2.1 53) x8.toNatClampNeg 0), S.2.2))))
def e_units_99 (x1 : Int32) (x2 : Int32) (x3 : Int32) (x6 : Int32) (x7 : Int32) (x8 : Int32) (S : ms) (K : ms → Prop) : Prop :=
  ∃ (I : Int32 → Int32 → Int32 → Int32 → Int32 → Int32 → ms → Prop) (μ : Int32 → Int32 → Int32 → Int32 → Int32 → Int32 → ms → Nat), I x1 x2 x3 x6 x7 x8 S ∧ ∀ yx1 yx2 yx3 yx6 yx7 yx8 yS, I yx1 yx2 yx3 yx6 yx7 yx8 yS → b_units_99 yx1 yx2 yx3 yx6 yx7 yx8 yS (fun zx1 zx2 zx3 zx6 zx7 zx8 zS => I zx1 zx2 zx3 zx6 zx7 zx8 zS ∧ μ zx1 zx2 zx3 zx6 zx7 zx8 zS < μ yx1 yx2 yx3 yx6 yx7 yx8 yS) K
def b_units_94 (x1 : Int32) (x2 : Int32) (x3 : Int32) (x6 : Int32) (s0 : Int32) (S : ms) (K : ms → Prop) : Prop :=
  e_units_99 x1 x2 x3 x6 s0 0 S K
def b_units_62 (x1 : Int32) (x2 : Int32) (x3 : Int32) (x5 : Int32) (s0 : Int32) (S : ms) (K : ms → Prop) : Prop :=
  (x3 = 0 → (p_upward (S.1 2) (8 * x5) (fun v91 => b_units_94 x1 x2 x3 s0 v91 S K))) ∧ (¬ (x3 = 0) → (p_layerHigh 0 0 S (fun v71 S71 => p_upward v71 8 (fun v76 => b_units_94 x1 x2 x3 s0 v76 (S71.1, S71.2.1, S71.2.2) K))))
def b_units_15 (x1 : Int32) (x2 : Int32) (s0 : Int32) (S : ms) (K : ms → Prop) : Prop :=
  p_greatest 0 1 S (fun v19 S19 => p_greatest 0 0 (S19.1, S19.2.1, S19.2.2) (fun v27 S27 => (s0 = 0 → (p_upward (S27.1 1) (8 * v19) (fun v59 => b_units_62 x1 x2 s0 v27 v59 (S27.1, S27.2.1, S27.2.2) K))) ∧ (¬ (s0 = 0) → (p_layerWide 0 0 (S27.1, S27.2.1, S27.2.2) (fun v39 S39 => p_upward v39 8 (fun v44 => b_units_62 x1 x2 s0 v27 v44 (S39.1, S39.2.1, S39.2.2) K))))))
def p_units (x1 : Int32) (x2 : Int32) (S : ms) (K : ms → Prop) : Prop :=
  vp_in 0 3 ∧ ((¬ (S.2.1 14 (0 : Int32).toNatClampNeg) = 1 → (b_units_15 x1 x2 0 S K)) ∧ ((S.2.1 14 (0 : Int32).toNatClampNeg) = 1 → (b_units_15 x1 x2 1 S K)))
def b_putCode_115 (x1 : Int32) (x3 : Int32) (x4 : Int32) (S : ms) (R75 : Int32 → Int32 → ms → Prop) (R84 : Int32 → Int32 → Int32 → ms → Prop) (K : ms → Prop) : Prop :=
  R84 x1 x3 (x4 + 1) S
def b_putCode_84 (x1 : Int32) (x3 : Int32) (x4 : Int32) (S : ms) (R75 : Int32 → Int32 → ms → Prop) (R84 : Int32 → Int32 → Int32 → ms → Prop) (K : ms → Prop) : Prop :=
  (256 ≤ x4 → (R75 x1 (x3 + 1) S)) ∧ (¬ (256 ≤ x4) → (vp_in ((257 * x1) + x4) 1028 ∧ ((¬ (S.2.1 27 ((257 * x1) + x4).toNatClampNeg) = x3 → (b_putCode_115 x1 x3 x4 S R75 R84 K)) ∧ ((S.2.1 27 ((257 * x1) + x4).toNatClampNeg) = x3 → (p_put x4 S (fun S112 => b_putCode_115 x1 x3 x4 (S112.1, S112.2.1, S112.2.2) R75 R84 K))))))
def e_putCode_84 (x1 : Int32) (x3 : Int32) (x4 : Int32) (S : ms) (R75 : Int32 → Int32 → ms → Prop) (K : ms → Prop) : Prop :=
  ∃ (I : Int32 → Int32 → Int32 → ms → Prop) (μ : Int32 → Int32 → Int32 → ms → Nat), I x1 x3 x4 S ∧ ∀ yx1 yx3 yx4 yS, I yx1 yx3 yx4 yS → b_putCode_84 yx1 yx3 yx4 yS R75 (fun zx1 zx3 zx4 zS => I zx1 zx3 zx4 zS ∧ μ zx1 zx3 zx4 zS < μ yx1 yx3 yx4 yS) K
def b_putCode_75 (x1 : Int32) (x3 : Int32) (S : ms) (R75 : Int32 → Int32 → ms → Prop) (K : ms → Prop) : Prop :=
  (16 < x3 → (K S)) ∧ (¬ (16 < x3) → (e_putCode_84 x1 x3 0 S R75 K))
def e_putCode_75 (x1 : Int32) (x3 : Int32) (S : ms) (K : ms → Prop) : Prop :=
  ∃ (I : Int32 → Int32 → ms → Prop) (μ : Int32 → Int32 → ms → Nat), I x1 x3 S ∧ ∀ yx1 yx3 yS, I yx1 yx3 yS → b_putCode_75 yx1 yx3 yS (fun zx1 zx3 zS => I zx1 zx3 zS ∧ μ zx1 zx3 zS < μ yx1 yx3 yS) K
def b_putCode_53 (x1 : Int32) (x3 : Int32) (x5 : Int32) (s0 : Int32) (S : ms) (R7 : Int32 → Int32 → ms → Prop) (R19 : Int32 → Int32 → Int32 → Int32 → ms → Prop) (K : ms → Prop) : Prop :=
  R19 x1 x3 s0 (x5 + 1) S
def b_putCode_19 (x1 : Int32) (x3 : Int32) (x4 : Int32) (x5 : Int32) (S : ms) (R7 : Int32 → Int32 → ms → Prop) (R19 : Int32 → Int32 → Int32 → Int32 → ms → Prop) (K : ms → Prop) : Prop :=
  (256 ≤ x5 → (p_put x4 S (fun S64 => R7 x1 (x3 + 1) (S64.1, S64.2.1, S64.2.2)))) ∧ (¬ (256 ≤ x5) → (vp_in ((257 * x1) + x5) 1028 ∧ ((¬ (S.2.1 27 ((257 * x1) + x5).toNatClampNeg) = x3 → (b_putCode_53 x1 x3 x5 x4 S R7 R19 K)) ∧ ((S.2.1 27 ((257 * x1) + x5).toNatClampNeg) = x3 → (b_putCode_53 x1 x3 x5 (x4 + 1) S R7 R19 K)))))
def e_putCode_19 (x1 : Int32) (x3 : Int32) (x4 : Int32) (x5 : Int32) (S : ms) (R7 : Int32 → Int32 → ms → Prop) (K : ms → Prop) : Prop :=
  ∃ (I : Int32 → Int32 → Int32 → Int32 → ms → Prop) (μ : Int32 → Int32 → Int32 → Int32 → ms → Nat), I x1 x3 x4 x5 S ∧ ∀ yx1 yx3 yx4 yx5 yS, I yx1 yx3 yx4 yx5 yS → b_putCode_19 yx1 yx3 yx4 yx5 yS R7 (fun zx1 zx3 zx4 zx5 zS => I zx1 zx3 zx4 zx5 zS ∧ μ zx1 zx3 zx4 zx5 zS < μ yx1 yx3 yx4 yx5 yS) K
def b_putCode_7 (x1 : Int32) (x3 : Int32) (S : ms) (R7 : Int32 → Int32 → ms → Prop) (K : ms → Prop) : Prop :=
  (16 < x3 → (e_putCode_75 x1 1 S K)) ∧ (¬ (16 < x3) → (e_putCode_19 x1 x3 0 0 S R7 K))
def e_putCode_7 (x1 : Int32) (x3 : Int32) (S : ms) (K : ms → Prop) : Prop :=
  ∃ (I : Int32 → Int32 → ms → Prop) (μ : Int32 → Int32 → ms → Nat), I x1 x3 S ∧ ∀ yx1 yx3 yS, I yx1 yx3 yS → b_putCode_7 yx1 yx3 yS (fun zx1 zx3 zS => I zx1 zx3 zS ∧ μ zx1 zx3 zS < μ yx1 yx3 yS) K
def p_putCode (x1 : Int32) (x2 : Int32) (S : ms) (K : ms → Prop) : Prop :=
  p_put x2 S (fun S2 => e_putCode_7 x1 1 (S2.1, S2.2.1, S2.2.2) K)
def b_codeSize_34 (x1 : Int32) (x3 : Int32) (s0 : Int32) (S : ms) (R5 : Int32 → Int32 → Int32 → ms → Prop) (K : Int32 → ms → Prop) : Prop :=
  R5 x1 s0 (x3 + 1) S
def b_codeSize_5 (x1 : Int32) (x2 : Int32) (x3 : Int32) (S : ms) (R5 : Int32 → Int32 → Int32 → ms → Prop) (K : Int32 → ms → Prop) : Prop :=
  (256 ≤ x3 → (K x2 S)) ∧ (¬ (256 ≤ x3) → (vp_in ((257 * x1) + x3) 1028 ∧ (((S.2.1 27 ((257 * x1) + x3).toNatClampNeg) ≤ 0 → (b_codeSize_34 x1 x3 x2 S R5 K)) ∧ (¬ ((S.2.1 27 ((257 * x1) + x3).toNatClampNeg) ≤ 0) → (b_codeSize_34 x1 x3 (x2 + 1) S R5 K)))))
def e_codeSize_5 (x1 : Int32) (x2 : Int32) (x3 : Int32) (S : ms) (K : Int32 → ms → Prop) : Prop :=
  ∃ (I : Int32 → Int32 → Int32 → ms → Prop) (μ : Int32 → Int32 → Int32 → ms → Nat), I x1 x2 x3 S ∧ ∀ yx1 yx2 yx3 yS, I yx1 yx2 yx3 yS → b_codeSize_5 yx1 yx2 yx3 yS (fun zx1 zx2 zx3 zS => I zx1 zx2 zx3 zS ∧ μ zx1 zx2 zx3 zS < μ yx1 yx2 yx3 yS) K
def p_codeSize (x1 : Int32) (S : ms) (K : Int32 → ms → Prop) : Prop :=
  e_codeSize_5 x1 17 0 S K
def b_putSections_348 (x2 : Int32) (x5 : Int32) (s1 : Int32) (S : ms) (R322 : Int32 → Int32 → ms → Prop) (K : ms → Prop) : Prop :=
  p_put s1 S (fun S348 => R322 x2 (x5 + 1) (S348.1, S348.2.1, S348.2.2))
def b_putSections_322 (x2 : Int32) (x5 : Int32) (S : ms) (R322 : Int32 → Int32 → ms → Prop) (K : ms → Prop) : Prop :=
  (x2 ≤ x5 → (p_put 0 S (fun S359 => p_put 63 (S359.1, S359.2.1, S359.2.2) (fun S365 => p_put 0 (S365.1, S365.2.1, S365.2.2) (fun S370 => K (S370.1, S370.2.1, S370.2.2)))))) ∧ (¬ (x2 ≤ x5) → (p_put (x5 + 1) S (fun S333 => (¬ x5 = 0 → (b_putSections_348 x2 x5 17 (S333.1, S333.2.1, S333.2.2) R322 K)) ∧ (x5 = 0 → (b_putSections_348 x2 x5 0 (S333.1, S333.2.1, S333.2.2) R322 K)))))
def e_putSections_322 (x2 : Int32) (x5 : Int32) (S : ms) (K : ms → Prop) : Prop :=
  ∃ (I : Int32 → Int32 → ms → Prop) (μ : Int32 → Int32 → ms → Nat), I x2 x5 S ∧ ∀ yx2 yx5 yS, I yx2 yx5 yS → b_putSections_322 yx2 yx5 yS (fun zx2 zx5 zS => I zx2 zx5 zS ∧ μ zx2 zx5 zS < μ yx2 yx5 yS) K
def b_putSections_297 (x2 : Int32) (S : ms) (K : ms → Prop) : Prop :=
  p_mark 218 S (fun S301 => p_putTwo (6 + (2 * x2)) (S301.1, S301.2.1, S301.2.2) (fun S311 => p_put x2 (S311.1, S311.2.1, S311.2.2) (fun S316 => e_putSections_322 x2 0 (S316.1, S316.2.1, S316.2.2) K)))
def b_putSections_244 (x1 : Int32) (x2 : Int32) (x3 : Int32) (x5 : Int32) (S : ms) (R244 : Int32 → Int32 → Int32 → Int32 → ms → Prop) (K : ms → Prop) : Prop :=
  ((2 * x3) ≤ x5 → ((x1 ≤ 0 → (b_putSections_297 x2 S K)) ∧ (¬ (x1 ≤ 0) → (p_mark 221 S (fun S284 => p_putTwo 4 (S284.1, S284.2.1, S284.2.2) (fun S289 => p_putTwo x1 (S289.1, S289.2.1, S289.2.2) (fun S294 => b_putSections_297 x2 (S294.1, S294.2.1, S294.2.2) K))))))) ∧ (¬ ((2 * x3) ≤ x5) → (p_putCode x5 ((16 * (x5 - x5 / 2 * 2)) + (x5 / 2)) S (fun S267 => R244 x1 x2 x3 (x5 + 1) (S267.1, S267.2.1, S267.2.2))))
def e_putSections_244 (x1 : Int32) (x2 : Int32) (x3 : Int32) (x5 : Int32) (S : ms) (K : ms → Prop) : Prop :=
  ∃ (I : Int32 → Int32 → Int32 → Int32 → ms → Prop) (μ : Int32 → Int32 → Int32 → Int32 → ms → Nat), I x1 x2 x3 x5 S ∧ ∀ yx1 yx2 yx3 yx5 yS, I yx1 yx2 yx3 yx5 yS → b_putSections_244 yx1 yx2 yx3 yx5 yS (fun zx1 zx2 zx3 zx5 zS => I zx1 zx2 zx3 zx5 zS ∧ μ zx1 zx2 zx3 zx5 zS < μ yx1 yx2 yx3 yx5 yS) K
def b_putSections_210 (x1 : Int32) (x2 : Int32) (x3 : Int32) (x4 : Int32) (x5 : Int32) (S : ms) (R210 : Int32 → Int32 → Int32 → Int32 → Int32 → ms → Prop) (K : ms → Prop) : Prop :=
  ((2 * x3) ≤ x5 → (p_putTwo x4 S (fun S238 => e_putSections_244 x1 x2 x3 0 (S238.1, S238.2.1, S238.2.2) K))) ∧ (¬ ((2 * x3) ≤ x5) → (p_codeSize x5 S (fun v223 S223 => R210 x1 x2 x3 (x4 + v223) (x5 + 1) (S223.1, S223.2.1, S223.2.2))))
def e_putSections_210 (x1 : Int32) (x2 : Int32) (x3 : Int32) (x4 : Int32) (x5 : Int32) (S : ms) (K : ms → Prop) : Prop :=
  ∃ (I : Int32 → Int32 → Int32 → Int32 → Int32 → ms → Prop) (μ : Int32 → Int32 → Int32 → Int32 → Int32 → ms → Nat), I x1 x2 x3 x4 x5 S ∧ ∀ yx1 yx2 yx3 yx4 yx5 yS, I yx1 yx2 yx3 yx4 yx5 yS → b_putSections_210 yx1 yx2 yx3 yx4 yx5 yS (fun zx1 zx2 zx3 zx4 zx5 zS => I zx1 zx2 zx3 zx4 zx5 zS ∧ μ zx1 zx2 zx3 zx4 zx5 zS < μ yx1 yx2 yx3 yx4 yx5 yS) K
def b_putSections_188 (x1 : Int32) (x2 : Int32) (x3 : Int32) (x4 : Int32) (s1 : Int32) (S : ms) (R141 : Int32 → Int32 → Int32 → Int32 → ms → Prop) (K : ms → Prop) : Prop :=
  p_put s1 S (fun S188 => R141 x1 x2 x3 (x4 + 1) (S188.1, S188.2.1, S188.2.2))
def b_putSections_141 (x1 : Int32) (x2 : Int32) (x3 : Int32) (x4 : Int32) (S : ms) (R141 : Int32 → Int32 → Int32 → Int32 → ms → Prop) (K : ms → Prop) : Prop :=
  (x2 ≤ x4 → (p_mark 196 S (fun S201 => e_putSections_210 x1 x2 x3 2 0 (S201.1, S201.2.1, S201.2.2) K))) ∧ (¬ (x2 ≤ x4) → (p_put (x4 + 1) S (fun S152 => vp_in x4 9 ∧ (vp_in x4 9 ∧ (p_put ((16 * (S152.2.1 15 x4.toNatClampNeg)) + (S152.2.1 16 x4.toNatClampNeg)) (S152.1, S152.2.1, S152.2.2) (fun S174 => (¬ x4 = 0 → (b_putSections_188 x1 x2 x3 x4 1 (S174.1, S174.2.1, S174.2.2) R141 K)) ∧ (x4 = 0 → (b_putSections_188 x1 x2 x3 x4 0 (S174.1, S174.2.1, S174.2.2) R141 K))))))))
def e_putSections_141 (x1 : Int32) (x2 : Int32) (x3 : Int32) (x4 : Int32) (S : ms) (K : ms → Prop) : Prop :=
  ∃ (I : Int32 → Int32 → Int32 → Int32 → ms → Prop) (μ : Int32 → Int32 → Int32 → Int32 → ms → Nat), I x1 x2 x3 x4 S ∧ ∀ yx1 yx2 yx3 yx4 yS, I yx1 yx2 yx3 yx4 yS → b_putSections_141 yx1 yx2 yx3 yx4 yS (fun zx1 zx2 zx3 zx4 zS => I zx1 zx2 zx3 zx4 zS ∧ μ zx1 zx2 zx3 zx4 zS < μ yx1 yx2 yx3 yx4 yS) K
def b_putSections_53 (x1 : Int32) (x2 : Int32) (x3 : Int32) (x4 : Int32) (x5 : Int32) (S : ms) (R38 : Int32 → Int32 → Int32 → Int32 → ms → Prop) (R53 : Int32 → Int32 → Int32 → Int32 → Int32 → ms → Prop) (K : ms → Prop) : Prop :=
  (64 ≤ x5 → (R38 x1 x2 x3 (x4 + 1) S)) ∧ (¬ (64 ≤ x5) → (vp_in x5 64 ∧ (vp_in ((64 * x4) + (S.2.1 22 x5.toNatClampNeg)) 128 ∧ (p_put (S.2.1 5 ((64 * x4) + (S.2.1 22 x5.toNatClampNeg)).toNatClampNeg) S (fun S79 => R53 x1 x2 x3 x4 (x5 + 1) (S79.1, S79.2.1, S79.2.2))))))
def e_putSections_53 (x1 : Int32) (x2 : Int32) (x3 : Int32) (x4 : Int32) (x5 : Int32) (S : ms) (R38 : Int32 → Int32 → Int32 → Int32 → ms → Prop) (K : ms → Prop) : Prop :=
  ∃ (I : Int32 → Int32 → Int32 → Int32 → Int32 → ms → Prop) (μ : Int32 → Int32 → Int32 → Int32 → Int32 → ms → Nat), I x1 x2 x3 x4 x5 S ∧ ∀ yx1 yx2 yx3 yx4 yx5 yS, I yx1 yx2 yx3 yx4 yx5 yS → b_putSections_53 yx1 yx2 yx3 yx4 yx5 yS R38 (fun zx1 zx2 zx3 zx4 zx5 zS => I zx1 zx2 zx3 zx4 zx5 zS ∧ μ zx1 zx2 zx3 zx4 zx5 zS < μ yx1 yx2 yx3 yx4 yx5 yS) K
def b_putSections_38 (x1 : Int32) (x2 : Int32) (x3 : Int32) (x4 : Int32) (S : ms) (R38 : Int32 → Int32 → Int32 → Int32 → ms → Prop) (K : ms → Prop) : Prop :=
  (x3 ≤ x4 → (p_mark 192 S (fun S98 => p_putTwo (8 + (3 * x2)) (S98.1, S98.2.1, S98.2.2) (fun S108 => p_put 8 (S108.1, S108.2.1, S108.2.2) (fun S114 => p_putTwo (S114.1 2) (S114.1, S114.2.1, S114.2.2) (fun S122 => p_putTwo (S122.1 1) (S122.1, S122.2.1, S122.2.2) (fun S130 => p_put x2 (S130.1, S130.2.1, S130.2.2) (fun S135 => e_putSections_141 x1 x2 x3 0 (S135.1, S135.2.1, S135.2.2) K)))))))) ∧ (¬ (x3 ≤ x4) → (p_put x4 S (fun S47 => e_putSections_53 x1 x2 x3 x4 0 (S47.1, S47.2.1, S47.2.2) R38 K)))
def e_putSections_38 (x1 : Int32) (x2 : Int32) (x3 : Int32) (x4 : Int32) (S : ms) (K : ms → Prop) : Prop :=
  ∃ (I : Int32 → Int32 → Int32 → Int32 → ms → Prop) (μ : Int32 → Int32 → Int32 → Int32 → ms → Nat), I x1 x2 x3 x4 S ∧ ∀ yx1 yx2 yx3 yx4 yS, I yx1 yx2 yx3 yx4 yS → b_putSections_38 yx1 yx2 yx3 yx4 yS (fun zx1 zx2 zx3 zx4 zS => I zx1 zx2 zx3 zx4 zS ∧ μ zx1 zx2 zx3 zx4 zS < μ yx1 yx2 yx3 yx4 yS) K
def b_putSections_17 (x1 : Int32) (x2 : Int32) (s0 : Int32) (S : ms) (K : ms → Prop) : Prop :=
  p_mark 219 S (fun S22 => p_putTwo (2 + (65 * s0)) (S22.1, S22.2.1, S22.2.2) (fun S32 => e_putSections_38 x1 x2 s0 0 (S32.1, S32.2.1, S32.2.2) K))
def p_putSections (x1 : Int32) (S : ms) (K : ms → Prop) : Prop :=
  vp_in 0 3 ∧ ((¬ (S.2.1 14 (0 : Int32).toNatClampNeg) = 1 → (b_putSections_17 x1 (S.2.1 14 (0 : Int32).toNatClampNeg) 2 S K)) ∧ ((S.2.1 14 (0 : Int32).toNatClampNeg) = 1 → (b_putSections_17 x1 (S.2.1 14 (0 : Int32).toNatClampNeg) 1 S K)))
def b_pack_321 (x3 : Int32) (x4 : Int32) (s0 : Int32) (s1 : Int32) (S : ms) (R306 : Int32 → Int32 → ms → Prop) (K : Int32 → ms → Prop) : Prop :=
  (s1 ≤ s0 → (p_mark 216 (upd (upd (upd S.1 9 0) 32 0) 33 0, S.2.1, S.2.2) (fun S355 => p_putSections x3 (S355.1, S355.2.1, S355.2.2) (fun S360 => p_units 0 x3 (S360.1, S360.2.1, S360.2.2) (fun S366 => p_fillUp (S366.1, S366.2.1, S366.2.2) (fun S370 => p_mark 217 (S370.1, S370.2.1, S370.2.2) (fun S377 => K (S377.1 9) (S377.1, S377.2.1, S377.2.2)))))))) ∧ (¬ (s1 ≤ s0) → (p_makeCode x4 S (fun S327 => R306 x3 (x4 + 1) (S327.1, S327.2.1, S327.2.2))))
def b_pack_306 (x3 : Int32) (x4 : Int32) (S : ms) (R306 : Int32 → Int32 → ms → Prop) (K : Int32 → ms → Prop) : Prop :=
  (¬ (S.1 3) = 1 → (b_pack_321 x3 x4 x4 4 S R306 K)) ∧ ((S.1 3) = 1 → (b_pack_321 x3 x4 x4 2 S R306 K))
def e_pack_306 (x3 : Int32) (x4 : Int32) (S : ms) (K : Int32 → ms → Prop) : Prop :=
  ∃ (I : Int32 → Int32 → ms → Prop) (μ : Int32 → Int32 → ms → Nat), I x3 x4 S ∧ ∀ yx3 yx4 yS, I yx3 yx4 yS → b_pack_306 yx3 yx4 yS (fun zx3 zx4 zS => I zx3 zx4 zS ∧ μ zx3 zx4 zS < μ yx3 yx4 yS) K
def b_pack_275 (x3 : Int32) (x4 : Int32) (S : ms) (R275 : Int32 → Int32 → ms → Prop) (K : Int32 → ms → Prop) : Prop :=
  (1028 ≤ x4 → (p_units 1 x3 S (fun S300 => e_pack_306 x3 0 (S300.1, S300.2.1, S300.2.2) K))) ∧ (¬ (1028 ≤ x4) → (vp_in x4 1028 ∧ (R275 x3 (x4 + 1) (S.1, va_up S.2.1 26 (upd (S.2.1 26) x4.toNatClampNeg 0), S.2.2))))
def e_pack_275 (x3 : Int32) (x4 : Int32) (S : ms) (K : Int32 → ms → Prop) : Prop :=
  ∃ (I : Int32 → Int32 → ms → Prop) (μ : Int32 → Int32 → ms → Nat), I x3 x4 S ∧ ∀ yx3 yx4 yS, I yx3 yx4 yS → b_pack_275 yx3 yx4 yS (fun zx3 zx4 zS => I zx3 zx4 zS ∧ μ zx3 zx4 zS < μ yx3 yx4 yS) K
def b_pack_225 (x3 : Int32) (x4 : Int32) (x5 : Int32) (x6 : Int32) (x7 : Int32) (S : ms) (R145 : Int32 → Int32 → ms → Prop) (R225 : Int32 → Int32 → Int32 → Int32 → Int32 → ms → Prop) (K : Int32 → ms → Prop) : Prop :=
  ((x5 * x6) ≤ x7 → (R145 x3 (x4 + 1) S)) ∧ (¬ ((x5 * x6) ≤ x7) → (¬ x5 = 0 ∧ (vp_in x4 9 ∧ (¬ x5 = 0 ∧ (p_makeLevels x4 (((x7 / x5) * (S.2.1 17 x4.toNatClampNeg)) + (x7 - x7 / x5 * x5)) S (fun S257 => R225 x3 x4 x5 x6 (x7 + 1) (S257.1, S257.2.1, S257.2.2)))))))
def e_pack_225 (x3 : Int32) (x4 : Int32) (x5 : Int32) (x6 : Int32) (x7 : Int32) (S : ms) (R145 : Int32 → Int32 → ms → Prop) (K : Int32 → ms → Prop) : Prop :=
  ∃ (I : Int32 → Int32 → Int32 → Int32 → Int32 → ms → Prop) (μ : Int32 → Int32 → Int32 → Int32 → Int32 → ms → Nat), I x3 x4 x5 x6 x7 S ∧ ∀ yx3 yx4 yx5 yx6 yx7 yS, I yx3 yx4 yx5 yx6 yx7 yS → b_pack_225 yx3 yx4 yx5 yx6 yx7 yS R145 (fun zx3 zx4 zx5 zx6 zx7 zS => I zx3 zx4 zx5 zx6 zx7 zS ∧ μ zx3 zx4 zx5 zx6 zx7 zS < μ yx3 yx4 yx5 yx6 yx7 yS) K
def b_pack_220 (x3 : Int32) (x4 : Int32) (x5 : Int32) (s0 : Int32) (S : ms) (R145 : Int32 → Int32 → ms → Prop) (K : Int32 → ms → Prop) : Prop :=
  e_pack_225 x3 x4 x5 s0 0 S R145 K
def b_pack_189 (x3 : Int32) (x4 : Int32) (s0 : Int32) (S : ms) (R145 : Int32 → Int32 → ms → Prop) (K : Int32 → ms → Prop) : Prop :=
  (¬ (S.1 3) = 1 → (vp_in x4 9 ∧ (b_pack_220 x3 x4 s0 (S.2.1 18 x4.toNatClampNeg) S R145 K))) ∧ ((S.1 3) = 1 → (p_layerHigh 0 0 S (fun v202 S202 => p_upward v202 8 (fun v207 => b_pack_220 x3 x4 s0 v207 (S202.1, S202.2.1, S202.2.2) R145 K))))
def b_pack_145 (x3 : Int32) (x4 : Int32) (S : ms) (R145 : Int32 → Int32 → ms → Prop) (K : Int32 → ms → Prop) : Prop :=
  ((S.1 3) ≤ x4 → (e_pack_275 x3 0 S K)) ∧ (¬ ((S.1 3) ≤ x4) → (p_makeRaster x4 S (fun S157 => (¬ (S157.1 3) = 1 → (vp_in x4 9 ∧ (b_pack_189 x3 x4 (S157.2.1 17 x4.toNatClampNeg) (S157.1, S157.2.1, S157.2.2) R145 K))) ∧ ((S157.1 3) = 1 → (p_layerWide 0 0 (S157.1, S157.2.1, S157.2.2) (fun v171 S171 => p_upward v171 8 (fun v176 => b_pack_189 x3 x4 v176 (S171.1, S171.2.1, S171.2.2) R145 K)))))))
def e_pack_145 (x3 : Int32) (x4 : Int32) (S : ms) (K : Int32 → ms → Prop) : Prop :=
  ∃ (I : Int32 → Int32 → ms → Prop) (μ : Int32 → Int32 → ms → Nat), I x3 x4 S ∧ ∀ yx3 yx4 yS, I yx3 yx4 yS → b_pack_145 yx3 yx4 yS (fun zx3 zx4 zS => I zx3 zx4 zS ∧ μ zx3 zx4 zS < μ yx3 yx4 yS) K
def b_pack_130 (x1 : Int32) (x2 : Int32) (x3 : Int32) (x4 : Int32) (s1 : Int32) (s2 : Int32) (S : ms) (R88 : Int32 → Int32 → Int32 → Int32 → ms → Prop) (K : Int32 → ms → Prop) : Prop :=
  vp_in s1 9 ∧ (R88 x1 x2 x3 (x4 + 1) (S.1, va_up S.2.1 16 (upd (S.2.1 16) s1.toNatClampNeg s2), S.2.2))
def b_pack_113 (x1 : Int32) (x2 : Int32) (x3 : Int32) (x4 : Int32) (s1 : Int32) (s2 : Int32) (S : ms) (R88 : Int32 → Int32 → Int32 → Int32 → ms → Prop) (K : Int32 → ms → Prop) : Prop :=
  vp_in s1 9 ∧ ((¬ x4 = 0 → (b_pack_130 x1 x2 x3 x4 x4 1 (S.1, va_up S.2.1 15 (upd (S.2.1 15) s1.toNatClampNeg s2), S.2.2) R88 K)) ∧ (x4 = 0 → (b_pack_130 x1 x2 x3 x4 x4 x2 (S.1, va_up S.2.1 15 (upd (S.2.1 15) s1.toNatClampNeg s2), S.2.2) R88 K)))
def b_pack_88 (x1 : Int32) (x2 : Int32) (x3 : Int32) (x4 : Int32) (S : ms) (R88 : Int32 → Int32 → Int32 → Int32 → ms → Prop) (K : Int32 → ms → Prop) : Prop :=
  ((S.1 3) ≤ x4 → (p_makeGrids 0 S (fun S139 => e_pack_145 x3 0 (S139.1, S139.2.1, S139.2.2) K))) ∧ (¬ ((S.1 3) ≤ x4) → ((¬ x4 = 0 → (b_pack_113 x1 x2 x3 x4 x4 1 S R88 K)) ∧ (x4 = 0 → (b_pack_113 x1 x2 x3 x4 x4 x1 S R88 K))))
def e_pack_88 (x1 : Int32) (x2 : Int32) (x3 : Int32) (x4 : Int32) (S : ms) (K : Int32 → ms → Prop) : Prop :=
  ∃ (I : Int32 → Int32 → Int32 → Int32 → ms → Prop) (μ : Int32 → Int32 → Int32 → Int32 → ms → Nat), I x1 x2 x3 x4 S ∧ ∀ yx1 yx2 yx3 yx4 yS, I yx1 yx2 yx3 yx4 yS → b_pack_88 yx1 yx2 yx3 yx4 yS (fun zx1 zx2 zx3 zx4 zS => I zx1 zx2 zx3 zx4 zS ∧ μ zx1 zx2 zx3 zx4 zS < μ yx1 yx2 yx3 yx4 yS) K
def b_pack_36 (x1 : Int32) (x2 : Int32) (x3 : Int32) (s1 : Int32) (S : ms) (K : Int32 → ms → Prop) : Prop :=
  (((upd S.1 0 s1) 0) ≤ 0 → (vp_in 0 3 ∧ (vp_in 0 3 ∧ (vp_in 0 3 ∧ (vp_in 0 3 ∧ (e_pack_88 x1 x2 x3 0 (upd S.1 0 s1, va_up (va_up (va_up (va_up S.2.1 11 (upd (S.2.1 11) (0 : Int32).toNatClampNeg (vp_nar .boolean 1))) 12 (upd ((va_up S.2.1 11 (upd (S.2.1 11) (0 : Int32).toNatClampNeg (vp_nar .boolean 1))) 12) (0 : Int32).toNatClampNeg ((upd S.1 0 s1) 1))) 13 (upd ((va_up (va_up S.2.1 11 (upd (S.2.1 11) (0 : Int32).toNatClampNeg (vp_nar .boolean 1))) 12 (upd ((va_up S.2.1 11 (upd (S.2.1 11) (0 : Int32).toNatClampNeg (vp_nar .boolean 1))) 12) (0 : Int32).toNatClampNeg ((upd S.1 0 s1) 1))) 13) (0 : Int32).toNatClampNeg ((upd S.1 0 s1) 2))) 14 (upd ((va_up (va_up (va_up S.2.1 11 (upd (S.2.1 11) (0 : Int32).toNatClampNeg (vp_nar .boolean 1))) 12 (upd ((va_up S.2.1 11 (upd (S.2.1 11) (0 : Int32).toNatClampNeg (vp_nar .boolean 1))) 12) (0 : Int32).toNatClampNeg ((upd S.1 0 s1) 1))) 13 (upd ((va_up (va_up S.2.1 11 (upd (S.2.1 11) (0 : Int32).toNatClampNeg (vp_nar .boolean 1))) 12 (upd ((va_up S.2.1 11 (upd (S.2.1 11) (0 : Int32).toNatClampNeg (vp_nar .boolean 1))) 12) (0 : Int32).toNatClampNeg ((upd S.1 0 s1) 1))) 13) (0 : Int32).toNatClampNeg ((upd S.1 0 s1) 2))) 14) (0 : Int32).toNatClampNeg ((upd S.1 0 s1) 3)), S.2.2) K)))))) ∧ (¬ (((upd S.1 0 s1) 0) ≤ 0) → (K 0 (upd S.1 0 s1, S.2.1, S.2.2)))
def b_pack_31 (x1 : Int32) (x2 : Int32) (x3 : Int32) (S : ms) (K : Int32 → ms → Prop) : Prop :=
  b_pack_36 x1 x2 x3 1 S K
def p_pack (x1 : Int32) (x2 : Int32) (x3 : Int32) (S : ms) (K : Int32 → ms → Prop) : Prop :=
  (x1 < 1 → (b_pack_31 x1 x2 x3 S K)) ∧ (¬ (x1 < 1) → ((2 < x1 → (b_pack_31 x1 x2 x3 S K)) ∧ (¬ (2 < x1) → ((x2 < 1 → (b_pack_31 x1 x2 x3 S K)) ∧ (¬ (x2 < 1) → ((2 < x2 → (b_pack_31 x1 x2 x3 S K)) ∧ (¬ (2 < x2) → ((x3 < 0 → (b_pack_31 x1 x2 x3 S K)) ∧ (¬ (x3 < 0) → ((x3 ≤ 65535 → (b_pack_36 x1 x2 x3 0 S K)) ∧ (¬ (x3 ≤ 65535) → (b_pack_31 x1 x2 x3 S K))))))))))))
def p_size  (S : ms) (K : Int32 → ms → Prop) : Prop :=
  K ((upd S.1 0 0) 9) (upd S.1 0 0, S.2.1, S.2.2)
def b_out_38 (s0 : Int32) (S : ms) (K : Int32 → ms → Prop) : Prop :=
  K s0 S
def b_out_18 (x1 : Int32) (s1 : Int32) (S : ms) (K : Int32 → ms → Prop) : Prop :=
  (((upd S.1 0 s1) 0) ≤ 0 → (vp_in x1 65536 ∧ (b_out_38 (S.2.1 8 x1.toNatClampNeg) (upd S.1 0 s1, S.2.1, S.2.2) K))) ∧ (¬ (((upd S.1 0 s1) 0) ≤ 0) → (b_out_38 0 (upd S.1 0 s1, S.2.1, S.2.2) K))
def b_out_13 (x1 : Int32) (S : ms) (K : Int32 → ms → Prop) : Prop :=
  b_out_18 x1 1 S K
def p_out (x1 : Int32) (S : ms) (K : Int32 → ms → Prop) : Prop :=
  (x1 < 0 → (b_out_13 x1 S K)) ∧ (¬ (x1 < 0) → ((x1 < (S.1 9) → (b_out_18 x1 0 S K)) ∧ (¬ (x1 < (S.1 9)) → (b_out_13 x1 S K))))
def b_feed_86 (x1 : Int32) (x2 : Int32) (x3 : Int32) (x4 : Int32) (x5 : Int32) (x6 : Int32) (s0 : Int32) (S : ms) (R33 : Int32 → Int32 → Int32 → Int32 → Int32 → Int32 → ms → Prop) (K : Int32 → ms → Prop) : Prop :=
  vp_in (S.1 7) 32768 ∧ (R33 x1 x2 x3 x4 x5 (x6 + 1) (upd S.1 7 ((S.1 7) + 1), va_up S.2.1 6 (upd (S.2.1 6) (S.1 7).toNatClampNeg ((s0 >>> ((24 - (8 * (x6 - x6 / 4 * 4))) &&& 31 : Int32) : Int32) &&& 255)), S.2.2))
def b_feed_33 (x1 : Int32) (x2 : Int32) (x3 : Int32) (x4 : Int32) (x5 : Int32) (x6 : Int32) (S : ms) (R33 : Int32 → Int32 → Int32 → Int32 → Int32 → Int32 → ms → Prop) (K : Int32 → ms → Prop) : Prop :=
  (20 ≤ x6 → (K (S.1 7) S)) ∧ (¬ (20 ≤ x6) → ((4 ≤ x6 → ((8 ≤ x6 → ((12 ≤ x6 → ((16 ≤ x6 → (b_feed_86 x1 x2 x3 x4 x5 x6 x5 S R33 K)) ∧ (¬ (16 ≤ x6) → (b_feed_86 x1 x2 x3 x4 x5 x6 x4 S R33 K)))) ∧ (¬ (12 ≤ x6) → (b_feed_86 x1 x2 x3 x4 x5 x6 x3 S R33 K)))) ∧ (¬ (8 ≤ x6) → (b_feed_86 x1 x2 x3 x4 x5 x6 x2 S R33 K)))) ∧ (¬ (4 ≤ x6) → (b_feed_86 x1 x2 x3 x4 x5 x6 x1 S R33 K))))
def e_feed_33 (x1 : Int32) (x2 : Int32) (x3 : Int32) (x4 : Int32) (x5 : Int32) (x6 : Int32) (S : ms) (K : Int32 → ms → Prop) : Prop :=
  ∃ (I : Int32 → Int32 → Int32 → Int32 → Int32 → Int32 → ms → Prop) (μ : Int32 → Int32 → Int32 → Int32 → Int32 → Int32 → ms → Nat), I x1 x2 x3 x4 x5 x6 S ∧ ∀ yx1 yx2 yx3 yx4 yx5 yx6 yS, I yx1 yx2 yx3 yx4 yx5 yx6 yS → b_feed_33 yx1 yx2 yx3 yx4 yx5 yx6 yS (fun zx1 zx2 zx3 zx4 zx5 zx6 zS => I zx1 zx2 zx3 zx4 zx5 zx6 zS ∧ μ zx1 zx2 zx3 zx4 zx5 zx6 zS < μ yx1 yx2 yx3 yx4 yx5 yx6 yS) K
def b_feed_18 (x1 : Int32) (x2 : Int32) (x3 : Int32) (x4 : Int32) (x5 : Int32) (s1 : Int32) (S : ms) (K : Int32 → ms → Prop) : Prop :=
  (((upd S.1 0 s1) 0) ≤ 0 → (e_feed_33 x1 x2 x3 x4 x5 0 (upd S.1 0 s1, S.2.1, S.2.2) K)) ∧ (¬ (((upd S.1 0 s1) 0) ≤ 0) → (K 0 (upd S.1 0 s1, S.2.1, S.2.2)))
def p_feed (x1 : Int32) (x2 : Int32) (x3 : Int32) (x4 : Int32) (x5 : Int32) (S : ms) (K : Int32 → ms → Prop) : Prop :=
  (((S.1 7) + 20) ≤ 32768 → (b_feed_18 x1 x2 x3 x4 x5 0 S K)) ∧ (¬ (((S.1 7) + 20) ≤ 32768) → (b_feed_18 x1 x2 x3 x4 x5 1 S K))
def b_end_37 (s1 : Int32) (S : ms) (K : ms → Prop) : Prop :=
  K (upd S.1 7 s1, S.2.1, S.2.2)
def b_end_18 (x1 : Int32) (s1 : Int32) (S : ms) (K : ms → Prop) : Prop :=
  (((upd S.1 0 s1) 0) ≤ 0 → (b_end_37 x1 (upd S.1 0 s1, S.2.1, S.2.2) K)) ∧ (¬ (((upd S.1 0 s1) 0) ≤ 0) → (b_end_37 ((upd S.1 0 s1) 7) (upd S.1 0 s1, S.2.1, S.2.2) K))
def b_end_13 (x1 : Int32) (S : ms) (K : ms → Prop) : Prop :=
  b_end_18 x1 1 S K
def p_end (x1 : Int32) (S : ms) (K : ms → Prop) : Prop :=
  (x1 < 0 → (b_end_13 x1 S K)) ∧ (¬ (x1 < 0) → ((x1 ≤ (S.1 7) → (b_end_18 x1 0 S K)) ∧ (¬ (x1 ≤ (S.1 7)) → (b_end_13 x1 S K))))
def b_change_33 (x1 : Int32) (x2 : Int32) (s1 : Int32) (S : ms) (K : Int32 → ms → Prop) : Prop :=
  (((upd S.1 0 s1) 0) ≤ 0 → (vp_in x1 32768 ∧ (vp_in x1 32768 ∧ (vp_in x1 32768 ∧ (K ((va_up S.2.1 6 (upd (S.2.1 6) x1.toNatClampNeg ((S.2.1 6 x1.toNatClampNeg) ^^^ x2))) 6 x1.toNatClampNeg) (upd S.1 0 s1, va_up S.2.1 6 (upd (S.2.1 6) x1.toNatClampNeg ((S.2.1 6 x1.toNatClampNeg) ^^^ x2)), S.2.2)))))) ∧ (¬ (((upd S.1 0 s1) 0) ≤ 0) → (K 0 (upd S.1 0 s1, S.2.1, S.2.2)))
def b_change_28 (x1 : Int32) (x2 : Int32) (S : ms) (K : Int32 → ms → Prop) : Prop :=
  b_change_33 x1 x2 2 S K
def b_change_13 (x1 : Int32) (x2 : Int32) (S : ms) (K : Int32 → ms → Prop) : Prop :=
  b_change_33 x1 x2 1 S K
def p_change (x1 : Int32) (x2 : Int32) (S : ms) (K : Int32 → ms → Prop) : Prop :=
  (x1 < 0 → (b_change_13 x1 x2 S K)) ∧ (¬ (x1 < 0) → ((x1 < (S.1 7) → ((x2 < 0 → (b_change_28 x1 x2 S K)) ∧ (¬ (x2 < 0) → ((x2 ≤ 255 → (b_change_33 x1 x2 0 S K)) ∧ (¬ (x2 ≤ 255) → (b_change_28 x1 x2 S K)))))) ∧ (¬ (x1 < (S.1 7)) → (b_change_13 x1 x2 S K))))
def b_turn2_29 (x1 : Int32) (S : ms) (R29 : Int32 → ms → Prop) (K : Int32 → ms → Prop) : Prop :=
  ((S.1 9) ≤ x1 → (K ((upd S.1 7 (S.1 9)) 7) (upd S.1 7 (S.1 9), S.2.1, S.2.2))) ∧ (¬ ((S.1 9) ≤ x1) → (vp_in x1 65536 ∧ (vp_in x1 32768 ∧ (R29 (x1 + 1) (S.1, va_up S.2.1 6 (upd (S.2.1 6) x1.toNatClampNeg (S.2.1 8 x1.toNatClampNeg)), S.2.2)))))
def e_turn2_29 (x1 : Int32) (S : ms) (K : Int32 → ms → Prop) : Prop :=
  ∃ (I : Int32 → ms → Prop) (μ : Int32 → ms → Nat), I x1 S ∧ ∀ yx1 yS, I yx1 yS → b_turn2_29 yx1 yS (fun zx1 zS => I zx1 zS ∧ μ zx1 zS < μ yx1 yS) K
def b_turn2_15 (s1 : Int32) (S : ms) (K : Int32 → ms → Prop) : Prop :=
  (((upd S.1 0 s1) 0) ≤ 0 → (e_turn2_29 0 (upd S.1 0 s1, S.2.1, S.2.2) K)) ∧ (¬ (((upd S.1 0 s1) 0) ≤ 0) → (K 0 (upd S.1 0 s1, S.2.1, S.2.2)))
def p_turn2  (S : ms) (K : Int32 → ms → Prop) : Prop :=
  ((S.1 9) ≤ 32768 → (b_turn2_15 0 S K)) ∧ (¬ ((S.1 9) ≤ 32768) → (b_turn2_15 1 S K))
def b_fail_17  (S : ms) (K : Int32 → ms → Prop) : Prop :=
  K 0 S
def p_fail (x1 : Int32) (x2 : Int32) (S : ms) (K : Int32 → ms → Prop) : Prop :=
  (¬ (S.1 35) = 0 → (b_fail_17 S K)) ∧ ((S.1 35) = 0 → (b_fail_17 (upd (upd S.1 35 x1) 10 x2, S.2.1, S.2.2) K))
def p_next  (S : ms) (K : Int32 → ms → Prop) : Prop :=
  ((S.1 34) < (S.1 7) → (vp_in (((upd S.1 34 ((S.1 34) + 1)) 34) - 1) 32768 ∧ (K (S.2.1 6 (((upd S.1 34 ((S.1 34) + 1)) 34) - 1).toNatClampNeg) (upd S.1 34 ((S.1 34) + 1), S.2.1, S.2.2)))) ∧ (¬ ((S.1 34) < (S.1 7)) → (p_fail 1 (S.1 7) S (fun v17 S17 => K 0 (S17.1, S17.2.1, S17.2.2))))
def p_nextWithin  (S : ms) (K : Int32 → ms → Prop) : Prop :=
  ((S.1 34) < (S.1 36) → (p_next S (fun v24 S24 => K v24 (S24.1, S24.2.1, S24.2.2)))) ∧ (¬ ((S.1 34) < (S.1 36)) → (p_fail 4 (S.1 37) S (fun v17 S17 => K 0 (S17.1, S17.2.1, S17.2.2))))
def b_readMark_53 (x2 : Int32) (S : ms) (K : Int32 → ms → Prop) : Prop :=
  K x2 S
def b_readMark_31 (x2 : Int32) (S : ms) (R31 : Int32 → ms → Prop) (K : Int32 → ms → Prop) : Prop :=
  (¬ (S.1 35) = 0 → (b_readMark_53 x2 S K)) ∧ ((S.1 35) = 0 → ((¬ x2 = 255 → (b_readMark_53 x2 S K)) ∧ (x2 = 255 → (p_next S (fun v46 S46 => R31 v46 (S46.1, S46.2.1, S46.2.2))))))
def e_readMark_31 (x2 : Int32) (S : ms) (K : Int32 → ms → Prop) : Prop :=
  ∃ (I : Int32 → ms → Prop) (μ : Int32 → ms → Nat), I x2 S ∧ ∀ yx2 yS, I yx2 yS → b_readMark_31 yx2 yS (fun zx2 zS => I zx2 zS ∧ μ zx2 zS < μ yx2 yS) K
def p_readMark  (S : ms) (K : Int32 → ms → Prop) : Prop :=
  p_next S (fun v6 S6 => (¬ (S6.1 35) = 0 → (e_readMark_31 v6 (S6.1, S6.2.1, S6.2.2) K)) ∧ ((S6.1 35) = 0 → ((v6 = 255 → (e_readMark_31 v6 (S6.1, S6.2.1, S6.2.2) K)) ∧ (¬ (v6 = 255) → (p_fail 2 (S.1 34) (S6.1, S6.2.1, S6.2.2) (fun v27 S27 => e_readMark_31 v6 (S27.1, S27.2.1, S27.2.2) K))))))
def p_nextTwo  (S : ms) (K : Int32 → ms → Prop) : Prop :=
  p_next S (fun v1 S1 => p_next (S1.1, S1.2.1, S1.2.2) (fun v6 S6 => K ((256 * v1) + v6) (S6.1, S6.2.1, S6.2.2)))
def b_readLength_45  (S : ms) (K : ms → Prop) : Prop :=
  K S
def p_readLength  (S : ms) (K : ms → Prop) : Prop :=
  p_nextTwo (upd S.1 37 (S.1 34), S.2.1, S.2.2) (fun v9 S9 => (¬ ((upd S9.1 36 ((S9.1 37) + v9)) 35) = 0 → (b_readLength_45 (upd S9.1 36 ((S9.1 37) + v9), S9.2.1, S9.2.2) K)) ∧ (((upd S9.1 36 ((S9.1 37) + v9)) 35) = 0 → ((2 ≤ v9 → (b_readLength_45 (upd S9.1 36 ((S9.1 37) + v9), S9.2.1, S9.2.2) K)) ∧ (¬ (2 ≤ v9) → (p_fail 4 ((upd S9.1 36 ((S9.1 37) + v9)) 37) (upd S9.1 36 ((S9.1 37) + v9), S9.2.1, S9.2.2) (fun v41 S41 => b_readLength_45 (S41.1, S41.2.1, S41.2.2) K))))))
def b_must_18  (S : ms) (K : ms → Prop) : Prop :=
  K S
def p_must (x1 : Int32) (x2 : Int32) (S : ms) (K : ms → Prop) : Prop :=
  (¬ (S.1 35) = 0 → (b_must_18 S K)) ∧ ((S.1 35) = 0 → ((¬ x1 = 0 → (b_must_18 S K)) ∧ (x1 = 0 → (p_fail 5 x2 S (fun v14 S14 => b_must_18 (S14.1, S14.2.1, S14.2.2) K)))))
def b_readTables_144  (S : ms) (K : ms → Prop) : Prop :=
  K S
def b_readTables_140 (s0 : Int32) (S : ms) (R2 : Int32 → ms → Prop) (K : ms → Prop) : Prop :=
  R2 s0 S
def b_readTables_124  (S : ms) (R2 : Int32 → ms → Prop) (K : ms → Prop) : Prop :=
  ((S.1 36) ≤ (S.1 34) → (b_readTables_140 0 S R2 K)) ∧ (¬ ((S.1 36) ≤ (S.1 34)) → (b_readTables_140 1 S R2 K))
def b_readTables_110 (x2 : Int32) (S : ms) (R2 : Int32 → ms → Prop) (K : ms → Prop) : Prop :=
  (¬ (S.1 35) = 0 → (b_readTables_124 S R2 K)) ∧ ((S.1 35) = 0 → (vp_in x2 4 ∧ (b_readTables_124 (S.1, va_up S.2.1 39 (upd (S.2.1 39) x2.toNatClampNeg (vp_nar .boolean 1)), S.2.2) R2 K)))
def b_readTables_104 (x2 : Int32) (x3 : Int32) (S : ms) (R2 : Int32 → ms → Prop) (R40 : Int32 → Int32 → ms → Prop) (K : ms → Prop) : Prop :=
  R40 x2 (x3 + 1) S
def b_readTables_70 (x2 : Int32) (x3 : Int32) (x4 : Int32) (s1 : Int32) (S : ms) (R2 : Int32 → ms → Prop) (R40 : Int32 → Int32 → ms → Prop) (K : ms → Prop) : Prop :=
  p_must s1 ((S.1 34) - 1) S (fun S76 => (¬ (S76.1 35) = 0 → (b_readTables_104 x2 x3 (S76.1, S76.2.1, S76.2.2) R2 R40 K)) ∧ ((S76.1 35) = 0 → (vp_in x3 64 ∧ (vp_in ((64 * x2) + (S76.2.1 22 x3.toNatClampNeg)) 256 ∧ (b_readTables_104 x2 x3 (S76.1, va_up S76.2.1 38 (upd (S76.2.1 38) ((64 * x2) + (S76.2.1 22 x3.toNatClampNeg)).toNatClampNeg x4), S76.2.2) R2 R40 K)))))
def b_readTables_40 (x2 : Int32) (x3 : Int32) (S : ms) (R2 : Int32 → ms → Prop) (R40 : Int32 → Int32 → ms → Prop) (K : ms → Prop) : Prop :=
  (64 ≤ x3 → (b_readTables_110 x2 S R2 K)) ∧ (¬ (64 ≤ x3) → ((¬ (S.1 35) = 0 → (b_readTables_110 x2 S R2 K)) ∧ ((S.1 35) = 0 → (p_nextWithin S (fun v54 S54 => (v54 ≤ 0 → (b_readTables_70 x2 x3 v54 0 (S54.1, S54.2.1, S54.2.2) R2 R40 K)) ∧ (¬ (v54 ≤ 0) → (b_readTables_70 x2 x3 v54 1 (S54.1, S54.2.1, S54.2.2) R2 R40 K)))))))
def e_readTables_40 (x2 : Int32) (x3 : Int32) (S : ms) (R2 : Int32 → ms → Prop) (K : ms → Prop) : Prop :=
  ∃ (I : Int32 → Int32 → ms → Prop) (μ : Int32 → Int32 → ms → Nat), I x2 x3 S ∧ ∀ yx2 yx3 yS, I yx2 yx3 yS → b_readTables_40 yx2 yx3 yS R2 (fun zx2 zx3 zS => I zx2 zx3 zS ∧ μ zx2 zx3 zS < μ yx2 yx3 yS) K
def b_readTables_29 (x2 : Int32) (s1 : Int32) (S : ms) (R2 : Int32 → ms → Prop) (K : ms → Prop) : Prop :=
  p_must s1 ((S.1 34) - 1) S (fun S35 => e_readTables_40 x2 0 (S35.1, S35.2.1, S35.2.2) R2 K)
def b_readTables_2 (x1 : Int32) (S : ms) (R2 : Int32 → ms → Prop) (K : ms → Prop) : Prop :=
  (x1 = 0 → (b_readTables_144 S K)) ∧ (¬ (x1 = 0) → ((¬ (S.1 35) = 0 → (b_readTables_144 S K)) ∧ ((S.1 35) = 0 → (p_nextWithin S (fun v14 S14 => (4 ≤ v14 → (b_readTables_29 v14 0 (S14.1, S14.2.1, S14.2.2) R2 K)) ∧ (¬ (4 ≤ v14) → (b_readTables_29 v14 1 (S14.1, S14.2.1, S14.2.2) R2 K)))))))
def e_readTables_2 (x1 : Int32) (S : ms) (K : ms → Prop) : Prop :=
  ∃ (I : Int32 → ms → Prop) (μ : Int32 → ms → Nat), I x1 S ∧ ∀ yx1 yS, I yx1 yS → b_readTables_2 yx1 yS (fun zx1 zS => I zx1 zS ∧ μ zx1 zS < μ yx1 yS) K
def p_readTables  (S : ms) (K : ms → Prop) : Prop :=
  e_readTables_2 1 S K
def b_readCodes_362  (S : ms) (K : ms → Prop) : Prop :=
  K S
def b_readCodes_358 (s0 : Int32) (S : ms) (R2 : Int32 → ms → Prop) (K : ms → Prop) : Prop :=
  R2 s0 S
def b_readCodes_342  (S : ms) (R2 : Int32 → ms → Prop) (K : ms → Prop) : Prop :=
  ((S.1 36) ≤ (S.1 34) → (b_readCodes_358 0 S R2 K)) ∧ (¬ ((S.1 36) ≤ (S.1 34)) → (b_readCodes_358 1 S R2 K))
def b_readCodes_328 (x3 : Int32) (S : ms) (R2 : Int32 → ms → Prop) (K : ms → Prop) : Prop :=
  (¬ (S.1 35) = 0 → (b_readCodes_342 S R2 K)) ∧ ((S.1 35) = 0 → (vp_in x3 4 ∧ (b_readCodes_342 (S.1, va_up S.2.1 42 (upd (S.2.1 42) x3.toNatClampNeg (vp_nar .boolean 1)), S.2.2) R2 K)))
def b_readCodes_322 (x3 : Int32) (x5 : Int32) (x8 : Int32) (S : ms) (R2 : Int32 → ms → Prop) (R213 : Int32 → Int32 → Int32 → ms → Prop) (K : ms → Prop) : Prop :=
  R213 x3 x5 (x8 + 1) S
def b_readCodes_291 (x3 : Int32) (x5 : Int32) (x8 : Int32) (x9 : Int32) (s1 : Int32) (S : ms) (R2 : Int32 → ms → Prop) (R213 : Int32 → Int32 → Int32 → ms → Prop) (K : ms → Prop) : Prop :=
  p_must s1 ((S.1 34) - 1) S (fun S297 => (¬ (S297.1 35) = 0 → (b_readCodes_322 x3 x5 x8 (S297.1, S297.2.1, S297.2.2) R2 R213 K)) ∧ ((S297.1 35) = 0 → (vp_in ((256 * x3) + x8) 1024 ∧ (b_readCodes_322 x3 x5 x8 (S297.1, va_up S297.2.1 41 (upd (S297.2.1 41) ((256 * x3) + x8).toNatClampNeg x9), S297.2.2) R2 R213 K))))
def b_readCodes_290 (x3 : Int32) (x5 : Int32) (x8 : Int32) (x9 : Int32) (S : ms) (R2 : Int32 → ms → Prop) (R213 : Int32 → Int32 → Int32 → ms → Prop) (K : ms → Prop) : Prop :=
  b_readCodes_291 x3 x5 x8 x9 0 S R2 R213 K
def b_readCodes_286 (x3 : Int32) (x5 : Int32) (x8 : Int32) (x9 : Int32) (S : ms) (R2 : Int32 → ms → Prop) (R213 : Int32 → Int32 → Int32 → ms → Prop) (K : ms → Prop) : Prop :=
  b_readCodes_291 x3 x5 x8 x9 1 S R2 R213 K
def b_readCodes_213 (x3 : Int32) (x5 : Int32) (x8 : Int32) (S : ms) (R2 : Int32 → ms → Prop) (R213 : Int32 → Int32 → Int32 → ms → Prop) (K : ms → Prop) : Prop :=
  (x5 ≤ x8 → (b_readCodes_328 x3 S R2 K)) ∧ (¬ (x5 ≤ x8) → ((¬ (S.1 35) = 0 → (b_readCodes_328 x3 S R2 K)) ∧ ((S.1 35) = 0 → (p_nextWithin S (fun v228 S228 => (2 ≤ x3 → ((v228 = 0 → (b_readCodes_286 x3 x5 x8 v228 (S228.1, S228.2.1, S228.2.2) R2 R213 K)) ∧ (¬ (v228 = 0) → ((v228 = 240 → (b_readCodes_286 x3 x5 x8 v228 (S228.1, S228.2.1, S228.2.2) R2 R213 K)) ∧ (¬ (v228 = 240) → (((v228 &&& 15) ≤ 0 → (b_readCodes_290 x3 x5 x8 v228 (S228.1, S228.2.1, S228.2.2) R2 R213 K)) ∧ (¬ ((v228 &&& 15) ≤ 0) → ((11 ≤ (v228 &&& 15) → (b_readCodes_290 x3 x5 x8 v228 (S228.1, S228.2.1, S228.2.2) R2 R213 K)) ∧ (¬ (11 ≤ (v228 &&& 15)) → (b_readCodes_286 x3 x5 x8 v228 (S228.1, S228.2.1, S228.2.2) R2 R213 K)))))))))) ∧ (¬ (2 ≤ x3) → ((12 ≤ v228 → (b_readCodes_291 x3 x5 x8 v228 0 (S228.1, S228.2.1, S228.2.2) R2 R213 K)) ∧ (¬ (12 ≤ v228) → (b_readCodes_291 x3 x5 x8 v228 1 (S228.1, S228.2.1, S228.2.2) R2 R213 K)))))))))
def e_readCodes_213 (x3 : Int32) (x5 : Int32) (x8 : Int32) (S : ms) (R2 : Int32 → ms → Prop) (K : ms → Prop) : Prop :=
  ∃ (I : Int32 → Int32 → Int32 → ms → Prop) (μ : Int32 → Int32 → Int32 → ms → Nat), I x3 x5 x8 S ∧ ∀ yx3 yx5 yx8 yS, I yx3 yx5 yx8 yS → b_readCodes_213 yx3 yx5 yx8 yS R2 (fun zx3 zx5 zx8 zS => I zx3 zx5 zx8 zS ∧ μ zx3 zx5 zx8 zS < μ yx3 yx5 yx8 yS) K
def b_readCodes_205 (x3 : Int32) (x4 : Int32) (x5 : Int32) (s1 : Int32) (S : ms) (R2 : Int32 → ms → Prop) (K : ms → Prop) : Prop :=
  p_must s1 x4 S (fun S207 => e_readCodes_213 x3 x5 0 (S207.1, S207.2.1, S207.2.2) R2 K)
def b_readCodes_204 (x3 : Int32) (x4 : Int32) (x5 : Int32) (S : ms) (R2 : Int32 → ms → Prop) (K : ms → Prop) : Prop :=
  b_readCodes_205 x3 x4 x5 0 S R2 K
def b_readCodes_186 (x3 : Int32) (x4 : Int32) (x5 : Int32) (x7 : Int32) (S : ms) (R2 : Int32 → ms → Prop) (K : ms → Prop) : Prop :=
  (x7 = 0 → (b_readCodes_204 x3 x4 x5 S R2 K)) ∧ (¬ (x7 = 0) → ((256 < x5 → (b_readCodes_204 x3 x4 x5 S R2 K)) ∧ (¬ (256 < x5) → (b_readCodes_205 x3 x4 x5 1 S R2 K))))
def b_readCodes_180 (x3 : Int32) (x4 : Int32) (x5 : Int32) (x6 : Int32) (x7 : Int32) (x8 : Int32) (S : ms) (R2 : Int32 → ms → Prop) (R82 : Int32 → Int32 → Int32 → Int32 → Int32 → Int32 → ms → Prop) (K : ms → Prop) : Prop :=
  R82 x3 x4 x5 x6 x7 (x8 + 1) S
def b_readCodes_178 (x3 : Int32) (x4 : Int32) (x5 : Int32) (x7 : Int32) (x8 : Int32) (s0 : Int32) (S : ms) (R2 : Int32 → ms → Prop) (R82 : Int32 → Int32 → Int32 → Int32 → Int32 → Int32 → ms → Prop) (K : ms → Prop) : Prop :=
  b_readCodes_180 x3 x4 x5 s0 x7 x8 S R2 R82 K
def b_readCodes_160 (x3 : Int32) (x4 : Int32) (x5 : Int32) (x6 : Int32) (x8 : Int32) (s0 : Int32) (S : ms) (R2 : Int32 → ms → Prop) (R82 : Int32 → Int32 → Int32 → Int32 → Int32 → Int32 → ms → Prop) (K : ms → Prop) : Prop :=
  (x6 ≤ 100000 → (b_readCodes_178 x3 x4 x5 s0 x8 x6 S R2 R82 K)) ∧ (¬ (x6 ≤ 100000) → (b_readCodes_178 x3 x4 x5 s0 x8 100000 S R2 R82 K))
def b_readCodes_159 (x3 : Int32) (x4 : Int32) (x5 : Int32) (x6 : Int32) (x8 : Int32) (S : ms) (R2 : Int32 → ms → Prop) (R82 : Int32 → Int32 → Int32 → Int32 → Int32 → Int32 → ms → Prop) (K : ms → Prop) : Prop :=
  b_readCodes_160 x3 x4 x5 x6 x8 0 S R2 R82 K
def b_readCodes_82 (x3 : Int32) (x4 : Int32) (x5 : Int32) (x6 : Int32) (x7 : Int32) (x8 : Int32) (S : ms) (R2 : Int32 → ms → Prop) (R82 : Int32 → Int32 → Int32 → Int32 → Int32 → Int32 → ms → Prop) (K : ms → Prop) : Prop :=
  (16 ≤ x8 → (b_readCodes_186 x3 x4 x5 x7 S R2 K)) ∧ (¬ (16 ≤ x8) → ((¬ (S.1 35) = 0 → (b_readCodes_186 x3 x4 x5 x7 S R2 K)) ∧ ((S.1 35) = 0 → (p_nextWithin S (fun v97 S97 => (¬ (S97.1 35) = 0 → (b_readCodes_180 x3 x4 x5 x6 x7 x8 (S97.1, S97.2.1, S97.2.2) R2 R82 K)) ∧ ((S97.1 35) = 0 → (vp_in ((16 * x3) + x8) 64 ∧ ((x7 = 0 → (b_readCodes_159 x3 x4 (x5 + v97) ((2 * x6) + v97) x8 (S97.1, va_up S97.2.1 40 (upd (S97.2.1 40) ((16 * x3) + x8).toNatClampNeg v97), S97.2.2) R2 R82 K)) ∧ (¬ (x7 = 0) → ((((1 : Int32) <<< ((x8 + 1) &&& 31 : Int32) : Int32) ≤ ((2 * x6) + v97) → (b_readCodes_159 x3 x4 (x5 + v97) ((2 * x6) + v97) x8 (S97.1, va_up S97.2.1 40 (upd (S97.2.1 40) ((16 * x3) + x8).toNatClampNeg v97), S97.2.2) R2 R82 K)) ∧ (¬ (((1 : Int32) <<< ((x8 + 1) &&& 31 : Int32) : Int32) ≤ ((2 * x6) + v97)) → (b_readCodes_160 x3 x4 (x5 + v97) ((2 * x6) + v97) x8 1 (S97.1, va_up S97.2.1 40 (upd (S97.2.1 40) ((16 * x3) + x8).toNatClampNeg v97), S97.2.2) R2 R82 K))))))))))))
def e_readCodes_82 (x3 : Int32) (x4 : Int32) (x5 : Int32) (x6 : Int32) (x7 : Int32) (x8 : Int32) (S : ms) (R2 : Int32 → ms → Prop) (K : ms → Prop) : Prop :=
  ∃ (I : Int32 → Int32 → Int32 → Int32 → Int32 → Int32 → ms → Prop) (μ : Int32 → Int32 → Int32 → Int32 → Int32 → Int32 → ms → Nat), I x3 x4 x5 x6 x7 x8 S ∧ ∀ yx3 yx4 yx5 yx6 yx7 yx8 yS, I yx3 yx4 yx5 yx6 yx7 yx8 yS → b_readCodes_82 yx3 yx4 yx5 yx6 yx7 yx8 yS R2 (fun zx3 zx4 zx5 zx6 zx7 zx8 zS => I zx3 zx4 zx5 zx6 zx7 zx8 zS ∧ μ zx3 zx4 zx5 zx6 zx7 zx8 zS < μ yx3 yx4 yx5 yx6 yx7 yx8 yS) K
def b_readCodes_63 (s0 : Int32) (S : ms) (R2 : Int32 → ms → Prop) (K : ms → Prop) : Prop :=
  e_readCodes_82 s0 (S.1 34) 0 0 1 0 S R2 K
def b_readCodes_41 (x2 : Int32) (s1 : Int32) (S : ms) (R2 : Int32 → ms → Prop) (K : ms → Prop) : Prop :=
  p_must s1 ((S.1 34) - 1) S (fun S47 => (2 ≤ x2 → (b_readCodes_63 (x2 - 14) (S47.1, S47.2.1, S47.2.2) R2 K)) ∧ (¬ (2 ≤ x2) → (b_readCodes_63 x2 (S47.1, S47.2.1, S47.2.2) R2 K)))
def b_readCodes_36 (x2 : Int32) (S : ms) (R2 : Int32 → ms → Prop) (K : ms → Prop) : Prop :=
  b_readCodes_41 x2 1 S R2 K
def b_readCodes_2 (x1 : Int32) (S : ms) (R2 : Int32 → ms → Prop) (K : ms → Prop) : Prop :=
  (x1 = 0 → (b_readCodes_362 S K)) ∧ (¬ (x1 = 0) → ((¬ (S.1 35) = 0 → (b_readCodes_362 S K)) ∧ ((S.1 35) = 0 → (p_nextWithin S (fun v14 S14 => (v14 < 2 → (b_readCodes_36 v14 (S14.1, S14.2.1, S14.2.2) R2 K)) ∧ (¬ (v14 < 2) → ((v14 = 16 → (b_readCodes_36 v14 (S14.1, S14.2.1, S14.2.2) R2 K)) ∧ (¬ (v14 = 16) → ((¬ v14 = 17 → (b_readCodes_41 v14 0 (S14.1, S14.2.1, S14.2.2) R2 K)) ∧ (v14 = 17 → (b_readCodes_36 v14 (S14.1, S14.2.1, S14.2.2) R2 K)))))))))))
def e_readCodes_2 (x1 : Int32) (S : ms) (K : ms → Prop) : Prop :=
  ∃ (I : Int32 → ms → Prop) (μ : Int32 → ms → Nat), I x1 S ∧ ∀ yx1 yS, I yx1 yS → b_readCodes_2 yx1 yS (fun zx1 zS => I zx1 zS ∧ μ zx1 zS < μ yx1 yS) K
def p_readCodes  (S : ms) (K : ms → Prop) : Prop :=
  e_readCodes_2 1 S K
def b_readFrame_465  (S : ms) (K : ms → Prop) : Prop :=
  K S
def b_readFrame_426 (x2 : Int32) (x3 : Int32) (x4 : Int32) (S : ms) (K : ms → Prop) : Prop :=
  (¬ (S.1 35) = 0 → (b_readFrame_465 S K)) ∧ ((S.1 35) = 0 → (vp_in 2 3 ∧ (vp_in 2 3 ∧ (vp_in 2 3 ∧ (p_makeGrids 2 (upd S.1 43 1, va_up (va_up (va_up S.2.1 12 (upd (S.2.1 12) (2 : Int32).toNatClampNeg x3)) 13 (upd ((va_up S.2.1 12 (upd (S.2.1 12) (2 : Int32).toNatClampNeg x3)) 13) (2 : Int32).toNatClampNeg x2)) 14 (upd ((va_up (va_up S.2.1 12 (upd (S.2.1 12) (2 : Int32).toNatClampNeg x3)) 13 (upd ((va_up S.2.1 12 (upd (S.2.1 12) (2 : Int32).toNatClampNeg x3)) 13) (2 : Int32).toNatClampNeg x2)) 14) (2 : Int32).toNatClampNeg x4), S.2.2) (fun S462 => b_readFrame_465 (S462.1, S462.2.1, S462.2.2) K))))))
def b_readFrame_411 (x2 : Int32) (x3 : Int32) (x4 : Int32) (x5 : Int32) (s1 : Int32) (S : ms) (R192 : Int32 → Int32 → Int32 → Int32 → ms → Prop) (K : ms → Prop) : Prop :=
  p_must s1 ((S.1 34) - 1) S (fun S417 => R192 x2 x3 x4 (x5 + 1) (S417.1, S417.2.1, S417.2.2))
def b_readFrame_393 (x2 : Int32) (x3 : Int32) (x4 : Int32) (x5 : Int32) (s1 : Int32) (s2 : Int32) (S : ms) (R192 : Int32 → Int32 → Int32 → Int32 → ms → Prop) (K : ms → Prop) : Prop :=
  vp_in s1 3 ∧ (vp_in x5 3 ∧ ((4 ≤ ((va_up S.2.1 45 (upd (S.2.1 45) s1.toNatClampNeg s2)) 45 x5.toNatClampNeg) → (b_readFrame_411 x2 x3 x4 x5 0 (S.1, va_up S.2.1 45 (upd (S.2.1 45) s1.toNatClampNeg s2), S.2.2) R192 K)) ∧ (¬ (4 ≤ ((va_up S.2.1 45 (upd (S.2.1 45) s1.toNatClampNeg s2)) 45 x5.toNatClampNeg)) → (b_readFrame_411 x2 x3 x4 x5 1 (S.1, va_up S.2.1 45 (upd (S.2.1 45) s1.toNatClampNeg s2), S.2.2) R192 K))))
def b_readFrame_334 (x2 : Int32) (x3 : Int32) (x4 : Int32) (x5 : Int32) (x7 : Int32) (s1 : Int32) (S : ms) (R192 : Int32 → Int32 → Int32 → Int32 → ms → Prop) (K : ms → Prop) : Prop :=
  p_must s1 ((S.1 34) - 1) S (fun S340 => vp_in (6 + x5) 9 ∧ (vp_in (6 + x5) 9 ∧ ((¬ (S340.1 35) = 0 → (b_readFrame_393 x2 x3 x4 x5 x5 0 (S340.1, va_up (va_up S340.2.1 15 (upd (S340.2.1 15) (6 + x5).toNatClampNeg (x7 >>> (4 &&& 31 : Int32) : Int32))) 16 (upd ((va_up S340.2.1 15 (upd (S340.2.1 15) (6 + x5).toNatClampNeg (x7 >>> (4 &&& 31 : Int32) : Int32))) 16) (6 + x5).toNatClampNeg (x7 &&& 15)), S340.2.2) R192 K)) ∧ ((S340.1 35) = 0 → (p_next (S340.1, va_up (va_up S340.2.1 15 (upd (S340.2.1 15) (6 + x5).toNatClampNeg (x7 >>> (4 &&& 31 : Int32) : Int32))) 16 (upd ((va_up S340.2.1 15 (upd (S340.2.1 15) (6 + x5).toNatClampNeg (x7 >>> (4 &&& 31 : Int32) : Int32))) 16) (6 + x5).toNatClampNeg (x7 &&& 15)), S340.2.2) (fun v386 S386 => b_readFrame_393 x2 x3 x4 x5 x5 v386 (S386.1, S386.2.1, S386.2.2) R192 K))))))
def b_readFrame_333 (x2 : Int32) (x3 : Int32) (x4 : Int32) (x5 : Int32) (x7 : Int32) (S : ms) (R192 : Int32 → Int32 → Int32 → Int32 → ms → Prop) (K : ms → Prop) : Prop :=
  b_readFrame_334 x2 x3 x4 x5 x7 0 S R192 K
def b_readFrame_329 (x2 : Int32) (x3 : Int32) (x4 : Int32) (x5 : Int32) (x7 : Int32) (S : ms) (R192 : Int32 → Int32 → Int32 → Int32 → ms → Prop) (K : ms → Prop) : Prop :=
  b_readFrame_334 x2 x3 x4 x5 x7 1 S R192 K
def b_readFrame_311 (x2 : Int32) (x3 : Int32) (x4 : Int32) (x5 : Int32) (x7 : Int32) (S : ms) (R192 : Int32 → Int32 → Int32 → Int32 → ms → Prop) (K : ms → Prop) : Prop :=
  ((x7 &&& 15) = 1 → (b_readFrame_329 x2 x3 x4 x5 x7 S R192 K)) ∧ (¬ ((x7 &&& 15) = 1) → ((¬ (x7 &&& 15) = 2 → (b_readFrame_333 x2 x3 x4 x5 x7 S R192 K)) ∧ ((x7 &&& 15) = 2 → (b_readFrame_329 x2 x3 x4 x5 x7 S R192 K))))
def b_readFrame_292 (x2 : Int32) (x3 : Int32) (x4 : Int32) (x5 : Int32) (s0 : Int32) (S : ms) (R192 : Int32 → Int32 → Int32 → Int32 → ms → Prop) (K : ms → Prop) : Prop :=
  ((s0 >>> (4 &&& 31 : Int32) : Int32) = 1 → (b_readFrame_311 x2 x3 x4 x5 s0 S R192 K)) ∧ (¬ ((s0 >>> (4 &&& 31 : Int32) : Int32) = 1) → ((¬ (s0 >>> (4 &&& 31 : Int32) : Int32) = 2 → (b_readFrame_333 x2 x3 x4 x5 s0 S R192 K)) ∧ ((s0 >>> (4 &&& 31 : Int32) : Int32) = 2 → (b_readFrame_311 x2 x3 x4 x5 s0 S R192 K))))
def b_readFrame_257 (x2 : Int32) (x3 : Int32) (x4 : Int32) (x5 : Int32) (x7 : Int32) (s0 : Int32) (S : ms) (R192 : Int32 → Int32 → Int32 → Int32 → ms → Prop) (R223 : Int32 → Int32 → Int32 → Int32 → Int32 → Int32 → ms → Prop) (K : ms → Prop) : Prop :=
  R223 x2 x3 x4 x5 s0 (x7 + 1) S
def b_readFrame_256 (x2 : Int32) (x3 : Int32) (x4 : Int32) (x5 : Int32) (x7 : Int32) (S : ms) (R192 : Int32 → Int32 → Int32 → Int32 → ms → Prop) (R223 : Int32 → Int32 → Int32 → Int32 → Int32 → Int32 → ms → Prop) (K : ms → Prop) : Prop :=
  b_readFrame_257 x2 x3 x4 x5 x7 0 S R192 R223 K
def b_readFrame_223 (x2 : Int32) (x3 : Int32) (x4 : Int32) (x5 : Int32) (x6 : Int32) (x7 : Int32) (S : ms) (R192 : Int32 → Int32 → Int32 → Int32 → ms → Prop) (R223 : Int32 → Int32 → Int32 → Int32 → Int32 → Int32 → ms → Prop) (K : ms → Prop) : Prop :=
  (x5 ≤ x7 → (p_must x6 ((S.1 34) - 1) S (fun S274 => (¬ (S274.1 35) = 0 → (b_readFrame_292 x2 x3 x4 x5 0 (S274.1, S274.2.1, S274.2.2) R192 K)) ∧ ((S274.1 35) = 0 → (p_next (S274.1, S274.2.1, S274.2.2) (fun v285 S285 => b_readFrame_292 x2 x3 x4 x5 v285 (S285.1, S285.2.1, S285.2.2) R192 K)))))) ∧ (¬ (x5 ≤ x7) → ((x6 = 0 → (b_readFrame_256 x2 x3 x4 x5 x7 S R192 R223 K)) ∧ (¬ (x6 = 0) → (vp_in x7 3 ∧ (vp_in x5 3 ∧ (((S.2.1 44 x7.toNatClampNeg) = (S.2.1 44 x5.toNatClampNeg) → (b_readFrame_256 x2 x3 x4 x5 x7 S R192 R223 K)) ∧ (¬ ((S.2.1 44 x7.toNatClampNeg) = (S.2.1 44 x5.toNatClampNeg)) → (b_readFrame_257 x2 x3 x4 x5 x7 1 S R192 R223 K))))))))
def e_readFrame_223 (x2 : Int32) (x3 : Int32) (x4 : Int32) (x5 : Int32) (x6 : Int32) (x7 : Int32) (S : ms) (R192 : Int32 → Int32 → Int32 → Int32 → ms → Prop) (K : ms → Prop) : Prop :=
  ∃ (I : Int32 → Int32 → Int32 → Int32 → Int32 → Int32 → ms → Prop) (μ : Int32 → Int32 → Int32 → Int32 → Int32 → Int32 → ms → Nat), I x2 x3 x4 x5 x6 x7 S ∧ ∀ yx2 yx3 yx4 yx5 yx6 yx7 yS, I yx2 yx3 yx4 yx5 yx6 yx7 yS → b_readFrame_223 yx2 yx3 yx4 yx5 yx6 yx7 yS R192 (fun zx2 zx3 zx4 zx5 zx6 zx7 zS => I zx2 zx3 zx4 zx5 zx6 zx7 zS ∧ μ zx2 zx3 zx4 zx5 zx6 zx7 zS < μ yx2 yx3 yx4 yx5 yx6 yx7 yS) K
def b_readFrame_192 (x2 : Int32) (x3 : Int32) (x4 : Int32) (x5 : Int32) (S : ms) (R192 : Int32 → Int32 → Int32 → Int32 → ms → Prop) (K : ms → Prop) : Prop :=
  (x4 ≤ x5 → (b_readFrame_426 x2 x3 x4 S K)) ∧ (¬ (x4 ≤ x5) → ((¬ (S.1 35) = 0 → (b_readFrame_426 x2 x3 x4 S K)) ∧ ((S.1 35) = 0 → (p_next S (fun v213 S213 => vp_in x5 3 ∧ (e_readFrame_223 x2 x3 x4 x5 1 0 (S213.1, va_up S213.2.1 44 (upd (S213.2.1 44) x5.toNatClampNeg v213), S213.2.2) R192 K))))))
def e_readFrame_192 (x2 : Int32) (x3 : Int32) (x4 : Int32) (x5 : Int32) (S : ms) (K : ms → Prop) : Prop :=
  ∃ (I : Int32 → Int32 → Int32 → Int32 → ms → Prop) (μ : Int32 → Int32 → Int32 → Int32 → ms → Nat), I x2 x3 x4 x5 S ∧ ∀ yx2 yx3 yx4 yx5 yS, I yx2 yx3 yx4 yx5 yS → b_readFrame_192 yx2 yx3 yx4 yx5 yS (fun zx2 zx3 zx4 zx5 zS => I zx2 zx3 zx4 zx5 zS ∧ μ zx2 zx3 zx4 zx5 zS < μ yx2 yx3 yx4 yx5 yS) K
def b_readFrame_189 (x2 : Int32) (x3 : Int32) (x4 : Int32) (S : ms) (K : ms → Prop) : Prop :=
  e_readFrame_192 x2 x3 x4 0 S K
def b_readFrame_143 (x2 : Int32) (x3 : Int32) (x4 : Int32) (s1 : Int32) (S : ms) (K : ms → Prop) : Prop :=
  p_must s1 ((S.1 34) - 1) S (fun S149 => (¬ (S149.1 35) = 0 → (b_readFrame_189 x2 x3 x4 (S149.1, S149.2.1, S149.2.2) K)) ∧ ((S149.1 35) = 0 → ((((S149.1 36) - (S149.1 37)) = (8 + (3 * x4)) → (b_readFrame_189 x2 x3 x4 (S149.1, S149.2.1, S149.2.2) K)) ∧ (¬ (((S149.1 36) - (S149.1 37)) = (8 + (3 * x4))) → (p_fail 4 (S149.1 37) (S149.1, S149.2.1, S149.2.2) (fun v184 S184 => b_readFrame_189 x2 x3 x4 (S184.1, S184.2.1, S184.2.2) K))))))
def b_readFrame_138 (x2 : Int32) (x3 : Int32) (x4 : Int32) (S : ms) (K : ms → Prop) : Prop :=
  b_readFrame_143 x2 x3 x4 1 S K
def b_readFrame_123 (x2 : Int32) (x3 : Int32) (s0 : Int32) (S : ms) (K : ms → Prop) : Prop :=
  (s0 = 1 → (b_readFrame_138 x2 x3 s0 S K)) ∧ (¬ (s0 = 1) → ((¬ s0 = 3 → (b_readFrame_143 x2 x3 s0 0 S K)) ∧ (s0 = 3 → (b_readFrame_138 x2 x3 s0 S K))))
def b_readFrame_99 (x2 : Int32) (x3 : Int32) (s1 : Int32) (S : ms) (K : ms → Prop) : Prop :=
  p_must s1 ((S.1 34) - 2) S (fun S105 => (¬ (S105.1 35) = 0 → (b_readFrame_123 x2 x3 0 (S105.1, S105.2.1, S105.2.2) K)) ∧ ((S105.1 35) = 0 → (p_next (S105.1, S105.2.1, S105.2.2) (fun v116 S116 => b_readFrame_123 x2 x3 v116 (S116.1, S116.2.1, S116.2.2) K))))
def b_readFrame_98 (x2 : Int32) (x3 : Int32) (S : ms) (K : ms → Prop) : Prop :=
  b_readFrame_99 x2 x3 0 S K
def b_readFrame_82 (x2 : Int32) (s0 : Int32) (S : ms) (K : ms → Prop) : Prop :=
  (s0 ≤ 0 → (b_readFrame_98 x2 s0 S K)) ∧ (¬ (s0 ≤ 0) → ((65 ≤ s0 → (b_readFrame_98 x2 s0 S K)) ∧ (¬ (65 ≤ s0) → (b_readFrame_99 x2 s0 1 S K))))
def b_readFrame_58 (x2 : Int32) (s1 : Int32) (S : ms) (K : ms → Prop) : Prop :=
  p_must s1 ((S.1 34) - 2) S (fun S64 => (¬ (S64.1 35) = 0 → (b_readFrame_82 x2 0 (S64.1, S64.2.1, S64.2.2) K)) ∧ ((S64.1 35) = 0 → (p_nextTwo (S64.1, S64.2.1, S64.2.2) (fun v75 S75 => b_readFrame_82 x2 v75 (S75.1, S75.2.1, S75.2.2) K))))
def b_readFrame_57 (x2 : Int32) (S : ms) (K : ms → Prop) : Prop :=
  b_readFrame_58 x2 0 S K
def b_readFrame_41 (s0 : Int32) (S : ms) (K : ms → Prop) : Prop :=
  (s0 ≤ 0 → (b_readFrame_57 s0 S K)) ∧ (¬ (s0 ≤ 0) → ((65 ≤ s0 → (b_readFrame_57 s0 S K)) ∧ (¬ (65 ≤ s0) → (b_readFrame_58 s0 1 S K))))
def b_readFrame_17 (s1 : Int32) (S : ms) (K : ms → Prop) : Prop :=
  p_must s1 ((S.1 34) - 1) S (fun S23 => (¬ (S23.1 35) = 0 → (b_readFrame_41 0 (S23.1, S23.2.1, S23.2.2) K)) ∧ ((S23.1 35) = 0 → (p_nextTwo (S23.1, S23.2.1, S23.2.2) (fun v34 S34 => b_readFrame_41 v34 (S34.1, S34.2.1, S34.2.2) K))))
def p_readFrame  (S : ms) (K : ms → Prop) : Prop :=
  p_next S (fun v1 S1 => (¬ v1 = 8 → (b_readFrame_17 0 (S1.1, S1.2.1, S1.2.2) K)) ∧ (v1 = 8 → (b_readFrame_17 1 (S1.1, S1.2.1, S1.2.2) K)))
def b_layerNamed_29 (x1 : Int32) (x3 : Int32) (s0 : Int32) (S : ms) (R4 : Int32 → Int32 → Int32 → ms → Prop) (K : Int32 → ms → Prop) : Prop :=
  R4 x1 s0 (x3 + 1) S
def b_layerNamed_4 (x1 : Int32) (x2 : Int32) (x3 : Int32) (S : ms) (R4 : Int32 → Int32 → Int32 → ms → Prop) (K : Int32 → ms → Prop) : Prop :=
  vp_in 2 3 ∧ (((S.2.1 14 (2 : Int32).toNatClampNeg) ≤ x3 → (K x2 S)) ∧ (¬ ((S.2.1 14 (2 : Int32).toNatClampNeg) ≤ x3) → (vp_in x3 3 ∧ ((¬ (S.2.1 44 x3.toNatClampNeg) = x1 → (b_layerNamed_29 x1 x3 x2 S R4 K)) ∧ ((S.2.1 44 x3.toNatClampNeg) = x1 → (b_layerNamed_29 x1 x3 x3 S R4 K))))))
def e_layerNamed_4 (x1 : Int32) (x2 : Int32) (x3 : Int32) (S : ms) (K : Int32 → ms → Prop) : Prop :=
  ∃ (I : Int32 → Int32 → Int32 → ms → Prop) (μ : Int32 → Int32 → Int32 → ms → Nat), I x1 x2 x3 S ∧ ∀ yx1 yx2 yx3 yS, I yx1 yx2 yx3 yS → b_layerNamed_4 yx1 yx2 yx3 yS (fun zx1 zx2 zx3 zS => I zx1 zx2 zx3 zS ∧ μ zx1 zx2 zx3 zS < μ yx1 yx2 yx3 yS) K
def p_layerNamed (x1 : Int32) (S : ms) (K : Int32 → ms → Prop) : Prop :=
  e_layerNamed_4 x1 (-1) 0 S K
def b_readScanHead_557  (S : ms) (K : ms → Prop) : Prop :=
  K S
def b_readScanHead_497 (x1 : Int32) (x5 : Int32) (x6 : Int32) (S : ms) (R468 : Int32 → Int32 → ms → Prop) (R497 : Int32 → Int32 → Int32 → ms → Prop) (K : ms → Prop) : Prop :=
  (64 ≤ x6 → (R468 x1 (x5 + 1) S)) ∧ (¬ (64 ≤ x6) → (vp_in x5 3 ∧ (vp_in x5 3 ∧ (vp_in (S.2.1 50 x5.toNatClampNeg) 3 ∧ (vp_in ((64 * (S.2.1 45 (S.2.1 50 x5.toNatClampNeg).toNatClampNeg)) + x6) 256 ∧ (vp_in ((64 * (S.2.1 50 x5.toNatClampNeg)) + x6) 192 ∧ (R497 x1 x5 (x6 + 1) (S.1, va_up S.2.1 46 (upd (S.2.1 46) ((64 * (S.2.1 50 x5.toNatClampNeg)) + x6).toNatClampNeg (S.2.1 38 ((64 * (S.2.1 45 (S.2.1 50 x5.toNatClampNeg).toNatClampNeg)) + x6).toNatClampNeg)), S.2.2))))))))
def e_readScanHead_497 (x1 : Int32) (x5 : Int32) (x6 : Int32) (S : ms) (R468 : Int32 → Int32 → ms → Prop) (K : ms → Prop) : Prop :=
  ∃ (I : Int32 → Int32 → Int32 → ms → Prop) (μ : Int32 → Int32 → Int32 → ms → Nat), I x1 x5 x6 S ∧ ∀ yx1 yx5 yx6 yS, I yx1 yx5 yx6 yS → b_readScanHead_497 yx1 yx5 yx6 yS R468 (fun zx1 zx5 zx6 zS => I zx1 zx5 zx6 zS ∧ μ zx1 zx5 zx6 zS < μ yx1 yx5 yx6 yS) K
def b_readScanHead_468 (x1 : Int32) (x5 : Int32) (S : ms) (R468 : Int32 → Int32 → ms → Prop) (K : ms → Prop) : Prop :=
  (x1 ≤ x5 → (b_readScanHead_557 S K)) ∧ (¬ (x1 ≤ x5) → ((¬ (S.1 35) = 0 → (b_readScanHead_557 S K)) ∧ ((S.1 35) = 0 → (vp_in x5 3 ∧ (vp_in (S.2.1 50 x5.toNatClampNeg) 3 ∧ (e_readScanHead_497 x1 x5 0 (S.1, va_up S.2.1 47 (upd (S.2.1 47) (S.2.1 50 x5.toNatClampNeg).toNatClampNeg (vp_nar .boolean 1)), S.2.2) R468 K))))))
def e_readScanHead_468 (x1 : Int32) (x5 : Int32) (S : ms) (K : ms → Prop) : Prop :=
  ∃ (I : Int32 → Int32 → ms → Prop) (μ : Int32 → Int32 → ms → Nat), I x1 x5 S ∧ ∀ yx1 yx5 yS, I yx1 yx5 yS → b_readScanHead_468 yx1 yx5 yS (fun zx1 zx5 zS => I zx1 zx5 zS ∧ μ zx1 zx5 zS < μ yx1 yx5 yS) K
def b_readScanHead_460 (x1 : Int32) (S : ms) (K : ms → Prop) : Prop :=
  e_readScanHead_468 x1 0 (upd S.1 49 x1, S.2.1, S.2.2) K
def b_readScanHead_432 (x1 : Int32) (x2 : Int32) (x4 : Int32) (S : ms) (K : ms → Prop) : Prop :=
  (¬ (S.1 35) = 0 → (b_readScanHead_460 x1 S K)) ∧ ((S.1 35) = 0 → ((x1 ≤ 1 → (b_readScanHead_460 x1 S K)) ∧ (¬ (x1 ≤ 1) → ((x4 ≤ 10 → (b_readScanHead_460 x1 S K)) ∧ (¬ (x4 ≤ 10) → (p_fail 6 x2 S (fun v455 S455 => b_readScanHead_460 x1 (S455.1, S455.2.1, S455.2.2) K)))))))
def b_readScanHead_417 (x1 : Int32) (x2 : Int32) (x4 : Int32) (x5 : Int32) (s1 : Int32) (S : ms) (R375 : Int32 → Int32 → Int32 → Int32 → ms → Prop) (K : ms → Prop) : Prop :=
  p_must s1 ((S.1 34) - 1) S (fun S423 => R375 x1 x2 x4 (x5 + 1) (S423.1, S423.2.1, S423.2.2))
def b_readScanHead_409 (x1 : Int32) (x2 : Int32) (x4 : Int32) (x5 : Int32) (s1 : Int32) (s2 : Int32) (S : ms) (R375 : Int32 → Int32 → Int32 → Int32 → ms → Prop) (K : ms → Prop) : Prop :=
  (¬ s1 = s2 → (b_readScanHead_417 x1 x2 x4 x5 0 S R375 K)) ∧ (s1 = s2 → (b_readScanHead_417 x1 x2 x4 x5 1 S R375 K))
def b_readScanHead_375 (x1 : Int32) (x2 : Int32) (x4 : Int32) (x5 : Int32) (S : ms) (R375 : Int32 → Int32 → Int32 → Int32 → ms → Prop) (K : ms → Prop) : Prop :=
  (3 ≤ x5 → (b_readScanHead_432 x1 x2 x4 S K)) ∧ (¬ (3 ≤ x5) → ((¬ (S.1 35) = 0 → (b_readScanHead_432 x1 x2 x4 S K)) ∧ ((S.1 35) = 0 → (p_next S (fun v389 S389 => (¬ x5 = 1 → (b_readScanHead_409 x1 x2 x4 x5 v389 0 (S389.1, S389.2.1, S389.2.2) R375 K)) ∧ (x5 = 1 → (b_readScanHead_409 x1 x2 x4 x5 v389 63 (S389.1, S389.2.1, S389.2.2) R375 K)))))))
def e_readScanHead_375 (x1 : Int32) (x2 : Int32) (x4 : Int32) (x5 : Int32) (S : ms) (K : ms → Prop) : Prop :=
  ∃ (I : Int32 → Int32 → Int32 → Int32 → ms → Prop) (μ : Int32 → Int32 → Int32 → Int32 → ms → Nat), I x1 x2 x4 x5 S ∧ ∀ yx1 yx2 yx4 yx5 yS, I yx1 yx2 yx4 yx5 yS → b_readScanHead_375 yx1 yx2 yx4 yx5 yS (fun zx1 zx2 zx4 zx5 zS => I zx1 zx2 zx4 zx5 zS ∧ μ zx1 zx2 zx4 zx5 zS < μ yx1 yx2 yx4 yx5 yS) K
def b_readScanHead_372 (x1 : Int32) (x2 : Int32) (x4 : Int32) (S : ms) (K : ms → Prop) : Prop :=
  e_readScanHead_375 x1 x2 x4 0 S K
def b_readScanHead_366 (x1 : Int32) (x2 : Int32) (x3 : Int32) (x4 : Int32) (x5 : Int32) (S : ms) (R79 : Int32 → Int32 → Int32 → Int32 → Int32 → ms → Prop) (K : ms → Prop) : Prop :=
  R79 x1 x2 x3 x4 (x5 + 1) S
def b_readScanHead_297 (x1 : Int32) (x2 : Int32) (x3 : Int32) (x4 : Int32) (x5 : Int32) (x7 : Int32) (x8 : Int32) (S : ms) (R79 : Int32 → Int32 → Int32 → Int32 → Int32 → ms → Prop) (K : ms → Prop) : Prop :=
  (¬ (S.1 35) = 0 → (b_readScanHead_366 x1 x2 x3 x4 x5 S R79 K)) ∧ ((S.1 35) = 0 → (vp_in x5 3 ∧ (vp_in x5 3 ∧ (vp_in x5 3 ∧ (vp_in (6 + x7) 9 ∧ (vp_in (6 + x7) 9 ∧ (b_readScanHead_366 x1 x2 x7 (x4 + (((va_up (va_up (va_up S.2.1 50 (upd (S.2.1 50) x5.toNatClampNeg x7)) 51 (upd ((va_up S.2.1 50 (upd (S.2.1 50) x5.toNatClampNeg x7)) 51) x5.toNatClampNeg (x8 >>> (4 &&& 31 : Int32) : Int32))) 52 (upd ((va_up (va_up S.2.1 50 (upd (S.2.1 50) x5.toNatClampNeg x7)) 51 (upd ((va_up S.2.1 50 (upd (S.2.1 50) x5.toNatClampNeg x7)) 51) x5.toNatClampNeg (x8 >>> (4 &&& 31 : Int32) : Int32))) 52) x5.toNatClampNeg (2 + (x8 &&& 1)))) 15 (6 + x7).toNatClampNeg) * ((va_up (va_up (va_up S.2.1 50 (upd (S.2.1 50) x5.toNatClampNeg x7)) 51 (upd ((va_up S.2.1 50 (upd (S.2.1 50) x5.toNatClampNeg x7)) 51) x5.toNatClampNeg (x8 >>> (4 &&& 31 : Int32) : Int32))) 52 (upd ((va_up (va_up S.2.1 50 (upd (S.2.1 50) x5.toNatClampNeg x7)) 51 (upd ((va_up S.2.1 50 (upd (S.2.1 50) x5.toNatClampNeg x7)) 51) x5.toNatClampNeg (x8 >>> (4 &&& 31 : Int32) : Int32))) 52) x5.toNatClampNeg (2 + (x8 &&& 1)))) 16 (6 + x7).toNatClampNeg))) x5 (S.1, va_up (va_up (va_up S.2.1 50 (upd (S.2.1 50) x5.toNatClampNeg x7)) 51 (upd ((va_up S.2.1 50 (upd (S.2.1 50) x5.toNatClampNeg x7)) 51) x5.toNatClampNeg (x8 >>> (4 &&& 31 : Int32) : Int32))) 52 (upd ((va_up (va_up S.2.1 50 (upd (S.2.1 50) x5.toNatClampNeg x7)) 51 (upd ((va_up S.2.1 50 (upd (S.2.1 50) x5.toNatClampNeg x7)) 51) x5.toNatClampNeg (x8 >>> (4 &&& 31 : Int32) : Int32))) 52) x5.toNatClampNeg (2 + (x8 &&& 1))), S.2.2) R79 K)))))))
def b_readScanHead_283 (x1 : Int32) (x2 : Int32) (x3 : Int32) (x4 : Int32) (x5 : Int32) (x7 : Int32) (x8 : Int32) (S : ms) (R79 : Int32 → Int32 → Int32 → Int32 → Int32 → ms → Prop) (K : ms → Prop) : Prop :=
  p_fail 6 ((S.1 34) - 1) S (fun v292 S292 => b_readScanHead_297 x1 x2 x3 x4 x5 x7 x8 (S292.1, S292.2.1, S292.2.2) R79 K)
def b_readScanHead_241 (x1 : Int32) (x2 : Int32) (x3 : Int32) (x4 : Int32) (x5 : Int32) (x7 : Int32) (x8 : Int32) (s1 : Int32) (S : ms) (R79 : Int32 → Int32 → Int32 → Int32 → Int32 → ms → Prop) (K : ms → Prop) : Prop :=
  p_must s1 ((S.1 34) - 1) S (fun S247 => (¬ (S247.1 35) = 0 → (b_readScanHead_297 x1 x2 x3 x4 x5 x7 x8 (S247.1, S247.2.1, S247.2.2) R79 K)) ∧ ((S247.1 35) = 0 → (vp_in (x8 >>> (4 &&& 31 : Int32) : Int32) 4 ∧ (((S247.2.1 42 (x8 >>> (4 &&& 31 : Int32) : Int32).toNatClampNeg) = 0 → (b_readScanHead_283 x1 x2 x3 x4 x5 x7 x8 (S247.1, S247.2.1, S247.2.2) R79 K)) ∧ (¬ ((S247.2.1 42 (x8 >>> (4 &&& 31 : Int32) : Int32).toNatClampNeg) = 0) → (vp_in (2 + (x8 &&& 1)) 4 ∧ ((¬ (S247.2.1 42 (2 + (x8 &&& 1)).toNatClampNeg) = 0 → (b_readScanHead_297 x1 x2 x3 x4 x5 x7 x8 (S247.1, S247.2.1, S247.2.2) R79 K)) ∧ ((S247.2.1 42 (2 + (x8 &&& 1)).toNatClampNeg) = 0 → (b_readScanHead_283 x1 x2 x3 x4 x5 x7 x8 (S247.1, S247.2.1, S247.2.2) R79 K)))))))))
def b_readScanHead_236 (x1 : Int32) (x2 : Int32) (x3 : Int32) (x4 : Int32) (x5 : Int32) (x7 : Int32) (x8 : Int32) (S : ms) (R79 : Int32 → Int32 → Int32 → Int32 → Int32 → ms → Prop) (K : ms → Prop) : Prop :=
  b_readScanHead_241 x1 x2 x3 x4 x5 x7 x8 1 S R79 K
def b_readScanHead_208 (x1 : Int32) (x2 : Int32) (x3 : Int32) (x4 : Int32) (x5 : Int32) (x7 : Int32) (s0 : Int32) (S : ms) (R79 : Int32 → Int32 → Int32 → Int32 → Int32 → ms → Prop) (K : ms → Prop) : Prop :=
  (s0 = 0 → (b_readScanHead_236 x1 x2 x3 x4 x5 x7 s0 S R79 K)) ∧ (¬ (s0 = 0) → ((s0 = 1 → (b_readScanHead_236 x1 x2 x3 x4 x5 x7 s0 S R79 K)) ∧ (¬ (s0 = 1) → ((s0 = 16 → (b_readScanHead_236 x1 x2 x3 x4 x5 x7 s0 S R79 K)) ∧ (¬ (s0 = 16) → ((¬ s0 = 17 → (b_readScanHead_241 x1 x2 x3 x4 x5 x7 s0 0 S R79 K)) ∧ (s0 = 17 → (b_readScanHead_236 x1 x2 x3 x4 x5 x7 s0 S R79 K))))))))
def b_readScanHead_193 (x1 : Int32) (x2 : Int32) (x3 : Int32) (x4 : Int32) (x5 : Int32) (x7 : Int32) (S : ms) (R79 : Int32 → Int32 → Int32 → Int32 → Int32 → ms → Prop) (K : ms → Prop) : Prop :=
  (¬ (S.1 35) = 0 → (b_readScanHead_208 x1 x2 x3 x4 x5 x7 0 S R79 K)) ∧ ((S.1 35) = 0 → (p_next S (fun v201 S201 => b_readScanHead_208 x1 x2 x3 x4 x5 x7 v201 (S201.1, S201.2.1, S201.2.2) R79 K)))
def b_readScanHead_148 (x1 : Int32) (x2 : Int32) (x3 : Int32) (x4 : Int32) (x5 : Int32) (x7 : Int32) (s1 : Int32) (S : ms) (R79 : Int32 → Int32 → Int32 → Int32 → Int32 → ms → Prop) (K : ms → Prop) : Prop :=
  p_must s1 ((S.1 34) - 1) S (fun S154 => (¬ (S154.1 35) = 0 → (b_readScanHead_193 x1 x2 x3 x4 x5 x7 (S154.1, S154.2.1, S154.2.2) R79 K)) ∧ ((S154.1 35) = 0 → (vp_in x7 3 ∧ (vp_in (S154.2.1 45 x7.toNatClampNeg) 4 ∧ ((¬ (S154.2.1 39 (S154.2.1 45 x7.toNatClampNeg).toNatClampNeg) = 0 → (b_readScanHead_193 x1 x2 x3 x4 x5 x7 (S154.1, S154.2.1, S154.2.2) R79 K)) ∧ ((S154.2.1 39 (S154.2.1 45 x7.toNatClampNeg).toNatClampNeg) = 0 → (p_fail 6 ((S154.1 34) - 1) (S154.1, S154.2.1, S154.2.2) (fun v188 S188 => b_readScanHead_193 x1 x2 x3 x4 x5 x7 (S188.1, S188.2.1, S188.2.2) R79 K))))))))
def b_readScanHead_147 (x1 : Int32) (x2 : Int32) (x3 : Int32) (x4 : Int32) (x5 : Int32) (x7 : Int32) (S : ms) (R79 : Int32 → Int32 → Int32 → Int32 → Int32 → ms → Prop) (K : ms → Prop) : Prop :=
  b_readScanHead_148 x1 x2 x3 x4 x5 x7 0 S R79 K
def b_readScanHead_139 (x1 : Int32) (x2 : Int32) (x3 : Int32) (x4 : Int32) (x5 : Int32) (x7 : Int32) (s2 : Int32) (S : ms) (R79 : Int32 → Int32 → Int32 → Int32 → Int32 → ms → Prop) (K : ms → Prop) : Prop :=
  vp_in s2 3 ∧ ((¬ (S.2.1 47 s2.toNatClampNeg) = 0 → (b_readScanHead_147 x1 x2 x3 x4 x5 x7 S R79 K)) ∧ ((S.2.1 47 s2.toNatClampNeg) = 0 → (b_readScanHead_148 x1 x2 x3 x4 x5 x7 1 S R79 K)))
def b_readScanHead_115 (x1 : Int32) (x2 : Int32) (x3 : Int32) (x4 : Int32) (x5 : Int32) (s0 : Int32) (S : ms) (R79 : Int32 → Int32 → Int32 → Int32 → Int32 → ms → Prop) (K : ms → Prop) : Prop :=
  (s0 ≤ x3 → (b_readScanHead_147 x1 x2 x3 x4 x5 s0 S R79 K)) ∧ (¬ (s0 ≤ x3) → ((0 ≤ s0 → (b_readScanHead_139 x1 x2 x3 x4 x5 s0 s0 S R79 K)) ∧ (¬ (0 ≤ s0) → (b_readScanHead_139 x1 x2 x3 x4 x5 s0 0 S R79 K))))
def b_readScanHead_79 (x1 : Int32) (x2 : Int32) (x3 : Int32) (x4 : Int32) (x5 : Int32) (S : ms) (R79 : Int32 → Int32 → Int32 → Int32 → Int32 → ms → Prop) (K : ms → Prop) : Prop :=
  (x1 ≤ x5 → (b_readScanHead_372 x1 x2 x4 S K)) ∧ (¬ (x1 ≤ x5) → ((¬ (S.1 35) = 0 → (b_readScanHead_372 x1 x2 x4 S K)) ∧ ((S.1 35) = 0 → (p_next S (fun v93 S93 => (¬ (S93.1 35) = 0 → (b_readScanHead_115 x1 x2 x3 x4 x5 (-1) (S93.1, S93.2.1, S93.2.2) R79 K)) ∧ ((S93.1 35) = 0 → (p_layerNamed v93 (S93.1, S93.2.1, S93.2.2) (fun v108 S108 => b_readScanHead_115 x1 x2 x3 x4 x5 v108 (S108.1, S108.2.1, S108.2.2) R79 K))))))))
def e_readScanHead_79 (x1 : Int32) (x2 : Int32) (x3 : Int32) (x4 : Int32) (x5 : Int32) (S : ms) (K : ms → Prop) : Prop :=
  ∃ (I : Int32 → Int32 → Int32 → Int32 → Int32 → ms → Prop) (μ : Int32 → Int32 → Int32 → Int32 → Int32 → ms → Nat), I x1 x2 x3 x4 x5 S ∧ ∀ yx1 yx2 yx3 yx4 yx5 yS, I yx1 yx2 yx3 yx4 yx5 yS → b_readScanHead_79 yx1 yx2 yx3 yx4 yx5 yS (fun zx1 zx2 zx3 zx4 zx5 zS => I zx1 zx2 zx3 zx4 zx5 zS ∧ μ zx1 zx2 zx3 zx4 zx5 zS < μ yx1 yx2 yx3 yx4 yx5 yS) K
def b_readScanHead_71 (x1 : Int32) (x2 : Int32) (S : ms) (K : ms → Prop) : Prop :=
  e_readScanHead_79 x1 x2 (-1) 0 0 S K
def b_readScanHead_32 (x1 : Int32) (x2 : Int32) (s1 : Int32) (S : ms) (K : ms → Prop) : Prop :=
  p_must s1 x2 S (fun S33 => (¬ (S33.1 35) = 0 → (b_readScanHead_71 x1 x2 (S33.1, S33.2.1, S33.2.2) K)) ∧ ((S33.1 35) = 0 → ((((S33.1 36) - (S33.1 37)) = (6 + (2 * x1)) → (b_readScanHead_71 x1 x2 (S33.1, S33.2.1, S33.2.2) K)) ∧ (¬ (((S33.1 36) - (S33.1 37)) = (6 + (2 * x1))) → (p_fail 4 (S33.1 37) (S33.1, S33.2.1, S33.2.2) (fun v67 S67 => b_readScanHead_71 x1 x2 (S67.1, S67.2.1, S67.2.2) K))))))
def b_readScanHead_31 (x1 : Int32) (x2 : Int32) (S : ms) (K : ms → Prop) : Prop :=
  b_readScanHead_32 x1 x2 0 S K
def p_readScanHead  (S : ms) (K : ms → Prop) : Prop :=
  p_next S (fun v1 S1 => (v1 ≤ 0 → (b_readScanHead_31 v1 ((S1.1 34) - 1) (S1.1, S1.2.1, S1.2.2) K)) ∧ (¬ (v1 ≤ 0) → (vp_in 2 3 ∧ (((S1.2.1 14 (2 : Int32).toNatClampNeg) < v1 → (b_readScanHead_31 v1 ((S1.1 34) - 1) (S1.1, S1.2.1, S1.2.2) K)) ∧ (¬ ((S1.2.1 14 (2 : Int32).toNatClampNeg) < v1) → (b_readScanHead_32 v1 ((S1.1 34) - 1) 1 (S1.1, S1.2.1, S1.2.2) K))))))
def b_readBit_73  (S : ms) (K : Int32 → ms → Prop) : Prop :=
  ((S.1 35) ≤ 0 → (K ((((upd S.1 54 ((S.1 54) - 1)) 55) >>> (((upd S.1 54 ((S.1 54) - 1)) 54) &&& 31 : Int32) : Int32) &&& 1) (upd S.1 54 ((S.1 54) - 1), S.2.1, S.2.2))) ∧ (¬ ((S.1 35) ≤ 0) → (K 0 S))
def b_readBit_67  (S : ms) (K : Int32 → ms → Prop) : Prop :=
  b_readBit_73 (upd S.1 54 8, S.2.1, S.2.2) K
def p_readBit  (S : ms) (K : Int32 → ms → Prop) : Prop :=
  (¬ (S.1 54) = 0 → (b_readBit_73 S K)) ∧ ((S.1 54) = 0 → (p_next (upd S.1 56 (S.1 34), S.2.1, S.2.2) (fun v17 S17 => (¬ ((upd S17.1 55 v17) 35) = 0 → (b_readBit_67 (upd S17.1 55 v17, S17.2.1, S17.2.2) K)) ∧ (((upd S17.1 55 v17) 35) = 0 → ((¬ ((upd S17.1 55 v17) 55) = 255 → (b_readBit_67 (upd S17.1 55 v17, S17.2.1, S17.2.2) K)) ∧ (((upd S17.1 55 v17) 55) = 255 → (p_next (upd S17.1 55 v17, S17.2.1, S17.2.2) (fun v41 S41 => (¬ (S41.1 35) = 0 → (b_readBit_67 (S41.1, S41.2.1, S41.2.2) K)) ∧ ((S41.1 35) = 0 → ((v41 = 0 → (b_readBit_67 (S41.1, S41.2.1, S41.2.2) K)) ∧ (¬ (v41 = 0) → (p_fail 7 (S41.1 56) (S41.1, S41.2.1, S41.2.2) (fun v63 S63 => b_readBit_67 (S63.1, S63.2.1, S63.2.2) K)))))))))))))
def b_readSymbol_39 (x1 : Int32) (x2 : Int32) (x3 : Int32) (x4 : Int32) (x5 : Int32) (S : ms) (R10 : Int32 → Int32 → Int32 → Int32 → Int32 → ms → Prop) (K : Int32 → ms → Prop) : Prop :=
  ((S.1 35) ≤ 0 → (vp_in ((16 * x1) + x5) 64 ∧ ((((2 * x3) + (S.2.1 40 ((16 * x1) + x5).toNatClampNeg)) ≤ x2 → (R10 x1 x2 ((2 * x3) + (S.2.1 40 ((16 * x1) + x5).toNatClampNeg)) (x4 + (S.2.1 40 ((16 * x1) + x5).toNatClampNeg)) (x5 + 1) S)) ∧ (¬ (((2 * x3) + (S.2.1 40 ((16 * x1) + x5).toNatClampNeg)) ≤ x2) → (vp_in ((((256 * x1) + x4) + x2) - (2 * x3)) 1024 ∧ (K (S.2.1 41 ((((256 * x1) + x4) + x2) - (2 * x3)).toNatClampNeg) S)))))) ∧ (¬ ((S.1 35) ≤ 0) → (K 0 S))
def b_readSymbol_10 (x1 : Int32) (x2 : Int32) (x3 : Int32) (x4 : Int32) (x5 : Int32) (S : ms) (R10 : Int32 → Int32 → Int32 → Int32 → Int32 → ms → Prop) (K : Int32 → ms → Prop) : Prop :=
  (16 ≤ x5 → (p_fail 7 (S.1 57) S (fun v117 S117 => K 0 (S117.1, S117.2.1, S117.2.2)))) ∧ (¬ (16 ≤ x5) → (p_readBit S (fun v21 S21 => (¬ x5 = 0 → (b_readSymbol_39 x1 ((2 * x2) + v21) x3 x4 x5 (S21.1, S21.2.1, S21.2.2) R10 K)) ∧ (x5 = 0 → (b_readSymbol_39 x1 ((2 * x2) + v21) x3 x4 x5 (upd S21.1 57 (S21.1 56), S21.2.1, S21.2.2) R10 K)))))
def e_readSymbol_10 (x1 : Int32) (x2 : Int32) (x3 : Int32) (x4 : Int32) (x5 : Int32) (S : ms) (K : Int32 → ms → Prop) : Prop :=
  ∃ (I : Int32 → Int32 → Int32 → Int32 → Int32 → ms → Prop) (μ : Int32 → Int32 → Int32 → Int32 → Int32 → ms → Nat), I x1 x2 x3 x4 x5 S ∧ ∀ yx1 yx2 yx3 yx4 yx5 yS, I yx1 yx2 yx3 yx4 yx5 yS → b_readSymbol_10 yx1 yx2 yx3 yx4 yx5 yS (fun zx1 zx2 zx3 zx4 zx5 zS => I zx1 zx2 zx3 zx4 zx5 zS ∧ μ zx1 zx2 zx3 zx4 zx5 zS < μ yx1 yx2 yx3 yx4 yx5 yS) K
def p_readSymbol (x1 : Int32) (S : ms) (K : Int32 → ms → Prop) : Prop :=
  e_readSymbol_10 x1 0 0 0 0 S K
def b_readNumber_48 (s0 : Int32) (S : ms) (K : Int32 → ms → Prop) : Prop :=
  K s0 S
def b_readNumber_47 (x2 : Int32) (S : ms) (K : Int32 → ms → Prop) : Prop :=
  b_readNumber_48 x2 S K
def b_readNumber_4 (x1 : Int32) (x2 : Int32) (x3 : Int32) (S : ms) (R4 : Int32 → Int32 → Int32 → ms → Prop) (K : Int32 → ms → Prop) : Prop :=
  (x1 ≤ x3 → ((x1 ≤ 0 → (b_readNumber_47 x2 S K)) ∧ (¬ (x1 ≤ 0) → ((((1 : Int32) <<< ((x1 - 1) &&& 31 : Int32) : Int32) ≤ x2 → (b_readNumber_47 x2 S K)) ∧ (¬ (((1 : Int32) <<< ((x1 - 1) &&& 31 : Int32) : Int32) ≤ x2) → (b_readNumber_48 ((x2 - ((1 : Int32) <<< (x1 &&& 31 : Int32) : Int32)) + 1) S K)))))) ∧ (¬ (x1 ≤ x3) → (p_readBit S (fun v13 S13 => R4 x1 ((2 * x2) + v13) (x3 + 1) (S13.1, S13.2.1, S13.2.2))))
def e_readNumber_4 (x1 : Int32) (x2 : Int32) (x3 : Int32) (S : ms) (K : Int32 → ms → Prop) : Prop :=
  ∃ (I : Int32 → Int32 → Int32 → ms → Prop) (μ : Int32 → Int32 → Int32 → ms → Nat), I x1 x2 x3 S ∧ ∀ yx1 yx2 yx3 yS, I yx1 yx2 yx3 yS → b_readNumber_4 yx1 yx2 yx3 yS (fun zx1 zx2 zx3 zS => I zx1 zx2 zx3 zS ∧ μ zx1 zx2 zx3 zS < μ yx1 yx2 yx3 yS) K
def p_readNumber (x1 : Int32) (S : ms) (K : Int32 → ms → Prop) : Prop :=
  e_readNumber_4 x1 0 0 S K
def b_readBlock_248  (S : ms) (K : ms → Prop) : Prop :=
  K S
def b_readBlock_245 (x1 : Int32) (x2 : Int32) (x3 : Int32) (x7 : Int32) (S : ms) (R102 : Int32 → Int32 → Int32 → Int32 → ms → Prop) (K : ms → Prop) : Prop :=
  R102 x1 x2 x3 x7 S
def b_readBlock_208 (x1 : Int32) (x2 : Int32) (x3 : Int32) (x7 : Int32) (x8 : Int32) (S : ms) (R102 : Int32 → Int32 → Int32 → Int32 → ms → Prop) (K : ms → Prop) : Prop :=
  (x8 = 240 → (b_readBlock_245 x1 x2 x3 x7 S R102 K)) ∧ (¬ (x8 = 240) → (p_readNumber (x8 &&& 15) S (fun v222 S222 => p_levelCell 2 x2 x3 x7 (fun v236 => vp_in v236 36864 ∧ (b_readBlock_245 x1 x2 x3 (x7 + 1) (S222.1, va_up S222.2.1 19 (upd (S222.2.1 19) v236.toNatClampNeg v222), S222.2.2) R102 K)))))
def b_readBlock_195 (x1 : Int32) (x2 : Int32) (x3 : Int32) (x5 : Int32) (x7 : Int32) (S : ms) (R102 : Int32 → Int32 → Int32 → Int32 → ms → Prop) (K : ms → Prop) : Prop :=
  p_fail 7 x5 S (fun v200 S200 => b_readBlock_245 x1 x2 x3 x7 (S200.1, S200.2.1, S200.2.2) R102 K)
def b_readBlock_167 (x1 : Int32) (x2 : Int32) (x3 : Int32) (x5 : Int32) (x8 : Int32) (s0 : Int32) (s1 : Int32) (S : ms) (R102 : Int32 → Int32 → Int32 → Int32 → ms → Prop) (K : ms → Prop) : Prop :=
  (¬ x8 = 240 → (((s0 + s1) ≤ 63 → (b_readBlock_208 x1 x2 x3 (s0 + s1) x8 S R102 K)) ∧ (¬ ((s0 + s1) ≤ 63) → (b_readBlock_195 x1 x2 x3 x5 (s0 + s1) S R102 K)))) ∧ (x8 = 240 → (((s0 + s1) ≤ 64 → (b_readBlock_208 x1 x2 x3 (s0 + s1) x8 S R102 K)) ∧ (¬ ((s0 + s1) ≤ 64) → (b_readBlock_195 x1 x2 x3 x5 (s0 + s1) S R102 K))))
def b_readBlock_146  (S : ms) (K : ms → Prop) : Prop :=
  K S
def b_readBlock_102 (x1 : Int32) (x2 : Int32) (x3 : Int32) (x7 : Int32) (S : ms) (R102 : Int32 → Int32 → Int32 → Int32 → ms → Prop) (K : ms → Prop) : Prop :=
  (64 ≤ x7 → (b_readBlock_248 S K)) ∧ (¬ (64 ≤ x7) → ((¬ (S.1 35) = 0 → (b_readBlock_248 S K)) ∧ ((S.1 35) = 0 → (vp_in x1 3 ∧ (p_readSymbol (S.2.1 52 x1.toNatClampNeg) S (fun v123 S123 => (0 < (S123.1 35) → (b_readBlock_146 (S123.1, S123.2.1, S123.2.2) K)) ∧ (¬ (0 < (S123.1 35)) → ((¬ v123 = 0 → ((¬ v123 = 240 → (b_readBlock_167 x1 x2 x3 (S123.1 57) v123 (x7 + (v123 >>> (4 &&& 31 : Int32) : Int32)) 0 (S123.1, S123.2.1, S123.2.2) R102 K)) ∧ (v123 = 240 → (b_readBlock_167 x1 x2 x3 (S123.1 57) v123 (x7 + (v123 >>> (4 &&& 31 : Int32) : Int32)) 1 (S123.1, S123.2.1, S123.2.2) R102 K)))) ∧ (v123 = 0 → (b_readBlock_146 (S123.1, S123.2.1, S123.2.2) K))))))))))
def e_readBlock_102 (x1 : Int32) (x2 : Int32) (x3 : Int32) (x7 : Int32) (S : ms) (K : ms → Prop) : Prop :=
  ∃ (I : Int32 → Int32 → Int32 → Int32 → ms → Prop) (μ : Int32 → Int32 → Int32 → Int32 → ms → Nat), I x1 x2 x3 x7 S ∧ ∀ yx1 yx2 yx3 yx7 yS, I yx1 yx2 yx3 yx7 yS → b_readBlock_102 yx1 yx2 yx3 yx7 yS (fun zx1 zx2 zx3 zx7 zS => I zx1 zx2 zx3 zx7 zS ∧ μ zx1 zx2 zx3 zx7 zS < μ yx1 yx2 yx3 yx7 yS) K
def b_readBlock_77 (x1 : Int32) (x2 : Int32) (x3 : Int32) (x6 : Int32) (S : ms) (K : ms → Prop) : Prop :=
  vp_in x2 3 ∧ (p_levelCell 2 x2 x3 0 (fun v93 => vp_in v93 36864 ∧ (e_readBlock_102 x1 x2 x3 1 (S.1, va_up (va_up S.2.1 53 (upd (S.2.1 53) x2.toNatClampNeg x6)) 19 (upd ((va_up S.2.1 53 (upd (S.2.1 53) x2.toNatClampNeg x6)) 19) v93.toNatClampNeg x6), S.2.2) K)))
def b_readBlock_67 (x1 : Int32) (x2 : Int32) (x3 : Int32) (x5 : Int32) (x6 : Int32) (S : ms) (K : ms → Prop) : Prop :=
  p_fail 7 x5 S (fun v72 S72 => b_readBlock_77 x1 x2 x3 x6 (S72.1, S72.2.1, S72.2.2) K)
def b_readBlock_42 (x1 : Int32) (x2 : Int32) (x3 : Int32) (x5 : Int32) (s0 : Int32) (S : ms) (K : ms → Prop) : Prop :=
  (¬ (S.1 35) = 0 → (b_readBlock_77 x1 x2 x3 s0 S K)) ∧ ((S.1 35) = 0 → ((s0 < (-2047) → (b_readBlock_67 x1 x2 x3 x5 s0 S K)) ∧ (¬ (s0 < (-2047)) → ((s0 ≤ 2047 → (b_readBlock_77 x1 x2 x3 s0 S K)) ∧ (¬ (s0 ≤ 2047) → (b_readBlock_67 x1 x2 x3 x5 s0 S K))))))
def p_readBlock (x1 : Int32) (x2 : Int32) (x3 : Int32) (S : ms) (K : ms → Prop) : Prop :=
  vp_in x1 3 ∧ (p_readSymbol (S.2.1 51 x1.toNatClampNeg) S (fun v7 S7 => (¬ (S7.1 35) = 0 → (b_readBlock_42 x1 x2 x3 (S7.1 57) 0 (S7.1, S7.2.1, S7.2.2) K)) ∧ ((S7.1 35) = 0 → (vp_in x2 3 ∧ (p_readNumber v7 (S7.1, S7.2.1, S7.2.2) (fun v34 S34 => b_readBlock_42 x1 x2 x3 (S7.1 57) ((S7.2.1 53 x2.toNatClampNeg) + v34) (S34.1, S34.2.1, S34.2.2) K))))))
def b_readUnit_166  (S : ms) (K : ms → Prop) : Prop :=
  K S
def b_readUnit_160 (x3 : Int32) (x4 : Int32) (x5 : Int32) (S : ms) (R12 : Int32 → Int32 → Int32 → ms → Prop) (K : ms → Prop) : Prop :=
  R12 x3 x4 (x5 + 1) S
def b_readUnit_88 (x3 : Int32) (x4 : Int32) (x5 : Int32) (x6 : Int32) (x7 : Int32) (x8 : Int32) (x9 : Int32) (S : ms) (R12 : Int32 → Int32 → Int32 → ms → Prop) (R88 : Int32 → Int32 → Int32 → Int32 → Int32 → Int32 → Int32 → ms → Prop) (K : ms → Prop) : Prop :=
  ((x7 * x8) ≤ x9 → (b_readUnit_160 x3 x4 x5 S R12 K)) ∧ (¬ ((x7 * x8) ≤ x9) → ((¬ (S.1 35) = 0 → (b_readUnit_160 x3 x4 x5 S R12 K)) ∧ ((S.1 35) = 0 → (¬ x7 = 0 ∧ (¬ x7 = 0 ∧ (vp_in (6 + x6) 9 ∧ (p_readBlock x5 x6 ((((x4 * x8) + (x9 / x7)) * (S.2.1 17 (6 + x6).toNatClampNeg)) + ((x3 * x7) + (x9 - x9 / x7 * x7))) S (fun S151 => R88 x3 x4 x5 x6 x7 x8 (x9 + 1) (S151.1, S151.2.1, S151.2.2)))))))))
def e_readUnit_88 (x3 : Int32) (x4 : Int32) (x5 : Int32) (x6 : Int32) (x7 : Int32) (x8 : Int32) (x9 : Int32) (S : ms) (R12 : Int32 → Int32 → Int32 → ms → Prop) (K : ms → Prop) : Prop :=
  ∃ (I : Int32 → Int32 → Int32 → Int32 → Int32 → Int32 → Int32 → ms → Prop) (μ : Int32 → Int32 → Int32 → Int32 → Int32 → Int32 → Int32 → ms → Nat), I x3 x4 x5 x6 x7 x8 x9 S ∧ ∀ yx3 yx4 yx5 yx6 yx7 yx8 yx9 yS, I yx3 yx4 yx5 yx6 yx7 yx8 yx9 yS → b_readUnit_88 yx3 yx4 yx5 yx6 yx7 yx8 yx9 yS R12 (fun zx3 zx4 zx5 zx6 zx7 zx8 zx9 zS => I zx3 zx4 zx5 zx6 zx7 zx8 zx9 zS ∧ μ zx3 zx4 zx5 zx6 zx7 zx8 zx9 zS < μ yx3 yx4 yx5 yx6 yx7 yx8 yx9 yS) K
def b_readUnit_83 (x3 : Int32) (x4 : Int32) (x5 : Int32) (x6 : Int32) (x7 : Int32) (s0 : Int32) (S : ms) (R12 : Int32 → Int32 → Int32 → ms → Prop) (K : ms → Prop) : Prop :=
  e_readUnit_88 x3 x4 x5 x6 x7 s0 0 S R12 K
def b_readUnit_59 (x3 : Int32) (x4 : Int32) (x5 : Int32) (x6 : Int32) (s0 : Int32) (S : ms) (R12 : Int32 → Int32 → Int32 → ms → Prop) (K : ms → Prop) : Prop :=
  (¬ (S.1 49) = 1 → (vp_in (6 + x6) 9 ∧ (b_readUnit_83 x3 x4 x5 x6 s0 (S.2.1 16 (6 + x6).toNatClampNeg) S R12 K))) ∧ ((S.1 49) = 1 → (b_readUnit_83 x3 x4 x5 x6 s0 1 S R12 K))
def b_readUnit_12 (x3 : Int32) (x4 : Int32) (x5 : Int32) (S : ms) (R12 : Int32 → Int32 → Int32 → ms → Prop) (K : ms → Prop) : Prop :=
  ((S.1 49) ≤ x5 → (b_readUnit_166 S K)) ∧ (¬ ((S.1 49) ≤ x5) → ((¬ (S.1 35) = 0 → (b_readUnit_166 S K)) ∧ ((S.1 35) = 0 → (vp_in x5 3 ∧ ((¬ (S.1 49) = 1 → (vp_in (6 + (S.2.1 50 x5.toNatClampNeg)) 9 ∧ (b_readUnit_59 x3 x4 x5 (S.2.1 50 x5.toNatClampNeg) (S.2.1 15 (6 + (S.2.1 50 x5.toNatClampNeg)).toNatClampNeg) S R12 K))) ∧ ((S.1 49) = 1 → (b_readUnit_59 x3 x4 x5 (S.2.1 50 x5.toNatClampNeg) 1 S R12 K)))))))
def e_readUnit_12 (x3 : Int32) (x4 : Int32) (x5 : Int32) (S : ms) (K : ms → Prop) : Prop :=
  ∃ (I : Int32 → Int32 → Int32 → ms → Prop) (μ : Int32 → Int32 → Int32 → ms → Nat), I x3 x4 x5 S ∧ ∀ yx3 yx4 yx5 yS, I yx3 yx4 yx5 yS → b_readUnit_12 yx3 yx4 yx5 yS (fun zx3 zx4 zx5 zS => I zx3 zx4 zx5 zS ∧ μ zx3 zx4 zx5 zS < μ yx3 yx4 yx5 yS) K
def p_readUnit (x1 : Int32) (x2 : Int32) (S : ms) (K : ms → Prop) : Prop :=
  ¬ x2 = 0 ∧ (¬ x2 = 0 ∧ (e_readUnit_12 (x1 - x1 / x2 * x2) (x1 / x2) 0 S K))
def b_readData_260  (S : ms) (K : ms → Prop) : Prop :=
  K S
def b_readData_254 (x2 : Int32) (x3 : Int32) (x4 : Int32) (S : ms) (R106 : Int32 → Int32 → Int32 → ms → Prop) (K : ms → Prop) : Prop :=
  R106 x2 x3 (x4 + 1) S
def b_readData_240 (x2 : Int32) (x3 : Int32) (x4 : Int32) (S : ms) (R106 : Int32 → Int32 → Int32 → ms → Prop) (K : ms → Prop) : Prop :=
  (¬ (S.1 35) = 0 → (b_readData_254 x2 x3 x4 S R106 K)) ∧ ((S.1 35) = 0 → (p_readUnit x4 x2 S (fun S251 => b_readData_254 x2 x3 x4 (S251.1, S251.2.1, S251.2.2) R106 K)))
def b_readData_226 (x2 : Int32) (x3 : Int32) (x4 : Int32) (x5 : Int32) (x6 : Int32) (S : ms) (R106 : Int32 → Int32 → Int32 → ms → Prop) (R210 : Int32 → Int32 → Int32 → Int32 → Int32 → ms → Prop) (K : ms → Prop) : Prop :=
  vp_in x6 3 ∧ (R210 x2 x3 x4 x5 (x6 + 1) (S.1, va_up S.2.1 53 (upd (S.2.1 53) x6.toNatClampNeg 0), S.2.2))
def b_readData_210 (x2 : Int32) (x3 : Int32) (x4 : Int32) (x5 : Int32) (x6 : Int32) (S : ms) (R106 : Int32 → Int32 → Int32 → ms → Prop) (R210 : Int32 → Int32 → Int32 → Int32 → Int32 → ms → Prop) (K : ms → Prop) : Prop :=
  (3 ≤ x6 → (b_readData_240 x2 x3 x4 S R106 K)) ∧ (¬ (3 ≤ x6) → ((x4 = 0 → (b_readData_226 x2 x3 x4 x5 x6 S R106 R210 K)) ∧ (¬ (x4 = 0) → ((x5 = 0 → (b_readData_240 x2 x3 x4 S R106 K)) ∧ (¬ (x5 = 0) → (b_readData_226 x2 x3 x4 x5 x6 S R106 R210 K))))))
def e_readData_210 (x2 : Int32) (x3 : Int32) (x4 : Int32) (x5 : Int32) (x6 : Int32) (S : ms) (R106 : Int32 → Int32 → Int32 → ms → Prop) (K : ms → Prop) : Prop :=
  ∃ (I : Int32 → Int32 → Int32 → Int32 → Int32 → ms → Prop) (μ : Int32 → Int32 → Int32 → Int32 → Int32 → ms → Nat), I x2 x3 x4 x5 x6 S ∧ ∀ yx2 yx3 yx4 yx5 yx6 yS, I yx2 yx3 yx4 yx5 yx6 yS → b_readData_210 yx2 yx3 yx4 yx5 yx6 yS R106 (fun zx2 zx3 zx4 zx5 zx6 zS => I zx2 zx3 zx4 zx5 zx6 zS ∧ μ zx2 zx3 zx4 zx5 zx6 zS < μ yx2 yx3 yx4 yx5 yx6 yS) K
def b_readData_207 (x2 : Int32) (x3 : Int32) (x4 : Int32) (x5 : Int32) (S : ms) (R106 : Int32 → Int32 → Int32 → ms → Prop) (K : ms → Prop) : Prop :=
  e_readData_210 x2 x3 x4 x5 0 S R106 K
def b_readData_148 (x2 : Int32) (x3 : Int32) (x4 : Int32) (s0 : Int32) (S : ms) (R106 : Int32 → Int32 → Int32 → ms → Prop) (K : ms → Prop) : Prop :=
  (s0 = 0 → (b_readData_207 x2 x3 x4 s0 S R106 K)) ∧ (¬ (s0 = 0) → (p_readMark (upd S.1 54 0, S.2.1, S.2.2) (fun v161 S161 => (¬ (S161.1 35) = 0 → (b_readData_207 x2 x3 x4 s0 (S161.1, S161.2.1, S161.2.2) R106 K)) ∧ ((S161.1 35) = 0 → (¬ (S161.1 48) = 0 ∧ ((v161 = (208 + (((x4 / (S161.1 48)) - 1) - ((x4 / (S161.1 48)) - 1) / 8 * 8)) → (b_readData_207 x2 x3 x4 s0 (S161.1, S161.2.1, S161.2.2) R106 K)) ∧ (¬ (v161 = (208 + (((x4 / (S161.1 48)) - 1) - ((x4 / (S161.1 48)) - 1) / 8 * 8))) → (p_fail 3 ((S161.1 34) - 1) (S161.1, S161.2.1, S161.2.2) (fun v202 S202 => b_readData_207 x2 x3 x4 s0 (S202.1, S202.2.1, S202.2.2) R106 K)))))))))
def b_readData_147 (x2 : Int32) (x3 : Int32) (x4 : Int32) (S : ms) (R106 : Int32 → Int32 → Int32 → ms → Prop) (K : ms → Prop) : Prop :=
  b_readData_148 x2 x3 x4 0 S R106 K
def b_readData_106 (x2 : Int32) (x3 : Int32) (x4 : Int32) (S : ms) (R106 : Int32 → Int32 → Int32 → ms → Prop) (K : ms → Prop) : Prop :=
  ((x2 * x3) ≤ x4 → (b_readData_260 S K)) ∧ (¬ ((x2 * x3) ≤ x4) → ((¬ (S.1 35) = 0 → (b_readData_260 S K)) ∧ ((S.1 35) = 0 → (((S.1 48) ≤ 0 → (b_readData_147 x2 x3 x4 S R106 K)) ∧ (¬ ((S.1 48) ≤ 0) → ((x4 ≤ 0 → (b_readData_147 x2 x3 x4 S R106 K)) ∧ (¬ (x4 ≤ 0) → (¬ (S.1 48) = 0 ∧ ((¬ (x4 - x4 / (S.1 48) * (S.1 48)) = 0 → (b_readData_147 x2 x3 x4 S R106 K)) ∧ ((x4 - x4 / (S.1 48) * (S.1 48)) = 0 → (b_readData_148 x2 x3 x4 1 S R106 K)))))))))))
def e_readData_106 (x2 : Int32) (x3 : Int32) (x4 : Int32) (S : ms) (K : ms → Prop) : Prop :=
  ∃ (I : Int32 → Int32 → Int32 → ms → Prop) (μ : Int32 → Int32 → Int32 → ms → Nat), I x2 x3 x4 S ∧ ∀ yx2 yx3 yx4 yS, I yx2 yx3 yx4 yS → b_readData_106 yx2 yx3 yx4 yS (fun zx2 zx3 zx4 zS => I zx2 zx3 zx4 zS ∧ μ zx2 zx3 zx4 zS < μ yx2 yx3 yx4 yS) K
def b_readData_97 (x2 : Int32) (s0 : Int32) (S : ms) (K : ms → Prop) : Prop :=
  e_readData_106 x2 s0 0 (upd S.1 54 0, S.2.1, S.2.2) K
def b_readData_55 (x1 : Int32) (s0 : Int32) (S : ms) (K : ms → Prop) : Prop :=
  (x1 = 0 → (vp_in 2 3 ∧ (p_greatest 2 0 S (fun v90 S90 => p_upward (S.2.1 13 (2 : Int32).toNatClampNeg) (8 * v90) (fun v94 => b_readData_97 s0 v94 (S90.1, S90.2.1, S90.2.2) K))))) ∧ (¬ (x1 = 0) → (vp_in 0 3 ∧ (p_layerHigh 2 (S.2.1 50 (0 : Int32).toNatClampNeg) S (fun v68 S68 => p_upward v68 8 (fun v73 => b_readData_97 s0 v73 (S68.1, S68.2.1, S68.2.2) K)))))
def b_readData_13 (s0 : Int32) (S : ms) (K : ms → Prop) : Prop :=
  (s0 = 0 → (vp_in 2 3 ∧ (p_greatest 2 1 S (fun v48 S48 => p_upward (S.2.1 12 (2 : Int32).toNatClampNeg) (8 * v48) (fun v52 => b_readData_55 s0 v52 (S48.1, S48.2.1, S48.2.2) K))))) ∧ (¬ (s0 = 0) → (vp_in 0 3 ∧ (p_layerWide 2 (S.2.1 50 (0 : Int32).toNatClampNeg) S (fun v26 S26 => p_upward v26 8 (fun v31 => b_readData_55 s0 v31 (S26.1, S26.2.1, S26.2.2) K)))))
def p_readData  (S : ms) (K : ms → Prop) : Prop :=
  (¬ (S.1 49) = 1 → (b_readData_13 0 S K)) ∧ ((S.1 49) = 1 → (b_readData_13 1 S K))
def b_readSection_157  (S : ms) (K : ms → Prop) : Prop :=
  K S
def b_readSection_131  (S : ms) (R131 : ms → Prop) (K : ms → Prop) : Prop :=
  ((S.1 36) ≤ (S.1 34) → (b_readSection_157 S K)) ∧ (¬ ((S.1 36) ≤ (S.1 34)) → ((¬ (S.1 35) = 0 → (b_readSection_157 S K)) ∧ ((S.1 35) = 0 → (p_next S (fun v150 S150 => R131 (S150.1, S150.2.1, S150.2.2))))))
def e_readSection_131  (S : ms) (K : ms → Prop) : Prop :=
  ∃ (I : ms → Prop) (μ : ms → Nat), I S ∧ ∀ yS, I yS → b_readSection_131 yS (fun zS => I zS ∧ μ zS < μ yS) K
def b_readSection_100 (s1 : Int32) (S : ms) (K : ms → Prop) : Prop :=
  b_readSection_157 (upd S.1 48 s1, S.2.1, S.2.2) K
def b_readSection_84  (S : ms) (K : ms → Prop) : Prop :=
  (¬ (S.1 35) = 0 → (b_readSection_100 0 S K)) ∧ ((S.1 35) = 0 → (p_nextTwo S (fun v93 S93 => b_readSection_100 v93 (S93.1, S93.2.1, S93.2.2) K)))
def p_readSection (x1 : Int32) (S : ms) (K : ms → Prop) : Prop :=
  p_readLength S (fun S1 => ((S1.1 35) ≤ 0 → ((¬ x1 = 219 → ((¬ x1 = 196 → ((¬ x1 = 192 → ((¬ x1 = 221 → ((¬ x1 = 218 → (e_readSection_131 (S1.1, S1.2.1, S1.2.2) K)) ∧ (x1 = 218 → (p_readScanHead (S1.1, S1.2.1, S1.2.2) (fun S114 => (¬ (S114.1 35) = 0 → (b_readSection_157 (S114.1, S114.2.1, S114.2.2) K)) ∧ ((S114.1 35) = 0 → (p_readData (S114.1, S114.2.1, S114.2.2) (fun S125 => b_readSection_157 (S125.1, S125.2.1, S125.2.2) K)))))))) ∧ (x1 = 221 → ((((S1.1 36) - (S1.1 37)) = 4 → (b_readSection_84 (S1.1, S1.2.1, S1.2.2) K)) ∧ (¬ (((S1.1 36) - (S1.1 37)) = 4) → (p_fail 4 (S1.1 37) (S1.1, S1.2.1, S1.2.2) (fun v80 S80 => b_readSection_84 (S80.1, S80.2.1, S80.2.2) K))))))) ∧ (x1 = 192 → (p_readFrame (S1.1, S1.2.1, S1.2.2) (fun S48 => b_readSection_157 (S48.1, S48.2.1, S48.2.2) K))))) ∧ (x1 = 196 → (p_readCodes (S1.1, S1.2.1, S1.2.2) (fun S34 => b_readSection_157 (S34.1, S34.2.1, S34.2.2) K))))) ∧ (x1 = 219 → (p_readTables (S1.1, S1.2.1, S1.2.2) (fun S20 => b_readSection_157 (S20.1, S20.2.1, S20.2.2) K))))) ∧ (¬ ((S1.1 35) ≤ 0) → (K (S1.1, S1.2.1, S1.2.2))))
def b_isDone_34 (x1 : Int32) (S : ms) (K : Int32 → ms → Prop) : Prop :=
  narrow .boolean (.int x1) = .int x1 ∧ K x1 S
def b_isDone_7 (x1 : Int32) (x2 : Int32) (S : ms) (R7 : Int32 → Int32 → ms → Prop) (K : Int32 → ms → Prop) : Prop :=
  vp_in 2 3 ∧ (((S.2.1 14 (2 : Int32).toNatClampNeg) ≤ x2 → (b_isDone_34 x1 S K)) ∧ (¬ ((S.2.1 14 (2 : Int32).toNatClampNeg) ≤ x2) → ((x1 = 0 → (b_isDone_34 x1 S K)) ∧ (¬ (x1 = 0) → (vp_in x2 3 ∧ (R7 (S.2.1 47 x2.toNatClampNeg) (x2 + 1) S))))))
def e_isDone_7 (x1 : Int32) (x2 : Int32) (S : ms) (K : Int32 → ms → Prop) : Prop :=
  ∃ (I : Int32 → Int32 → ms → Prop) (μ : Int32 → Int32 → ms → Nat), I x1 x2 S ∧ ∀ yx1 yx2 yS, I yx1 yx2 yS → b_isDone_7 yx1 yx2 yS (fun zx1 zx2 zS => I zx1 zx2 zS ∧ μ zx1 zx2 zS < μ yx1 yx2 yS) K
def p_isDone  (S : ms) (K : Int32 → ms → Prop) : Prop :=
  e_isDone_7 (S.1 43) 0 S K
def b_mayCome_99 (s0 : Int32) (S : ms) (K : Int32 → ms → Prop) : Prop :=
  narrow .boolean (.int s0) = .int s0 ∧ K s0 S
def b_mayCome_98  (S : ms) (K : Int32 → ms → Prop) : Prop :=
  b_mayCome_99 0 S K
def b_mayCome_94  (S : ms) (K : Int32 → ms → Prop) : Prop :=
  b_mayCome_99 1 S K
def b_mayCome_80 (x1 : Int32) (S : ms) (K : Int32 → ms → Prop) : Prop :=
  (¬ x1 = 217 → (b_mayCome_98 S K)) ∧ (x1 = 217 → (p_isDone S (fun v88 S88 => (v88 = 0 → (b_mayCome_98 (S88.1, S88.2.1, S88.2.2) K)) ∧ (¬ (v88 = 0) → (b_mayCome_94 (S88.1, S88.2.1, S88.2.2) K)))))
def b_mayCome_66 (x1 : Int32) (S : ms) (K : Int32 → ms → Prop) : Prop :=
  (¬ x1 = 218 → (b_mayCome_80 x1 S K)) ∧ (x1 = 218 → ((¬ (S.1 43) = 0 → (b_mayCome_94 S K)) ∧ ((S.1 43) = 0 → (b_mayCome_80 x1 S K))))
def b_mayCome_47 (x1 : Int32) (s0 : Int32) (S : ms) (K : Int32 → ms → Prop) : Prop :=
  (¬ s0 = 0 → (b_mayCome_94 S K)) ∧ (s0 = 0 → ((¬ x1 = 192 → (b_mayCome_66 x1 S K)) ∧ (x1 = 192 → (((S.1 43) = 0 → (b_mayCome_94 S K)) ∧ (¬ ((S.1 43) = 0) → (b_mayCome_66 x1 S K))))))
def b_mayCome_42 (x1 : Int32) (S : ms) (K : Int32 → ms → Prop) : Prop :=
  b_mayCome_47 x1 1 S K
def b_mayCome_35 (x1 : Int32) (S : ms) (K : Int32 → ms → Prop) : Prop :=
  (¬ x1 = 254 → (b_mayCome_47 x1 0 S K)) ∧ (x1 = 254 → (b_mayCome_42 x1 S K))
def p_mayCome (x1 : Int32) (S : ms) (K : Int32 → ms → Prop) : Prop :=
  (x1 = 219 → (b_mayCome_42 x1 S K)) ∧ (¬ (x1 = 219) → ((x1 = 196 → (b_mayCome_42 x1 S K)) ∧ (¬ (x1 = 196) → ((x1 = 221 → (b_mayCome_42 x1 S K)) ∧ (¬ (x1 = 221) → ((x1 < 224 → (b_mayCome_35 x1 S K)) ∧ (¬ (x1 < 224) → ((x1 < 240 → (b_mayCome_42 x1 S K)) ∧ (¬ (x1 < 240) → (b_mayCome_35 x1 S K))))))))))
def b_begin_61 (x1 : Int32) (S : ms) (R61 : Int32 → ms → Prop) (K : ms → Prop) : Prop :=
  (3 ≤ x1 → (K S)) ∧ (¬ (3 ≤ x1) → (vp_in x1 3 ∧ (R61 (x1 + 1) (S.1, va_up S.2.1 47 (upd (S.2.1 47) x1.toNatClampNeg (vp_nar .boolean 0)), S.2.2))))
def e_begin_61 (x1 : Int32) (S : ms) (K : ms → Prop) : Prop :=
  ∃ (I : Int32 → ms → Prop) (μ : Int32 → ms → Nat), I x1 S ∧ ∀ yx1 yS, I yx1 yS → b_begin_61 yx1 yS (fun zx1 zS => I zx1 zS ∧ μ zx1 zS < μ yx1 yS) K
def b_begin_34 (x1 : Int32) (S : ms) (R34 : Int32 → ms → Prop) (K : ms → Prop) : Prop :=
  (4 ≤ x1 → (e_begin_61 0 S K)) ∧ (¬ (4 ≤ x1) → (vp_in x1 4 ∧ (vp_in x1 4 ∧ (R34 (x1 + 1) (S.1, va_up (va_up S.2.1 39 (upd (S.2.1 39) x1.toNatClampNeg (vp_nar .boolean 0))) 42 (upd ((va_up S.2.1 39 (upd (S.2.1 39) x1.toNatClampNeg (vp_nar .boolean 0))) 42) x1.toNatClampNeg (vp_nar .boolean 0)), S.2.2)))))
def e_begin_34 (x1 : Int32) (S : ms) (K : ms → Prop) : Prop :=
  ∃ (I : Int32 → ms → Prop) (μ : Int32 → ms → Nat), I x1 S ∧ ∀ yx1 yS, I yx1 yS → b_begin_34 yx1 yS (fun zx1 zS => I zx1 zS ∧ μ zx1 zS < μ yx1 yS) K
def p_begin  (S : ms) (K : ms → Prop) : Prop :=
  vp_in 2 3 ∧ (e_begin_34 0 (upd (upd (upd (upd (upd S.1 34 0) 35 0) 10 (-1)) 43 0) 48 0, va_up S.2.1 14 (upd (S.2.1 14) (2 : Int32).toNatClampNeg 0), S.2.2) K)
def b_become_243 (x1 : Int32) (x2 : Int32) (x3 : Int32) (x4 : Int32) (x5 : Int32) (S : ms) (R102 : Int32 → ms → Prop) (R114 : Int32 → Int32 → ms → Prop) (R243 : Int32 → Int32 → Int32 → Int32 → Int32 → ms → Prop) (K : ms → Prop) : Prop :=
  (64 ≤ x5 → (R114 x1 (x2 + 1) S)) ∧ (¬ (64 ≤ x5) → (vp_in x5 64 ∧ (vp_in (((64 * (((64 * x1) + x4) + (x5 / 8))) + x3) + (x5 - x5 / 8 * 8)) 12288 ∧ (R243 x1 x2 x3 x4 (x5 + 1) (S.1, va_up S.2.1 20 (upd (S.2.1 20) (((64 * (((64 * x1) + x4) + (x5 / 8))) + x3) + (x5 - x5 / 8 * 8)).toNatClampNeg (S.2.1 25 x5.toNatClampNeg)), S.2.2)))))
def e_become_243 (x1 : Int32) (x2 : Int32) (x3 : Int32) (x4 : Int32) (x5 : Int32) (S : ms) (R102 : Int32 → ms → Prop) (R114 : Int32 → Int32 → ms → Prop) (K : ms → Prop) : Prop :=
  ∃ (I : Int32 → Int32 → Int32 → Int32 → Int32 → ms → Prop) (μ : Int32 → Int32 → Int32 → Int32 → Int32 → ms → Nat), I x1 x2 x3 x4 x5 S ∧ ∀ yx1 yx2 yx3 yx4 yx5 yS, I yx1 yx2 yx3 yx4 yx5 yS → b_become_243 yx1 yx2 yx3 yx4 yx5 yS R102 R114 (fun zx1 zx2 zx3 zx4 zx5 zS => I zx1 zx2 zx3 zx4 zx5 zS ∧ μ zx1 zx2 zx3 zx4 zx5 zS < μ yx1 yx2 yx3 yx4 yx5 yS) K
def b_become_137 (x1 : Int32) (x2 : Int32) (x3 : Int32) (S : ms) (R102 : Int32 → ms → Prop) (R114 : Int32 → Int32 → ms → Prop) (R137 : Int32 → Int32 → Int32 → ms → Prop) (K : ms → Prop) : Prop :=
  (64 ≤ x3 → (p_toSamples S (fun S208 => vp_in (3 + x1) 9 ∧ (¬ (S208.2.1 17 (3 + x1).toNatClampNeg) = 0 ∧ (vp_in (3 + x1) 9 ∧ (¬ (S208.2.1 17 (3 + x1).toNatClampNeg) = 0 ∧ (e_become_243 x1 x2 (8 * (x2 - x2 / (S208.2.1 17 (3 + x1).toNatClampNeg) * (S208.2.1 17 (3 + x1).toNatClampNeg))) (8 * (x2 / (S208.2.1 17 (3 + x1).toNatClampNeg))) 0 (S208.1, S208.2.1, S208.2.2) R102 R114 K))))))) ∧ (¬ (64 ≤ x3) → (p_levelCell 2 x1 x2 x3 (fun v151 => vp_in v151 36864 ∧ (p_levelCell 1 x1 x2 x3 (fun v165 => vp_in v165 36864 ∧ (vp_in x3 64 ∧ (vp_in x3 64 ∧ (vp_in ((64 * x1) + ((va_up S.2.1 19 (upd (S.2.1 19) v165.toNatClampNeg (S.2.1 19 v151.toNatClampNeg))) 22 x3.toNatClampNeg)) 192 ∧ (vp_in ((va_up S.2.1 19 (upd (S.2.1 19) v165.toNatClampNeg (S.2.1 19 v151.toNatClampNeg))) 22 x3.toNatClampNeg) 64 ∧ (R137 x1 x2 (x3 + 1) (S.1, va_up (va_up S.2.1 19 (upd (S.2.1 19) v165.toNatClampNeg (S.2.1 19 v151.toNatClampNeg))) 25 (upd ((va_up S.2.1 19 (upd (S.2.1 19) v165.toNatClampNeg (S.2.1 19 v151.toNatClampNeg))) 25) ((va_up S.2.1 19 (upd (S.2.1 19) v165.toNatClampNeg (S.2.1 19 v151.toNatClampNeg))) 22 x3.toNatClampNeg).toNatClampNeg ((S.2.1 19 v151.toNatClampNeg) * ((va_up S.2.1 19 (upd (S.2.1 19) v165.toNatClampNeg (S.2.1 19 v151.toNatClampNeg))) 46 ((64 * x1) + ((va_up S.2.1 19 (upd (S.2.1 19) v165.toNatClampNeg (S.2.1 19 v151.toNatClampNeg))) 22 x3.toNatClampNeg)).toNatClampNeg))), S.2.2)))))))))))
def e_become_137 (x1 : Int32) (x2 : Int32) (x3 : Int32) (S : ms) (R102 : Int32 → ms → Prop) (R114 : Int32 → Int32 → ms → Prop) (K : ms → Prop) : Prop :=
  ∃ (I : Int32 → Int32 → Int32 → ms → Prop) (μ : Int32 → Int32 → Int32 → ms → Nat), I x1 x2 x3 S ∧ ∀ yx1 yx2 yx3 yS, I yx1 yx2 yx3 yS → b_become_137 yx1 yx2 yx3 yS R102 R114 (fun zx1 zx2 zx3 zS => I zx1 zx2 zx3 zS ∧ μ zx1 zx2 zx3 zS < μ yx1 yx2 yx3 yS) K
def b_become_114 (x1 : Int32) (x2 : Int32) (S : ms) (R102 : Int32 → ms → Prop) (R114 : Int32 → Int32 → ms → Prop) (K : ms → Prop) : Prop :=
  vp_in (3 + x1) 9 ∧ (vp_in (3 + x1) 9 ∧ ((((S.2.1 17 (3 + x1).toNatClampNeg) * (S.2.1 18 (3 + x1).toNatClampNeg)) ≤ x2 → (R102 (x1 + 1) S)) ∧ (¬ (((S.2.1 17 (3 + x1).toNatClampNeg) * (S.2.1 18 (3 + x1).toNatClampNeg)) ≤ x2) → (e_become_137 x1 x2 0 S R102 R114 K))))
def e_become_114 (x1 : Int32) (x2 : Int32) (S : ms) (R102 : Int32 → ms → Prop) (K : ms → Prop) : Prop :=
  ∃ (I : Int32 → Int32 → ms → Prop) (μ : Int32 → Int32 → ms → Nat), I x1 x2 S ∧ ∀ yx1 yx2 yS, I yx1 yx2 yS → b_become_114 yx1 yx2 yS R102 (fun zx1 zx2 zS => I zx1 zx2 zS ∧ μ zx1 zx2 zS < μ yx1 yx2 yS) K
def b_become_102 (x1 : Int32) (S : ms) (R102 : Int32 → ms → Prop) (K : ms → Prop) : Prop :=
  vp_in 1 3 ∧ (((S.2.1 14 (1 : Int32).toNatClampNeg) ≤ x1 → (K S)) ∧ (¬ ((S.2.1 14 (1 : Int32).toNatClampNeg) ≤ x1) → (e_become_114 x1 0 S R102 K)))
def e_become_102 (x1 : Int32) (S : ms) (K : ms → Prop) : Prop :=
  ∃ (I : Int32 → ms → Prop) (μ : Int32 → ms → Nat), I x1 S ∧ ∀ yx1 yS, I yx1 yS → b_become_102 yx1 yS (fun zx1 zS => I zx1 zS ∧ μ zx1 zS < μ yx1 yS) K
def b_become_45 (x1 : Int32) (S : ms) (R45 : Int32 → ms → Prop) (K : ms → Prop) : Prop :=
  vp_in 2 3 ∧ (((S.2.1 14 (2 : Int32).toNatClampNeg) ≤ x1 → (p_makeGrids 1 S (fun S97 => e_become_102 0 (S97.1, S97.2.1, S97.2.2) K))) ∧ (¬ ((S.2.1 14 (2 : Int32).toNatClampNeg) ≤ x1) → (vp_in (6 + x1) 9 ∧ (vp_in (3 + x1) 9 ∧ (vp_in (6 + x1) 9 ∧ (vp_in (3 + x1) 9 ∧ (R45 (x1 + 1) (S.1, va_up (va_up S.2.1 15 (upd (S.2.1 15) (3 + x1).toNatClampNeg (S.2.1 15 (6 + x1).toNatClampNeg))) 16 (upd ((va_up S.2.1 15 (upd (S.2.1 15) (3 + x1).toNatClampNeg (S.2.1 15 (6 + x1).toNatClampNeg))) 16) (3 + x1).toNatClampNeg ((va_up S.2.1 15 (upd (S.2.1 15) (3 + x1).toNatClampNeg (S.2.1 15 (6 + x1).toNatClampNeg))) 16 (6 + x1).toNatClampNeg)), S.2.2))))))))
def e_become_45 (x1 : Int32) (S : ms) (K : ms → Prop) : Prop :=
  ∃ (I : Int32 → ms → Prop) (μ : Int32 → ms → Nat), I x1 S ∧ ∀ yx1 yS, I yx1 yS → b_become_45 yx1 yS (fun zx1 zS => I zx1 zS ∧ μ zx1 zS < μ yx1 yS) K
def p_become  (S : ms) (K : ms → Prop) : Prop :=
  vp_in 1 3 ∧ (vp_in 2 3 ∧ (vp_in 1 3 ∧ (vp_in 2 3 ∧ (vp_in 1 3 ∧ (vp_in 2 3 ∧ (vp_in 1 3 ∧ (e_become_45 0 (S.1, va_up (va_up (va_up (va_up S.2.1 11 (upd (S.2.1 11) (1 : Int32).toNatClampNeg (vp_nar .boolean 1))) 12 (upd ((va_up S.2.1 11 (upd (S.2.1 11) (1 : Int32).toNatClampNeg (vp_nar .boolean 1))) 12) (1 : Int32).toNatClampNeg ((va_up S.2.1 11 (upd (S.2.1 11) (1 : Int32).toNatClampNeg (vp_nar .boolean 1))) 12 (2 : Int32).toNatClampNeg))) 13 (upd ((va_up (va_up S.2.1 11 (upd (S.2.1 11) (1 : Int32).toNatClampNeg (vp_nar .boolean 1))) 12 (upd ((va_up S.2.1 11 (upd (S.2.1 11) (1 : Int32).toNatClampNeg (vp_nar .boolean 1))) 12) (1 : Int32).toNatClampNeg ((va_up S.2.1 11 (upd (S.2.1 11) (1 : Int32).toNatClampNeg (vp_nar .boolean 1))) 12 (2 : Int32).toNatClampNeg))) 13) (1 : Int32).toNatClampNeg ((va_up (va_up S.2.1 11 (upd (S.2.1 11) (1 : Int32).toNatClampNeg (vp_nar .boolean 1))) 12 (upd ((va_up S.2.1 11 (upd (S.2.1 11) (1 : Int32).toNatClampNeg (vp_nar .boolean 1))) 12) (1 : Int32).toNatClampNeg ((va_up S.2.1 11 (upd (S.2.1 11) (1 : Int32).toNatClampNeg (vp_nar .boolean 1))) 12 (2 : Int32).toNatClampNeg))) 13 (2 : Int32).toNatClampNeg))) 14 (upd ((va_up (va_up (va_up S.2.1 11 (upd (S.2.1 11) (1 : Int32).toNatClampNeg (vp_nar .boolean 1))) 12 (upd ((va_up S.2.1 11 (upd (S.2.1 11) (1 : Int32).toNatClampNeg (vp_nar .boolean 1))) 12) (1 : Int32).toNatClampNeg ((va_up S.2.1 11 (upd (S.2.1 11) (1 : Int32).toNatClampNeg (vp_nar .boolean 1))) 12 (2 : Int32).toNatClampNeg))) 13 (upd ((va_up (va_up S.2.1 11 (upd (S.2.1 11) (1 : Int32).toNatClampNeg (vp_nar .boolean 1))) 12 (upd ((va_up S.2.1 11 (upd (S.2.1 11) (1 : Int32).toNatClampNeg (vp_nar .boolean 1))) 12) (1 : Int32).toNatClampNeg ((va_up S.2.1 11 (upd (S.2.1 11) (1 : Int32).toNatClampNeg (vp_nar .boolean 1))) 12 (2 : Int32).toNatClampNeg))) 13) (1 : Int32).toNatClampNeg ((va_up (va_up S.2.1 11 (upd (S.2.1 11) (1 : Int32).toNatClampNeg (vp_nar .boolean 1))) 12 (upd ((va_up S.2.1 11 (upd (S.2.1 11) (1 : Int32).toNatClampNeg (vp_nar .boolean 1))) 12) (1 : Int32).toNatClampNeg ((va_up S.2.1 11 (upd (S.2.1 11) (1 : Int32).toNatClampNeg (vp_nar .boolean 1))) 12 (2 : Int32).toNatClampNeg))) 13 (2 : Int32).toNatClampNeg))) 14) (1 : Int32).toNatClampNeg ((va_up (va_up (va_up S.2.1 11 (upd (S.2.1 11) (1 : Int32).toNatClampNeg (vp_nar .boolean 1))) 12 (upd ((va_up S.2.1 11 (upd (S.2.1 11) (1 : Int32).toNatClampNeg (vp_nar .boolean 1))) 12) (1 : Int32).toNatClampNeg ((va_up S.2.1 11 (upd (S.2.1 11) (1 : Int32).toNatClampNeg (vp_nar .boolean 1))) 12 (2 : Int32).toNatClampNeg))) 13 (upd ((va_up (va_up S.2.1 11 (upd (S.2.1 11) (1 : Int32).toNatClampNeg (vp_nar .boolean 1))) 12 (upd ((va_up S.2.1 11 (upd (S.2.1 11) (1 : Int32).toNatClampNeg (vp_nar .boolean 1))) 12) (1 : Int32).toNatClampNeg ((va_up S.2.1 11 (upd (S.2.1 11) (1 : Int32).toNatClampNeg (vp_nar .boolean 1))) 12 (2 : Int32).toNatClampNeg))) 13) (1 : Int32).toNatClampNeg ((va_up (va_up S.2.1 11 (upd (S.2.1 11) (1 : Int32).toNatClampNeg (vp_nar .boolean 1))) 12 (upd ((va_up S.2.1 11 (upd (S.2.1 11) (1 : Int32).toNatClampNeg (vp_nar .boolean 1))) 12) (1 : Int32).toNatClampNeg ((va_up S.2.1 11 (upd (S.2.1 11) (1 : Int32).toNatClampNeg (vp_nar .boolean 1))) 12 (2 : Int32).toNatClampNeg))) 13 (2 : Int32).toNatClampNeg))) 14 (2 : Int32).toNatClampNeg)), S.2.2) K)))))))
def b_unpack_148  (S : ms) (K : Int32 → ms → Prop) : Prop :=
  K (S.1 35) S
def b_unpack_137  (S : ms) (K : Int32 → ms → Prop) : Prop :=
  (¬ (S.1 35) = 0 → (b_unpack_148 S K)) ∧ ((S.1 35) = 0 → (p_become S (fun S145 => b_unpack_148 (S145.1, S145.2.1, S145.2.2) K)))
def b_unpack_108  (S : ms) (K : Int32 → ms → Prop) : Prop :=
  (¬ (S.1 35) = 0 → (b_unpack_137 S K)) ∧ ((S.1 35) = 0 → (((S.1 7) ≤ (S.1 34) → (b_unpack_137 S K)) ∧ (¬ ((S.1 7) ≤ (S.1 34)) → (p_fail 8 (S.1 34) S (fun v133 S133 => b_unpack_137 (S133.1, S133.2.1, S133.2.2) K)))))
def b_unpack_86 (x1 : Int32) (S : ms) (R40 : Int32 → ms → Prop) (K : Int32 → ms → Prop) : Prop :=
  (¬ (S.1 35) = 0 → (R40 x1 S)) ∧ ((S.1 35) = 0 → ((x1 = 217 → (R40 x1 S)) ∧ (¬ (x1 = 217) → (p_readSection x1 S (fun S102 => R40 x1 (S102.1, S102.2.1, S102.2.2))))))
def b_unpack_40 (x1 : Int32) (S : ms) (R40 : Int32 → ms → Prop) (K : Int32 → ms → Prop) : Prop :=
  (¬ (S.1 35) = 0 → (b_unpack_108 S K)) ∧ ((S.1 35) = 0 → ((x1 = 217 → (b_unpack_108 S K)) ∧ (¬ (x1 = 217) → (p_readMark S (fun v55 S55 => (¬ (S55.1 35) = 0 → (b_unpack_86 v55 (S55.1, S55.2.1, S55.2.2) R40 K)) ∧ ((S55.1 35) = 0 → (p_mayCome v55 (S55.1, S55.2.1, S55.2.2) (fun v68 S68 => (¬ v68 = 0 → (b_unpack_86 v55 (S68.1, S68.2.1, S68.2.2) R40 K)) ∧ (v68 = 0 → (p_fail 3 ((S68.1 34) - 1) (S68.1, S68.2.1, S68.2.2) (fun v82 S82 => b_unpack_86 v55 (S82.1, S82.2.1, S82.2.2) R40 K)))))))))))
def e_unpack_40 (x1 : Int32) (S : ms) (K : Int32 → ms → Prop) : Prop :=
  ∃ (I : Int32 → ms → Prop) (μ : Int32 → ms → Nat), I x1 S ∧ ∀ yx1 yS, I yx1 yS → b_unpack_40 yx1 yS (fun zx1 zS => I zx1 zS ∧ μ zx1 zS < μ yx1 yS) K
def p_unpack  (S : ms) (K : Int32 → ms → Prop) : Prop :=
  p_begin (upd S.1 0 0, S.2.1, S.2.2) (fun S6 => p_readMark (S6.1, S6.2.1, S6.2.2) (fun v10 S10 => (¬ (S10.1 35) = 0 → (e_unpack_40 v10 (S10.1, S10.2.1, S10.2.2) K)) ∧ ((S10.1 35) = 0 → ((v10 = 216 → (e_unpack_40 v10 (S10.1, S10.2.1, S10.2.2) K)) ∧ (¬ (v10 = 216) → (p_fail 3 ((S10.1 34) - 1) (S10.1, S10.2.1, S10.2.2) (fun v36 S36 => e_unpack_40 v10 (S36.1, S36.2.1, S36.2.2) K)))))))
def p_place  (S : ms) (K : Int32 → ms → Prop) : Prop :=
  K ((upd S.1 0 0) 10) (upd S.1 0 0, S.2.1, S.2.2)
def b_about_75 (s0 : Int32) (S : ms) (K : Int32 → ms → Prop) : Prop :=
  K s0 S
def b_about_28 (x1 : Int32) (s1 : Int32) (S : ms) (K : Int32 → ms → Prop) : Prop :=
  (((upd S.1 0 s1) 0) ≤ 0 → ((¬ x1 = 0 → ((¬ x1 = 1 → (vp_in 1 3 ∧ (b_about_75 (S.2.1 14 (1 : Int32).toNatClampNeg) (upd S.1 0 s1, S.2.1, S.2.2) K))) ∧ (x1 = 1 → (vp_in 1 3 ∧ (b_about_75 (S.2.1 13 (1 : Int32).toNatClampNeg) (upd S.1 0 s1, S.2.1, S.2.2) K))))) ∧ (x1 = 0 → (vp_in 1 3 ∧ (b_about_75 (S.2.1 12 (1 : Int32).toNatClampNeg) (upd S.1 0 s1, S.2.1, S.2.2) K))))) ∧ (¬ (((upd S.1 0 s1) 0) ≤ 0) → (b_about_75 0 (upd S.1 0 s1, S.2.1, S.2.2) K))
def b_about_10 (x1 : Int32) (S : ms) (K : Int32 → ms → Prop) : Prop :=
  b_about_28 x1 1 S K
def p_about (x1 : Int32) (S : ms) (K : Int32 → ms → Prop) : Prop :=
  (x1 < 0 → (b_about_10 x1 S K)) ∧ (¬ (x1 < 0) → ((x1 ≤ 2 → (vp_in 1 3 ∧ (((S.2.1 11 (1 : Int32).toNatClampNeg) = 0 → (b_about_28 x1 2 S K)) ∧ (¬ ((S.2.1 11 (1 : Int32).toNatClampNeg) = 0) → (b_about_28 x1 0 S K))))) ∧ (¬ (x1 ≤ 2) → (b_about_10 x1 S K))))
def p_layerSample (x1 : Int32) (x2 : Int32) (x3 : Int32) (S : ms) (K : Int32 → ms → Prop) : Prop :=
  vp_in (3 + x3) 9 ∧ (p_greatest 1 1 S (fun v13 S13 => ¬ v13 = 0 ∧ (vp_in (3 + x3) 9 ∧ (p_greatest 1 0 (S13.1, S13.2.1, S13.2.2) (fun v32 S32 => ¬ v32 = 0 ∧ (vp_in ((64 * ((64 * x3) + ((x2 * (S13.2.1 16 (3 + x3).toNatClampNeg)) / v32))) + ((x1 * (S.2.1 15 (3 + x3).toNatClampNeg)) / v13)) 12288 ∧ (K (S32.2.1 20 ((64 * ((64 * x3) + ((x2 * (S13.2.1 16 (3 + x3).toNatClampNeg)) / v32))) + ((x1 * (S.2.1 15 (3 + x3).toNatClampNeg)) / v13)).toNatClampNeg) (S32.1, S32.2.1, S32.2.2))))))))
def b_sampleAt_142 (s0 : Int32) (S : ms) (K : Int32 → ms → Prop) : Prop :=
  K s0 S
def b_sampleAt_115 (s0 : Int32) (S : ms) (K : Int32 → ms → Prop) : Prop :=
  (0 ≤ s0 → ((s0 ≤ 255 → (b_sampleAt_142 s0 S K)) ∧ (¬ (s0 ≤ 255) → (b_sampleAt_142 255 S K)))) ∧ (¬ (0 ≤ s0) → (b_sampleAt_142 0 S K))
def p_sampleAt (x1 : Int32) (x2 : Int32) (x3 : Int32) (S : ms) (K : Int32 → ms → Prop) : Prop :=
  p_layerSample x1 x2 0 S (fun v4 S4 => vp_in 1 3 ∧ ((¬ (S4.2.1 14 (1 : Int32).toNatClampNeg) = 1 → (p_layerSample x1 x2 1 (S4.1, S4.2.1, S4.2.2) (fun v26 S26 => p_layerSample x1 x2 2 (S26.1, S26.2.1, S26.2.2) (fun v39 S39 => (¬ x3 = 0 → ((¬ x3 = 1 → (b_sampleAt_115 (v4 + (((116130 * (v26 - 128)) + 32768) >>> (16 &&& 31 : Int32) : Int32)) (S39.1, S39.2.1, S39.2.2) K)) ∧ (x3 = 1 → (b_sampleAt_115 (v4 - ((((22554 * (v26 - 128)) + (46802 * (v39 - 128))) + 32768) >>> (16 &&& 31 : Int32) : Int32)) (S39.1, S39.2.1, S39.2.2) K)))) ∧ (x3 = 0 → (b_sampleAt_115 (v4 + (((91881 * (v39 - 128)) + 32768) >>> (16 &&& 31 : Int32) : Int32)) (S39.1, S39.2.1, S39.2.2) K)))))) ∧ ((S4.2.1 14 (1 : Int32).toNatClampNeg) = 1 → (K v4 (S4.1, S4.2.1, S4.2.2)))))
def b_sample_86 (s0 : Int32) (S : ms) (K : Int32 → ms → Prop) : Prop :=
  K s0 S
def b_sample_65 (x1 : Int32) (x2 : Int32) (x3 : Int32) (s1 : Int32) (S : ms) (K : Int32 → ms → Prop) : Prop :=
  (((upd S.1 0 s1) 0) ≤ 0 → (p_sampleAt x1 x2 x3 (upd S.1 0 s1, S.2.1, S.2.2) (fun v83 S83 => b_sample_86 v83 (S83.1, S83.2.1, S83.2.2) K))) ∧ (¬ (((upd S.1 0 s1) 0) ≤ 0) → (b_sample_86 0 (upd S.1 0 s1, S.2.1, S.2.2) K))
def b_sample_60 (x1 : Int32) (x2 : Int32) (x3 : Int32) (S : ms) (K : Int32 → ms → Prop) : Prop :=
  b_sample_65 x1 x2 x3 2 S K
def p_sample (x1 : Int32) (x2 : Int32) (x3 : Int32) (S : ms) (K : Int32 → ms → Prop) : Prop :=
  vp_in 1 3 ∧ ((¬ (S.2.1 11 (1 : Int32).toNatClampNeg) = 0 → ((x1 < 0 → (b_sample_60 x1 x2 x3 S K)) ∧ (¬ (x1 < 0) → (vp_in 1 3 ∧ (((S.2.1 12 (1 : Int32).toNatClampNeg) ≤ x1 → (b_sample_60 x1 x2 x3 S K)) ∧ (¬ ((S.2.1 12 (1 : Int32).toNatClampNeg) ≤ x1) → ((x2 < 0 → (b_sample_60 x1 x2 x3 S K)) ∧ (¬ (x2 < 0) → (vp_in 1 3 ∧ (((S.2.1 13 (1 : Int32).toNatClampNeg) ≤ x2 → (b_sample_60 x1 x2 x3 S K)) ∧ (¬ ((S.2.1 13 (1 : Int32).toNatClampNeg) ≤ x2) → ((x3 < 0 → (b_sample_60 x1 x2 x3 S K)) ∧ (¬ (x3 < 0) → (vp_in 1 3 ∧ ((x3 < (S.2.1 14 (1 : Int32).toNatClampNeg) → (b_sample_65 x1 x2 x3 0 S K)) ∧ (¬ (x3 < (S.2.1 14 (1 : Int32).toNatClampNeg)) → (b_sample_60 x1 x2 x3 S K))))))))))))))))) ∧ ((S.2.1 11 (1 : Int32).toNatClampNeg) = 0 → (b_sample_65 x1 x2 x3 1 S K)))
def b_level_148 (s0 : Int32) (S : ms) (K : Int32 → ms → Prop) : Prop :=
  K s0 S
def b_level_123 (x1 : Int32) (x2 : Int32) (x3 : Int32) (x4 : Int32) (x5 : Int32) (s1 : Int32) (S : ms) (K : Int32 → ms → Prop) : Prop :=
  (x5 = 0 → (b_level_148 0 (upd S.1 0 s1, S.2.1, S.2.2) K)) ∧ (¬ (x5 = 0) → (p_levelCell x1 x2 x3 x4 (fun v140 => vp_in v140 36864 ∧ (b_level_148 (S.2.1 19 v140.toNatClampNeg) (upd S.1 0 s1, S.2.1, S.2.2) K))))
def b_level_110 (x1 : Int32) (x2 : Int32) (x3 : Int32) (x4 : Int32) (s0 : Int32) (S : ms) (K : Int32 → ms → Prop) : Prop :=
  (s0 = 0 → (b_level_123 x1 x2 x3 x4 s0 3 S K)) ∧ (¬ (s0 = 0) → (b_level_123 x1 x2 x3 x4 s0 0 S K))
def b_level_109 (x1 : Int32) (x2 : Int32) (x3 : Int32) (x4 : Int32) (S : ms) (K : Int32 → ms → Prop) : Prop :=
  b_level_110 x1 x2 x3 x4 0 S K
def b_level_73 (x1 : Int32) (x2 : Int32) (x3 : Int32) (x4 : Int32) (s0 : Int32) (S : ms) (K : Int32 → ms → Prop) : Prop :=
  (s0 = 0 → (b_level_109 x1 x2 x3 x4 S K)) ∧ (¬ (s0 = 0) → (vp_in ((3 * x1) + x2) 9 ∧ (vp_in ((3 * x1) + x2) 9 ∧ ((((S.2.1 17 ((3 * x1) + x2).toNatClampNeg) * (S.2.1 18 ((3 * x1) + x2).toNatClampNeg)) ≤ x3 → (b_level_109 x1 x2 x3 x4 S K)) ∧ (¬ (((S.2.1 17 ((3 * x1) + x2).toNatClampNeg) * (S.2.1 18 ((3 * x1) + x2).toNatClampNeg)) ≤ x3) → (b_level_110 x1 x2 x3 x4 1 S K))))))
def b_level_72 (x1 : Int32) (x2 : Int32) (x3 : Int32) (x4 : Int32) (S : ms) (K : Int32 → ms → Prop) : Prop :=
  b_level_73 x1 x2 x3 x4 0 S K
def b_level_33 (s1 : Int32) (S : ms) (K : Int32 → ms → Prop) : Prop :=
  K 0 (upd S.1 0 s1, S.2.1, S.2.2)
def b_level_28  (S : ms) (K : Int32 → ms → Prop) : Prop :=
  b_level_33 1 S K
def b_level_18 (x1 : Int32) (S : ms) (K : Int32 → ms → Prop) : Prop :=
  (x1 < 0 → (b_level_28 S K)) ∧ (¬ (x1 < 0) → ((x1 ≤ 1 → (b_level_33 2 S K)) ∧ (¬ (x1 ≤ 1) → (b_level_28 S K))))
def p_level (x1 : Int32) (x2 : Int32) (x3 : Int32) (x4 : Int32) (S : ms) (K : Int32 → ms → Prop) : Prop :=
  (x1 < 0 → (b_level_18 x1 S K)) ∧ (¬ (x1 < 0) → ((1 < x1 → (b_level_18 x1 S K)) ∧ (¬ (1 < x1) → (vp_in x1 3 ∧ ((¬ (S.2.1 11 x1.toNatClampNeg) = 0 → ((x2 < 0 → (b_level_72 x1 x2 x3 x4 S K)) ∧ (¬ (x2 < 0) → (vp_in x1 3 ∧ (((S.2.1 14 x1.toNatClampNeg) ≤ x2 → (b_level_72 x1 x2 x3 x4 S K)) ∧ (¬ ((S.2.1 14 x1.toNatClampNeg) ≤ x2) → ((x4 < 0 → (b_level_72 x1 x2 x3 x4 S K)) ∧ (¬ (x4 < 0) → ((64 ≤ x4 → (b_level_72 x1 x2 x3 x4 S K)) ∧ (¬ (64 ≤ x4) → ((x3 < 0 → (b_level_72 x1 x2 x3 x4 S K)) ∧ (¬ (x3 < 0) → (b_level_73 x1 x2 x3 x4 1 S K))))))))))))) ∧ ((S.2.1 11 x1.toNatClampNeg) = 0 → (b_level_18 x1 S K)))))))
def b_take_70 (x1 : Int32) (x2 : Int32) (x3 : Int32) (S : ms) (R50 : Int32 → ms → Prop) (R60 : Int32 → Int32 → ms → Prop) (R70 : Int32 → Int32 → Int32 → ms → Prop) (K : ms → Prop) : Prop :=
  ((S.1 3) ≤ x3 → (R60 x1 (x2 + 1) S)) ∧ (¬ ((S.1 3) ≤ x3) → (p_cell x2 x1 x3 (fun v85 => p_sampleAt x2 x1 x3 S (fun v92 S92 => vp_in v85 12288 ∧ (R70 x1 x2 (x3 + 1) (S92.1, va_up S92.2.1 4 (upd (S92.2.1 4) v85.toNatClampNeg v92), S92.2.2))))))
def e_take_70 (x1 : Int32) (x2 : Int32) (x3 : Int32) (S : ms) (R50 : Int32 → ms → Prop) (R60 : Int32 → Int32 → ms → Prop) (K : ms → Prop) : Prop :=
  ∃ (I : Int32 → Int32 → Int32 → ms → Prop) (μ : Int32 → Int32 → Int32 → ms → Nat), I x1 x2 x3 S ∧ ∀ yx1 yx2 yx3 yS, I yx1 yx2 yx3 yS → b_take_70 yx1 yx2 yx3 yS R50 R60 (fun zx1 zx2 zx3 zS => I zx1 zx2 zx3 zS ∧ μ zx1 zx2 zx3 zS < μ yx1 yx2 yx3 yS) K
def b_take_60 (x1 : Int32) (x2 : Int32) (S : ms) (R50 : Int32 → ms → Prop) (R60 : Int32 → Int32 → ms → Prop) (K : ms → Prop) : Prop :=
  ((S.1 1) ≤ x2 → (R50 (x1 + 1) S)) ∧ (¬ ((S.1 1) ≤ x2) → (e_take_70 x1 x2 0 S R50 R60 K))
def e_take_60 (x1 : Int32) (x2 : Int32) (S : ms) (R50 : Int32 → ms → Prop) (K : ms → Prop) : Prop :=
  ∃ (I : Int32 → Int32 → ms → Prop) (μ : Int32 → Int32 → ms → Nat), I x1 x2 S ∧ ∀ yx1 yx2 yS, I yx1 yx2 yS → b_take_60 yx1 yx2 yS R50 (fun zx1 zx2 zS => I zx1 zx2 zS ∧ μ zx1 zx2 zS < μ yx1 yx2 yS) K
def b_take_50 (x1 : Int32) (S : ms) (R50 : Int32 → ms → Prop) (K : ms → Prop) : Prop :=
  ((S.1 2) ≤ x1 → (K S)) ∧ (¬ ((S.1 2) ≤ x1) → (e_take_60 x1 0 S R50 K))
def e_take_50 (x1 : Int32) (S : ms) (K : ms → Prop) : Prop :=
  ∃ (I : Int32 → ms → Prop) (μ : Int32 → ms → Nat), I x1 S ∧ ∀ yx1 yS, I yx1 yS → b_take_50 yx1 yS (fun zx1 zS => I zx1 zS ∧ μ zx1 zS < μ yx1 yS) K
def b_take_15 (s1 : Int32) (S : ms) (K : ms → Prop) : Prop :=
  (((upd S.1 0 s1) 0) ≤ 0 → (vp_in 1 3 ∧ (vp_in 1 3 ∧ (vp_in 1 3 ∧ (p_canvas (S.2.1 12 (1 : Int32).toNatClampNeg) (S.2.1 13 (1 : Int32).toNatClampNeg) (S.2.1 14 (1 : Int32).toNatClampNeg) (upd S.1 0 s1, S.2.1, S.2.2) (fun S45 => e_take_50 0 (S45.1, S45.2.1, S45.2.2) K)))))) ∧ (¬ (((upd S.1 0 s1) 0) ≤ 0) → (K (upd S.1 0 s1, S.2.1, S.2.2)))
def p_take  (S : ms) (K : ms → Prop) : Prop :=
  vp_in 1 3 ∧ (((S.2.1 11 (1 : Int32).toNatClampNeg) = 0 → (b_take_15 1 S K)) ∧ (¬ ((S.2.1 11 (1 : Int32).toNatClampNeg) = 0) → (b_take_15 0 S K)))
