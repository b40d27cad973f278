noncomputable def x_b_units_213_x2 (a_x1 : Nat) (a_x3 : Nat) (a_x6 : Nat) (a_x7 : Nat) (a_x8 : Nat) (a_x9 : Nat) (a_x10 : Nat) (a_x11 : Nat) (t : X6) (r_R122 : Nat → Nat → Nat → Nat → Nat → X6 → Bool) (r_R213 : Nat → Nat → Nat → Nat → Nat → Nat → Nat → Nat → X6 → Bool) (k_K : X6 → Bool) : Bool :=
  and (Nat.blt 0 3) <| rrw t 14 0 fun v2 => cond (!(w_lt a_x11 v2)) (frc (w_add a_x8 1) fun f5 => r_R122 a_x1 a_x3 a_x6 a_x7 f5 t) (cond (w_eq a_x3 0) (and (Nat.blt a_x11 9) <| rrw t 15 a_x11 fun v9 => x_b_units_239_x2 a_x1 a_x3 a_x6 a_x7 a_x8 a_x9 a_x10 a_x11 v9 t r_R122 r_R213 k_K) (x_b_units_239_x2 a_x1 a_x3 a_x6 a_x7 a_x8 a_x9 a_x10 a_x11 1 t r_R122 r_R213 k_K))
set_option maxRecDepth 20000 in
set_option maxHeartbeats 1000000 in
theorem xs_b_units_213_x2 {x1 : Int32} {a_x1 : Nat} {x2 : Int32} {x3 : Int32} {a_x3 : Nat} {x6 : Int32} {a_x6 : Nat} {x7 : Int32} {a_x7 : Nat} {x8 : Int32} {a_x8 : Nat} {x9 : Int32} {a_x9 : Nat} {x10 : Int32} {a_x10 : Nat} {x11 : Int32} {a_x11 : Nat} {S : ms} {t : X6} {R122 : Int32 → Int32 → Int32 → Int32 → Int32 → Int32 → ms → Prop} {r_R122 : Nat → Nat → Nat → Nat → Nat → X6 → Bool} {R213 : Int32 → Int32 → Int32 → Int32 → Int32 → Int32 → Int32 → Int32 → Int32 → ms → Prop} {r_R213 : Nat → Nat → Nat → Nat → Nat → Nat → Nat → Nat → X6 → Bool} {K : ms → Prop} {k_K : X6 → Bool} (h : x_b_units_213_x2 a_x1 a_x3 a_x6 a_x7 a_x8 a_x9 a_x10 a_x11 t r_R122 r_R213 k_K = true) (e_x1 : x1 = Int32.ofNat a_x1) (g_x2 : 0 < x2) (e_x3 : x3 = Int32.ofNat a_x3) (e_x6 : x6 = Int32.ofNat a_x6) (e_x7 : x7 = Int32.ofNat a_x7) (e_x8 : x8 = Int32.ofNat a_x8) (e_x9 : x9 = Int32.ofNat a_x9) (e_x10 : x10 = Int32.ofNat a_x10) (e_x11 : x11 = Int32.ofNat a_x11) (hS : RM S t) (hR122 : ∀ {y0 : Int32} {b0 : Nat} {y1 : Int32} {y2 : Int32} {b2 : Nat} {y3 : Int32} {b3 : Nat} {y4 : Int32} {b4 : Nat} {y5 : Int32} {b5 : Nat} {yS : ms} {yt : X6}, r_R122 b0 b2 b3 b4 b5 yt = true → y0 = Int32.ofNat b0 → 0 < y1 → y2 = Int32.ofNat b2 → y3 = Int32.ofNat b3 → y4 = Int32.ofNat b4 → y5 = Int32.ofNat b5 → RM yS yt → R122 y0 y1 y2 y3 y4 y5 yS) (hR213 : ∀ {y0 : Int32} {b0 : Nat} {y1 : Int32} {y2 : Int32} {b2 : Nat} {y3 : Int32} {b3 : Nat} {y4 : Int32} {b4 : Nat} {y5 : Int32} {b5 : Nat} {y6 : Int32} {b6 : Nat} {y7 : Int32} {b7 : Nat} {y8 : Int32} {b8 : Nat} {yS : ms} {yt : X6}, r_R213 b0 b2 b3 b4 b5 b6 b7 b8 yt = true → y0 = Int32.ofNat b0 → 0 < y1 → y2 = Int32.ofNat b2 → y3 = Int32.ofNat b3 → y4 = Int32.ofNat b4 → y5 = Int32.ofNat b5 → y6 = Int32.ofNat b6 → y7 = Int32.ofNat b7 → y8 = Int32.ofNat b8 → RM yS yt → R213 y0 y1 y2 y3 y4 y5 y6 y7 y8 yS) (hK : ∀ {yS : ms} {yt : X6}, k_K yt = true → RM yS yt → K yS) : b_units_213 x1 x2 x3 x6 x7 x8 x9 x10 x11 S R122 R213 K := by
  unfold b_units_213
  unfold x_b_units_213_x2 at h
  obtain ⟨n1, h⟩ := an_ok h
  refine ⟨n_vp ((rfl : (0 : Int32) = Int32.ofNat 0)) n1 (by decide), ?_⟩
  obtain ⟨v2, h, q3⟩ := rrw_ok h hS (by decide) ((rfl : (0 : Int32) = Int32.ofNat 0))
  have hc4 := c_le' q3 e_x11
  refine ⟨fun hc => ?_, fun hc => ?_⟩
  · have h := x_pos h (hc4.mp hc)
    have h := frc_ok h
    have p6 := n_add e_x8 ((rfl : (1 : Int32) = Int32.ofNat 1))
    exact hR122 h e_x1 g_x2 e_x3 e_x6 e_x7 p6 hS
  · have h := x_neg h (fun q => hc (hc4.mpr q))
    have hc7 := c_eq' e_x3 ((rfl : (0 : Int32) = Int32.ofNat 0))
    refine ⟨fun hc => ?_, fun hc => ?_⟩
    · have h := x_pos h (hc7.mp hc)
      obtain ⟨n8, h⟩ := an_ok h
      refine ⟨n_vp e_x11 n8 (by decide), ?_⟩
      obtain ⟨v9, h, q10⟩ := rrw_ok h hS (by decide) e_x11
      exact xs_b_units_239_x2 h e_x1 g_x2 e_x3 e_x6 e_x7 e_x8 e_x9 e_x10 e_x11 q10 hS hR122 hR213 hK
    · have h := x_neg h (fun q => hc (hc7.mpr q))
      exact xs_b_units_239_x2 h e_x1 g_x2 e_x3 e_x6 e_x7 e_x8 e_x9 e_x10 e_x11 ((rfl : (1 : Int32) = Int32.ofNat 1)) hS hR122 hR213 hK
noncomputable def xl_e_units_213_x2 (r_R122 : Nat → Nat → Nat → Nat → Nat → X6 → Bool) (k_K : X6 → Bool) (n : Nat) : Nat → Nat → Nat → Nat → Nat → Nat → Nat → Nat → X6 → Bool := Nat.rec (motive := fun _ => Nat → Nat → Nat → Nat → Nat → Nat → Nat → Nat → X6 → Bool) (fun _ _ _ _ _ _ _ _ _ => false) (fun _ ih b_x1 b_x3 b_x6 b_x7 b_x8 b_x9 b_x10 b_x11 bt => x_b_units_213_x2 b_x1 b_x3 b_x6 b_x7 b_x8 b_x9 b_x10 b_x11 bt r_R122 ih k_K) n
noncomputable def x_e_units_213_x2 (a_x1 : Nat) (a_x3 : Nat) (a_x6 : Nat) (a_x7 : Nat) (a_x8 : Nat) (a_x9 : Nat) (a_x10 : Nat) (a_x11 : Nat) (t : X6) (r_R122 : Nat → Nat → Nat → Nat → Nat → X6 → Bool) (k_K : X6 → Bool) : Bool := xl_e_units_213_x2 r_R122 k_K 200000 a_x1 a_x3 a_x6 a_x7 a_x8 a_x9 a_x10 a_x11 t
def xq_e_units_213_x2 (r_R122 : Nat → Nat → Nat → Nat → Nat → X6 → Bool) (k_K : X6 → Bool) (n : Nat) (y_x1 : Int32) (y_x2 : Int32) (y_x3 : Int32) (y_x6 : Int32) (y_x7 : Int32) (y_x8 : Int32) (y_x9 : Int32) (y_x10 : Int32) (y_x11 : Int32) (yS : ms) : Prop := ∃ (b_x1 : Nat) (b_x3 : Nat) (b_x6 : Nat) (b_x7 : Nat) (b_x8 : Nat) (b_x9 : Nat) (b_x10 : Nat) (b_x11 : Nat) (bt : X6), y_x1 = Int32.ofNat b_x1 ∧ 0 < y_x2 ∧ y_x3 = Int32.ofNat b_x3 ∧ y_x6 = Int32.ofNat b_x6 ∧ y_x7 = Int32.ofNat b_x7 ∧ y_x8 = Int32.ofNat b_x8 ∧ y_x9 = Int32.ofNat b_x9 ∧ y_x10 = Int32.ofNat b_x10 ∧ y_x11 = Int32.ofNat b_x11 ∧ RM yS bt ∧ xl_e_units_213_x2 r_R122 k_K n b_x1 b_x3 b_x6 b_x7 b_x8 b_x9 b_x10 b_x11 bt = true
set_option maxRecDepth 20000 in
theorem xs_e_units_213_x2 {x1 : Int32} {a_x1 : Nat} {x2 : Int32} {x3 : Int32} {a_x3 : Nat} {x6 : Int32} {a_x6 : Nat} {x7 : Int32} {a_x7 : Nat} {x8 : Int32} {a_x8 : Nat} {x9 : Int32} {a_x9 : Nat} {x10 : Int32} {a_x10 : Nat} {x11 : Int32} {a_x11 : Nat} {S : ms} {t : X6} {R122 : Int32 → Int32 → Int32 → Int32 → Int32 → Int32 → ms → Prop} {r_R122 : Nat → Nat → Nat → Nat → Nat → X6 → Bool} {K : ms → Prop} {k_K : X6 → Bool} (h : x_e_units_213_x2 a_x1 a_x3 a_x6 a_x7 a_x8 a_x9 a_x10 a_x11 t r_R122 k_K = true) (e_x1 : x1 = Int32.ofNat a_x1) (g_x2 : 0 < x2) (e_x3 : x3 = Int32.ofNat a_x3) (e_x6 : x6 = Int32.ofNat a_x6) (e_x7 : x7 = Int32.ofNat a_x7) (e_x8 : x8 = Int32.ofNat a_x8) (e_x9 : x9 = Int32.ofNat a_x9) (e_x10 : x10 = Int32.ofNat a_x10) (e_x11 : x11 = Int32.ofNat a_x11) (hS : RM S t) (hR122 : ∀ {y0 : Int32} {b0 : Nat} {y1 : Int32} {y2 : Int32} {b2 : Nat} {y3 : Int32} {b3 : Nat} {y4 : Int32} {b4 : Nat} {y5 : Int32} {b5 : Nat} {yS : ms} {yt : X6}, r_R122 b0 b2 b3 b4 b5 yt = true → y0 = Int32.ofNat b0 → 0 < y1 → y2 = Int32.ofNat b2 → y3 = Int32.ofNat b3 → y4 = Int32.ofNat b4 → y5 = Int32.ofNat b5 → RM yS yt → R122 y0 y1 y2 y3 y4 y5 yS) (hK : ∀ {yS : ms} {yt : X6}, k_K yt = true → RM yS yt → K yS) : e_units_213 x1 x2 x3 x6 x7 x8 x9 x10 x11 S R122 K := by
  refine ⟨fun y_x1 y_x2 y_x3 y_x6 y_x7 y_x8 y_x9 y_x10 y_x11 yS => ∃ n, xq_e_units_213_x2 r_R122 k_K n y_x1 y_x2 y_x3 y_x6 y_x7 y_x8 y_x9 y_x10 y_x11 yS, fun y_x1 y_x2 y_x3 y_x6 y_x7 y_x8 y_x9 y_x10 y_x11 yS => mf (fun n => xq_e_units_213_x2 r_R122 k_K n y_x1 y_x2 y_x3 y_x6 y_x7 y_x8 y_x9 y_x10 y_x11 yS), ⟨200000, a_x1, a_x3, a_x6, a_x7, a_x8, a_x9, a_x10, a_x11, t, e_x1, g_x2, e_x3, e_x6, e_x7, e_x8, e_x9, e_x10, e_x11, hS, h⟩, fun y_x1 y_x2 y_x3 y_x6 y_x7 y_x8 y_x9 y_x10 y_x11 yS hI => ?_⟩
  obtain ⟨m, hm, hq⟩ := mf_ok hI
  obtain ⟨b_x1, b_x3, b_x6, b_x7, b_x8, b_x9, b_x10, b_x11, bt, c_x1, c_x2, c_x3, c_x6, c_x7, c_x8, c_x9, c_x10, c_x11, cS, h⟩ := hq
  cases m with
  | zero => exact absurd h Bool.false_ne_true
  | succ n => exact xs_b_units_213_x2 h c_x1 c_x2 c_x3 c_x6 c_x7 c_x8 c_x9 c_x10 c_x11 cS hR122 (fun h d_x1 d_x2 d_x3 d_x6 d_x7 d_x8 d_x9 d_x10 d_x11 dS => ⟨⟨n, _, _, _, _, _, _, _, _, _, d_x1, d_x2, d_x3, d_x6, d_x7, d_x8, d_x9, d_x10, d_x11, dS, h⟩, Nat.lt_of_le_of_lt (mf_le ⟨_, _, _, _, _, _, _, _, _, d_x1, d_x2, d_x3, d_x6, d_x7, d_x8, d_x9, d_x10, d_x11, dS, h⟩) (Nat.lt_of_lt_of_eq (Nat.lt_succ_self n) hm.symm)⟩) hK
noncomputable def x_b_units_196_x2 (a_x1 : Nat) (a_x3 : Nat) (a_x6 : Nat) (a_x7 : Nat) (a_x8 : Nat) (t : X6) (r_R122 : Nat → Nat → Nat → Nat → Nat → X6 → Bool) (k_K : X6 → Bool) : Bool :=
  cond (w_eq a_x6 0) false <| cond (w_eq a_x6 0) false <| frc (w_sub a_x8 (w_mul (w_div a_x8 a_x6) a_x6)) fun f3 => frc (w_div a_x8 a_x6) fun f5 => x_e_units_213_x2 a_x1 a_x3 a_x6 a_x7 a_x8 f3 f5 0 t r_R122 k_K
set_option maxRecDepth 20000 in
set_option maxHeartbeats 1000000 in
theorem xs_b_units_196_x2 {x1 : Int32} {a_x1 : Nat} {x2 : Int32} {x3 : Int32} {a_x3 : Nat} {x6 : Int32} {a_x6 : Nat} {x7 : Int32} {a_x7 : Nat} {x8 : Int32} {a_x8 : Nat} {S : ms} {t : X6} {R122 : Int32 → Int32 → Int32 → Int32 → Int32 → Int32 → ms → Prop} {r_R122 : Nat → Nat → Nat → Nat → Nat → X6 → Bool} {K : ms → Prop} {k_K : X6 → Bool} (h : x_b_units_196_x2 a_x1 a_x3 a_x6 a_x7 a_x8 t r_R122 k_K = true) (e_x1 : x1 = Int32.ofNat a_x1) (g_x2 : 0 < x2) (e_x3 : x3 = Int32.ofNat a_x3) (e_x6 : x6 = Int32.ofNat a_x6) (e_x7 : x7 = Int32.ofNat a_x7) (e_x8 : x8 = Int32.ofNat a_x8) (hS : RM S t) (hR122 : ∀ {y0 : Int32} {b0 : Nat} {y1 : Int32} {y2 : Int32} {b2 : Nat} {y3 : Int32} {b3 : Nat} {y4 : Int32} {b4 : Nat} {y5 : Int32} {b5 : Nat} {yS : ms} {yt : X6}, r_R122 b0 b2 b3 b4 b5 yt = true → y0 = Int32.ofNat b0 → 0 < y1 → y2 = Int32.ofNat b2 → y3 = Int32.ofNat b3 → y4 = Int32.ofNat b4 → y5 = Int32.ofNat b5 → RM yS yt → R122 y0 y1 y2 y3 y4 y5 yS) (hK : ∀ {yS : ms} {yt : X6}, k_K yt = true → RM yS yt → K yS) : b_units_196 x1 x2 x3 x6 x7 x8 S R122 K := by
  unfold b_units_196
  unfold x_b_units_196_x2 at h
  obtain ⟨n1, h⟩ := nu_ok h
  refine ⟨fun q => absurd ((c_eq' e_x6 ((rfl : (0 : Int32) = Int32.ofNat 0))).mp q) (by rw [n1]; exact Bool.false_ne_true), ?_⟩
  obtain ⟨n2, h⟩ := nu_ok h
  refine ⟨fun q => absurd ((c_eq' e_x6 ((rfl : (0 : Int32) = Int32.ofNat 0))).mp q) (by rw [n2]; exact Bool.false_ne_true), ?_⟩
  have h := frc_ok h
  have p4 := n_sub e_x8 (n_mul (n_div e_x8 e_x6) e_x6)
  have h := frc_ok h
  have p6 := n_div e_x8 e_x6
  exact xs_e_units_213_x2 h e_x1 g_x2 e_x3 e_x6 e_x7 e_x8 p4 p6 ((rfl : (0 : Int32) = Int32.ofNat 0)) hS hR122 hK
noncomputable def x_b_units_122_x2 (a_x1 : Nat) (a_x3 : Nat) (a_x6 : Nat) (a_x7 : Nat) (a_x8 : Nat) (t : X6) (r_R122 : Nat → Nat → Nat → Nat → Nat → X6 → Bool) (k_K : X6 → Bool) : Bool :=
  cond (!(w_lt a_x8 (w_mul a_x6 a_x7))) (k_K t) (cond (!(w_lt 0 a_x8)) (x_b_units_196_x2 a_x1 a_x3 a_x6 a_x7 a_x8 t r_R122 k_K) (false))
set_option maxRecDepth 20000 in
set_option maxHeartbeats 1000000 in
theorem xs_b_units_122_x2 {x1 : Int32} {a_x1 : Nat} {x2 : Int32} {x3 : Int32} {a_x3 : Nat} {x6 : Int32} {a_x6 : Nat} {x7 : Int32} {a_x7 : Nat} {x8 : Int32} {a_x8 : Nat} {S : ms} {t : X6} {R122 : Int32 → Int32 → Int32 → Int32 → Int32 → Int32 → ms → Prop} {r_R122 : Nat → Nat → Nat → Nat → Nat → X6 → Bool} {K : ms → Prop} {k_K : X6 → Bool} (h : x_b_units_122_x2 a_x1 a_x3 a_x6 a_x7 a_x8 t r_R122 k_K = true) (e_x1 : x1 = Int32.ofNat a_x1) (g_x2 : 0 < x2) (e_x3 : x3 = Int32.ofNat a_x3) (e_x6 : x6 = Int32.ofNat a_x6) (e_x7 : x7 = Int32.ofNat a_x7) (e_x8 : x8 = Int32.ofNat a_x8) (hS : RM S t) (hR122 : ∀ {y0 : Int32} {b0 : Nat} {y1 : Int32} {y2 : Int32} {b2 : Nat} {y3 : Int32} {b3 : Nat} {y4 : Int32} {b4 : Nat} {y5 : Int32} {b5 : Nat} {yS : ms} {yt : X6}, r_R122 b0 b2 b3 b4 b5 yt = true → y0 = Int32.ofNat b0 → 0 < y1 → y2 = Int32.ofNat b2 → y3 = Int32.ofNat b3 → y4 = Int32.ofNat b4 → y5 = Int32.ofNat b5 → RM yS yt → R122 y0 y1 y2 y3 y4 y5 yS) (hK : ∀ {yS : ms} {yt : X6}, k_K yt = true → RM yS yt → K yS) : b_units_122 x1 x2 x3 x6 x7 x8 S R122 K := by
  unfold b_units_122
  unfold x_b_units_122_x2 at h
  have hc1 := c_le' (n_mul e_x6 e_x7) e_x8
  refine ⟨fun hc => ?_, fun hc => ?_⟩
  · have h := x_pos h (hc1.mp hc)
    exact hK h hS
  · have h := x_neg h (fun q => hc (hc1.mpr q))
    refine ⟨fun hc => absurd hc (g_le g_x2), fun _ => ?_⟩
    have hc2 := c_le' e_x8 ((rfl : (0 : Int32) = Int32.ofNat 0))
    refine ⟨fun hc => ?_, fun hc => ?_⟩
    · have h := x_pos h (hc2.mp hc)
      exact xs_b_units_196_x2 h e_x1 g_x2 e_x3 e_x6 e_x7 e_x8 hS hR122 hK
    · have h := x_neg h (fun q => hc (hc2.mpr q))
      refine ⟨g_ne g_x2, ?_⟩
      exact absurd h Bool.false_ne_true
noncomputable def xl_e_units_122_x2 (k_K : X6 → Bool) (n : Nat) : Nat → Nat → Nat → Nat → Nat → X6 → Bool := Nat.rec (motive := fun _ => Nat → Nat → Nat → Nat → Nat → X6 → Bool) (fun _ _ _ _ _ _ => false) (fun _ ih b_x1 b_x3 b_x6 b_x7 b_x8 bt => x_b_units_122_x2 b_x1 b_x3 b_x6 b_x7 b_x8 bt ih k_K) n
noncomputable def x_e_units_122_x2 (a_x1 : Nat) (a_x3 : Nat) (a_x6 : Nat) (a_x7 : Nat) (a_x8 : Nat) (t : X6) (k_K : X6 → Bool) : Bool := xl_e_units_122_x2 k_K 200000 a_x1 a_x3 a_x6 a_x7 a_x8 t
def xq_e_units_122_x2 (k_K : X6 → Bool) (n : Nat) (y_x1 : Int32) (y_x2 : Int32) (y_x3 : Int32) (y_x6 : Int32) (y_x7 : Int32) (y_x8 : Int32) (yS : ms) : Prop := ∃ (b_x1 : Nat) (b_x3 : Nat) (b_x6 : Nat) (b_x7 : Nat) (b_x8 : Nat) (bt : X6), y_x1 = Int32.ofNat b_x1 ∧ 0 < y_x2 ∧ y_x3 = Int32.ofNat b_x3 ∧ y_x6 = Int32.ofNat b_x6 ∧ y_x7 = Int32.ofNat b_x7 ∧ y_x8 = Int32.ofNat b_x8 ∧ RM yS bt ∧ xl_e_units_122_x2 k_K n b_x1 b_x3 b_x6 b_x7 b_x8 bt = true
set_option maxRecDepth 20000 in
theorem xs_e_units_122_x2 {x1 : Int32} {a_x1 : Nat} {x2 : Int32} {x3 : Int32} {a_x3 : Nat} {x6 : Int32} {a_x6 : Nat} {x7 : Int32} {a_x7 : Nat} {x8 : Int32} {a_x8 : Nat} {S : ms} {t : X6} {K : ms → Prop} {k_K : X6 → Bool} (h : x_e_units_122_x2 a_x1 a_x3 a_x6 a_x7 a_x8 t k_K = true) (e_x1 : x1 = Int32.ofNat a_x1) (g_x2 : 0 < x2) (e_x3 : x3 = Int32.ofNat a_x3) (e_x6 : x6 = Int32.ofNat a_x6) (e_x7 : x7 = Int32.ofNat a_x7) (e_x8 : x8 = Int32.ofNat a_x8) (hS : RM S t) (hK : ∀ {yS : ms} {yt : X6}, k_K yt = true → RM yS yt → K yS) : e_units_122 x1 x2 x3 x6 x7 x8 S K := by
  refine ⟨fun y_x1 y_x2 y_x3 y_x6 y_x7 y_x8 yS => ∃ n, xq_e_units_122_x2 k_K n y_x1 y_x2 y_x3 y_x6 y_x7 y_x8 yS, fun y_x1 y_x2 y_x3 y_x6 y_x7 y_x8 yS => mf (fun n => xq_e_units_122_x2 k_K n y_x1 y_x2 y_x3 y_x6 y_x7 y_x8 yS), ⟨200000, a_x1, a_x3, a_x6, a_x7, a_x8, t, e_x1, g_x2, e_x3, e_x6, e_x7, e_x8, hS, h⟩, fun y_x1 y_x2 y_x3 y_x6 y_x7 y_x8 yS hI => ?_⟩
  obtain ⟨m, hm, hq⟩ := mf_ok hI
  obtain ⟨b_x1, b_x3, b_x6, b_x7, b_x8, bt, c_x1, c_x2, c_x3, c_x6, c_x7, c_x8, cS, h⟩ := hq
  cases m with
  | zero => exact absurd h Bool.false_ne_true
  | succ n => exact xs_b_units_122_x2 h c_x1 c_x2 c_x3 c_x6 c_x7 c_x8 cS (fun h d_x1 d_x2 d_x3 d_x6 d_x7 d_x8 dS => ⟨⟨n, _, _, _, _, _, _, d_x1, d_x2, d_x3, d_x6, d_x7, d_x8, dS, h⟩, Nat.lt_of_le_of_lt (mf_le ⟨_, _, _, _, _, _, d_x1, d_x2, d_x3, d_x6, d_x7, d_x8, dS, h⟩) (Nat.lt_of_lt_of_eq (Nat.lt_succ_self n) hm.symm)⟩) hK
noncomputable def x_b_units_99_x2 (a_x1 : Nat) (a_x3 : Nat) (a_x6 : Nat) (a_x7 : Nat) (a_x8 : Nat) (t : X6) (r_R99 : Nat → Nat → Nat → Nat → Nat → X6 → Bool) (k_K : X6 → Bool) : Bool :=
  cond (!(w_lt a_x8 3)) (x_e_units_122_x2 a_x1 a_x3 a_x6 a_x7 0 t k_K) (and (Nat.blt a_x8 3) <| frc (w_add a_x8 1) fun f3 => wrw t 53 a_x8 0 fun t5 => r_R99 a_x1 a_x3 a_x6 a_x7 f3 t5)
set_option maxRecDepth 20000 in
set_option maxHeartbeats 1000000 in
theorem xs_b_units_99_x2 {x1 : Int32} {a_x1 : Nat} {x2 : Int32} {x3 : Int32} {a_x3 : Nat} {x6 : Int32} {a_x6 : Nat} {x7 : Int32} {a_x7 : Nat} {x8 : Int32} {a_x8 : Nat} {S : ms} {t : X6} {R99 : Int32 → Int32 → Int32 → Int32 → Int32 → Int32 → ms → Prop} {r_R99 : Nat → Nat → Nat → Nat → Nat → X6 → Bool} {K : ms → Prop} {k_K : X6 → Bool} (h : x_b_units_99_x2 a_x1 a_x3 a_x6 a_x7 a_x8 t r_R99 k_K = true) (e_x1 : x1 = Int32.ofNat a_x1) (g_x2 : 0 < x2) (e_x3 : x3 = Int32.ofNat a_x3) (e_x6 : x6 = Int32.ofNat a_x6) (e_x7 : x7 = Int32.ofNat a_x7) (e_x8 : x8 = Int32.ofNat a_x8) (hS : RM S t) (hR99 : ∀ {y0 : Int32} {b0 : Nat} {y1 : Int32} {y2 : Int32} {b2 : Nat} {y3 : Int32} {b3 : Nat} {y4 : Int32} {b4 : Nat} {y5 : Int32} {b5 : Nat} {yS : ms} {yt : X6}, r_R99 b0 b2 b3 b4 b5 yt = true → y0 = Int32.ofNat b0 → 0 < y1 → y2 = Int32.ofNat b2 → y3 = Int32.ofNat b3 → y4 = Int32.ofNat b4 → y5 = Int32.ofNat b5 → RM yS yt → R99 y0 y1 y2 y3 y4 y5 yS) (hK : ∀ {yS : ms} {yt : X6}, k_K yt = true → RM yS yt → K yS) : b_units_99 x1 x2 x3 x6 x7 x8 S R99 K := by
  unfold b_units_99
  unfold x_b_units_99_x2 at h
  have hc1 := c_le' ((rfl : (3 : Int32) = Int32.ofNat 3)) e_x8
  refine ⟨fun hc => ?_, fun hc => ?_⟩
  · have h := x_pos h (hc1.mp hc)
    exact xs_e_units_122_x2 h e_x1 g_x2 e_x3 e_x6 e_x7 ((rfl : (0 : Int32) = Int32.ofNat 0)) hS hK
  · have h := x_neg h (fun q => hc (hc1.mpr q))
    obtain ⟨n2, h⟩ := an_ok h
    refine ⟨n_vp e_x8 n2 (by decide), ?_⟩
    have h := frc_ok h
    have p4 := n_add e_x8 ((rfl : (1 : Int32) = Int32.ofNat 1))
    obtain ⟨t5, h, hS6⟩ := wrw_ok h hS (by decide) e_x8 ((rfl : (0 : Int32) = Int32.ofNat 0))
    exact hR99 h e_x1 g_x2 e_x3 e_x6 e_x7 p4 hS6
noncomputable def xl_e_units_99_x2 (k_K : X6 → Bool) (n : Nat) : Nat → Nat → Nat → Nat → Nat → X6 → Bool := Nat.rec (motive := fun _ => Nat → Nat → Nat → Nat → Nat → X6 → Bool) (fun _ _ _ _ _ _ => false) (fun _ ih b_x1 b_x3 b_x6 b_x7 b_x8 bt => x_b_units_99_x2 b_x1 b_x3 b_x6 b_x7 b_x8 bt ih k_K) n
noncomputable def x_e_units_99_x2 (a_x1 : Nat) (a_x3 : Nat) (a_x6 : Nat) (a_x7 : Nat) (a_x8 : Nat) (t : X6) (k_K : X6 → Bool) : Bool := xl_e_units_99_x2 k_K 200000 a_x1 a_x3 a_x6 a_x7 a_x8 t
def xq_e_units_99_x2 (k_K : X6 → Bool) (n : Nat) (y_x1 : Int32) (y_x2 : Int32) (y_x3 : Int32) (y_x6 : Int32) (y_x7 : Int32) (y_x8 : Int32) (yS : ms) : Prop := ∃ (b_x1 : Nat) (b_x3 : Nat) (b_x6 : Nat) (b_x7 : Nat) (b_x8 : Nat) (bt : X6), y_x1 = Int32.ofNat b_x1 ∧ 0 < y_x2 ∧ y_x3 = Int32.ofNat b_x3 ∧ y_x6 = Int32.ofNat b_x6 ∧ y_x7 = Int32.ofNat b_x7 ∧ y_x8 = Int32.ofNat b_x8 ∧ RM yS bt ∧ xl_e_units_99_x2 k_K n b_x1 b_x3 b_x6 b_x7 b_x8 bt = true
set_option maxRecDepth 20000 in
theorem xs_e_units_99_x2 {x1 : Int32} {a_x1 : Nat} {x2 : Int32} {x3 : Int32} {a_x3 : Nat} {x6 : Int32} {a_x6 : Nat} {x7 : Int32} {a_x7 : Nat} {x8 : Int32} {a_x8 : Nat} {S : ms} {t : X6} {K : ms → Prop} {k_K : X6 → Bool} (h : x_e_units_99_x2 a_x1 a_x3 a_x6 a_x7 a_x8 t k_K = true) (e_x1 : x1 = Int32.ofNat a_x1) (g_x2 : 0 < x2) (e_x3 : x3 = Int32.ofNat a_x3) (e_x6 : x6 = Int32.ofNat a_x6) (e_x7 : x7 = Int32.ofNat a_x7) (e_x8 : x8 = Int32.ofNat a_x8) (hS : RM S t) (hK : ∀ {yS : ms} {yt : X6}, k_K yt = true → RM yS yt → K yS) : e_units_99 x1 x2 x3 x6 x7 x8 S K := by
  refine ⟨fun y_x1 y_x2 y_x3 y_x6 y_x7 y_x8 yS => ∃ n, xq_e_units_99_x2 k_K n y_x1 y_x2 y_x3 y_x6 y_x7 y_x8 yS, fun y_x1 y_x2 y_x3 y_x6 y_x7 y_x8 yS => mf (fun n => xq_e_units_99_x2 k_K n y_x1 y_x2 y_x3 y_x6 y_x7 y_x8 yS), ⟨200000, a_x1, a_x3, a_x6, a_x7, a_x8, t, e_x1, g_x2, e_x3, e_x6, e_x7, e_x8, hS, h⟩, fun y_x1 y_x2 y_x3 y_x6 y_x7 y_x8 yS hI => ?_⟩
  obtain ⟨m, hm, hq⟩ := mf_ok hI
  obtain ⟨b_x1, b_x3, b_x6, b_x7, b_x8, bt, c_x1, c_x2, c_x3, c_x6, c_x7, c_x8, cS, h⟩ := hq
  cases m with
  | zero => exact absurd h Bool.false_ne_true
  | succ n => exact xs_b_units_99_x2 h c_x1 c_x2 c_x3 c_x6 c_x7 c_x8 cS (fun h d_x1 d_x2 d_x3 d_x6 d_x7 d_x8 dS => ⟨⟨n, _, _, _, _, _, _, d_x1, d_x2, d_x3, d_x6, d_x7, d_x8, dS, h⟩, Nat.lt_of_le_of_lt (mf_le ⟨_, _, _, _, _, _, d_x1, d_x2, d_x3, d_x6, d_x7, d_x8, dS, h⟩) (Nat.lt_of_lt_of_eq (Nat.lt_succ_self n) hm.symm)⟩) hK
noncomputable def x_b_units_94_x2 (a_x1 : Nat) (a_x3 : Nat) (a_x6 : Nat) (a_s0 : Nat) (t : X6) (k_K : X6 → Bool) : Bool :=
  x_e_units_99_x2 a_x1 a_x3 a_x6 a_s0 0 t k_K
set_option maxRecDepth 20000 in
set_option maxHeartbeats 1000000 in
theorem xs_b_units_94_x2 {x1 : Int32} {a_x1 : Nat} {x2 : Int32} {x3 : Int32} {a_x3 : Nat} {x6 : Int32} {a_x6 : Nat} {s0 : Int32} {a_s0 : Nat} {S : ms} {t : X6} {K : ms → Prop} {k_K : X6 → Bool} (h : x_b_units_94_x2 a_x1 a_x3 a_x6 a_s0 t k_K = true) (e_x1 : x1 = Int32.ofNat a_x1) (g_x2 : 0 < x2) (e_x3 : x3 = Int32.ofNat a_x3) (e_x6 : x6 = Int32.ofNat a_x6) (e_s0 : s0 = Int32.ofNat a_s0) (hS : RM S t) (hK : ∀ {yS : ms} {yt : X6}, k_K yt = true → RM yS yt → K yS) : b_units_94 x1 x2 x3 x6 s0 S K := by
  unfold b_units_94
  unfold x_b_units_94_x2 at h
  exact xs_e_units_99_x2 h e_x1 g_x2 e_x3 e_x6 e_s0 ((rfl : (0 : Int32) = Int32.ofNat 0)) hS hK
noncomputable def x_b_units_62_x2 (a_x1 : Nat) (a_x3 : Nat) (a_x5 : Nat) (a_s0 : Nat) (t : X6) (k_K : X6 → Bool) : Bool :=
  cond (w_eq a_x3 0) (rfi t 2 fun v2 => frc (w_mul 8 a_x5) fun f4 => x_p_upward v2 f4 (fun v91_ => x_b_units_94_x2 a_x1 a_x3 a_s0 v91_ t k_K)) (x_p_layerHigh 0 0 t (fun v71_ t_S71 => x_p_upward v71_ 8 (fun v76_ => x_b_units_94_x2 a_x1 a_x3 a_s0 v76_ t_S71 k_K)))
set_option maxRecDepth 20000 in
set_option maxHeartbeats 1000000 in
theorem xs_b_units_62_x2 {x1 : Int32} {a_x1 : Nat} {x2 : Int32} {x3 : Int32} {a_x3 : Nat} {x5 : Int32} {a_x5 : Nat} {s0 : Int32} {a_s0 : Nat} {S : ms} {t : X6} {K : ms → Prop} {k_K : X6 → Bool} (h : x_b_units_62_x2 a_x1 a_x3 a_x5 a_s0 t k_K = true) (e_x1 : x1 = Int32.ofNat a_x1) (g_x2 : 0 < x2) (e_x3 : x3 = Int32.ofNat a_x3) (e_x5 : x5 = Int32.ofNat a_x5) (e_s0 : s0 = Int32.ofNat a_s0) (hS : RM S t) (hK : ∀ {yS : ms} {yt : X6}, k_K yt = true → RM yS yt → K yS) : b_units_62 x1 x2 x3 x5 s0 S K := by
  unfold b_units_62
  unfold x_b_units_62_x2 at h
  have hc1 := c_eq' e_x3 ((rfl : (0 : Int32) = Int32.ofNat 0))
  refine ⟨fun hc => ?_, fun hc => ?_⟩
  · have h := x_pos h (hc1.mp hc)
    obtain ⟨v2, h, q3⟩ := rfi_ok h hS
    have h := frc_ok h
    have p5 := n_mul ((rfl : (8 : Int32) = Int32.ofNat 8)) e_x5
    refine xs_p_upward h q3 p5 (fun h e_v91 => ?_)
    exact xs_b_units_94_x2 h e_x1 g_x2 e_x3 e_s0 e_v91 hS hK
  · have h := x_neg h (fun q => hc (hc1.mpr q))
    refine xs_p_layerHigh h ((rfl : (0 : Int32) = Int32.ofNat 0)) ((rfl : (0 : Int32) = Int32.ofNat 0)) hS (fun h e_v71 h_S71 => ?_)
    refine xs_p_upward h e_v71 ((rfl : (8 : Int32) = Int32.ofNat 8)) (fun h e_v76 => ?_)
    exact xs_b_units_94_x2 h e_x1 g_x2 e_x3 e_s0 e_v76 h_S71 hK
noncomputable def x_b_units_15_x2 (a_x1 : Nat) (a_s0 : Nat) (t : X6) (k_K : X6 → Bool) : Bool :=
  x_p_greatest 0 1 t (fun v19_ t_S19 => x_p_greatest 0 0 t_S19 (fun v27_ t_S27 => cond (w_eq a_s0 0) (rfi t_S27 1 fun v2 => frc (w_mul 8 v19_) fun f4 => x_p_upward v2 f4 (fun v59_ => x_b_units_62_x2 a_x1 a_s0 v27_ v59_ t_S27 k_K)) (x_p_layerWide 0 0 t_S27 (fun v39_ t_S39 => x_p_upward v39_ 8 (fun v44_ => x_b_units_62_x2 a_x1 a_s0 v27_ v44_ t_S39 k_K)))))
set_option maxRecDepth 20000 in
set_option maxHeartbeats 1000000 in
theorem xs_b_units_15_x2 {x1 : Int32} {a_x1 : Nat} {x2 : Int32} {s0 : Int32} {a_s0 : Nat} {S : ms} {t : X6} {K : ms → Prop} {k_K : X6 → Bool} (h : x_b_units_15_x2 a_x1 a_s0 t k_K = true) (e_x1 : x1 = Int32.ofNat a_x1) (g_x2 : 0 < x2) (e_s0 : s0 = Int32.ofNat a_s0) (hS : RM S t) (hK : ∀ {yS : ms} {yt : X6}, k_K yt = true → RM yS yt → K yS) : b_units_15 x1 x2 s0 S K := by
  unfold b_units_15
  unfold x_b_units_15_x2 at h
  refine xs_p_greatest h ((rfl : (0 : Int32) = Int32.ofNat 0)) ((rfl : (1 : Int32) = Int32.ofNat 1)) hS (fun h e_v19 h_S19 => ?_)
  refine xs_p_greatest h ((rfl : (0 : Int32) = Int32.ofNat 0)) ((rfl : (0 : Int32) = Int32.ofNat 0)) h_S19 (fun h e_v27 h_S27 => ?_)
  have hc1 := c_eq' e_s0 ((rfl : (0 : Int32) = Int32.ofNat 0))
  refine ⟨fun hc => ?_, fun hc => ?_⟩
  · have h := x_pos h (hc1.mp hc)
    obtain ⟨v2, h, q3⟩ := rfi_ok h h_S27
    have h := frc_ok h
    have p5 := n_mul ((rfl : (8 : Int32) = Int32.ofNat 8)) e_v19
    refine xs_p_upward h q3 p5 (fun h e_v59 => ?_)
    exact xs_b_units_62_x2 h e_x1 g_x2 e_s0 e_v27 e_v59 h_S27 hK
  · have h := x_neg h (fun q => hc (hc1.mpr q))
    refine xs_p_layerWide h ((rfl : (0 : Int32) = Int32.ofNat 0)) ((rfl : (0 : Int32) = Int32.ofNat 0)) h_S27 (fun h e_v39 h_S39 => ?_)
    refine xs_p_upward h e_v39 ((rfl : (8 : Int32) = Int32.ofNat 8)) (fun h e_v44 => ?_)
    exact xs_b_units_62_x2 h e_x1 g_x2 e_s0 e_v27 e_v44 h_S39 hK
noncomputable def x_p_units_x2 (a_x1 : Nat) (t : X6) (k_K : X6 → Bool) : Bool :=
  and (Nat.blt 0 3) <| rrw t 14 0 fun v2 => cond (w_eq v2 1) (x_b_units_15_x2 a_x1 1 t k_K) (x_b_units_15_x2 a_x1 0 t k_K)
set_option maxRecDepth 20000 in
set_option maxHeartbeats 1000000 in
theorem xs_p_units_x2 {x1 : Int32} {a_x1 : Nat} {x2 : Int32} {S : ms} {t : X6} {K : ms → Prop} {k_K : X6 → Bool} (h : x_p_units_x2 a_x1 t k_K = true) (e_x1 : x1 = Int32.ofNat a_x1) (g_x2 : 0 < x2) (hS : RM S t) (hK : ∀ {yS : ms} {yt : X6}, k_K yt = true → RM yS yt → K yS) : p_units x1 x2 S K := by
  unfold p_units
  unfold x_p_units_x2 at h
  obtain ⟨n1, h⟩ := an_ok h
  refine ⟨n_vp ((rfl : (0 : Int32) = Int32.ofNat 0)) n1 (by decide), ?_⟩
  obtain ⟨v2, h, q3⟩ := rrw_ok h hS (by decide) ((rfl : (0 : Int32) = Int32.ofNat 0))
  have hc4 := c_eq' q3 ((rfl : (1 : Int32) = Int32.ofNat 1))
  refine ⟨fun hc => ?_, fun hc => ?_⟩
  · have h := x_neg h (fun q => hc (hc4.mpr q))
    exact xs_b_units_15_x2 h e_x1 g_x2 ((rfl : (0 : Int32) = Int32.ofNat 0)) hS hK
  · have h := x_pos h (hc4.mp hc)
    exact xs_b_units_15_x2 h e_x1 g_x2 ((rfl : (1 : Int32) = Int32.ofNat 1)) hS hK
noncomputable def x_p_put_x1 (t : X6) (k_K : X6 → Bool) : Bool :=
  rfi t 9 fun v1 => and (Nat.blt v1 65536) <| wrw_h t 8 v1 fun t4 => rfi t4 9 fun v8 => frc (w_add v8 1) fun f10 => wfi t4 9 f10 fun t6 => k_K t6
set_option maxRecDepth 20000 in
set_option maxHeartbeats 1000000 in
theorem xs_p_put_x1 {x1 : Int32} {S : ms} {t : X6} {K : ms → Prop} {k_K : X6 → Bool} (h : x_p_put_x1 t k_K = true) (g_x1 : True) (hS : RM S t) (hK : ∀ {yS : ms} {yt : X6}, k_K yt = true → RM yS yt → K yS) : p_put x1 S K := by
  unfold p_put
  unfold x_p_put_x1 at h
  obtain ⟨v1, h, q2⟩ := rfi_ok h hS
  obtain ⟨n3, h⟩ := an_ok h
  refine ⟨n_vp q2 n3 (by decide), ?_⟩
  obtain ⟨t4, h, hS5⟩ := wrw_h_ok h hS (by decide) q2
  obtain ⟨v8, h, q9⟩ := rfi_ok h hS5
  have h := frc_ok h
  have p11 := n_add q9 ((rfl : (1 : Int32) = Int32.ofNat 1))
  obtain ⟨t6, h, hS7⟩ := wfi_ok h hS5  p11
  exact hK h hS7
noncomputable def x_p_putTwo_x1 (t : X6) (k_K : X6 → Bool) : Bool :=
  x_p_put_x1 t (fun t_S9 => x_p_put_x1 t_S9 (fun t_S18 => k_K t_S18))
set_option maxRecDepth 20000 in
set_option maxHeartbeats 1000000 in
theorem xs_p_putTwo_x1 {x1 : Int32} {S : ms} {t : X6} {K : ms → Prop} {k_K : X6 → Bool} (h : x_p_putTwo_x1 t k_K = true) (g_x1 : True) (hS : RM S t) (hK : ∀ {yS : ms} {yt : X6}, k_K yt = true → RM yS yt → K yS) : p_putTwo x1 S K := by
  unfold p_putTwo
  unfold x_p_putTwo_x1 at h
  refine xs_p_put_x1 h trivial hS (fun h h_S9 => ?_)
  refine xs_p_put_x1 h trivial h_S9 (fun h h_S18 => ?_)
  exact hK h h_S18
noncomputable def x_b_putSections_348_x1 (a_x2 : Nat) (a_x5 : Nat) (a_s1 : Nat) (t : X6) (r_R322 : Nat → Nat → X6 → Bool) (k_K : X6 → Bool) : Bool :=
  x_p_put a_s1 t (fun t_S348 => frc (w_add a_x5 1) fun f1 => r_R322 a_x2 f1 t_S348)
set_option maxRecDepth 20000 in
set_option maxHeartbeats 1000000 in
theorem xs_b_putSections_348_x1 {x2 : Int32} {a_x2 : Nat} {x5 : Int32} {a_x5 : Nat} {s1 : Int32} {a_s1 : Nat} {S : ms} {t : X6} {R322 : Int32 → Int32 → ms → Prop} {r_R322 : Nat → Nat → X6 → Bool} {K : ms → Prop} {k_K : X6 → Bool} (h : x_b_putSections_348_x1 a_x2 a_x5 a_s1 t r_R322 k_K = true) (e_x2 : x2 = Int32.ofNat a_x2) (e_x5 : x5 = Int32.ofNat a_x5) (e_s1 : s1 = Int32.ofNat a_s1) (hS : RM S t) (hR322 : ∀ {y0 : Int32} {b0 : Nat} {y1 : Int32} {b1 : Nat} {yS : ms} {yt : X6}, r_R322 b0 b1 yt = true → y0 = Int32.ofNat b0 → y1 = Int32.ofNat b1 → RM yS yt → R322 y0 y1 yS) (hK : ∀ {yS : ms} {yt : X6}, k_K yt = true → RM yS yt → K yS) : b_putSections_348 x2 x5 s1 S R322 K := by
  unfold b_putSections_348
  unfold x_b_putSections_348_x1 at h
  refine xs_p_put h e_s1 hS (fun h h_S348 => ?_)
  have h := frc_ok h
  have p2 := n_add e_x5 ((rfl : (1 : Int32) = Int32.ofNat 1))
  exact hR322 h e_x2 p2 h_S348
noncomputable def x_b_putSections_322_x1 (a_x2 : Nat) (a_x5 : Nat) (t : X6) (r_R322 : Nat → Nat → X6 → Bool) (k_K : X6 → Bool) : Bool :=
  cond (!(w_lt a_x5 a_x2)) (x_p_put 0 t (fun t_S359 => x_p_put 63 t_S359 (fun t_S365 => x_p_put 0 t_S365 (fun t_S370 => k_K t_S370)))) (frc (w_add a_x5 1) fun f2 => x_p_put f2 t (fun t_S333 => cond (w_eq a_x5 0) (x_b_putSections_348_x1 a_x2 a_x5 0 t_S333 r_R322 k_K) (x_b_putSections_348_x1 a_x2 a_x5 17 t_S333 r_R322 k_K)))
set_option maxRecDepth 20000 in
set_option maxHeartbeats 1000000 in
theorem xs_b_putSections_322_x1 {x2 : Int32} {a_x2 : Nat} {x5 : Int32} {a_x5 : Nat} {S : ms} {t : X6} {R322 : Int32 → Int32 → ms → Prop} {r_R322 : Nat → Nat → X6 → Bool} {K : ms → Prop} {k_K : X6 → Bool} (h : x_b_putSections_322_x1 a_x2 a_x5 t r_R322 k_K = true) (e_x2 : x2 = Int32.ofNat a_x2) (e_x5 : x5 = Int32.ofNat a_x5) (hS : RM S t) (hR322 : ∀ {y0 : Int32} {b0 : Nat} {y1 : Int32} {b1 : Nat} {yS : ms} {yt : X6}, r_R322 b0 b1 yt = true → y0 = Int32.ofNat b0 → y1 = Int32.ofNat b1 → RM yS yt → R322 y0 y1 yS) (hK : ∀ {yS : ms} {yt : X6}, k_K yt = true → RM yS yt → K yS) : b_putSections_322 x2 x5 S R322 K := by
  unfold b_putSections_322
  unfold x_b_putSections_322_x1 at h
  have hc1 := c_le' e_x2 e_x5
  refine ⟨fun hc => ?_, fun hc => ?_⟩
  · have h := x_pos h (hc1.mp hc)
    refine xs_p_put h ((rfl : (0 : Int32) = Int32.ofNat 0)) hS (fun h h_S359 => ?_)
    refine xs_p_put h ((rfl : (63 : Int32) = Int32.ofNat 63)) h_S359 (fun h h_S365 => ?_)
    refine xs_p_put h ((rfl : (0 : Int32) = Int32.ofNat 0)) h_S365 (fun h h_S370 => ?_)
    exact hK h h_S370
  · have h := x_neg h (fun q => hc (hc1.mpr q))
    have h := frc_ok h
    have p3 := n_add e_x5 ((rfl : (1 : Int32) = Int32.ofNat 1))
    refine xs_p_put h p3 hS (fun h h_S333 => ?_)
    have hc4 := c_eq' e_x5 ((rfl : (0 : Int32) = Int32.ofNat 0))
    refine ⟨fun hc => ?_, fun hc => ?_⟩
    · have h := x_neg h (fun q => hc (hc4.mpr q))
      exact xs_b_putSections_348_x1 h e_x2 e_x5 ((rfl : (17 : Int32) = Int32.ofNat 17)) h_S333 hR322 hK
    · have h := x_pos h (hc4.mp hc)
      exact xs_b_putSections_348_x1 h e_x2 e_x5 ((rfl : (0 : Int32) = Int32.ofNat 0)) h_S333 hR322 hK
noncomputable def xl_e_putSections_322_x1 (k_K : X6 → Bool) (n : Nat) : Nat → Nat → X6 → Bool := Nat.rec (motive := fun _ => Nat → Nat → X6 → Bool) (fun _ _ _ => false) (fun _ ih b_x2 b_x5 bt => x_b_putSections_322_x1 b_x2 b_x5 bt ih k_K) n
noncomputable def x_e_putSections_322_x1 (a_x2 : Nat) (a_x5 : Nat) (t : X6) (k_K : X6 → Bool) : Bool := xl_e_putSections_322_x1 k_K 200000 a_x2 a_x5 t
def xq_e_putSections_322_x1 (k_K : X6 → Bool) (n : Nat) (y_x2 : Int32) (y_x5 : Int32) (yS : ms) : Prop := ∃ (b_x2 : Nat) (b_x5 : Nat) (bt : X6), y_x2 = Int32.ofNat b_x2 ∧ y_x5 = Int32.ofNat b_x5 ∧ RM yS bt ∧ xl_e_putSections_322_x1 k_K n b_x2 b_x5 bt = true
set_option maxRecDepth 20000 in
theorem xs_e_putSections_322_x1 {x2 : Int32} {a_x2 : Nat} {x5 : Int32} {a_x5 : Nat} {S : ms} {t : X6} {K : ms → Prop} {k_K : X6 → Bool} (h : x_e_putSections_322_x1 a_x2 a_x5 t k_K = true) (e_x2 : x2 = Int32.ofNat a_x2) (e_x5 : x5 = Int32.ofNat a_x5) (hS : RM S t) (hK : ∀ {yS : ms} {yt : X6}, k_K yt = true → RM yS yt → K yS) : e_putSections_322 x2 x5 S K := by
  refine ⟨fun y_x2 y_x5 yS => ∃ n, xq_e_putSections_322_x1 k_K n y_x2 y_x5 yS, fun y_x2 y_x5 yS => mf (fun n => xq_e_putSections_322_x1 k_K n y_x2 y_x5 yS), ⟨200000, a_x2, a_x5, t, e_x2, e_x5, hS, h⟩, fun y_x2 y_x5 yS hI => ?_⟩
  obtain ⟨m, hm, hq⟩ := mf_ok hI
  obtain ⟨b_x2, b_x5, bt, c_x2, c_x5, cS, h⟩ := hq
  cases m with
  | zero => exact absurd h Bool.false_ne_true
  | succ n => exact xs_b_putSections_322_x1 h c_x2 c_x5 cS (fun h d_x2 d_x5 dS => ⟨⟨n, _, _, _, d_x2, d_x5, dS, h⟩, Nat.lt_of_le_of_lt (mf_le ⟨_, _, _, d_x2, d_x5, dS, h⟩) (Nat.lt_of_lt_of_eq (Nat.lt_succ_self n) hm.symm)⟩) hK
noncomputable def x_b_putSections_297_x1 (a_x2 : Nat) (t : X6) (k_K : X6 → Bool) : Bool :=
  x_p_mark 218 t (fun t_S301 => frc (w_add 6 (w_mul 2 a_x2)) fun f1 => x_p_putTwo f1 t_S301 (fun t_S311 => x_p_put a_x2 t_S311 (fun t_S316 => x_e_putSections_322_x1 a_x2 0 t_S316 k_K)))
set_option maxRecDepth 20000 in
set_option maxHeartbeats 1000000 in
theorem xs_b_putSections_297_x1 {x2 : Int32} {a_x2 : Nat} {S : ms} {t : X6} {K : ms → Prop} {k_K : X6 → Bool} (h : x_b_putSections_297_x1 a_x2 t k_K = true) (e_x2 : x2 = Int32.ofNat a_x2) (hS : RM S t) (hK : ∀ {yS : ms} {yt : X6}, k_K yt = true → RM yS yt → K yS) : b_putSections_297 x2 S K := by
  unfold b_putSections_297
  unfold x_b_putSections_297_x1 at h
  refine xs_p_mark h ((rfl : (218 : Int32) = Int32.ofNat 218)) hS (fun h h_S301 => ?_)
  have h := frc_ok h
  have p2 := n_add ((rfl : (6 : Int32) = Int32.ofNat 6)) (n_mul ((rfl : (2 : Int32) = Int32.ofNat 2)) e_x2)
  refine xs_p_putTwo h p2 h_S301 (fun h h_S311 => ?_)
  refine xs_p_put h e_x2 h_S311 (fun h h_S316 => ?_)
  exact xs_e_putSections_322_x1 h e_x2 ((rfl : (0 : Int32) = Int32.ofNat 0)) h_S316 hK
noncomputable def x_b_putSections_244_x1 (a_x2 : Nat) (a_x3 : Nat) (a_x5 : Nat) (t : X6) (r_R244 : Nat → Nat → Nat → X6 → Bool) (k_K : X6 → Bool) : Bool :=
  cond (!(w_lt a_x5 (w_mul 2 a_x3))) (x_p_mark 221 t (fun t_S284 => x_p_putTwo 4 t_S284 (fun t_S289 => x_p_putTwo_x1 t_S289 (fun t_S294 => x_b_putSections_297_x1 a_x2 t_S294 k_K)))) (frc (w_add (w_mul 16 (w_sub a_x5 (w_mul (w_div a_x5 2) 2))) (w_div a_x5 2)) fun f2 => x_p_putCode a_x5 f2 t (fun t_S267 => frc (w_add a_x5 1) fun f4 => r_R244 a_x2 a_x3 f4 t_S267))
set_option maxRecDepth 20000 in
set_option maxHeartbeats 1000000 in
theorem xs_b_putSections_244_x1 {x1 : Int32} {x2 : Int32} {a_x2 : Nat} {x3 : Int32} {a_x3 : Nat} {x5 : Int32} {a_x5 : Nat} {S : ms} {t : X6} {R244 : Int32 → Int32 → Int32 → Int32 → ms → Prop} {r_R244 : Nat → Nat → Nat → X6 → Bool} {K : ms → Prop} {k_K : X6 → Bool} (h : x_b_putSections_244_x1 a_x2 a_x3 a_x5 t r_R244 k_K = true) (g_x1 : 0 < x1) (e_x2 : x2 = Int32.ofNat a_x2) (e_x3 : x3 = Int32.ofNat a_x3) (e_x5 : x5 = Int32.ofNat a_x5) (hS : RM S t) (hR244 : ∀ {y0 : Int32} {y1 : Int32} {b1 : Nat} {y2 : Int32} {b2 : Nat} {y3 : Int32} {b3 : Nat} {yS : ms} {yt : X6}, r_R244 b1 b2 b3 yt = true → 0 < y0 → y1 = Int32.ofNat b1 → y2 = Int32.ofNat b2 → y3 = Int32.ofNat b3 → RM yS yt → R244 y0 y1 y2 y3 yS) (hK : ∀ {yS : ms} {yt : X6}, k_K yt = true → RM yS yt → K yS) : b_putSections_244 x1 x2 x3 x5 S R244 K := by
  unfold b_putSections_244
  unfold x_b_putSections_244_x1 at h
  have hc1 := c_le' (n_mul ((rfl : (2 : Int32) = Int32.ofNat 2)) e_x3) e_x5
  refine ⟨fun hc => ?_, fun hc => ?_⟩
  · have h := x_pos h (hc1.mp hc)
    refine ⟨fun hc => absurd hc (g_le g_x1), fun _ => ?_⟩
    refine xs_p_mark h ((rfl : (221 : Int32) = Int32.ofNat 221)) hS (fun h h_S284 => ?_)
    refine xs_p_putTwo h ((rfl : (4 : Int32) = Int32.ofNat 4)) h_S284 (fun h h_S289 => ?_)
    refine xs_p_putTwo_x1 h trivial h_S289 (fun h h_S294 => ?_)
    exact xs_b_putSections_297_x1 h e_x2 h_S294 hK
  · have h := x_neg h (fun q => hc (hc1.mpr q))
    have h := frc_ok h
    have p3 := n_add (n_mul ((rfl : (16 : Int32) = Int32.ofNat 16)) (n_sub e_x5 (n_mul (n_div e_x5 ((rfl : (2 : Int32) = Int32.ofNat 2))) ((rfl : (2 : Int32) = Int32.ofNat 2))))) (n_div e_x5 ((rfl : (2 : Int32) = Int32.ofNat 2)))
    refine xs_p_putCode h e_x5 p3 hS (fun h h_S267 => ?_)
    have h := frc_ok h
    have p5 := n_add e_x5 ((rfl : (1 : Int32) = Int32.ofNat 1))
    exact hR244 h g_x1 e_x2 e_x3 p5 h_S267
noncomputable def xl_e_putSections_244_x1 (k_K : X6 → Bool) (n : Nat) : Nat → Nat → Nat → X6 → Bool := Nat.rec (motive := fun _ => Nat → Nat → Nat → X6 → Bool) (fun _ _ _ _ => false) (fun _ ih b_x2 b_x3 b_x5 bt => x_b_putSections_244_x1 b_x2 b_x3 b_x5 bt ih k_K) n
noncomputable def x_e_putSections_244_x1 (a_x2 : Nat) (a_x3 : Nat) (a_x5 : Nat) (t : X6) (k_K : X6 → Bool) : Bool := xl_e_putSections_244_x1 k_K 200000 a_x2 a_x3 a_x5 t
def xq_e_putSections_244_x1 (k_K : X6 → Bool) (n : Nat) (y_x1 : Int32) (y_x2 : Int32) (y_x3 : Int32) (y_x5 : Int32) (yS : ms) : Prop := ∃ (b_x2 : Nat) (b_x3 : Nat) (b_x5 : Nat) (bt : X6), 0 < y_x1 ∧ y_x2 = Int32.ofNat b_x2 ∧ y_x3 = Int32.ofNat b_x3 ∧ y_x5 = Int32.ofNat b_x5 ∧ RM yS bt ∧ xl_e_putSections_244_x1 k_K n b_x2 b_x3 b_x5 bt = true
set_option maxRecDepth 20000 in
theorem xs_e_putSections_244_x1 {x1 : Int32} {x2 : Int32} {a_x2 : Nat} {x3 : Int32} {a_x3 : Nat} {x5 : Int32} {a_x5 : Nat} {S : ms} {t : X6} {K : ms → Prop} {k_K : X6 → Bool} (h : x_e_putSections_244_x1 a_x2 a_x3 a_x5 t k_K = true) (g_x1 : 0 < x1) (e_x2 : x2 = Int32.ofNat a_x2) (e_x3 : x3 = Int32.ofNat a_x3) (e_x5 : x5 = Int32.ofNat a_x5) (hS : RM S t) (hK : ∀ {yS : ms} {yt : X6}, k_K yt = true → RM yS yt → K yS) : e_putSections_244 x1 x2 x3 x5 S K := by
  refine ⟨fun y_x1 y_x2 y_x3 y_x5 yS => ∃ n, xq_e_putSections_244_x1 k_K n y_x1 y_x2 y_x3 y_x5 yS, fun y_x1 y_x2 y_x3 y_x5 yS => mf (fun n => xq_e_putSections_244_x1 k_K n y_x1 y_x2 y_x3 y_x5 yS), ⟨200000, a_x2, a_x3, a_x5, t, g_x1, e_x2, e_x3, e_x5, hS, h⟩, fun y_x1 y_x2 y_x3 y_x5 yS hI => ?_⟩
  obtain ⟨m, hm, hq⟩ := mf_ok hI
  obtain ⟨b_x2, b_x3, b_x5, bt, c_x1, c_x2, c_x3, c_x5, cS, h⟩ := hq
  cases m with
  | zero => exact absurd h Bool.false_ne_true
  | succ n => exact xs_b_putSections_244_x1 h c_x1 c_x2 c_x3 c_x5 cS (fun h d_x1 d_x2 d_x3 d_x5 dS => ⟨⟨n, _, _, _, _, d_x1, d_x2, d_x3, d_x5, dS, h⟩, Nat.lt_of_le_of_lt (mf_le ⟨_, _, _, _, d_x1, d_x2, d_x3, d_x5, dS, h⟩) (Nat.lt_of_lt_of_eq (Nat.lt_succ_self n) hm.symm)⟩) hK
noncomputable def x_b_putSections_210_x1 (a_x2 : Nat) (a_x3 : Nat) (a_x4 : Nat) (a_x5 : Nat) (t : X6) (r_R210 : Nat → Nat → Nat → Nat → X6 → Bool) (k_K : X6 → Bool) : Bool :=
  cond (!(w_lt a_x5 (w_mul 2 a_x3))) (x_p_putTwo a_x4 t (fun t_S238 => x_e_putSections_244_x1 a_x2 a_x3 0 t_S238 k_K)) (x_p_codeSize a_x5 t (fun v223_ t_S223 => frc (w_add a_x4 v223_) fun f2 => frc (w_add a_x5 1) fun f4 => r_R210 a_x2 a_x3 f2 f4 t_S223))
set_option maxRecDepth 20000 in
set_option maxHeartbeats 1000000 in
theorem xs_b_putSections_210_x1 {x1 : Int32} {x2 : Int32} {a_x2 : Nat} {x3 : Int32} {a_x3 : Nat} {x4 : Int32} {a_x4 : Nat} {x5 : Int32} {a_x5 : Nat} {S : ms} {t : X6} {R210 : Int32 → Int32 → Int32 → Int32 → Int32 → ms → Prop} {r_R210 : Nat → Nat → Nat → Nat → X6 → Bool} {K : ms → Prop} {k_K : X6 → Bool} (h : x_b_putSections_210_x1 a_x2 a_x3 a_x4 a_x5 t r_R210 k_K = true) (g_x1 : 0 < x1) (e_x2 : x2 = Int32.ofNat a_x2) (e_x3 : x3 = Int32.ofNat a_x3) (e_x4 : x4 = Int32.ofNat a_x4) (e_x5 : x5 = Int32.ofNat a_x5) (hS : RM S t) (hR210 : ∀ {y0 : Int32} {y1 : Int32} {b1 : Nat} {y2 : Int32} {b2 : Nat} {y3 : Int32} {b3 : Nat} {y4 : Int32} {b4 : Nat} {yS : ms} {yt : X6}, r_R210 b1 b2 b3 b4 yt = true → 0 < y0 → y1 = Int32.ofNat b1 → y2 = Int32.ofNat b2 → y3 = Int32.ofNat b3 → y4 = Int32.ofNat b4 → RM yS yt → R210 y0 y1 y2 y3 y4 yS) (hK : ∀ {yS : ms} {yt : X6}, k_K yt = true → RM yS yt → K yS) : b_putSections_210 x1 x2 x3 x4 x5 S R210 K := by
  unfold b_putSections_210
  unfold x_b_putSections_210_x1 at h
  have hc1 := c_le' (n_mul ((rfl : (2 : Int32) = Int32.ofNat 2)) e_x3) e_x5
  refine ⟨fun hc => ?_, fun hc => ?_⟩
  · have h := x_pos h (hc1.mp hc)
    refine xs_p_putTwo h e_x4 hS (fun h h_S238 => ?_)
    exact xs_e_putSections_244_x1 h g_x1 e_x2 e_x3 ((rfl : (0 : Int32) = Int32.ofNat 0)) h_S238 hK
  · have h := x_neg h (fun q => hc (hc1.mpr q))
    refine xs_p_codeSize h e_x5 hS (fun h e_v223 h_S223 => ?_)
    have h := frc_ok h
    have p3 := n_add e_x4 e_v223
    have h := frc_ok h
    have p5 := n_add e_x5 ((rfl : (1 : Int32) = Int32.ofNat 1))
    exact hR210 h g_x1 e_x2 e_x3 p3 p5 h_S223
noncomputable def xl_e_putSections_210_x1 (k_K : X6 → Bool) (n : Nat) : Nat → Nat → Nat → Nat → X6 → Bool := Nat.rec (motive := fun _ => Nat → Nat → Nat → Nat → X6 → Bool) (fun _ _ _ _ _ => false) (fun _ ih b_x2 b_x3 b_x4 b_x5 bt => x_b_putSections_210_x1 b_x2 b_x3 b_x4 b_x5 bt ih k_K) n
noncomputable def x_e_putSections_210_x1 (a_x2 : Nat) (a_x3 : Nat) (a_x4 : Nat) (a_x5 : Nat) (t : X6) (k_K : X6 → Bool) : Bool := xl_e_putSections_210_x1 k_K 200000 a_x2 a_x3 a_x4 a_x5 t
def xq_e_putSections_210_x1 (k_K : X6 → Bool) (n : Nat) (y_x1 : Int32) (y_x2 : Int32) (y_x3 : Int32) (y_x4 : Int32) (y_x5 : Int32) (yS : ms) : Prop := ∃ (b_x2 : Nat) (b_x3 : Nat) (b_x4 : Nat) (b_x5 : Nat) (bt : X6), 0 < y_x1 ∧ y_x2 = Int32.ofNat b_x2 ∧ y_x3 = Int32.ofNat b_x3 ∧ y_x4 = Int32.ofNat b_x4 ∧ y_x5 = Int32.ofNat b_x5 ∧ RM yS bt ∧ xl_e_putSections_210_x1 k_K n b_x2 b_x3 b_x4 b_x5 bt = true
set_option maxRecDepth 20000 in
theorem xs_e_putSections_210_x1 {x1 : Int32} {x2 : Int32} {a_x2 : Nat} {x3 : Int32} {a_x3 : Nat} {x4 : Int32} {a_x4 : Nat} {x5 : Int32} {a_x5 : Nat} {S : ms} {t : X6} {K : ms → Prop} {k_K : X6 → Bool} (h : x_e_putSections_210_x1 a_x2 a_x3 a_x4 a_x5 t k_K = true) (g_x1 : 0 < x1) (e_x2 : x2 = Int32.ofNat a_x2) (e_x3 : x3 = Int32.ofNat a_x3) (e_x4 : x4 = Int32.ofNat a_x4) (e_x5 : x5 = Int32.ofNat a_x5) (hS : RM S t) (hK : ∀ {yS : ms} {yt : X6}, k_K yt = true → RM yS yt → K yS) : e_putSections_210 x1 x2 x3 x4 x5 S K := by
  refine ⟨fun y_x1 y_x2 y_x3 y_x4 y_x5 yS => ∃ n, xq_e_putSections_210_x1 k_K n y_x1 y_x2 y_x3 y_x4 y_x5 yS, fun y_x1 y_x2 y_x3 y_x4 y_x5 yS => mf (fun n => xq_e_putSections_210_x1 k_K n y_x1 y_x2 y_x3 y_x4 y_x5 yS), ⟨200000, a_x2, a_x3, a_x4, a_x5, t, g_x1, e_x2, e_x3, e_x4, e_x5, hS, h⟩, fun y_x1 y_x2 y_x3 y_x4 y_x5 yS hI => ?_⟩
  obtain ⟨m, hm, hq⟩ := mf_ok hI
  obtain ⟨b_x2, b_x3, b_x4, b_x5, bt, c_x1, c_x2, c_x3, c_x4, c_x5, cS, h⟩ := hq
  cases m with
  | zero => exact absurd h Bool.false_ne_true
  | succ n => exact xs_b_putSections_210_x1 h c_x1 c_x2 c_x3 c_x4 c_x5 cS (fun h d_x1 d_x2 d_x3 d_x4 d_x5 dS => ⟨⟨n, _, _, _, _, _, d_x1, d_x2, d_x3, d_x4, d_x5, dS, h⟩, Nat.lt_of_le_of_lt (mf_le ⟨_, _, _, _, _, d_x1, d_x2, d_x3, d_x4, d_x5, dS, h⟩) (Nat.lt_of_lt_of_eq (Nat.lt_succ_self n) hm.symm)⟩) hK
noncomputable def x_b_putSections_188_x1 (a_x2 : Nat) (a_x3 : Nat) (a_x4 : Nat) (a_s1 : Nat) (t : X6) (r_R141 : Nat → Nat → Nat → X6 → Bool) (k_K : X6 → Bool) : Bool :=
  x_p_put a_s1 t (fun t_S188 => frc (w_add a_x4 1) fun f1 => r_R141 a_x2 a_x3 f1 t_S188)
set_option maxRecDepth 20000 in
set_option maxHeartbeats 1000000 in
theorem xs_b_putSections_188_x1 {x1 : Int32} {x2 : Int32} {a_x2 : Nat} {x3 : Int32} {a_x3 : Nat} {x4 : Int32} {a_x4 : Nat} {s1 : Int32} {a_s1 : Nat} {S : ms} {t : X6} {R141 : Int32 → Int32 → Int32 → Int32 → ms → Prop} {r_R141 : Nat → Nat → Nat → X6 → Bool} {K : ms → Prop} {k_K : X6 → Bool} (h : x_b_putSections_188_x1 a_x2 a_x3 a_x4 a_s1 t r_R141 k_K = true) (g_x1 : 0 < x1) (e_x2 : x2 = Int32.ofNat a_x2) (e_x3 : x3 = Int32.ofNat a_x3) (e_x4 : x4 = Int32.ofNat a_x4) (e_s1 : s1 = Int32.ofNat a_s1) (hS : RM S t) (hR141 : ∀ {y0 : Int32} {y1 : Int32} {b1 : Nat} {y2 : Int32} {b2 : Nat} {y3 : Int32} {b3 : Nat} {yS : ms} {yt : X6}, r_R141 b1 b2 b3 yt = true → 0 < y0 → y1 = Int32.ofNat b1 → y2 = Int32.ofNat b2 → y3 = Int32.ofNat b3 → RM yS yt → R141 y0 y1 y2 y3 yS) (hK : ∀ {yS : ms} {yt : X6}, k_K yt = true → RM yS yt → K yS) : b_putSections_188 x1 x2 x3 x4 s1 S R141 K := by
  unfold b_putSections_188
  unfold x_b_putSections_188_x1 at h
  refine xs_p_put h e_s1 hS (fun h h_S188 => ?_)
  have h := frc_ok h
  have p2 := n_add e_x4 ((rfl : (1 : Int32) = Int32.ofNat 1))
  exact hR141 h g_x1 e_x2 e_x3 p2 h_S188
noncomputable def x_b_putSections_141_x1 (a_x2 : Nat) (a_x3 : Nat) (a_x4 : Nat) (t : X6) (r_R141 : Nat → Nat → Nat → X6 → Bool) (k_K : X6 → Bool) : Bool :=
  cond (!(w_lt a_x4 a_x2)) (x_p_mark 196 t (fun t_S201 => x_e_putSections_210_x1 a_x2 a_x3 2 0 t_S201 k_K)) (frc (w_add a_x4 1) fun f2 => x_p_put f2 t (fun t_S152 => and (Nat.blt a_x4 9) <| rrw t_S152 15 a_x4 fun v5 => rrw t_S152 16 a_x4 fun v7 => frc (w_add (w_mul 16 v5) v7) fun f9 => x_p_put f9 t_S152 (fun t_S174 => cond (w_eq a_x4 0) (x_b_putSections_188_x1 a_x2 a_x3 a_x4 0 t_S174 r_R141 k_K) (x_b_putSections_188_x1 a_x2 a_x3 a_x4 1 t_S174 r_R141 k_K))))
set_option maxRecDepth 20000 in
set_option maxHeartbeats 1000000 in
theorem xs_b_putSections_141_x1 {x1 : Int32} {x2 : Int32} {a_x2 : Nat} {x3 : Int32} {a_x3 : Nat} {x4 : Int32} {a_x4 : Nat} {S : ms} {t : X6} {R141 : Int32 → Int32 → Int32 → Int32 → ms → Prop} {r_R141 : Nat → Nat → Nat → X6 → Bool} {K : ms → Prop} {k_K : X6 → Bool} (h : x_b_putSections_141_x1 a_x2 a_x3 a_x4 t r_R141 k_K = true) (g_x1 : 0 < x1) (e_x2 : x2 = Int32.ofNat a_x2) (e_x3 : x3 = Int32.ofNat a_x3) (e_x4 : x4 = Int32.ofNat a_x4) (hS : RM S t) (hR141 : ∀ {y0 : Int32} {y1 : Int32} {b1 : Nat} {y2 : Int32} {b2 : Nat} {y3 : Int32} {b3 : Nat} {yS : ms} {yt : X6}, r_R141 b1 b2 b3 yt = true → 0 < y0 → y1 = Int32.ofNat b1 → y2 = Int32.ofNat b2 → y3 = Int32.ofNat b3 → RM yS yt → R141 y0 y1 y2 y3 yS) (hK : ∀ {yS : ms} {yt : X6}, k_K yt = true → RM yS yt → K yS) : b_putSections_141 x1 x2 x3 x4 S R141 K := by
  unfold b_putSections_141
  unfold x_b_putSections_141_x1 at h
  have hc1 := c_le' e_x2 e_x4
  refine ⟨fun hc => ?_, fun hc => ?_⟩
  · have h := x_pos h (hc1.mp hc)
    refine xs_p_mark h ((rfl : (196 : Int32) = Int32.ofNat 196)) hS (fun h h_S201 => ?_)
    exact xs_e_putSections_210_x1 h g_x1 e_x2 e_x3 ((rfl : (2 : Int32) = Int32.ofNat 2)) ((rfl : (0 : Int32) = Int32.ofNat 0)) h_S201 hK
  · have h := x_neg h (fun q => hc (hc1.mpr q))
    have h := frc_ok h
    have p3 := n_add e_x4 ((rfl : (1 : Int32) = Int32.ofNat 1))
    refine xs_p_put h p3 hS (fun h h_S152 => ?_)
    obtain ⟨n4, h⟩ := an_ok h
    refine ⟨n_vp e_x4 n4 (by decide), ?_⟩
    refine ⟨n_vp e_x4 n4 (by decide), ?_⟩
    obtain ⟨v5, h, q6⟩ := rrw_ok h h_S152 (by decide) e_x4
    obtain ⟨v7, h, q8⟩ := rrw_ok h h_S152 (by decide) e_x4
    have h := frc_ok h
    have p10 := n_add (n_mul ((rfl : (16 : Int32) = Int32.ofNat 16)) q6) q8
    refine xs_p_put h p10 h_S152 (fun h h_S174 => ?_)
    have hc11 := c_eq' e_x4 ((rfl : (0 : Int32) = Int32.ofNat 0))
    refine ⟨fun hc => ?_, fun hc => ?_⟩
    · have h := x_neg h (fun q => hc (hc11.mpr q))
      exact xs_b_putSections_188_x1 h g_x1 e_x2 e_x3 e_x4 ((rfl : (1 : Int32) = Int32.ofNat 1)) h_S174 hR141 hK
    · have h := x_pos h (hc11.mp hc)
      exact xs_b_putSections_188_x1 h g_x1 e_x2 e_x3 e_x4 ((rfl : (0 : Int32) = Int32.ofNat 0)) h_S174 hR141 hK
noncomputable def xl_e_putSections_141_x1 (k_K : X6 → Bool) (n : Nat) : Nat → Nat → Nat → X6 → Bool := Nat.rec (motive := fun _ => Nat → Nat → Nat → X6 → Bool) (fun _ _ _ _ => false) (fun _ ih b_x2 b_x3 b_x4 bt => x_b_putSections_141_x1 b_x2 b_x3 b_x4 bt ih k_K) n
noncomputable def x_e_putSections_141_x1 (a_x2 : Nat) (a_x3 : Nat) (a_x4 : Nat) (t : X6) (k_K : X6 → Bool) : Bool := xl_e_putSections_141_x1 k_K 200000 a_x2 a_x3 a_x4 t
def xq_e_putSections_141_x1 (k_K : X6 → Bool) (n : Nat) (y_x1 : Int32) (y_x2 : Int32) (y_x3 : Int32) (y_x4 : Int32) (yS : ms) : Prop := ∃ (b_x2 : Nat) (b_x3 : Nat) (b_x4 : Nat) (bt : X6), 0 < y_x1 ∧ y_x2 = Int32.ofNat b_x2 ∧ y_x3 = Int32.ofNat b_x3 ∧ y_x4 = Int32.ofNat b_x4 ∧ RM yS bt ∧ xl_e_putSections_141_x1 k_K n b_x2 b_x3 b_x4 bt = true
set_option maxRecDepth 20000 in
theorem xs_e_putSections_141_x1 {x1 : Int32} {x2 : Int32} {a_x2 : Nat} {x3 : Int32} {a_x3 : Nat} {x4 : Int32} {a_x4 : Nat} {S : ms} {t : X6} {K : ms → Prop} {k_K : X6 → Bool} (h : x_e_putSections_141_x1 a_x2 a_x3 a_x4 t k_K = true) (g_x1 : 0 < x1) (e_x2 : x2 = Int32.ofNat a_x2) (e_x3 : x3 = Int32.ofNat a_x3) (e_x4 : x4 = Int32.ofNat a_x4) (hS : RM S t) (hK : ∀ {yS : ms} {yt : X6}, k_K yt = true → RM yS yt → K yS) : e_putSections_141 x1 x2 x3 x4 S K := by
  refine ⟨fun y_x1 y_x2 y_x3 y_x4 yS => ∃ n, xq_e_putSections_141_x1 k_K n y_x1 y_x2 y_x3 y_x4 yS, fun y_x1 y_x2 y_x3 y_x4 yS => mf (fun n => xq_e_putSections_141_x1 k_K n y_x1 y_x2 y_x3 y_x4 yS), ⟨200000, a_x2, a_x3, a_x4, t, g_x1, e_x2, e_x3, e_x4, hS, h⟩, fun y_x1 y_x2 y_x3 y_x4 yS hI => ?_⟩
  obtain ⟨m, hm, hq⟩ := mf_ok hI
  obtain ⟨b_x2, b_x3, b_x4, bt, c_x1, c_x2, c_x3, c_x4, cS, h⟩ := hq
  cases m with
  | zero => exact absurd h Bool.false_ne_true
  | succ n => exact xs_b_putSections_141_x1 h c_x1 c_x2 c_x3 c_x4 cS (fun h d_x1 d_x2 d_x3 d_x4 dS => ⟨⟨n, _, _, _, _, d_x1, d_x2, d_x3, d_x4, dS, h⟩, Nat.lt_of_le_of_lt (mf_le ⟨_, _, _, _, d_x1, d_x2, d_x3, d_x4, dS, h⟩) (Nat.lt_of_lt_of_eq (Nat.lt_succ_self n) hm.symm)⟩) hK
noncomputable def x_b_putSections_53_x1 (a_x2 : Nat) (a_x3 : Nat) (a_x4 : Nat) (a_x5 : Nat) (t : X6) (r_R38 : Nat → Nat → Nat → X6 → Bool) (r_R53 : Nat → Nat → Nat → Nat → X6 → Bool) (k_K : X6 → Bool) : Bool :=
  cond (!(w_lt a_x5 64)) (frc (w_add a_x4 1) fun f2 => r_R38 a_x2 a_x3 f2 t) (and (Nat.blt a_x5 64) <| rrw t 22 a_x5 fun v5 => frc (w_add (w_mul 64 a_x4) v5) fun f7 => and (Nat.blt f7 128) <| rrw t 5 f7 fun v10 => x_p_put v10 t (fun t_S79 => frc (w_add a_x5 1) fun f12 => r_R53 a_x2 a_x3 a_x4 f12 t_S79))
set_option maxRecDepth 20000 in
set_option maxHeartbeats 1000000 in
theorem xs_b_putSections_53_x1 {x1 : Int32} {x2 : Int32} {a_x2 : Nat} {x3 : Int32} {a_x3 : Nat} {x4 : Int32} {a_x4 : Nat} {x5 : Int32} {a_x5 : Nat} {S : ms} {t : X6} {R38 : Int32 → Int32 → Int32 → Int32 → ms → Prop} {r_R38 : Nat → Nat → Nat → X6 → Bool} {R53 : Int32 → Int32 → Int32 → Int32 → Int32 → ms → Prop} {r_R53 : Nat → Nat → Nat → Nat → X6 → Bool} {K : ms → Prop} {k_K : X6 → Bool} (h : x_b_putSections_53_x1 a_x2 a_x3 a_x4 a_x5 t r_R38 r_R53 k_K = true) (g_x1 : 0 < x1) (e_x2 : x2 = Int32.ofNat a_x2) (e_x3 : x3 = Int32.ofNat a_x3) (e_x4 : x4 = Int32.ofNat a_x4) (e_x5 : x5 = Int32.ofNat a_x5) (hS : RM S t) (hR38 : ∀ {y0 : Int32} {y1 : Int32} {b1 : Nat} {y2 : Int32} {b2 : Nat} {y3 : Int32} {b3 : Nat} {yS : ms} {yt : X6}, r_R38 b1 b2 b3 yt = true → 0 < y0 → y1 = Int32.ofNat b1 → y2 = Int32.ofNat b2 → y3 = Int32.ofNat b3 → RM yS yt → R38 y0 y1 y2 y3 yS) (hR53 : ∀ {y0 : Int32} {y1 : Int32} {b1 : Nat} {y2 : Int32} {b2 : Nat} {y3 : Int32} {b3 : Nat} {y4 : Int32} {b4 : Nat} {yS : ms} {yt : X6}, r_R53 b1 b2 b3 b4 yt = true → 0 < y0 → y1 = Int32.ofNat b1 → y2 = Int32.ofNat b2 → y3 = Int32.ofNat b3 → y4 = Int32.ofNat b4 → RM yS yt → R53 y0 y1 y2 y3 y4 yS) (hK : ∀ {yS : ms} {yt : X6}, k_K yt = true → RM yS yt → K yS) : b_putSections_53 x1 x2 x3 x4 x5 S R38 R53 K := by
  unfold b_putSections_53
  unfold x_b_putSections_53_x1 at h
  have hc1 := c_le' ((rfl : (64 : Int32) = Int32.ofNat 64)) e_x5
  refine ⟨fun hc => ?_, fun hc => ?_⟩
  · have h := x_pos h (hc1.mp hc)
    have h := frc_ok h
    have p3 := n_add e_x4 ((rfl : (1 : Int32) = Int32.ofNat 1))
    exact hR38 h g_x1 e_x2 e_x3 p3 hS
  · have h := x_neg h (fun q => hc (hc1.mpr q))
    obtain ⟨n4, h⟩ := an_ok h
    refine ⟨n_vp e_x5 n4 (by decide), ?_⟩
    obtain ⟨v5, h, q6⟩ := rrw_ok h hS (by decide) e_x5
    have h := frc_ok h
    have p8 := n_add (n_mul ((rfl : (64 : Int32) = Int32.ofNat 64)) e_x4) q6
    obtain ⟨n9, h⟩ := an_ok h
    refine ⟨n_vp p8 n9 (by decide), ?_⟩
    obtain ⟨v10, h, q11⟩ := rrw_ok h hS (by decide) p8
    refine xs_p_put h q11 hS (fun h h_S79 => ?_)
    have h := frc_ok h
    have p13 := n_add e_x5 ((rfl : (1 : Int32) = Int32.ofNat 1))
    exact hR53 h g_x1 e_x2 e_x3 e_x4 p13 h_S79
noncomputable def xl_e_putSections_53_x1 (r_R38 : Nat → Nat → Nat → X6 → Bool) (k_K : X6 → Bool) (n : Nat) : Nat → Nat → Nat → Nat → X6 → Bool := Nat.rec (motive := fun _ => Nat → Nat → Nat → Nat → X6 → Bool) (fun _ _ _ _ _ => false) (fun _ ih b_x2 b_x3 b_x4 b_x5 bt => x_b_putSections_53_x1 b_x2 b_x3 b_x4 b_x5 bt r_R38 ih k_K) n
noncomputable def x_e_putSections_53_x1 (a_x2 : Nat) (a_x3 : Nat) (a_x4 : Nat) (a_x5 : Nat) (t : X6) (r_R38 : Nat → Nat → Nat → X6 → Bool) (k_K : X6 → Bool) : Bool := xl_e_putSections_53_x1 r_R38 k_K 200000 a_x2 a_x3 a_x4 a_x5 t
def xq_e_putSections_53_x1 (r_R38 : Nat → Nat → Nat → X6 → Bool) (k_K : X6 → Bool) (n : Nat) (y_x1 : Int32) (y_x2 : Int32) (y_x3 : Int32) (y_x4 : Int32) (y_x5 : Int32) (yS : ms) : Prop := ∃ (b_x2 : Nat) (b_x3 : Nat) (b_x4 : Nat) (b_x5 : Nat) (bt : X6), 0 < y_x1 ∧ y_x2 = Int32.ofNat b_x2 ∧ y_x3 = Int32.ofNat b_x3 ∧ y_x4 = Int32.ofNat b_x4 ∧ y_x5 = Int32.ofNat b_x5 ∧ RM yS bt ∧ xl_e_putSections_53_x1 r_R38 k_K n b_x2 b_x3 b_x4 b_x5 bt = true
set_option maxRecDepth 20000 in
theorem xs_e_putSections_53_x1 {x1 : Int32} {x2 : Int32} {a_x2 : Nat} {x3 : Int32} {a_x3 : Nat} {x4 : Int32} {a_x4 : Nat} {x5 : Int32} {a_x5 : Nat} {S : ms} {t : X6} {R38 : Int32 → Int32 → Int32 → Int32 → ms → Prop} {r_R38 : Nat → Nat → Nat → X6 → Bool} {K : ms → Prop} {k_K : X6 → Bool} (h : x_e_putSections_53_x1 a_x2 a_x3 a_x4 a_x5 t r_R38 k_K = true) (g_x1 : 0 < x1) (e_x2 : x2 = Int32.ofNat a_x2) (e_x3 : x3 = Int32.ofNat a_x3) (e_x4 : x4 = Int32.ofNat a_x4) (e_x5 : x5 = Int32.ofNat a_x5) (hS : RM S t) (hR38 : ∀ {y0 : Int32} {y1 : Int32} {b1 : Nat} {y2 : Int32} {b2 : Nat} {y3 : Int32} {b3 : Nat} {yS : ms} {yt : X6}, r_R38 b1 b2 b3 yt = true → 0 < y0 → y1 = Int32.ofNat b1 → y2 = Int32.ofNat b2 → y3 = Int32.ofNat b3 → RM yS yt → R38 y0 y1 y2 y3 yS) (hK : ∀ {yS : ms} {yt : X6}, k_K yt = true → RM yS yt → K yS) : e_putSections_53 x1 x2 x3 x4 x5 S R38 K := by
  refine ⟨fun y_x1 y_x2 y_x3 y_x4 y_x5 yS => ∃ n, xq_e_putSections_53_x1 r_R38 k_K n y_x1 y_x2 y_x3 y_x4 y_x5 yS, fun y_x1 y_x2 y_x3 y_x4 y_x5 yS => mf (fun n => xq_e_putSections_53_x1 r_R38 k_K n y_x1 y_x2 y_x3 y_x4 y_x5 yS), ⟨200000, a_x2, a_x3, a_x4, a_x5, t, g_x1, e_x2, e_x3, e_x4, e_x5, hS, h⟩, fun y_x1 y_x2 y_x3 y_x4 y_x5 yS hI => ?_⟩
  obtain ⟨m, hm, hq⟩ := mf_ok hI
  obtain ⟨b_x2, b_x3, b_x4, b_x5, bt, c_x1, c_x2, c_x3, c_x4, c_x5, cS, h⟩ := hq
  cases m with
  | zero => exact absurd h Bool.false_ne_true
  | succ n => exact xs_b_putSections_53_x1 h c_x1 c_x2 c_x3 c_x4 c_x5 cS hR38 (fun h d_x1 d_x2 d_x3 d_x4 d_x5 dS => ⟨⟨n, _, _, _, _, _, d_x1, d_x2, d_x3, d_x4, d_x5, dS, h⟩, Nat.lt_of_le_of_lt (mf_le ⟨_, _, _, _, _, d_x1, d_x2, d_x3, d_x4, d_x5, dS, h⟩) (Nat.lt_of_lt_of_eq (Nat.lt_succ_self n) hm.symm)⟩) hK
noncomputable def x_b_putSections_38_x1 (a_x2 : Nat) (a_x3 : Nat) (a_x4 : Nat) (t : X6) (r_R38 : Nat → Nat → Nat → X6 → Bool) (k_K : X6 → Bool) : Bool :=
  cond (!(w_lt a_x4 a_x3)) (x_p_mark 192 t (fun t_S98 => frc (w_add 8 (w_mul 3 a_x2)) fun f2 => x_p_putTwo f2 t_S98 (fun t_S108 => x_p_put 8 t_S108 (fun t_S114 => rfi t_S114 2 fun v4 => x_p_putTwo v4 t_S114 (fun t_S122 => rfi t_S122 1 fun v6 => x_p_putTwo v6 t_S122 (fun t_S130 => x_p_put a_x2 t_S130 (fun t_S135 => x_e_putSections_141_x1 a_x2 a_x3 0 t_S135 k_K))))))) (x_p_put a_x4 t (fun t_S47 => x_e_putSections_53_x1 a_x2 a_x3 a_x4 0 t_S47 r_R38 k_K))
set_option maxRecDepth 20000 in
set_option maxHeartbeats 1000000 in
theorem xs_b_putSections_38_x1 {x1 : Int32} {x2 : Int32} {a_x2 : Nat} {x3 : Int32} {a_x3 : Nat} {x4 : Int32} {a_x4 : Nat} {S : ms} {t : X6} {R38 : Int32 → Int32 → Int32 → Int32 → ms → Prop} {r_R38 : Nat → Nat → Nat → X6 → Bool} {K : ms → Prop} {k_K : X6 → Bool} (h : x_b_putSections_38_x1 a_x2 a_x3 a_x4 t r_R38 k_K = true) (g_x1 : 0 < x1) (e_x2 : x2 = Int32.ofNat a_x2) (e_x3 : x3 = Int32.ofNat a_x3) (e_x4 : x4 = Int32.ofNat a_x4) (hS : RM S t) (hR38 : ∀ {y0 : Int32} {y1 : Int32} {b1 : Nat} {y2 : Int32} {b2 : Nat} {y3 : Int32} {b3 : Nat} {yS : ms} {yt : X6}, r_R38 b1 b2 b3 yt = true → 0 < y0 → y1 = Int32.ofNat b1 → y2 = Int32.ofNat b2 → y3 = Int32.ofNat b3 → RM yS yt → R38 y0 y1 y2 y3 yS) (hK : ∀ {yS : ms} {yt : X6}, k_K yt = true → RM yS yt → K yS) : b_putSections_38 x1 x2 x3 x4 S R38 K := by
  unfold b_putSections_38
  unfold x_b_putSections_38_x1 at h
  have hc1 := c_le' e_x3 e_x4
  refine ⟨fun hc => ?_, fun hc => ?_⟩
  · have h := x_pos h (hc1.mp hc)
    refine xs_p_mark h ((rfl : (192 : Int32) = Int32.ofNat 192)) hS (fun h h_S98 => ?_)
    have h := frc_ok h
    have p3 := n_add ((rfl : (8 : Int32) = Int32.ofNat 8)) (n_mul ((rfl : (3 : Int32) = Int32.ofNat 3)) e_x2)
    refine xs_p_putTwo h p3 h_S98 (fun h h_S108 => ?_)
    refine xs_p_put h ((rfl : (8 : Int32) = Int32.ofNat 8)) h_S108 (fun h h_S114 => ?_)
    obtain ⟨v4, h, q5⟩ := rfi_ok h h_S114
    refine xs_p_putTwo h q5 h_S114 (fun h h_S122 => ?_)
    obtain ⟨v6, h, q7⟩ := rfi_ok h h_S122
    refine xs_p_putTwo h q7 h_S122 (fun h h_S130 => ?_)
    refine xs_p_put h e_x2 h_S130 (fun h h_S135 => ?_)
    exact xs_e_putSections_141_x1 h g_x1 e_x2 e_x3 ((rfl : (0 : Int32) = Int32.ofNat 0)) h_S135 hK
  · have h := x_neg h (fun q => hc (hc1.mpr q))
    refine xs_p_put h e_x4 hS (fun h h_S47 => ?_)
    exact xs_e_putSections_53_x1 h g_x1 e_x2 e_x3 e_x4 ((rfl : (0 : Int32) = Int32.ofNat 0)) h_S47 hR38 hK
noncomputable def xl_e_putSections_38_x1 (k_K : X6 → Bool) (n : Nat) : Nat → Nat → Nat → X6 → Bool := Nat.rec (motive := fun _ => Nat → Nat → Nat → X6 → Bool) (fun _ _ _ _ => false) (fun _ ih b_x2 b_x3 b_x4 bt => x_b_putSections_38_x1 b_x2 b_x3 b_x4 bt ih k_K) n
noncomputable def x_e_putSections_38_x1 (a_x2 : Nat) (a_x3 : Nat) (a_x4 : Nat) (t : X6) (k_K : X6 → Bool) : Bool := xl_e_putSections_38_x1 k_K 200000 a_x2 a_x3 a_x4 t
def xq_e_putSections_38_x1 (k_K : X6 → Bool) (n : Nat) (y_x1 : Int32) (y_x2 : Int32) (y_x3 : Int32) (y_x4 : Int32) (yS : ms) : Prop := ∃ (b_x2 : Nat) (b_x3 : Nat) (b_x4 : Nat) (bt : X6), 0 < y_x1 ∧ y_x2 = Int32.ofNat b_x2 ∧ y_x3 = Int32.ofNat b_x3 ∧ y_x4 = Int32.ofNat b_x4 ∧ RM yS bt ∧ xl_e_putSections_38_x1 k_K n b_x2 b_x3 b_x4 bt = true
set_option maxRecDepth 20000 in
theorem xs_e_putSections_38_x1 {x1 : Int32} {x2 : Int32} {a_x2 : Nat} {x3 : Int32} {a_x3 : Nat} {x4 : Int32} {a_x4 : Nat} {S : ms} {t : X6} {K : ms → Prop} {k_K : X6 → Bool} (h : x_e_putSections_38_x1 a_x2 a_x3 a_x4 t k_K = true) (g_x1 : 0 < x1) (e_x2 : x2 = Int32.ofNat a_x2) (e_x3 : x3 = Int32.ofNat a_x3) (e_x4 : x4 = Int32.ofNat a_x4) (hS : RM S t) (hK : ∀ {yS : ms} {yt : X6}, k_K yt = true → RM yS yt → K yS) : e_putSections_38 x1 x2 x3 x4 S K := by
  refine ⟨fun y_x1 y_x2 y_x3 y_x4 yS => ∃ n, xq_e_putSections_38_x1 k_K n y_x1 y_x2 y_x3 y_x4 yS, fun y_x1 y_x2 y_x3 y_x4 yS => mf (fun n => xq_e_putSections_38_x1 k_K n y_x1 y_x2 y_x3 y_x4 yS), ⟨200000, a_x2, a_x3, a_x4, t, g_x1, e_x2, e_x3, e_x4, hS, h⟩, fun y_x1 y_x2 y_x3 y_x4 yS hI => ?_⟩
  obtain ⟨m, hm, hq⟩ := mf_ok hI
  obtain ⟨b_x2, b_x3, b_x4, bt, c_x1, c_x2, c_x3, c_x4, cS, h⟩ := hq
  cases m with
  | zero => exact absurd h Bool.false_ne_true
  | succ n => exact xs_b_putSections_38_x1 h c_x1 c_x2 c_x3 c_x4 cS (fun h d_x1 d_x2 d_x3 d_x4 dS => ⟨⟨n, _, _, _, _, d_x1, d_x2, d_x3, d_x4, dS, h⟩, Nat.lt_of_le_of_lt (mf_le ⟨_, _, _, _, d_x1, d_x2, d_x3, d_x4, dS, h⟩) (Nat.lt_of_lt_of_eq (Nat.lt_succ_self n) hm.symm)⟩) hK
noncomputable def x_b_putSections_17_x1 (a_x2 : Nat) (a_s0 : Nat) (t : X6) (k_K : X6 → Bool) : Bool :=
  x_p_mark 219 t (fun t_S22 => frc (w_add 2 (w_mul 65 a_s0)) fun f1 => x_p_putTwo f1 t_S22 (fun t_S32 => x_e_putSections_38_x1 a_x2 a_s0 0 t_S32 k_K))
set_option maxRecDepth 20000 in
set_option maxHeartbeats 1000000 in
theorem xs_b_putSections_17_x1 {x1 : Int32} {x2 : Int32} {a_x2 : Nat} {s0 : Int32} {a_s0 : Nat} {S : ms} {t : X6} {K : ms → Prop} {k_K : X6 → Bool} (h : x_b_putSections_17_x1 a_x2 a_s0 t k_K = true) (g_x1 : 0 < x1) (e_x2 : x2 = Int32.ofNat a_x2) (e_s0 : s0 = Int32.ofNat a_s0) (hS : RM S t) (hK : ∀ {yS : ms} {yt : X6}, k_K yt = true → RM yS yt → K yS) : b_putSections_17 x1 x2 s0 S K := by
  unfold b_putSections_17
  unfold x_b_putSections_17_x1 at h
  refine xs_p_mark h ((rfl : (219 : Int32) = Int32.ofNat 219)) hS (fun h h_S22 => ?_)
  have h := frc_ok h
  have p2 := n_add ((rfl : (2 : Int32) = Int32.ofNat 2)) (n_mul ((rfl : (65 : Int32) = Int32.ofNat 65)) e_s0)
  refine xs_p_putTwo h p2 h_S22 (fun h h_S32 => ?_)
  exact xs_e_putSections_38_x1 h g_x1 e_x2 e_s0 ((rfl : (0 : Int32) = Int32.ofNat 0)) h_S32 hK
noncomputable def x_p_putSections_x1 (t : X6) (k_K : X6 → Bool) : Bool :=
  and (Nat.blt 0 3) <| rrw t 14 0 fun v2 => cond (w_eq v2 1) (x_b_putSections_17_x1 v2 1 t k_K) (x_b_putSections_17_x1 v2 2 t k_K)
set_option maxRecDepth 20000 in
set_option maxHeartbeats 1000000 in
theorem xs_p_putSections_x1 {x1 : Int32} {S : ms} {t : X6} {K : ms → Prop} {k_K : X6 → Bool} (h : x_p_putSections_x1 t k_K = true) (g_x1 : 0 < x1) (hS : RM S t) (hK : ∀ {yS : ms} {yt : X6}, k_K yt = true → RM yS yt → K yS) : p_putSections x1 S K := by
  unfold p_putSections
  unfold x_p_putSections_x1 at h
  obtain ⟨n1, h⟩ := an_ok h
  refine ⟨n_vp ((rfl : (0 : Int32) = Int32.ofNat 0)) n1 (by decide), ?_⟩
  obtain ⟨v2, h, q3⟩ := rrw_ok h hS (by decide) ((rfl : (0 : Int32) = Int32.ofNat 0))
  have hc4 := c_eq' q3 ((rfl : (1 : Int32) = Int32.ofNat 1))
  refine ⟨fun hc => ?_, fun hc => ?_⟩
  · have h := x_neg h (fun q => hc (hc4.mpr q))
    exact xs_b_putSections_17_x1 h g_x1 q3 ((rfl : (2 : Int32) = Int32.ofNat 2)) hS hK
  · have h := x_pos h (hc4.mp hc)
    exact xs_b_putSections_17_x1 h g_x1 q3 ((rfl : (1 : Int32) = Int32.ofNat 1)) hS hK
noncomputable def x_b_pack_321_x3 (a_x4 : Nat) (a_s0 : Nat) (a_s1 : Nat) (t : X6) (r_R306 : Nat → X6 → Bool) (k_K : Nat → X6 → Bool) : Bool :=
  cond (!(w_lt a_s0 a_s1)) (wfi t 9 0 fun t2 => wfi t2 32 0 fun t4 => wfi t4 33 0 fun t6 => x_p_mark 216 t6 (fun t_S355 => x_p_putSections_x1 t_S355 (fun t_S360 => x_p_units_x2 0 t_S360 (fun t_S366 => x_p_fillUp t_S366 (fun t_S370 => x_p_mark 217 t_S370 (fun t_S377 => rfi t_S377 9 fun v8 => k_K v8 t_S377)))))) (x_p_makeCode a_x4 t (fun t_S327 => frc (w_add a_x4 1) fun f10 => r_R306 f10 t_S327))
set_option maxRecDepth 20000 in
set_option maxHeartbeats 1000000 in
theorem xs_b_pack_321_x3 {x3 : Int32} {x4 : Int32} {a_x4 : Nat} {s0 : Int32} {a_s0 : Nat} {s1 : Int32} {a_s1 : Nat} {S : ms} {t : X6} {R306 : Int32 → Int32 → ms → Prop} {r_R306 : Nat → X6 → Bool} {K : Int32 → ms → Prop} {k_K : Nat → X6 → Bool} (h : x_b_pack_321_x3 a_x4 a_s0 a_s1 t r_R306 k_K = true) (g_x3 : 0 < x3) (e_x4 : x4 = Int32.ofNat a_x4) (e_s0 : s0 = Int32.ofNat a_s0) (e_s1 : s1 = Int32.ofNat a_s1) (hS : RM S t) (hR306 : ∀ {y0 : Int32} {y1 : Int32} {b1 : Nat} {yS : ms} {yt : X6}, r_R306 b1 yt = true → 0 < y0 → y1 = Int32.ofNat b1 → RM yS yt → R306 y0 y1 yS) (hK : ∀ {y0 : Int32} {b0 : Nat} {yS : ms} {yt : X6}, k_K b0 yt = true → y0 = Int32.ofNat b0 → RM yS yt → K y0 yS) : b_pack_321 x3 x4 s0 s1 S R306 K := by
  unfold b_pack_321
  unfold x_b_pack_321_x3 at h
  have hc1 := c_le' e_s1 e_s0
  refine ⟨fun hc => ?_, fun hc => ?_⟩
  · have h := x_pos h (hc1.mp hc)
    obtain ⟨t2, h, hS3⟩ := wfi_ok h hS  ((rfl : (0 : Int32) = Int32.ofNat 0))
    obtain ⟨t4, h, hS5⟩ := wfi_ok h hS3  ((rfl : (0 : Int32) = Int32.ofNat 0))
    obtain ⟨t6, h, hS7⟩ := wfi_ok h hS5  ((rfl : (0 : Int32) = Int32.ofNat 0))
    refine xs_p_mark h ((rfl : (216 : Int32) = Int32.ofNat 216)) hS7 (fun h h_S355 => ?_)
    refine xs_p_putSections_x1 h g_x3 h_S355 (fun h h_S360 => ?_)
    refine xs_p_units_x2 h ((rfl : (0 : Int32) = Int32.ofNat 0)) g_x3 h_S360 (fun h h_S366 => ?_)
    refine xs_p_fillUp h h_S366 (fun h h_S370 => ?_)
    refine xs_p_mark h ((rfl : (217 : Int32) = Int32.ofNat 217)) h_S370 (fun h h_S377 => ?_)
    obtain ⟨v8, h, q9⟩ := rfi_ok h h_S377
    exact hK h q9 h_S377
  · have h := x_neg h (fun q => hc (hc1.mpr q))
    refine xs_p_makeCode h e_x4 hS (fun h h_S327 => ?_)
    have h := frc_ok h
    have p11 := n_add e_x4 ((rfl : (1 : Int32) = Int32.ofNat 1))
    exact hR306 h g_x3 p11 h_S327
noncomputable def x_b_pack_306_x3 (a_x4 : Nat) (t : X6) (r_R306 : Nat → X6 → Bool) (k_K : Nat → X6 → Bool) : Bool :=
  rfi t 3 fun v1 => cond (w_eq v1 1) (x_b_pack_321_x3 a_x4 a_x4 2 t r_R306 k_K) (x_b_pack_321_x3 a_x4 a_x4 4 t r_R306 k_K)
set_option maxRecDepth 20000 in
set_option maxHeartbeats 1000000 in
theorem xs_b_pack_306_x3 {x3 : Int32} {x4 : Int32} {a_x4 : Nat} {S : ms} {t : X6} {R306 : Int32 → Int32 → ms → Prop} {r_R306 : Nat → X6 → Bool} {K : Int32 → ms → Prop} {k_K : Nat → X6 → Bool} (h : x_b_pack_306_x3 a_x4 t r_R306 k_K = true) (g_x3 : 0 < x3) (e_x4 : x4 = Int32.ofNat a_x4) (hS : RM S t) (hR306 : ∀ {y0 : Int32} {y1 : Int32} {b1 : Nat} {yS : ms} {yt : X6}, r_R306 b1 yt = true → 0 < y0 → y1 = Int32.ofNat b1 → RM yS yt → R306 y0 y1 yS) (hK : ∀ {y0 : Int32} {b0 : Nat} {yS : ms} {yt : X6}, k_K b0 yt = true → y0 = Int32.ofNat b0 → RM yS yt → K y0 yS) : b_pack_306 x3 x4 S R306 K := by
  unfold b_pack_306
  unfold x_b_pack_306_x3 at h
  obtain ⟨v1, h, q2⟩ := rfi_ok h hS
  have hc3 := c_eq' q2 ((rfl : (1 : Int32) = Int32.ofNat 1))
  refine ⟨fun hc => ?_, fun hc => ?_⟩
  · have h := x_neg h (fun q => hc (hc3.mpr q))
    exact xs_b_pack_321_x3 h g_x3 e_x4 e_x4 ((rfl : (4 : Int32) = Int32.ofNat 4)) hS hR306 hK
  · have h := x_pos h (hc3.mp hc)
    exact xs_b_pack_321_x3 h g_x3 e_x4 e_x4 ((rfl : (2 : Int32) = Int32.ofNat 2)) hS hR306 hK
noncomputable def xl_e_pack_306_x3 (k_K : Nat → X6 → Bool) (n : Nat) : Nat → X6 → Bool := Nat.rec (motive := fun _ => Nat → X6 → Bool) (fun _ _ => false) (fun _ ih b_x4 bt => x_b_pack_306_x3 b_x4 bt ih k_K) n
noncomputable def x_e_pack_306_x3 (a_x4 : Nat) (t : X6) (k_K : Nat → X6 → Bool) : Bool := xl_e_pack_306_x3 k_K 200000 a_x4 t
def xq_e_pack_306_x3 (k_K : Nat → X6 → Bool) (n : Nat) (y_x3 : Int32) (y_x4 : Int32) (yS : ms) : Prop := ∃ (b_x4 : Nat) (bt : X6), 0 < y_x3 ∧ y_x4 = Int32.ofNat b_x4 ∧ RM yS bt ∧ xl_e_pack_306_x3 k_K n b_x4 bt = true
set_option maxRecDepth 20000 in
theorem xs_e_pack_306_x3 {x3 : Int32} {x4 : Int32} {a_x4 : Nat} {S : ms} {t : X6} {K : Int32 → ms → Prop} {k_K : Nat → X6 → Bool} (h : x_e_pack_306_x3 a_x4 t k_K = true) (g_x3 : 0 < x3) (e_x4 : x4 = Int32.ofNat a_x4) (hS : RM S t) (hK : ∀ {y0 : Int32} {b0 : Nat} {yS : ms} {yt : X6}, k_K b0 yt = true → y0 = Int32.ofNat b0 → RM yS yt → K y0 yS) : e_pack_306 x3 x4 S K := by
  refine ⟨fun y_x3 y_x4 yS => ∃ n, xq_e_pack_306_x3 k_K n y_x3 y_x4 yS, fun y_x3 y_x4 yS => mf (fun n => xq_e_pack_306_x3 k_K n y_x3 y_x4 yS), ⟨200000, a_x4, t, g_x3, e_x4, hS, h⟩, fun y_x3 y_x4 yS hI => ?_⟩
  obtain ⟨m, hm, hq⟩ := mf_ok hI
  obtain ⟨b_x4, bt, c_x3, c_x4, cS, h⟩ := hq
  cases m with
  | zero => exact absurd h Bool.false_ne_true
  | succ n => exact xs_b_pack_306_x3 h c_x3 c_x4 cS (fun h d_x3 d_x4 dS => ⟨⟨n, _, _, d_x3, d_x4, dS, h⟩, Nat.lt_of_le_of_lt (mf_le ⟨_, _, d_x3, d_x4, dS, h⟩) (Nat.lt_of_lt_of_eq (Nat.lt_succ_self n) hm.symm)⟩) hK
noncomputable def x_b_pack_275_x3 (a_x4 : Nat) (t : X6) (r_R275 : Nat → X6 → Bool) (k_K : Nat → X6 → Bool) : Bool :=
  cond (!(w_lt a_x4 1028)) (x_p_units_x2 1 t (fun t_S300 => x_e_pack_306_x3 0 t_S300 k_K)) (and (Nat.blt a_x4 1028) <| frc (w_add a_x4 1) fun f3 => wrw t 26 a_x4 0 fun t5 => r_R275 f3 t5)
set_option maxRecDepth 20000 in
set_option maxHeartbeats 1000000 in
theorem xs_b_pack_275_x3 {x3 : Int32} {x4 : Int32} {a_x4 : Nat} {S : ms} {t : X6} {R275 : Int32 → Int32 → ms → Prop} {r_R275 : Nat → X6 → Bool} {K : Int32 → ms → Prop} {k_K : Nat → X6 → Bool} (h : x_b_pack_275_x3 a_x4 t r_R275 k_K = true) (g_x3 : 0 < x3) (e_x4 : x4 = Int32.ofNat a_x4) (hS : RM S t) (hR275 : ∀ {y0 : Int32} {y1 : Int32} {b1 : Nat} {yS : ms} {yt : X6}, r_R275 b1 yt = true → 0 < y0 → y1 = Int32.ofNat b1 → RM yS yt → R275 y0 y1 yS) (hK : ∀ {y0 : Int32} {b0 : Nat} {yS : ms} {yt : X6}, k_K b0 yt = true → y0 = Int32.ofNat b0 → RM yS yt → K y0 yS) : b_pack_275 x3 x4 S R275 K := by
  unfold b_pack_275
  unfold x_b_pack_275_x3 at h
  have hc1 := c_le' ((rfl : (1028 : Int32) = Int32.ofNat 1028)) e_x4
  refine ⟨fun hc => ?_, fun hc => ?_⟩
  · have h := x_pos h (hc1.mp hc)
    refine xs_p_units_x2 h ((rfl : (1 : Int32) = Int32.ofNat 1)) g_x3 hS (fun h h_S300 => ?_)
    exact xs_e_pack_306_x3 h g_x3 ((rfl : (0 : Int32) = Int32.ofNat 0)) h_S300 hK
  · have h := x_neg h (fun q => hc (hc1.mpr q))
    obtain ⟨n2, h⟩ := an_ok h
    refine ⟨n_vp e_x4 n2 (by decide), ?_⟩
    have h := frc_ok h
    have p4 := n_add e_x4 ((rfl : (1 : Int32) = Int32.ofNat 1))
    obtain ⟨t5, h, hS6⟩ := wrw_ok h hS (by decide) e_x4 ((rfl : (0 : Int32) = Int32.ofNat 0))
    exact hR275 h g_x3 p4 hS6
noncomputable def xl_e_pack_275_x3 (k_K : Nat → X6 → Bool) (n : Nat) : Nat → X6 → Bool := Nat.rec (motive := fun _ => Nat → X6 → Bool) (fun _ _ => false) (fun _ ih b_x4 bt => x_b_pack_275_x3 b_x4 bt ih k_K) n
noncomputable def x_e_pack_275_x3 (a_x4 : Nat) (t : X6) (k_K : Nat → X6 → Bool) : Bool := xl_e_pack_275_x3 k_K 200000 a_x4 t
def xq_e_pack_275_x3 (k_K : Nat → X6 → Bool) (n : Nat) (y_x3 : Int32) (y_x4 : Int32) (yS : ms) : Prop := ∃ (b_x4 : Nat) (bt : X6), 0 < y_x3 ∧ y_x4 = Int32.ofNat b_x4 ∧ RM yS bt ∧ xl_e_pack_275_x3 k_K n b_x4 bt = true
set_option maxRecDepth 20000 in
theorem xs_e_pack_275_x3 {x3 : Int32} {x4 : Int32} {a_x4 : Nat} {S : ms} {t : X6} {K : Int32 → ms → Prop} {k_K : Nat → X6 → Bool} (h : x_e_pack_275_x3 a_x4 t k_K = true) (g_x3 : 0 < x3) (e_x4 : x4 = Int32.ofNat a_x4) (hS : RM S t) (hK : ∀ {y0 : Int32} {b0 : Nat} {yS : ms} {yt : X6}, k_K b0 yt = true → y0 = Int32.ofNat b0 → RM yS yt → K y0 yS) : e_pack_275 x3 x4 S K := by
  refine ⟨fun y_x3 y_x4 yS => ∃ n, xq_e_pack_275_x3 k_K n y_x3 y_x4 yS, fun y_x3 y_x4 yS => mf (fun n => xq_e_pack_275_x3 k_K n y_x3 y_x4 yS), ⟨200000, a_x4, t, g_x3, e_x4, hS, h⟩, fun y_x3 y_x4 yS hI => ?_⟩
  obtain ⟨m, hm, hq⟩ := mf_ok hI
  obtain ⟨b_x4, bt, c_x3, c_x4, cS, h⟩ := hq
  cases m with
  | zero => exact absurd h Bool.false_ne_true
  | succ n => exact xs_b_pack_275_x3 h c_x3 c_x4 cS (fun h d_x3 d_x4 dS => ⟨⟨n, _, _, d_x3, d_x4, dS, h⟩, Nat.lt_of_le_of_lt (mf_le ⟨_, _, d_x3, d_x4, dS, h⟩) (Nat.lt_of_lt_of_eq (Nat.lt_succ_self n) hm.symm)⟩) hK
noncomputable def x_b_pack_225_x3 (a_x4 : Nat) (a_x5 : Nat) (a_x6 : Nat) (a_x7 : Nat) (t : X6) (r_R145 : Nat → X6 → Bool) (r_R225 : Nat → Nat → Nat → Nat → X6 → Bool) (k_K : Nat → X6 → Bool) : Bool :=
  cond (!(w_lt a_x7 (w_mul a_x5 a_x6))) (frc (w_add a_x4 1) fun f2 => r_R145 f2 t) (cond (w_eq a_x5 0) false <| and (Nat.blt a_x4 9) <| cond (w_eq a_x5 0) false <| rrw t 17 a_x4 fun v7 => frc (w_add (w_mul (w_div a_x7 a_x5) v7) (w_sub a_x7 (w_mul (w_div a_x7 a_x5) a_x5))) fun f9 => x_p_makeLevels a_x4 f9 t (fun t_S257 => frc (w_add a_x7 1) fun f11 => r_R225 a_x4 a_x5 a_x6 f11 t_S257))
set_option maxRecDepth 20000 in
set_option maxHeartbeats 1000000 in
theorem xs_b_pack_225_x3 {x3 : Int32} {x4 : Int32} {a_x4 : Nat} {x5 : Int32} {a_x5 : Nat} {x6 : Int32} {a_x6 : Nat} {x7 : Int32} {a_x7 : Nat} {S : ms} {t : X6} {R145 : Int32 → Int32 → ms → Prop} {r_R145 : Nat → X6 → Bool} {R225 : Int32 → Int32 → Int32 → Int32 → Int32 → ms → Prop} {r_R225 : Nat → Nat → Nat → Nat → X6 → Bool} {K : Int32 → ms → Prop} {k_K : Nat → X6 → Bool} (h : x_b_pack_225_x3 a_x4 a_x5 a_x6 a_x7 t r_R145 r_R225 k_K = true) (g_x3 : 0 < x3) (e_x4 : x4 = Int32.ofNat a_x4) (e_x5 : x5 = Int32.ofNat a_x5) (e_x6 : x6 = Int32.ofNat a_x6) (e_x7 : x7 = Int32.ofNat a_x7) (hS : RM S t) (hR145 : ∀ {y0 : Int32} {y1 : Int32} {b1 : Nat} {yS : ms} {yt : X6}, r_R145 b1 yt = true → 0 < y0 → y1 = Int32.ofNat b1 → RM yS yt → R145 y0 y1 yS) (hR225 : ∀ {y0 : Int32} {y1 : Int32} {b1 : Nat} {y2 : Int32} {b2 : Nat} {y3 : Int32} {b3 : Nat} {y4 : Int32} {b4 : Nat} {yS : ms} {yt : X6}, r_R225 b1 b2 b3 b4 yt = true → 0 < y0 → y1 = Int32.ofNat b1 → y2 = Int32.ofNat b2 → y3 = Int32.ofNat b3 → y4 = Int32.ofNat b4 → RM yS yt → R225 y0 y1 y2 y3 y4 yS) (hK : ∀ {y0 : Int32} {b0 : Nat} {yS : ms} {yt : X6}, k_K b0 yt = true → y0 = Int32.ofNat b0 → RM yS yt → K y0 yS) : b_pack_225 x3 x4 x5 x6 x7 S R145 R225 K := by
  unfold b_pack_225
  unfold x_b_pack_225_x3 at h
  have hc1 := c_le' (n_mul e_x5 e_x6) e_x7
  refine ⟨fun hc => ?_, fun hc => ?_⟩
  · have h := x_pos h (hc1.mp hc)
    have h := frc_ok h
    have p3 := n_add e_x4 ((rfl : (1 : Int32) = Int32.ofNat 1))
    exact hR145 h g_x3 p3 hS
  · have h := x_neg h (fun q => hc (hc1.mpr q))
    obtain ⟨n4, h⟩ := nu_ok h
    refine ⟨fun q => absurd ((c_eq' e_x5 ((rfl : (0 : Int32) = Int32.ofNat 0))).mp q) (by rw [n4]; exact Bool.false_ne_true), ?_⟩
    obtain ⟨n5, h⟩ := an_ok h
    refine ⟨n_vp e_x4 n5 (by decide), ?_⟩
    obtain ⟨n6, h⟩ := nu_ok h
    refine ⟨fun q => absurd ((c_eq' e_x5 ((rfl : (0 : Int32) = Int32.ofNat 0))).mp q) (by rw [n6]; exact Bool.false_ne_true), ?_⟩
    obtain ⟨v7, h, q8⟩ := rrw_ok h hS (by decide) e_x4
    have h := frc_ok h
    have p10 := n_add (n_mul (n_div e_x7 e_x5) q8) (n_sub e_x7 (n_mul (n_div e_x7 e_x5) e_x5))
    refine xs_p_makeLevels h e_x4 p10 hS (fun h h_S257 => ?_)
    have h := frc_ok h
    have p12 := n_add e_x7 ((rfl : (1 : Int32) = Int32.ofNat 1))
    exact hR225 h g_x3 e_x4 e_x5 e_x6 p12 h_S257
noncomputable def xl_e_pack_225_x3 (r_R145 : Nat → X6 → Bool) (k_K : Nat → X6 → Bool) (n : Nat) : Nat → Nat → Nat → Nat → X6 → Bool := Nat.rec (motive := fun _ => Nat → Nat → Nat → Nat → X6 → Bool) (fun _ _ _ _ _ => false) (fun _ ih b_x4 b_x5 b_x6 b_x7 bt => x_b_pack_225_x3 b_x4 b_x5 b_x6 b_x7 bt r_R145 ih k_K) n
noncomputable def x_e_pack_225_x3 (a_x4 : Nat) (a_x5 : Nat) (a_x6 : Nat) (a_x7 : Nat) (t : X6) (r_R145 : Nat → X6 → Bool) (k_K : Nat → X6 → Bool) : Bool := xl_e_pack_225_x3 r_R145 k_K 200000 a_x4 a_x5 a_x6 a_x7 t
def xq_e_pack_225_x3 (r_R145 : Nat → X6 → Bool) (k_K : Nat → X6 → Bool) (n : Nat) (y_x3 : Int32) (y_x4 : Int32) (y_x5 : Int32) (y_x6 : Int32) (y_x7 : Int32) (yS : ms) : Prop := ∃ (b_x4 : Nat) (b_x5 : Nat) (b_x6 : Nat) (b_x7 : Nat) (bt : X6), 0 < y_x3 ∧ y_x4 = Int32.ofNat b_x4 ∧ y_x5 = Int32.ofNat b_x5 ∧ y_x6 = Int32.ofNat b_x6 ∧ y_x7 = Int32.ofNat b_x7 ∧ RM yS bt ∧ xl_e_pack_225_x3 r_R145 k_K n b_x4 b_x5 b_x6 b_x7 bt = true
set_option maxRecDepth 20000 in
theorem xs_e_pack_225_x3 {x3 : Int32} {x4 : Int32} {a_x4 : Nat} {x5 : Int32} {a_x5 : Nat} {x6 : Int32} {a_x6 : Nat} {x7 : Int32} {a_x7 : Nat} {S : ms} {t : X6} {R145 : Int32 → Int32 → ms → Prop} {r_R145 : Nat → X6 → Bool} {K : Int32 → ms → Prop} {k_K : Nat → X6 → Bool} (h : x_e_pack_225_x3 a_x4 a_x5 a_x6 a_x7 t r_R145 k_K = true) (g_x3 : 0 < x3) (e_x4 : x4 = Int32.ofNat a_x4) (e_x5 : x5 = Int32.ofNat a_x5) (e_x6 : x6 = Int32.ofNat a_x6) (e_x7 : x7 = Int32.ofNat a_x7) (hS : RM S t) (hR145 : ∀ {y0 : Int32} {y1 : Int32} {b1 : Nat} {yS : ms} {yt : X6}, r_R145 b1 yt = true → 0 < y0 → y1 = Int32.ofNat b1 → RM yS yt → R145 y0 y1 yS) (hK : ∀ {y0 : Int32} {b0 : Nat} {yS : ms} {yt : X6}, k_K b0 yt = true → y0 = Int32.ofNat b0 → RM yS yt → K y0 yS) : e_pack_225 x3 x4 x5 x6 x7 S R145 K := by
  refine ⟨fun y_x3 y_x4 y_x5 y_x6 y_x7 yS => ∃ n, xq_e_pack_225_x3 r_R145 k_K n y_x3 y_x4 y_x5 y_x6 y_x7 yS, fun y_x3 y_x4 y_x5 y_x6 y_x7 yS => mf (fun n => xq_e_pack_225_x3 r_R145 k_K n y_x3 y_x4 y_x5 y_x6 y_x7 yS), ⟨200000, a_x4, a_x5, a_x6, a_x7, t, g_x3, e_x4, e_x5, e_x6, e_x7, hS, h⟩, fun y_x3 y_x4 y_x5 y_x6 y_x7 yS hI => ?_⟩
  obtain ⟨m, hm, hq⟩ := mf_ok hI
  obtain ⟨b_x4, b_x5, b_x6, b_x7, bt, c_x3, c_x4, c_x5, c_x6, c_x7, cS, h⟩ := hq
  cases m with
  | zero => exact absurd h Bool.false_ne_true
  | succ n => exact xs_b_pack_225_x3 h c_x3 c_x4 c_x5 c_x6 c_x7 cS hR145 (fun h d_x3 d_x4 d_x5 d_x6 d_x7 dS => ⟨⟨n, _, _, _, _, _, d_x3, d_x4, d_x5, d_x6, d_x7, dS, h⟩, Nat.lt_of_le_of_lt (mf_le ⟨_, _, _, _, _, d_x3, d_x4, d_x5, d_x6, d_x7, dS, h⟩) (Nat.lt_of_lt_of_eq (Nat.lt_succ_self n) hm.symm)⟩) hK
noncomputable def x_b_pack_220_x3 (a_x4 : Nat) (a_x5 : Nat) (a_s0 : Nat) (t : X6) (r_R145 : Nat → X6 → Bool) (k_K : Nat → X6 → Bool) : Bool :=
  x_e_pack_225_x3 a_x4 a_x5 a_s0 0 t r_R145 k_K
set_option maxRecDepth 20000 in
set_option maxHeartbeats 1000000 in
theorem xs_b_pack_220_x3 {x3 : Int32} {x4 : Int32} {a_x4 : Nat} {x5 : Int32} {a_x5 : Nat} {s0 : Int32} {a_s0 : Nat} {S : ms} {t : X6} {R145 : Int32 → Int32 → ms → Prop} {r_R145 : Nat → X6 → Bool} {K : Int32 → ms → Prop} {k_K : Nat → X6 → Bool} (h : x_b_pack_220_x3 a_x4 a_x5 a_s0 t r_R145 k_K = true) (g_x3 : 0 < x3) (e_x4 : x4 = Int32.ofNat a_x4) (e_x5 : x5 = Int32.ofNat a_x5) (e_s0 : s0 = Int32.ofNat a_s0) (hS : RM S t) (hR145 : ∀ {y0 : Int32} {y1 : Int32} {b1 : Nat} {yS : ms} {yt : X6}, r_R145 b1 yt = true → 0 < y0 → y1 = Int32.ofNat b1 → RM yS yt → R145 y0 y1 yS) (hK : ∀ {y0 : Int32} {b0 : Nat} {yS : ms} {yt : X6}, k_K b0 yt = true → y0 = Int32.ofNat b0 → RM yS yt → K y0 yS) : b_pack_220 x3 x4 x5 s0 S R145 K := by
  unfold b_pack_220
  unfold x_b_pack_220_x3 at h
  exact xs_e_pack_225_x3 h g_x3 e_x4 e_x5 e_s0 ((rfl : (0 : Int32) = Int32.ofNat 0)) hS hR145 hK
noncomputable def x_b_pack_189_x3 (a_x4 : Nat) (a_s0 : Nat) (t : X6) (r_R145 : Nat → X6 → Bool) (k_K : Nat → X6 → Bool) : Bool :=
  rfi t 3 fun v1 => cond (w_eq v1 1) (x_p_layerHigh 0 0 t (fun v202_ t_S202 => x_p_upward v202_ 8 (fun v207_ => x_b_pack_220_x3 a_x4 a_s0 v207_ t_S202 r_R145 k_K))) (and (Nat.blt a_x4 9) <| rrw t 18 a_x4 fun v5 => x_b_pack_220_x3 a_x4 a_s0 v5 t r_R145 k_K)
set_option maxRecDepth 20000 in
set_option maxHeartbeats 1000000 in
theorem xs_b_pack_189_x3 {x3 : Int32} {x4 : Int32} {a_x4 : Nat} {s0 : Int32} {a_s0 : Nat} {S : ms} {t : X6} {R145 : Int32 → Int32 → ms → Prop} {r_R145 : Nat → X6 → Bool} {K : Int32 → ms → Prop} {k_K : Nat → X6 → Bool} (h : x_b_pack_189_x3 a_x4 a_s0 t r_R145 k_K = true) (g_x3 : 0 < x3) (e_x4 : x4 = Int32.ofNat a_x4) (e_s0 : s0 = Int32.ofNat a_s0) (hS : RM S t) (hR145 : ∀ {y0 : Int32} {y1 : Int32} {b1 : Nat} {yS : ms} {yt : X6}, r_R145 b1 yt = true → 0 < y0 → y1 = Int32.ofNat b1 → RM yS yt → R145 y0 y1 yS) (hK : ∀ {y0 : Int32} {b0 : Nat} {yS : ms} {yt : X6}, k_K b0 yt = true → y0 = Int32.ofNat b0 → RM yS yt → K y0 yS) : b_pack_189 x3 x4 s0 S R145 K := by
  unfold b_pack_189
  unfold x_b_pack_189_x3 at h
  obtain ⟨v1, h, q2⟩ := rfi_ok h hS
  have hc3 := c_eq' q2 ((rfl : (1 : Int32) = Int32.ofNat 1))
  refine ⟨fun hc => ?_, fun hc => ?_⟩
  · have h := x_neg h (fun q => hc (hc3.mpr q))
    obtain ⟨n4, h⟩ := an_ok h
    refine ⟨n_vp e_x4 n4 (by decide), ?_⟩
    obtain ⟨v5, h, q6⟩ := rrw_ok h hS (by decide) e_x4
    exact xs_b_pack_220_x3 h g_x3 e_x4 e_s0 q6 hS hR145 hK
  · have h := x_pos h (hc3.mp hc)
    refine xs_p_layerHigh h ((rfl : (0 : Int32) = Int32.ofNat 0)) ((rfl : (0 : Int32) = Int32.ofNat 0)) hS (fun h e_v202 h_S202 => ?_)
    refine xs_p_upward h e_v202 ((rfl : (8 : Int32) = Int32.ofNat 8)) (fun h e_v207 => ?_)
    exact xs_b_pack_220_x3 h g_x3 e_x4 e_s0 e_v207 h_S202 hR145 hK
noncomputable def x_b_pack_145_x3 (a_x4 : Nat) (t : X6) (r_R145 : Nat → X6 → Bool) (k_K : Nat → X6 → Bool) : Bool :=
  rfi t 3 fun v1 => cond (!(w_lt a_x4 v1)) (x_e_pack_275_x3 0 t k_K) (x_p_makeRaster a_x4 t (fun t_S157 => rfi t_S157 3 fun v4 => cond (w_eq v4 1) (x_p_layerWide 0 0 t_S157 (fun v171_ t_S171 => x_p_upward v171_ 8 (fun v176_ => x_b_pack_189_x3 a_x4 v176_ t_S171 r_R145 k_K))) (and (Nat.blt a_x4 9) <| rrw t_S157 17 a_x4 fun v8 => x_b_pack_189_x3 a_x4 v8 t_S157 r_R145 k_K)))
set_option maxRecDepth 20000 in
set_option maxHeartbeats 1000000 in
theorem xs_b_pack_145_x3 {x3 : Int32} {x4 : Int32} {a_x4 : Nat} {S : ms} {t : X6} {R145 : Int32 → Int32 → ms → Prop} {r_R145 : Nat → X6 → Bool} {K : Int32 → ms → Prop} {k_K : Nat → X6 → Bool} (h : x_b_pack_145_x3 a_x4 t r_R145 k_K = true) (g_x3 : 0 < x3) (e_x4 : x4 = Int32.ofNat a_x4) (hS : RM S t) (hR145 : ∀ {y0 : Int32} {y1 : Int32} {b1 : Nat} {yS : ms} {yt : X6}, r_R145 b1 yt = true → 0 < y0 → y1 = Int32.ofNat b1 → RM yS yt → R145 y0 y1 yS) (hK : ∀ {y0 : Int32} {b0 : Nat} {yS : ms} {yt : X6}, k_K b0 yt = true → y0 = Int32.ofNat b0 → RM yS yt → K y0 yS) : b_pack_145 x3 x4 S R145 K := by
  unfold b_pack_145
  unfold x_b_pack_145_x3 at h
  obtain ⟨v1, h, q2⟩ := rfi_ok h hS
  have hc3 := c_le' q2 e_x4
  refine ⟨fun hc => ?_, fun hc => ?_⟩
  · have h := x_pos h (hc3.mp hc)
    exact xs_e_pack_275_x3 h g_x3 ((rfl : (0 : Int32) = Int32.ofNat 0)) hS hK
  · have h := x_neg h (fun q => hc (hc3.mpr q))
    refine xs_p_makeRaster h e_x4 hS (fun h h_S157 => ?_)
    obtain ⟨v4, h, q5⟩ := rfi_ok h h_S157
    have hc6 := c_eq' q5 ((rfl : (1 : Int32) = Int32.ofNat 1))
    refine ⟨fun hc => ?_, fun hc => ?_⟩
    · have h := x_neg h (fun q => hc (hc6.mpr q))
      obtain ⟨n7, h⟩ := an_ok h
      refine ⟨n_vp e_x4 n7 (by decide), ?_⟩
      obtain ⟨v8, h, q9⟩ := rrw_ok h h_S157 (by decide) e_x4
      exact xs_b_pack_189_x3 h g_x3 e_x4 q9 h_S157 hR145 hK
    · have h := x_pos h (hc6.mp hc)
      refine xs_p_layerWide h ((rfl : (0 : Int32) = Int32.ofNat 0)) ((rfl : (0 : Int32) = Int32.ofNat 0)) h_S157 (fun h e_v171 h_S171 => ?_)
      refine xs_p_upward h e_v171 ((rfl : (8 : Int32) = Int32.ofNat 8)) (fun h e_v176 => ?_)
      exact xs_b_pack_189_x3 h g_x3 e_x4 e_v176 h_S171 hR145 hK
noncomputable def xl_e_pack_145_x3 (k_K : Nat → X6 → Bool) (n : Nat) : Nat → X6 → Bool := Nat.rec (motive := fun _ => Nat → X6 → Bool) (fun _ _ => false) (fun _ ih b_x4 bt => x_b_pack_145_x3 b_x4 bt ih k_K) n
noncomputable def x_e_pack_145_x3 (a_x4 : Nat) (t : X6) (k_K : Nat → X6 → Bool) : Bool := xl_e_pack_145_x3 k_K 200000 a_x4 t
def xq_e_pack_145_x3 (k_K : Nat → X6 → Bool) (n : Nat) (y_x3 : Int32) (y_x4 : Int32) (yS : ms) : Prop := ∃ (b_x4 : Nat) (bt : X6), 0 < y_x3 ∧ y_x4 = Int32.ofNat b_x4 ∧ RM yS bt ∧ xl_e_pack_145_x3 k_K n b_x4 bt = true
set_option maxRecDepth 20000 in
theorem xs_e_pack_145_x3 {x3 : Int32} {x4 : Int32} {a_x4 : Nat} {S : ms} {t : X6} {K : Int32 → ms → Prop} {k_K : Nat → X6 → Bool} (h : x_e_pack_145_x3 a_x4 t k_K = true) (g_x3 : 0 < x3) (e_x4 : x4 = Int32.ofNat a_x4) (hS : RM S t) (hK : ∀ {y0 : Int32} {b0 : Nat} {yS : ms} {yt : X6}, k_K b0 yt = true → y0 = Int32.ofNat b0 → RM yS yt → K y0 yS) : e_pack_145 x3 x4 S K := by
  refine ⟨fun y_x3 y_x4 yS => ∃ n, xq_e_pack_145_x3 k_K n y_x3 y_x4 yS, fun y_x3 y_x4 yS => mf (fun n => xq_e_pack_145_x3 k_K n y_x3 y_x4 yS), ⟨200000, a_x4, t, g_x3, e_x4, hS, h⟩, fun y_x3 y_x4 yS hI => ?_⟩
  obtain ⟨m, hm, hq⟩ := mf_ok hI
  obtain ⟨b_x4, bt, c_x3, c_x4, cS, h⟩ := hq
  cases m with
  | zero => exact absurd h Bool.false_ne_true
  | succ n => exact xs_b_pack_145_x3 h c_x3 c_x4 cS (fun h d_x3 d_x4 dS => ⟨⟨n, _, _, d_x3, d_x4, dS, h⟩, Nat.lt_of_le_of_lt (mf_le ⟨_, _, d_x3, d_x4, dS, h⟩) (Nat.lt_of_lt_of_eq (Nat.lt_succ_self n) hm.symm)⟩) hK
noncomputable def x_b_pack_130_x3 (a_x1 : Nat) (a_x2 : Nat) (a_x4 : Nat) (a_s1 : Nat) (a_s2 : Nat) (t : X6) (r_R88 : Nat → Nat → Nat → X6 → Bool) (k_K : Nat → X6 → Bool) : Bool :=
  and (Nat.blt a_s1 9) <| frc (w_add a_x4 1) fun f2 => wrw t 16 a_s1 a_s2 fun t4 => r_R88 a_x1 a_x2 f2 t4
set_option maxRecDepth 20000 in
set_option maxHeartbeats 1000000 in
theorem xs_b_pack_130_x3 {x1 : Int32} {a_x1 : Nat} {x2 : Int32} {a_x2 : Nat} {x3 : Int32} {x4 : Int32} {a_x4 : Nat} {s1 : Int32} {a_s1 : Nat} {s2 : Int32} {a_s2 : Nat} {S : ms} {t : X6} {R88 : Int32 → Int32 → Int32 → Int32 → ms → Prop} {r_R88 : Nat → Nat → Nat → X6 → Bool} {K : Int32 → ms → Prop} {k_K : Nat → X6 → Bool} (h : x_b_pack_130_x3 a_x1 a_x2 a_x4 a_s1 a_s2 t r_R88 k_K = true) (e_x1 : x1 = Int32.ofNat a_x1) (e_x2 : x2 = Int32.ofNat a_x2) (g_x3 : 0 < x3) (e_x4 : x4 = Int32.ofNat a_x4) (e_s1 : s1 = Int32.ofNat a_s1) (e_s2 : s2 = Int32.ofNat a_s2) (hS : RM S t) (hR88 : ∀ {y0 : Int32} {b0 : Nat} {y1 : Int32} {b1 : Nat} {y2 : Int32} {y3 : Int32} {b3 : Nat} {yS : ms} {yt : X6}, r_R88 b0 b1 b3 yt = true → y0 = Int32.ofNat b0 → y1 = Int32.ofNat b1 → 0 < y2 → y3 = Int32.ofNat b3 → RM yS yt → R88 y0 y1 y2 y3 yS) (hK : ∀ {y0 : Int32} {b0 : Nat} {yS : ms} {yt : X6}, k_K b0 yt = true → y0 = Int32.ofNat b0 → RM yS yt → K y0 yS) : b_pack_130 x1 x2 x3 x4 s1 s2 S R88 K := by
  unfold b_pack_130
  unfold x_b_pack_130_x3 at h
  obtain ⟨n1, h⟩ := an_ok h
  refine ⟨n_vp e_s1 n1 (by decide), ?_⟩
  have h := frc_ok h
  have p3 := n_add e_x4 ((rfl : (1 : Int32) = Int32.ofNat 1))
  obtain ⟨t4, h, hS5⟩ := wrw_ok h hS (by decide) e_s1 e_s2
  exact hR88 h e_x1 e_x2 g_x3 p3 hS5
noncomputable def x_b_pack_113_x3 (a_x1 : Nat) (a_x2 : Nat) (a_x4 : Nat) (a_s1 : Nat) (a_s2 : Nat) (t : X6) (r_R88 : Nat → Nat → Nat → X6 → Bool) (k_K : Nat → X6 → Bool) : Bool :=
  and (Nat.blt a_s1 9) <| cond (w_eq a_x4 0) (wrw t 15 a_s1 a_s2 fun t5 => x_b_pack_130_x3 a_x1 a_x2 a_x4 a_x4 a_x2 t5 r_R88 k_K) (wrw t 15 a_s1 a_s2 fun t3 => x_b_pack_130_x3 a_x1 a_x2 a_x4 a_x4 1 t3 r_R88 k_K)
set_option maxRecDepth 20000 in
set_option maxHeartbeats 1000000 in
theorem xs_b_pack_113_x3 {x1 : Int32} {a_x1 : Nat} {x2 : Int32} {a_x2 : Nat} {x3 : Int32} {x4 : Int32} {a_x4 : Nat} {s1 : Int32} {a_s1 : Nat} {s2 : Int32} {a_s2 : Nat} {S : ms} {t : X6} {R88 : Int32 → Int32 → Int32 → Int32 → ms → Prop} {r_R88 : Nat → Nat → Nat → X6 → Bool} {K : Int32 → ms → Prop} {k_K : Nat → X6 → Bool} (h : x_b_pack_113_x3 a_x1 a_x2 a_x4 a_s1 a_s2 t r_R88 k_K = true) (e_x1 : x1 = Int32.ofNat a_x1) (e_x2 : x2 = Int32.ofNat a_x2) (g_x3 : 0 < x3) (e_x4 : x4 = Int32.ofNat a_x4) (e_s1 : s1 = Int32.ofNat a_s1) (e_s2 : s2 = Int32.ofNat a_s2) (hS : RM S t) (hR88 : ∀ {y0 : Int32} {b0 : Nat} {y1 : Int32} {b1 : Nat} {y2 : Int32} {y3 : Int32} {b3 : Nat} {yS : ms} {yt : X6}, r_R88 b0 b1 b3 yt = true → y0 = Int32.ofNat b0 → y1 = Int32.ofNat b1 → 0 < y2 → y3 = Int32.ofNat b3 → RM yS yt → R88 y0 y1 y2 y3 yS) (hK : ∀ {y0 : Int32} {b0 : Nat} {yS : ms} {yt : X6}, k_K b0 yt = true → y0 = Int32.ofNat b0 → RM yS yt → K y0 yS) : b_pack_113 x1 x2 x3 x4 s1 s2 S R88 K := by
  unfold b_pack_113
  unfold x_b_pack_113_x3 at h
  obtain ⟨n1, h⟩ := an_ok h
  refine ⟨n_vp e_s1 n1 (by decide), ?_⟩
  have hc2 := c_eq' e_x4 ((rfl : (0 : Int32) = Int32.ofNat 0))
  refine ⟨fun hc => ?_, fun hc => ?_⟩
  · have h := x_neg h (fun q => hc (hc2.mpr q))
    obtain ⟨t3, h, hS4⟩ := wrw_ok h hS (by decide) e_s1 e_s2
    exact xs_b_pack_130_x3 h e_x1 e_x2 g_x3 e_x4 e_x4 ((rfl : (1 : Int32) = Int32.ofNat 1)) hS4 hR88 hK
  · have h := x_pos h (hc2.mp hc)
    obtain ⟨t5, h, hS6⟩ := wrw_ok h hS (by decide) e_s1 e_s2
    exact xs_b_pack_130_x3 h e_x1 e_x2 g_x3 e_x4 e_x4 e_x2 hS6 hR88 hK
noncomputable def x_b_pack_88_x3 (a_x1 : Nat) (a_x2 : Nat) (a_x4 : Nat) (t : X6) (r_R88 : Nat → Nat → Nat → X6 → Bool) (k_K : Nat → X6 → Bool) : Bool :=
  rfi t 3 fun v1 => cond (!(w_lt a_x4 v1)) (x_p_makeGrids 0 t (fun t_S139 => x_e_pack_145_x3 0 t_S139 k_K)) (cond (w_eq a_x4 0) (x_b_pack_113_x3 a_x1 a_x2 a_x4 a_x4 a_x1 t r_R88 k_K) (x_b_pack_113_x3 a_x1 a_x2 a_x4 a_x4 1 t r_R88 k_K))
set_option maxRecDepth 20000 in
set_option maxHeartbeats 1000000 in
theorem xs_b_pack_88_x3 {x1 : Int32} {a_x1 : Nat} {x2 : Int32} {a_x2 : Nat} {x3 : Int32} {x4 : Int32} {a_x4 : Nat} {S : ms} {t : X6} {R88 : Int32 → Int32 → Int32 → Int32 → ms → Prop} {r_R88 : Nat → Nat → Nat → X6 → Bool} {K : Int32 → ms → Prop} {k_K : Nat → X6 → Bool} (h : x_b_pack_88_x3 a_x1 a_x2 a_x4 t r_R88 k_K = true) (e_x1 : x1 = Int32.ofNat a_x1) (e_x2 : x2 = Int32.ofNat a_x2) (g_x3 : 0 < x3) (e_x4 : x4 = Int32.ofNat a_x4) (hS : RM S t) (hR88 : ∀ {y0 : Int32} {b0 : Nat} {y1 : Int32} {b1 : Nat} {y2 : Int32} {y3 : Int32} {b3 : Nat} {yS : ms} {yt : X6}, r_R88 b0 b1 b3 yt = true → y0 = Int32.ofNat b0 → y1 = Int32.ofNat b1 → 0 < y2 → y3 = Int32.ofNat b3 → RM yS yt → R88 y0 y1 y2 y3 yS) (hK : ∀ {y0 : Int32} {b0 : Nat} {yS : ms} {yt : X6}, k_K b0 yt = true → y0 = Int32.ofNat b0 → RM yS yt → K y0 yS) : b_pack_88 x1 x2 x3 x4 S R88 K := by
  unfold b_pack_88
  unfold x_b_pack_88_x3 at h
  obtain ⟨v1, h, q2⟩ := rfi_ok h hS
  have hc3 := c_le' q2 e_x4
  refine ⟨fun hc => ?_, fun hc => ?_⟩
  · have h := x_pos h (hc3.mp hc)
    refine xs_p_makeGrids h ((rfl : (0 : Int32) = Int32.ofNat 0)) hS (fun h h_S139 => ?_)
    exact xs_e_pack_145_x3 h g_x3 ((rfl : (0 : Int32) = Int32.ofNat 0)) h_S139 hK
  · have h := x_neg h (fun q => hc (hc3.mpr q))
    have hc4 := c_eq' e_x4 ((rfl : (0 : Int32) = Int32.ofNat 0))
    refine ⟨fun hc => ?_, fun hc => ?_⟩
    · have h := x_neg h (fun q => hc (hc4.mpr q))
      exact xs_b_pack_113_x3 h e_x1 e_x2 g_x3 e_x4 e_x4 ((rfl : (1 : Int32) = Int32.ofNat 1)) hS hR88 hK
    · have h := x_pos h (hc4.mp hc)
      exact xs_b_pack_113_x3 h e_x1 e_x2 g_x3 e_x4 e_x4 e_x1 hS hR88 hK
noncomputable def xl_e_pack_88_x3 (k_K : Nat → X6 → Bool) (n : Nat) : Nat → Nat → Nat → X6 → Bool := Nat.rec (motive := fun _ => Nat → Nat → Nat → X6 → Bool) (fun _ _ _ _ => false) (fun _ ih b_x1 b_x2 b_x4 bt => x_b_pack_88_x3 b_x1 b_x2 b_x4 bt ih k_K) n
noncomputable def x_e_pack_88_x3 (a_x1 : Nat) (a_x2 : Nat) (a_x4 : Nat) (t : X6) (k_K : Nat → X6 → Bool) : Bool := xl_e_pack_88_x3 k_K 200000 a_x1 a_x2 a_x4 t
def xq_e_pack_88_x3 (k_K : Nat → X6 → Bool) (n : Nat) (y_x1 : Int32) (y_x2 : Int32) (y_x3 : Int32) (y_x4 : Int32) (yS : ms) : Prop := ∃ (b_x1 : Nat) (b_x2 : Nat) (b_x4 : Nat) (bt : X6), y_x1 = Int32.ofNat b_x1 ∧ y_x2 = Int32.ofNat b_x2 ∧ 0 < y_x3 ∧ y_x4 = Int32.ofNat b_x4 ∧ RM yS bt ∧ xl_e_pack_88_x3 k_K n b_x1 b_x2 b_x4 bt = true
set_option maxRecDepth 20000 in
theorem xs_e_pack_88_x3 {x1 : Int32} {a_x1 : Nat} {x2 : Int32} {a_x2 : Nat} {x3 : Int32} {x4 : Int32} {a_x4 : Nat} {S : ms} {t : X6} {K : Int32 → ms → Prop} {k_K : Nat → X6 → Bool} (h : x_e_pack_88_x3 a_x1 a_x2 a_x4 t k_K = true) (e_x1 : x1 = Int32.ofNat a_x1) (e_x2 : x2 = Int32.ofNat a_x2) (g_x3 : 0 < x3) (e_x4 : x4 = Int32.ofNat a_x4) (hS : RM S t) (hK : ∀ {y0 : Int32} {b0 : Nat} {yS : ms} {yt : X6}, k_K b0 yt = true → y0 = Int32.ofNat b0 → RM yS yt → K y0 yS) : e_pack_88 x1 x2 x3 x4 S K := by
  refine ⟨fun y_x1 y_x2 y_x3 y_x4 yS => ∃ n, xq_e_pack_88_x3 k_K n y_x1 y_x2 y_x3 y_x4 yS, fun y_x1 y_x2 y_x3 y_x4 yS => mf (fun n => xq_e_pack_88_x3 k_K n y_x1 y_x2 y_x3 y_x4 yS), ⟨200000, a_x1, a_x2, a_x4, t, e_x1, e_x2, g_x3, e_x4, hS, h⟩, fun y_x1 y_x2 y_x3 y_x4 yS hI => ?_⟩
  obtain ⟨m, hm, hq⟩ := mf_ok hI
  obtain ⟨b_x1, b_x2, b_x4, bt, c_x1, c_x2, c_x3, c_x4, cS, h⟩ := hq
  cases m with
  | zero => exact absurd h Bool.false_ne_true
  | succ n => exact xs_b_pack_88_x3 h c_x1 c_x2 c_x3 c_x4 cS (fun h d_x1 d_x2 d_x3 d_x4 dS => ⟨⟨n, _, _, _, _, d_x1, d_x2, d_x3, d_x4, dS, h⟩, Nat.lt_of_le_of_lt (mf_le ⟨_, _, _, _, d_x1, d_x2, d_x3, d_x4, dS, h⟩) (Nat.lt_of_lt_of_eq (Nat.lt_succ_self n) hm.symm)⟩) hK
noncomputable def x_b_pack_36_x3 (a_x1 : Nat) (a_x2 : Nat) (a_s1 : Nat) (t : X6) (k_K : Nat → X6 → Bool) : Bool :=
  wfi t 0 a_s1 fun t1 => rfi t1 0 fun v3 => cond (!(w_lt 0 v3)) (and (Nat.blt 0 3) <| wrw t 11 0 1 fun t7 => rfi t1 1 fun v11 => wrw t7 12 0 v11 fun t9 => rfi t1 2 fun v15 => wrw t9 13 0 v15 fun t13 => rfi t1 3 fun v19 => wrw t13 14 0 v19 fun t17 => wfi t17 0 a_s1 fun t21 => x_e_pack_88_x3 a_x1 a_x2 0 t21 k_K) (k_K 0 t1)
set_option maxRecDepth 20000 in
set_option maxHeartbeats 1000000 in
theorem xs_b_pack_36_x3 {x1 : Int32} {a_x1 : Nat} {x2 : Int32} {a_x2 : Nat} {x3 : Int32} {s1 : Int32} {a_s1 : Nat} {S : ms} {t : X6} {K : Int32 → ms → Prop} {k_K : Nat → X6 → Bool} (h : x_b_pack_36_x3 a_x1 a_x2 a_s1 t k_K = true) (e_x1 : x1 = Int32.ofNat a_x1) (e_x2 : x2 = Int32.ofNat a_x2) (g_x3 : 0 < x3) (e_s1 : s1 = Int32.ofNat a_s1) (hS : RM S t) (hK : ∀ {y0 : Int32} {b0 : Nat} {yS : ms} {yt : X6}, k_K b0 yt = true → y0 = Int32.ofNat b0 → RM yS yt → K y0 yS) : b_pack_36 x1 x2 x3 s1 S K := by
  unfold b_pack_36
  unfold x_b_pack_36_x3 at h
  obtain ⟨t1, h, hS2⟩ := wfi_ok h hS  e_s1
  obtain ⟨v3, h, q4⟩ := rfi_ok h hS2
  have hc5 := c_le' q4 ((rfl : (0 : Int32) = Int32.ofNat 0))
  refine ⟨fun hc => ?_, fun hc => ?_⟩
  · have h := x_pos h (hc5.mp hc)
    obtain ⟨n6, h⟩ := an_ok h
    refine ⟨n_vp ((rfl : (0 : Int32) = Int32.ofNat 0)) n6 (by decide), ?_⟩
    refine ⟨n_vp ((rfl : (0 : Int32) = Int32.ofNat 0)) n6 (by decide), ?_⟩
    refine ⟨n_vp ((rfl : (0 : Int32) = Int32.ofNat 0)) n6 (by decide), ?_⟩
    refine ⟨n_vp ((rfl : (0 : Int32) = Int32.ofNat 0)) n6 (by decide), ?_⟩
    obtain ⟨t7, h, hS8⟩ := wrw_ok h hS (by decide) ((rfl : (0 : Int32) = Int32.ofNat 0)) ((rfl : vp_nar .boolean 1 = Int32.ofNat 1))
    obtain ⟨v11, h, q12⟩ := rfi_ok h hS2
    obtain ⟨t9, h, hS10⟩ := wrw_ok h hS8 (by decide) ((rfl : (0 : Int32) = Int32.ofNat 0)) q12
    obtain ⟨v15, h, q16⟩ := rfi_ok h hS2
    obtain ⟨t13, h, hS14⟩ := wrw_ok h hS10 (by decide) ((rfl : (0 : Int32) = Int32.ofNat 0)) q16
    obtain ⟨v19, h, q20⟩ := rfi_ok h hS2
    obtain ⟨t17, h, hS18⟩ := wrw_ok h hS14 (by decide) ((rfl : (0 : Int32) = Int32.ofNat 0)) q20
    obtain ⟨t21, h, hS22⟩ := wfi_ok h hS18  e_s1
    exact xs_e_pack_88_x3 h e_x1 e_x2 g_x3 ((rfl : (0 : Int32) = Int32.ofNat 0)) hS22 hK
  · have h := x_neg h (fun q => hc (hc5.mpr q))
    exact hK h ((rfl : (0 : Int32) = Int32.ofNat 0)) hS2
noncomputable def x_b_turn1_133 (a_s0 : Nat) (k_K : Nat → Bool) : Bool :=
  k_K a_s0
set_option maxRecDepth 20000 in
set_option maxHeartbeats 1000000 in
theorem xs_b_turn1_133 {s0 : Int32} {a_s0 : Nat} {K : Int32 → Prop} {k_K : Nat → Bool} (h : x_b_turn1_133 a_s0 k_K = true) (e_s0 : s0 = Int32.ofNat a_s0) (hK : ∀ {y0 : Int32} {b0 : Nat}, k_K b0 = true → y0 = Int32.ofNat b0 → K y0) : b_turn1_133 s0 K := by
  unfold b_turn1_133
  unfold x_b_turn1_133 at h
  exact hK h e_s0
noncomputable def x_b_turn1_120 (a_x1 : Nat) (a_s0 : Nat) (k_K : Nat → Bool) : Bool :=
  cond (!(w_lt 8 a_x1)) (x_b_turn1_133 a_s0 k_K) (frc (w_neg a_s0) fun f2 => x_b_turn1_133 f2 k_K)
set_option maxRecDepth 20000 in
set_option maxHeartbeats 1000000 in
theorem xs_b_turn1_120 {x1 : Int32} {a_x1 : Nat} {s0 : Int32} {a_s0 : Nat} {K : Int32 → Prop} {k_K : Nat → Bool} (h : x_b_turn1_120 a_x1 a_s0 k_K = true) (e_x1 : x1 = Int32.ofNat a_x1) (e_s0 : s0 = Int32.ofNat a_s0) (hK : ∀ {y0 : Int32} {b0 : Nat}, k_K b0 = true → y0 = Int32.ofNat b0 → K y0) : b_turn1_120 x1 s0 K := by
  unfold b_turn1_120
  unfold x_b_turn1_120 at h
  have hc1 := c_le' e_x1 ((rfl : (8 : Int32) = Int32.ofNat 8))
  refine ⟨fun hc => ?_, fun hc => ?_⟩
  · have h := x_pos h (hc1.mp hc)
    exact xs_b_turn1_133 h e_s0 hK
  · have h := x_neg h (fun q => hc (hc1.mpr q))
    have h := frc_ok h
    have p3 := n_neg e_s0
    exact xs_b_turn1_133 h p3 hK
noncomputable def x_b_turn1_29 (a_x1 : Nat) (a_s0 : Nat) (k_K : Nat → Bool) : Bool :=
  cond (w_eq a_s0 0) (x_b_turn1_120 a_x1 4096 k_K) (cond (w_eq a_s0 1) (x_b_turn1_120 a_x1 4017 k_K) (cond (w_eq a_s0 2) (x_b_turn1_120 a_x1 3784 k_K) (cond (w_eq a_s0 3) (x_b_turn1_120 a_x1 3406 k_K) (cond (w_eq a_s0 4) (x_b_turn1_120 a_x1 2896 k_K) (cond (w_eq a_s0 5) (x_b_turn1_120 a_x1 2276 k_K) (cond (w_eq a_s0 6) (x_b_turn1_120 a_x1 1567 k_K) (cond (w_eq a_s0 7) (x_b_turn1_120 a_x1 799 k_K) (x_b_turn1_120 a_x1 0 k_K))))))))
set_option maxRecDepth 20000 in
set_option maxHeartbeats 1000000 in
theorem xs_b_turn1_29 {x1 : Int32} {a_x1 : Nat} {s0 : Int32} {a_s0 : Nat} {K : Int32 → Prop} {k_K : Nat → Bool} (h : x_b_turn1_29 a_x1 a_s0 k_K = true) (e_x1 : x1 = Int32.ofNat a_x1) (e_s0 : s0 = Int32.ofNat a_s0) (hK : ∀ {y0 : Int32} {b0 : Nat}, k_K b0 = true → y0 = Int32.ofNat b0 → K y0) : b_turn1_29 x1 s0 K := by
  unfold b_turn1_29
  unfold x_b_turn1_29 at h
  have hc1 := c_eq' e_s0 ((rfl : (0 : Int32) = Int32.ofNat 0))
  refine ⟨fun hc => ?_, fun hc => ?_⟩
  · have h := x_neg h (fun q => hc (hc1.mpr q))
    have hc2 := c_eq' e_s0 ((rfl : (1 : Int32) = Int32.ofNat 1))
    refine ⟨fun hc => ?_, fun hc => ?_⟩
    · have h := x_neg h (fun q => hc (hc2.mpr q))
      have hc3 := c_eq' e_s0 ((rfl : (2 : Int32) = Int32.ofNat 2))
      refine ⟨fun hc => ?_, fun hc => ?_⟩
      · have h := x_neg h (fun q => hc (hc3.mpr q))
        have hc4 := c_eq' e_s0 ((rfl : (3 : Int32) = Int32.ofNat 3))
        refine ⟨fun hc => ?_, fun hc => ?_⟩
        · have h := x_neg h (fun q => hc (hc4.mpr q))
          have hc5 := c_eq' e_s0 ((rfl : (4 : Int32) = Int32.ofNat 4))
          refine ⟨fun hc => ?_, fun hc => ?_⟩
          · have h := x_neg h (fun q => hc (hc5.mpr q))
            have hc6 := c_eq' e_s0 ((rfl : (5 : Int32) = Int32.ofNat 5))
            refine ⟨fun hc => ?_, fun hc => ?_⟩
            · have h := x_neg h (fun q => hc (hc6.mpr q))
              have hc7 := c_eq' e_s0 ((rfl : (6 : Int32) = Int32.ofNat 6))
              refine ⟨fun hc => ?_, fun hc => ?_⟩
              · have h := x_neg h (fun q => hc (hc7.mpr q))
                have hc8 := c_eq' e_s0 ((rfl : (7 : Int32) = Int32.ofNat 7))
                refine ⟨fun hc => ?_, fun hc => ?_⟩
                · have h := x_neg h (fun q => hc (hc8.mpr q))
                  exact xs_b_turn1_120 h e_x1 ((rfl : (0 : Int32) = Int32.ofNat 0)) hK
                · have h := x_pos h (hc8.mp hc)
                  exact xs_b_turn1_120 h e_x1 ((rfl : (799 : Int32) = Int32.ofNat 799)) hK
              · have h := x_pos h (hc7.mp hc)
                exact xs_b_turn1_120 h e_x1 ((rfl : (1567 : Int32) = Int32.ofNat 1567)) hK
            · have h := x_pos h (hc6.mp hc)
              exact xs_b_turn1_120 h e_x1 ((rfl : (2276 : Int32) = Int32.ofNat 2276)) hK
          · have h := x_pos h (hc5.mp hc)
            exact xs_b_turn1_120 h e_x1 ((rfl : (2896 : Int32) = Int32.ofNat 2896)) hK
        · have h := x_pos h (hc4.mp hc)
          exact xs_b_turn1_120 h e_x1 ((rfl : (3406 : Int32) = Int32.ofNat 3406)) hK
      · have h := x_pos h (hc3.mp hc)
        exact xs_b_turn1_120 h e_x1 ((rfl : (3784 : Int32) = Int32.ofNat 3784)) hK
    · have h := x_pos h (hc2.mp hc)
      exact xs_b_turn1_120 h e_x1 ((rfl : (4017 : Int32) = Int32.ofNat 4017)) hK
  · have h := x_pos h (hc1.mp hc)
    exact xs_b_turn1_120 h e_x1 ((rfl : (4096 : Int32) = Int32.ofNat 4096)) hK
noncomputable def x_b_turn1_14 (a_s0 : Nat) (k_K : Nat → Bool) : Bool :=
  cond (!(w_lt 8 a_s0)) (x_b_turn1_29 a_s0 a_s0 k_K) (frc (w_sub 16 a_s0) fun f2 => x_b_turn1_29 a_s0 f2 k_K)
set_option maxRecDepth 20000 in
set_option maxHeartbeats 1000000 in
theorem xs_b_turn1_14 {s0 : Int32} {a_s0 : Nat} {K : Int32 → Prop} {k_K : Nat → Bool} (h : x_b_turn1_14 a_s0 k_K = true) (e_s0 : s0 = Int32.ofNat a_s0) (hK : ∀ {y0 : Int32} {b0 : Nat}, k_K b0 = true → y0 = Int32.ofNat b0 → K y0) : b_turn1_14 s0 K := by
  unfold b_turn1_14
  unfold x_b_turn1_14 at h
  have hc1 := c_le' e_s0 ((rfl : (8 : Int32) = Int32.ofNat 8))
  refine ⟨fun hc => ?_, fun hc => ?_⟩
  · have h := x_pos h (hc1.mp hc)
    exact xs_b_turn1_29 h e_s0 e_s0 hK
  · have h := x_neg h (fun q => hc (hc1.mpr q))
    have h := frc_ok h
    have p3 := n_sub ((rfl : (16 : Int32) = Int32.ofNat 16)) e_s0
    exact xs_b_turn1_29 h e_s0 p3 hK
noncomputable def x_p_turn1 (a_x0 : Nat) (k_K : Nat → Bool) : Bool :=
  cond (!(w_lt 16 a_x0)) (x_b_turn1_14 a_x0 k_K) (frc (w_sub 32 a_x0) fun f2 => x_b_turn1_14 f2 k_K)
set_option maxRecDepth 20000 in
set_option maxHeartbeats 1000000 in
theorem xs_p_turn1 {x0 : Int32} {a_x0 : Nat} {K : Int32 → Prop} {k_K : Nat → Bool} (h : x_p_turn1 a_x0 k_K = true) (e_x0 : x0 = Int32.ofNat a_x0) (hK : ∀ {y0 : Int32} {b0 : Nat}, k_K b0 = true → y0 = Int32.ofNat b0 → K y0) : p_turn1 x0 K := by
  unfold p_turn1
  unfold x_p_turn1 at h
  have hc1 := c_le' e_x0 ((rfl : (16 : Int32) = Int32.ofNat 16))
  refine ⟨fun hc => ?_, fun hc => ?_⟩
  · have h := x_pos h (hc1.mp hc)
    exact xs_b_turn1_14 h e_x0 hK
  · have h := x_neg h (fun q => hc (hc1.mpr q))
    have h := frc_ok h
    have p3 := n_sub ((rfl : (32 : Int32) = Int32.ofNat 32)) e_x0
    exact xs_b_turn1_14 h p3 hK
noncomputable def x_b_init_481 (a_x2 : Nat) (a_x3 : Nat) (a_s1 : Nat) (a_s2 : Nat) (t : X6) (r_R434 : Nat → X6 → Bool) (r_R442 : Nat → Nat → X6 → Bool) (k_K : X6 → Bool) : Bool :=
  and (Nat.blt a_s1 64) <| frc (w_add a_x3 1) fun f2 => wrw t 23 a_s1 a_s2 fun t4 => r_R442 a_x2 f2 t4
set_option maxRecDepth 20000 in
set_option maxHeartbeats 1000000 in
theorem xs_b_init_481 {x2 : Int32} {a_x2 : Nat} {x3 : Int32} {a_x3 : Nat} {s1 : Int32} {a_s1 : Nat} {s2 : Int32} {a_s2 : Nat} {S : ms} {t : X6} {R434 : Int32 → ms → Prop} {r_R434 : Nat → X6 → Bool} {R442 : Int32 → Int32 → ms → Prop} {r_R442 : Nat → Nat → X6 → Bool} {K : ms → Prop} {k_K : X6 → Bool} (h : x_b_init_481 a_x2 a_x3 a_s1 a_s2 t r_R434 r_R442 k_K = true) (e_x2 : x2 = Int32.ofNat a_x2) (e_x3 : x3 = Int32.ofNat a_x3) (e_s1 : s1 = Int32.ofNat a_s1) (e_s2 : s2 = Int32.ofNat a_s2) (hS : RM S t) (hR434 : ∀ {y0 : Int32} {b0 : Nat} {yS : ms} {yt : X6}, r_R434 b0 yt = true → y0 = Int32.ofNat b0 → RM yS yt → R434 y0 yS) (hR442 : ∀ {y0 : Int32} {b0 : Nat} {y1 : Int32} {b1 : Nat} {yS : ms} {yt : X6}, r_R442 b0 b1 yt = true → y0 = Int32.ofNat b0 → y1 = Int32.ofNat b1 → RM yS yt → R442 y0 y1 yS) (hK : ∀ {yS : ms} {yt : X6}, k_K yt = true → RM yS yt → K yS) : b_init_481 x2 x3 s1 s2 S R434 R442 K := by
  unfold b_init_481
  unfold x_b_init_481 at h
  obtain ⟨n1, h⟩ := an_ok h
  refine ⟨n_vp e_s1 n1 (by decide), ?_⟩
  have h := frc_ok h
  have p3 := n_add e_x3 ((rfl : (1 : Int32) = Int32.ofNat 1))
  obtain ⟨t4, h, hS5⟩ := wrw_ok h hS (by decide) e_s1 e_s2
  exact hR442 h e_x2 p3 hS5
noncomputable def x_b_init_442 (a_x2 : Nat) (a_x3 : Nat) (t : X6) (r_R434 : Nat → X6 → Bool) (r_R442 : Nat → Nat → X6 → Bool) (k_K : X6 → Bool) : Bool :=
  cond (!(w_lt a_x3 8)) (frc (w_add a_x2 1) fun f2 => r_R434 f2 t) (cond (w_eq a_x3 0) (frc (w_add (w_mul 8 a_x2) a_x3) fun f9 => x_b_init_481 a_x2 a_x3 f9 2896 t r_R434 r_R442 k_K) (frc (w_sub (w_mul (w_add (w_mul 2 a_x2) 1) a_x3) (w_mul (w_div (w_mul (w_add (w_mul 2 a_x2) 1) a_x3) 32) 32)) fun f5 => x_p_turn1 f5 (fun v478_ => frc (w_add (w_mul 8 a_x2) a_x3) fun f7 => x_b_init_481 a_x2 a_x3 f7 v478_ t r_R434 r_R442 k_K)))
set_option maxRecDepth 20000 in
set_option maxHeartbeats 1000000 in
theorem xs_b_init_442 {x2 : Int32} {a_x2 : Nat} {x3 : Int32} {a_x3 : Nat} {S : ms} {t : X6} {R434 : Int32 → ms → Prop} {r_R434 : Nat → X6 → Bool} {R442 : Int32 → Int32 → ms → Prop} {r_R442 : Nat → Nat → X6 → Bool} {K : ms → Prop} {k_K : X6 → Bool} (h : x_b_init_442 a_x2 a_x3 t r_R434 r_R442 k_K = true) (e_x2 : x2 = Int32.ofNat a_x2) (e_x3 : x3 = Int32.ofNat a_x3) (hS : RM S t) (hR434 : ∀ {y0 : Int32} {b0 : Nat} {yS : ms} {yt : X6}, r_R434 b0 yt = true → y0 = Int32.ofNat b0 → RM yS yt → R434 y0 yS) (hR442 : ∀ {y0 : Int32} {b0 : Nat} {y1 : Int32} {b1 : Nat} {yS : ms} {yt : X6}, r_R442 b0 b1 yt = true → y0 = Int32.ofNat b0 → y1 = Int32.ofNat b1 → RM yS yt → R442 y0 y1 yS) (hK : ∀ {yS : ms} {yt : X6}, k_K yt = true → RM yS yt → K yS) : b_init_442 x2 x3 S R434 R442 K := by
  unfold b_init_442
  unfold x_b_init_442 at h
  have hc1 := c_le' ((rfl : (8 : Int32) = Int32.ofNat 8)) e_x3
  refine ⟨fun hc => ?_, fun hc => ?_⟩
  · have h := x_pos h (hc1.mp hc)
    have h := frc_ok h
    have p3 := n_add e_x2 ((rfl : (1 : Int32) = Int32.ofNat 1))
    exact hR434 h p3 hS
  · have h := x_neg h (fun q => hc (hc1.mpr q))
    have hc4 := c_eq' e_x3 ((rfl : (0 : Int32) = Int32.ofNat 0))
    refine ⟨fun hc => ?_, fun hc => ?_⟩
    · have h := x_neg h (fun q => hc (hc4.mpr q))
      have h := frc_ok h
      have p6 := n_sub (n_mul (n_add (n_mul ((rfl : (2 : Int32) = Int32.ofNat 2)) e_x2) ((rfl : (1 : Int32) = Int32.ofNat 1))) e_x3) (n_mul (n_div (n_mul (n_add (n_mul ((rfl : (2 : Int32) = Int32.ofNat 2)) e_x2) ((rfl : (1 : Int32) = Int32.ofNat 1))) e_x3) ((rfl : (32 : Int32) = Int32.ofNat 32))) ((rfl : (32 : Int32) = Int32.ofNat 32)))
      refine xs_p_turn1 h p6 (fun h e_v478 => ?_)
      have h := frc_ok h
      have p8 := n_add (n_mul ((rfl : (8 : Int32) = Int32.ofNat 8)) e_x2) e_x3
      exact xs_b_init_481 h e_x2 e_x3 p8 e_v478 hS hR434 hR442 hK
    · have h := x_pos h (hc4.mp hc)
      have h := frc_ok h
      have p10 := n_add (n_mul ((rfl : (8 : Int32) = Int32.ofNat 8)) e_x2) e_x3
      exact xs_b_init_481 h e_x2 e_x3 p10 ((rfl : (2896 : Int32) = Int32.ofNat 2896)) hS hR434 hR442 hK
