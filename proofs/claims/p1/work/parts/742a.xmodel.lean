noncomputable def x_b_greatest_59 (a_x1 : Nat) (a_x2 : Nat) (a_x4 : Nat) (a_s0 : Nat) (t : X6) (r_R5 : Nat → Nat → Nat → Nat → X6 → Bool) (k_K : Nat → X6 → Bool) : Bool :=
  frc (w_add a_x4 1) fun f1 => r_R5 a_x1 a_x2 a_s0 f1 t
set_option maxRecDepth 20000 in
set_option maxHeartbeats 1000000 in
theorem xs_b_greatest_59 {x1 : Int32} {a_x1 : Nat} {x2 : Int32} {a_x2 : Nat} {x4 : Int32} {a_x4 : Nat} {s0 : Int32} {a_s0 : Nat} {S : ms} {t : X6} {R5 : Int32 → Int32 → Int32 → Int32 → ms → Prop} {r_R5 : Nat → Nat → Nat → Nat → X6 → Bool} {K : Int32 → ms → Prop} {k_K : Nat → X6 → Bool} (h : x_b_greatest_59 a_x1 a_x2 a_x4 a_s0 t r_R5 k_K = true) (e_x1 : x1 = Int32.ofNat a_x1) (e_x2 : x2 = Int32.ofNat a_x2) (e_x4 : x4 = Int32.ofNat a_x4) (e_s0 : s0 = Int32.ofNat a_s0) (hS : RM S t) (hR5 : ∀ {y0 : Int32} {b0 : Nat} {y1 : Int32} {b1 : Nat} {y2 : Int32} {b2 : Nat} {y3 : Int32} {b3 : Nat} {yS : ms} {yt : X6}, r_R5 b0 b1 b2 b3 yt = true → y0 = Int32.ofNat b0 → y1 = Int32.ofNat b1 → y2 = Int32.ofNat b2 → y3 = Int32.ofNat b3 → RM yS yt → R5 y0 y1 y2 y3 yS) (hK : ∀ {y0 : Int32} {b0 : Nat} {yS : ms} {yt : X6}, k_K b0 yt = true → y0 = Int32.ofNat b0 → RM yS yt → K y0 yS) : b_greatest_59 x1 x2 x4 s0 S R5 K := by
  unfold b_greatest_59
  unfold x_b_greatest_59 at h
  have h := frc_ok h
  have p2 := n_add e_x4 ((rfl : (1 : Int32) = Int32.ofNat 1))
  exact hR5 h e_x1 e_x2 e_s0 p2 hS
noncomputable def x_b_greatest_45 (a_x1 : Nat) (a_x2 : Nat) (a_x3 : Nat) (a_x4 : Nat) (a_s0 : Nat) (t : X6) (r_R5 : Nat → Nat → Nat → Nat → X6 → Bool) (k_K : Nat → X6 → Bool) : Bool :=
  cond (!(w_lt a_x3 a_s0)) (x_b_greatest_59 a_x1 a_x2 a_x4 a_x3 t r_R5 k_K) (x_b_greatest_59 a_x1 a_x2 a_x4 a_s0 t r_R5 k_K)
set_option maxRecDepth 20000 in
set_option maxHeartbeats 1000000 in
theorem xs_b_greatest_45 {x1 : Int32} {a_x1 : Nat} {x2 : Int32} {a_x2 : Nat} {x3 : Int32} {a_x3 : Nat} {x4 : Int32} {a_x4 : Nat} {s0 : Int32} {a_s0 : Nat} {S : ms} {t : X6} {R5 : Int32 → Int32 → Int32 → Int32 → ms → Prop} {r_R5 : Nat → Nat → Nat → Nat → X6 → Bool} {K : Int32 → ms → Prop} {k_K : Nat → X6 → Bool} (h : x_b_greatest_45 a_x1 a_x2 a_x3 a_x4 a_s0 t r_R5 k_K = true) (e_x1 : x1 = Int32.ofNat a_x1) (e_x2 : x2 = Int32.ofNat a_x2) (e_x3 : x3 = Int32.ofNat a_x3) (e_x4 : x4 = Int32.ofNat a_x4) (e_s0 : s0 = Int32.ofNat a_s0) (hS : RM S t) (hR5 : ∀ {y0 : Int32} {b0 : Nat} {y1 : Int32} {b1 : Nat} {y2 : Int32} {b2 : Nat} {y3 : Int32} {b3 : Nat} {yS : ms} {yt : X6}, r_R5 b0 b1 b2 b3 yt = true → y0 = Int32.ofNat b0 → y1 = Int32.ofNat b1 → y2 = Int32.ofNat b2 → y3 = Int32.ofNat b3 → RM yS yt → R5 y0 y1 y2 y3 yS) (hK : ∀ {y0 : Int32} {b0 : Nat} {yS : ms} {yt : X6}, k_K b0 yt = true → y0 = Int32.ofNat b0 → RM yS yt → K y0 yS) : b_greatest_45 x1 x2 x3 x4 s0 S R5 K := by
  unfold b_greatest_45
  unfold x_b_greatest_45 at h
  have hc1 := c_le' e_s0 e_x3
  refine ⟨fun hc => ?_, fun hc => ?_⟩
  · have h := x_pos h (hc1.mp hc)
    exact xs_b_greatest_59 h e_x1 e_x2 e_x4 e_x3 hS hR5 hK
  · have h := x_neg h (fun q => hc (hc1.mpr q))
    exact xs_b_greatest_59 h e_x1 e_x2 e_x4 e_s0 hS hR5 hK
noncomputable def x_b_greatest_5 (a_x1 : Nat) (a_x2 : Nat) (a_x3 : Nat) (a_x4 : Nat) (t : X6) (r_R5 : Nat → Nat → Nat → Nat → X6 → Bool) (k_K : Nat → X6 → Bool) : Bool :=
  and (Nat.blt a_x1 3) <| rrw t 14 a_x1 fun v2 => cond (!(w_lt a_x4 v2)) (k_K a_x3 t) (cond (w_eq a_x2 0) (frc (w_add (w_mul 3 a_x1) a_x4) fun f6 => and (Nat.blt f6 9) <| rrw t 16 f6 fun v9 => x_b_greatest_45 a_x1 a_x2 a_x3 a_x4 v9 t r_R5 k_K) (frc (w_add (w_mul 3 a_x1) a_x4) fun f11 => and (Nat.blt f11 9) <| rrw t 15 f11 fun v14 => x_b_greatest_45 a_x1 a_x2 a_x3 a_x4 v14 t r_R5 k_K))
set_option maxRecDepth 20000 in
set_option maxHeartbeats 1000000 in
theorem xs_b_greatest_5 {x1 : Int32} {a_x1 : Nat} {x2 : Int32} {a_x2 : Nat} {x3 : Int32} {a_x3 : Nat} {x4 : Int32} {a_x4 : Nat} {S : ms} {t : X6} {R5 : Int32 → Int32 → Int32 → Int32 → ms → Prop} {r_R5 : Nat → Nat → Nat → Nat → X6 → Bool} {K : Int32 → ms → Prop} {k_K : Nat → X6 → Bool} (h : x_b_greatest_5 a_x1 a_x2 a_x3 a_x4 t r_R5 k_K = true) (e_x1 : x1 = Int32.ofNat a_x1) (e_x2 : x2 = Int32.ofNat a_x2) (e_x3 : x3 = Int32.ofNat a_x3) (e_x4 : x4 = Int32.ofNat a_x4) (hS : RM S t) (hR5 : ∀ {y0 : Int32} {b0 : Nat} {y1 : Int32} {b1 : Nat} {y2 : Int32} {b2 : Nat} {y3 : Int32} {b3 : Nat} {yS : ms} {yt : X6}, r_R5 b0 b1 b2 b3 yt = true → y0 = Int32.ofNat b0 → y1 = Int32.ofNat b1 → y2 = Int32.ofNat b2 → y3 = Int32.ofNat b3 → RM yS yt → R5 y0 y1 y2 y3 yS) (hK : ∀ {y0 : Int32} {b0 : Nat} {yS : ms} {yt : X6}, k_K b0 yt = true → y0 = Int32.ofNat b0 → RM yS yt → K y0 yS) : b_greatest_5 x1 x2 x3 x4 S R5 K := by
  unfold b_greatest_5
  unfold x_b_greatest_5 at h
  obtain ⟨n1, h⟩ := an_ok h
  refine ⟨n_vp e_x1 n1 (by decide), ?_⟩
  obtain ⟨v2, h, q3⟩ := rrw_ok h hS (by decide) e_x1
  have hc4 := c_le' q3 e_x4
  refine ⟨fun hc => ?_, fun hc => ?_⟩
  · have h := x_pos h (hc4.mp hc)
    exact hK h e_x3 hS
  · have h := x_neg h (fun q => hc (hc4.mpr q))
    have hc5 := c_eq' e_x2 ((rfl : (0 : Int32) = Int32.ofNat 0))
    refine ⟨fun hc => ?_, fun hc => ?_⟩
    · have h := x_pos h (hc5.mp hc)
      have h := frc_ok h
      have p7 := n_add (n_mul ((rfl : (3 : Int32) = Int32.ofNat 3)) e_x1) e_x4
      obtain ⟨n8, h⟩ := an_ok h
      refine ⟨n_vp p7 n8 (by decide), ?_⟩
      obtain ⟨v9, h, q10⟩ := rrw_ok h hS (by decide) p7
      exact xs_b_greatest_45 h e_x1 e_x2 e_x3 e_x4 q10 hS hR5 hK
    · have h := x_neg h (fun q => hc (hc5.mpr q))
      have h := frc_ok h
      have p12 := n_add (n_mul ((rfl : (3 : Int32) = Int32.ofNat 3)) e_x1) e_x4
      obtain ⟨n13, h⟩ := an_ok h
      refine ⟨n_vp p12 n13 (by decide), ?_⟩
      obtain ⟨v14, h, q15⟩ := rrw_ok h hS (by decide) p12
      exact xs_b_greatest_45 h e_x1 e_x2 e_x3 e_x4 q15 hS hR5 hK
noncomputable def xl_e_greatest_5 (k_K : Nat → X6 → Bool) (n : Nat) : Nat → Nat → Nat → Nat → X6 → Bool := Nat.rec (motive := fun _ => Nat → Nat → Nat → Nat → X6 → Bool) (fun _ _ _ _ _ => false) (fun _ ih b_x1 b_x2 b_x3 b_x4 bt => x_b_greatest_5 b_x1 b_x2 b_x3 b_x4 bt ih k_K) n
noncomputable def x_e_greatest_5 (a_x1 : Nat) (a_x2 : Nat) (a_x3 : Nat) (a_x4 : Nat) (t : X6) (k_K : Nat → X6 → Bool) : Bool := xl_e_greatest_5 k_K 200000 a_x1 a_x2 a_x3 a_x4 t
def xq_e_greatest_5 (k_K : Nat → X6 → Bool) (n : Nat) (y_x1 : Int32) (y_x2 : Int32) (y_x3 : Int32) (y_x4 : Int32) (yS : ms) : Prop := ∃ (b_x1 : Nat) (b_x2 : Nat) (b_x3 : Nat) (b_x4 : Nat) (bt : X6), y_x1 = Int32.ofNat b_x1 ∧ y_x2 = Int32.ofNat b_x2 ∧ y_x3 = Int32.ofNat b_x3 ∧ y_x4 = Int32.ofNat b_x4 ∧ RM yS bt ∧ xl_e_greatest_5 k_K n b_x1 b_x2 b_x3 b_x4 bt = true
set_option maxRecDepth 20000 in
theorem xs_e_greatest_5 {x1 : Int32} {a_x1 : Nat} {x2 : Int32} {a_x2 : Nat} {x3 : Int32} {a_x3 : Nat} {x4 : Int32} {a_x4 : Nat} {S : ms} {t : X6} {K : Int32 → ms → Prop} {k_K : Nat → X6 → Bool} (h : x_e_greatest_5 a_x1 a_x2 a_x3 a_x4 t k_K = true) (e_x1 : x1 = Int32.ofNat a_x1) (e_x2 : x2 = Int32.ofNat a_x2) (e_x3 : x3 = Int32.ofNat a_x3) (e_x4 : x4 = Int32.ofNat a_x4) (hS : RM S t) (hK : ∀ {y0 : Int32} {b0 : Nat} {yS : ms} {yt : X6}, k_K b0 yt = true → y0 = Int32.ofNat b0 → RM yS yt → K y0 yS) : e_greatest_5 x1 x2 x3 x4 S K := by
  refine ⟨fun y_x1 y_x2 y_x3 y_x4 yS => ∃ n, xq_e_greatest_5 k_K n y_x1 y_x2 y_x3 y_x4 yS, fun y_x1 y_x2 y_x3 y_x4 yS => mf (fun n => xq_e_greatest_5 k_K n y_x1 y_x2 y_x3 y_x4 yS), ⟨200000, a_x1, a_x2, a_x3, a_x4, t, e_x1, e_x2, e_x3, e_x4, hS, h⟩, fun y_x1 y_x2 y_x3 y_x4 yS hI => ?_⟩
  obtain ⟨m, hm, hq⟩ := mf_ok hI
  obtain ⟨b_x1, b_x2, b_x3, b_x4, bt, c_x1, c_x2, c_x3, c_x4, cS, h⟩ := hq
  cases m with
  | zero => exact absurd h Bool.false_ne_true
  | succ n => exact xs_b_greatest_5 h c_x1 c_x2 c_x3 c_x4 cS (fun h d_x1 d_x2 d_x3 d_x4 dS => ⟨⟨n, _, _, _, _, _, d_x1, d_x2, d_x3, d_x4, dS, h⟩, Nat.lt_of_le_of_lt (mf_le ⟨_, _, _, _, _, d_x1, d_x2, d_x3, d_x4, dS, h⟩) (Nat.lt_of_lt_of_eq (Nat.lt_succ_self n) hm.symm)⟩) hK
noncomputable def x_p_greatest (a_x1 : Nat) (a_x2 : Nat) (t : X6) (k_K : Nat → X6 → Bool) : Bool :=
  x_e_greatest_5 a_x1 a_x2 1 0 t k_K
set_option maxRecDepth 20000 in
set_option maxHeartbeats 1000000 in
theorem xs_p_greatest {x1 : Int32} {a_x1 : Nat} {x2 : Int32} {a_x2 : Nat} {S : ms} {t : X6} {K : Int32 → ms → Prop} {k_K : Nat → X6 → Bool} (h : x_p_greatest a_x1 a_x2 t k_K = true) (e_x1 : x1 = Int32.ofNat a_x1) (e_x2 : x2 = Int32.ofNat a_x2) (hS : RM S t) (hK : ∀ {y0 : Int32} {b0 : Nat} {yS : ms} {yt : X6}, k_K b0 yt = true → y0 = Int32.ofNat b0 → RM yS yt → K y0 yS) : p_greatest x1 x2 S K := by
  unfold p_greatest
  unfold x_p_greatest at h
  exact xs_e_greatest_5 h e_x1 e_x2 ((rfl : (1 : Int32) = Int32.ofNat 1)) ((rfl : (0 : Int32) = Int32.ofNat 0)) hS hK
noncomputable def x_b_makeGrids_109 (a_x1 : Nat) (a_x4 : Nat) (t : X6) (r_R109 : Nat → Nat → X6 → Bool) (k_K : X6 → Bool) : Bool :=
  cond (!(w_lt a_x4 12288)) (k_K t) (frc (w_add (w_mul 12288 a_x1) a_x4) fun f2 => and (Nat.blt f2 36864) <| frc (w_add a_x4 1) fun f5 => wrw t 19 f2 0 fun t7 => r_R109 a_x1 f5 t7)
set_option maxRecDepth 20000 in
set_option maxHeartbeats 1000000 in
theorem xs_b_makeGrids_109 {x1 : Int32} {a_x1 : Nat} {x4 : Int32} {a_x4 : Nat} {S : ms} {t : X6} {R109 : Int32 → Int32 → ms → Prop} {r_R109 : Nat → Nat → X6 → Bool} {K : ms → Prop} {k_K : X6 → Bool} (h : x_b_makeGrids_109 a_x1 a_x4 t r_R109 k_K = true) (e_x1 : x1 = Int32.ofNat a_x1) (e_x4 : x4 = Int32.ofNat a_x4) (hS : RM S t) (hR109 : ∀ {y0 : Int32} {b0 : Nat} {y1 : Int32} {b1 : Nat} {yS : ms} {yt : X6}, r_R109 b0 b1 yt = true → y0 = Int32.ofNat b0 → y1 = Int32.ofNat b1 → RM yS yt → R109 y0 y1 yS) (hK : ∀ {yS : ms} {yt : X6}, k_K yt = true → RM yS yt → K yS) : b_makeGrids_109 x1 x4 S R109 K := by
  unfold b_makeGrids_109
  unfold x_b_makeGrids_109 at h
  have hc1 := c_le' ((rfl : (12288 : Int32) = Int32.ofNat 12288)) e_x4
  refine ⟨fun hc => ?_, fun hc => ?_⟩
  · have h := x_pos h (hc1.mp hc)
    exact hK h hS
  · have h := x_neg h (fun q => hc (hc1.mpr q))
    have h := frc_ok h
    have p3 := n_add (n_mul ((rfl : (12288 : Int32) = Int32.ofNat 12288)) e_x1) e_x4
    obtain ⟨n4, h⟩ := an_ok h
    refine ⟨n_vp p3 n4 (by decide), ?_⟩
    have h := frc_ok h
    have p6 := n_add e_x4 ((rfl : (1 : Int32) = Int32.ofNat 1))
    obtain ⟨t7, h, hS8⟩ := wrw_ok h hS (by decide) p3 ((rfl : (0 : Int32) = Int32.ofNat 0))
    exact hR109 h e_x1 p6 hS8
noncomputable def xl_e_makeGrids_109 (k_K : X6 → Bool) (n : Nat) : Nat → Nat → X6 → Bool := Nat.rec (motive := fun _ => Nat → Nat → X6 → Bool) (fun _ _ _ => false) (fun _ ih b_x1 b_x4 bt => x_b_makeGrids_109 b_x1 b_x4 bt ih k_K) n
noncomputable def x_e_makeGrids_109 (a_x1 : Nat) (a_x4 : Nat) (t : X6) (k_K : X6 → Bool) : Bool := xl_e_makeGrids_109 k_K 200000 a_x1 a_x4 t
def xq_e_makeGrids_109 (k_K : X6 → Bool) (n : Nat) (y_x1 : Int32) (y_x4 : Int32) (yS : ms) : Prop := ∃ (b_x1 : Nat) (b_x4 : Nat) (bt : X6), y_x1 = Int32.ofNat b_x1 ∧ y_x4 = Int32.ofNat b_x4 ∧ RM yS bt ∧ xl_e_makeGrids_109 k_K n b_x1 b_x4 bt = true
set_option maxRecDepth 20000 in
theorem xs_e_makeGrids_109 {x1 : Int32} {a_x1 : Nat} {x4 : Int32} {a_x4 : Nat} {S : ms} {t : X6} {K : ms → Prop} {k_K : X6 → Bool} (h : x_e_makeGrids_109 a_x1 a_x4 t k_K = true) (e_x1 : x1 = Int32.ofNat a_x1) (e_x4 : x4 = Int32.ofNat a_x4) (hS : RM S t) (hK : ∀ {yS : ms} {yt : X6}, k_K yt = true → RM yS yt → K yS) : e_makeGrids_109 x1 x4 S K := by
  refine ⟨fun y_x1 y_x4 yS => ∃ n, xq_e_makeGrids_109 k_K n y_x1 y_x4 yS, fun y_x1 y_x4 yS => mf (fun n => xq_e_makeGrids_109 k_K n y_x1 y_x4 yS), ⟨200000, a_x1, a_x4, t, e_x1, e_x4, hS, h⟩, fun y_x1 y_x4 yS hI => ?_⟩
  obtain ⟨m, hm, hq⟩ := mf_ok hI
  obtain ⟨b_x1, b_x4, bt, c_x1, c_x4, cS, h⟩ := hq
  cases m with
  | zero => exact absurd h Bool.false_ne_true
  | succ n => exact xs_b_makeGrids_109 h c_x1 c_x4 cS (fun h d_x1 d_x4 dS => ⟨⟨n, _, _, _, d_x1, d_x4, dS, h⟩, Nat.lt_of_le_of_lt (mf_le ⟨_, _, _, d_x1, d_x4, dS, h⟩) (Nat.lt_of_lt_of_eq (Nat.lt_succ_self n) hm.symm)⟩) hK
noncomputable def x_p_upward (a_x0 : Nat) (a_x1 : Nat) (k_K : Nat → Bool) : Bool :=
  cond (w_eq a_x1 0) false <| frc (w_div (w_sub (w_add a_x0 a_x1) 1) a_x1) fun f2 => k_K f2
set_option maxRecDepth 20000 in
set_option maxHeartbeats 1000000 in
theorem xs_p_upward {x0 : Int32} {a_x0 : Nat} {x1 : Int32} {a_x1 : Nat} {K : Int32 → Prop} {k_K : Nat → Bool} (h : x_p_upward a_x0 a_x1 k_K = true) (e_x0 : x0 = Int32.ofNat a_x0) (e_x1 : x1 = Int32.ofNat a_x1) (hK : ∀ {y0 : Int32} {b0 : Nat}, k_K b0 = true → y0 = Int32.ofNat b0 → K y0) : p_upward x0 x1 K := by
  unfold p_upward
  unfold x_p_upward at h
  obtain ⟨n1, h⟩ := nu_ok h
  refine ⟨fun q => absurd ((c_eq' e_x1 ((rfl : (0 : Int32) = Int32.ofNat 0))).mp q) (by rw [n1]; exact Bool.false_ne_true), ?_⟩
  have h := frc_ok h
  have p3 := n_div (n_sub (n_add e_x0 e_x1) ((rfl : (1 : Int32) = Int32.ofNat 1))) e_x1
  exact hK h p3
noncomputable def x_b_makeGrids_17 (a_x1 : Nat) (a_x2 : Nat) (a_x3 : Nat) (a_x4 : Nat) (t : X6) (r_R17 : Nat → Nat → Nat → Nat → X6 → Bool) (k_K : X6 → Bool) : Bool :=
  and (Nat.blt a_x1 3) <| rrw t 14 a_x1 fun v2 => cond (!(w_lt a_x4 v2)) (x_e_makeGrids_109 a_x1 0 t k_K) (frc (w_add (w_mul 3 a_x1) a_x4) fun f5 => and (Nat.blt f5 9) <| rrw t 12 a_x1 fun v8 => frc (w_mul 8 a_x2) fun f10 => x_p_upward v8 f10 (fun v59_ => rrw t 15 f5 fun v14 => frc (w_mul v14 v59_) fun f16 => wrw t 17 f5 f16 fun t12 => rrw t12 13 a_x1 fun v18 => frc (w_mul 8 a_x3) fun f20 => x_p_upward v18 f20 (fun v95_ => frc (w_add a_x4 1) fun f22 => rrw t12 16 f5 fun v26 => frc (w_mul v26 v95_) fun f28 => wrw t12 18 f5 f28 fun t24 => r_R17 a_x1 a_x2 a_x3 f22 t24)))
set_option maxRecDepth 20000 in
set_option maxHeartbeats 1000000 in
theorem xs_b_makeGrids_17 {x1 : Int32} {a_x1 : Nat} {x2 : Int32} {a_x2 : Nat} {x3 : Int32} {a_x3 : Nat} {x4 : Int32} {a_x4 : Nat} {S : ms} {t : X6} {R17 : Int32 → Int32 → Int32 → Int32 → ms → Prop} {r_R17 : Nat → Nat → Nat → Nat → X6 → Bool} {K : ms → Prop} {k_K : X6 → Bool} (h : x_b_makeGrids_17 a_x1 a_x2 a_x3 a_x4 t r_R17 k_K = true) (e_x1 : x1 = Int32.ofNat a_x1) (e_x2 : x2 = Int32.ofNat a_x2) (e_x3 : x3 = Int32.ofNat a_x3) (e_x4 : x4 = Int32.ofNat a_x4) (hS : RM S t) (hR17 : ∀ {y0 : Int32} {b0 : Nat} {y1 : Int32} {b1 : Nat} {y2 : Int32} {b2 : Nat} {y3 : Int32} {b3 : Nat} {yS : ms} {yt : X6}, r_R17 b0 b1 b2 b3 yt = true → y0 = Int32.ofNat b0 → y1 = Int32.ofNat b1 → y2 = Int32.ofNat b2 → y3 = Int32.ofNat b3 → RM yS yt → R17 y0 y1 y2 y3 yS) (hK : ∀ {yS : ms} {yt : X6}, k_K yt = true → RM yS yt → K yS) : b_makeGrids_17 x1 x2 x3 x4 S R17 K := by
  unfold b_makeGrids_17
  unfold x_b_makeGrids_17 at h
  obtain ⟨n1, h⟩ := an_ok h
  refine ⟨n_vp e_x1 n1 (by decide), ?_⟩
  obtain ⟨v2, h, q3⟩ := rrw_ok h hS (by decide) e_x1
  have hc4 := c_le' q3 e_x4
  refine ⟨fun hc => ?_, fun hc => ?_⟩
  · have h := x_pos h (hc4.mp hc)
    exact xs_e_makeGrids_109 h e_x1 ((rfl : (0 : Int32) = Int32.ofNat 0)) hS hK
  · have h := x_neg h (fun q => hc (hc4.mpr q))
    have h := frc_ok h
    have p6 := n_add (n_mul ((rfl : (3 : Int32) = Int32.ofNat 3)) e_x1) e_x4
    obtain ⟨n7, h⟩ := an_ok h
    refine ⟨n_vp p6 n7 (by decide), ?_⟩
    refine ⟨n_vp e_x1 n1 (by decide), ?_⟩
    obtain ⟨v8, h, q9⟩ := rrw_ok h hS (by decide) e_x1
    have h := frc_ok h
    have p11 := n_mul ((rfl : (8 : Int32) = Int32.ofNat 8)) e_x2
    refine xs_p_upward h q9 p11 (fun h e_v59 => ?_)
    refine ⟨n_vp p6 n7 (by decide), ?_⟩
    refine ⟨n_vp p6 n7 (by decide), ?_⟩
    refine ⟨n_vp e_x1 n1 (by decide), ?_⟩
    obtain ⟨v14, h, q15⟩ := rrw_ok h hS (by decide) p6
    have h := frc_ok h
    have p17 := n_mul q15 e_v59
    obtain ⟨t12, h, hS13⟩ := wrw_ok h hS (by decide) p6 p17
    obtain ⟨v18, h, q19⟩ := rrw_ok h hS13 (by decide) e_x1
    have h := frc_ok h
    have p21 := n_mul ((rfl : (8 : Int32) = Int32.ofNat 8)) e_x3
    refine xs_p_upward h q19 p21 (fun h e_v95 => ?_)
    refine ⟨n_vp p6 n7 (by decide), ?_⟩
    have h := frc_ok h
    have p23 := n_add e_x4 ((rfl : (1 : Int32) = Int32.ofNat 1))
    obtain ⟨v26, h, q27⟩ := rrw_ok h hS13 (by decide) p6
    have h := frc_ok h
    have p29 := n_mul q27 e_v95
    obtain ⟨t24, h, hS25⟩ := wrw_ok h hS13 (by decide) p6 p29
    exact hR17 h e_x1 e_x2 e_x3 p23 hS25
noncomputable def xl_e_makeGrids_17 (k_K : X6 → Bool) (n : Nat) : Nat → Nat → Nat → Nat → X6 → Bool := Nat.rec (motive := fun _ => Nat → Nat → Nat → Nat → X6 → Bool) (fun _ _ _ _ _ => false) (fun _ ih b_x1 b_x2 b_x3 b_x4 bt => x_b_makeGrids_17 b_x1 b_x2 b_x3 b_x4 bt ih k_K) n
noncomputable def x_e_makeGrids_17 (a_x1 : Nat) (a_x2 : Nat) (a_x3 : Nat) (a_x4 : Nat) (t : X6) (k_K : X6 → Bool) : Bool := xl_e_makeGrids_17 k_K 200000 a_x1 a_x2 a_x3 a_x4 t
def xq_e_makeGrids_17 (k_K : X6 → Bool) (n : Nat) (y_x1 : Int32) (y_x2 : Int32) (y_x3 : Int32) (y_x4 : Int32) (yS : ms) : Prop := ∃ (b_x1 : Nat) (b_x2 : Nat) (b_x3 : Nat) (b_x4 : Nat) (bt : X6), y_x1 = Int32.ofNat b_x1 ∧ y_x2 = Int32.ofNat b_x2 ∧ y_x3 = Int32.ofNat b_x3 ∧ y_x4 = Int32.ofNat b_x4 ∧ RM yS bt ∧ xl_e_makeGrids_17 k_K n b_x1 b_x2 b_x3 b_x4 bt = true
set_option maxRecDepth 20000 in
theorem xs_e_makeGrids_17 {x1 : Int32} {a_x1 : Nat} {x2 : Int32} {a_x2 : Nat} {x3 : Int32} {a_x3 : Nat} {x4 : Int32} {a_x4 : Nat} {S : ms} {t : X6} {K : ms → Prop} {k_K : X6 → Bool} (h : x_e_makeGrids_17 a_x1 a_x2 a_x3 a_x4 t k_K = true) (e_x1 : x1 = Int32.ofNat a_x1) (e_x2 : x2 = Int32.ofNat a_x2) (e_x3 : x3 = Int32.ofNat a_x3) (e_x4 : x4 = Int32.ofNat a_x4) (hS : RM S t) (hK : ∀ {yS : ms} {yt : X6}, k_K yt = true → RM yS yt → K yS) : e_makeGrids_17 x1 x2 x3 x4 S K := by
  refine ⟨fun y_x1 y_x2 y_x3 y_x4 yS => ∃ n, xq_e_makeGrids_17 k_K n y_x1 y_x2 y_x3 y_x4 yS, fun y_x1 y_x2 y_x3 y_x4 yS => mf (fun n => xq_e_makeGrids_17 k_K n y_x1 y_x2 y_x3 y_x4 yS), ⟨200000, a_x1, a_x2, a_x3, a_x4, t, e_x1, e_x2, e_x3, e_x4, hS, h⟩, fun y_x1 y_x2 y_x3 y_x4 yS hI => ?_⟩
  obtain ⟨m, hm, hq⟩ := mf_ok hI
  obtain ⟨b_x1, b_x2, b_x3, b_x4, bt, c_x1, c_x2, c_x3, c_x4, cS, h⟩ := hq
  cases m with
  | zero => exact absurd h Bool.false_ne_true
  | succ n => exact xs_b_makeGrids_17 h c_x1 c_x2 c_x3 c_x4 cS (fun h d_x1 d_x2 d_x3 d_x4 dS => ⟨⟨n, _, _, _, _, _, d_x1, d_x2, d_x3, d_x4, dS, h⟩, Nat.lt_of_le_of_lt (mf_le ⟨_, _, _, _, _, d_x1, d_x2, d_x3, d_x4, dS, h⟩) (Nat.lt_of_lt_of_eq (Nat.lt_succ_self n) hm.symm)⟩) hK
noncomputable def x_p_makeGrids (a_x1 : Nat) (t : X6) (k_K : X6 → Bool) : Bool :=
  x_p_greatest a_x1 1 t (fun v3_ t_S3 => x_p_greatest a_x1 0 t_S3 (fun v10_ t_S10 => x_e_makeGrids_17 a_x1 v3_ v10_ 0 t_S10 k_K))
set_option maxRecDepth 20000 in
set_option maxHeartbeats 1000000 in
theorem xs_p_makeGrids {x1 : Int32} {a_x1 : Nat} {S : ms} {t : X6} {K : ms → Prop} {k_K : X6 → Bool} (h : x_p_makeGrids a_x1 t k_K = true) (e_x1 : x1 = Int32.ofNat a_x1) (hS : RM S t) (hK : ∀ {yS : ms} {yt : X6}, k_K yt = true → RM yS yt → K yS) : p_makeGrids x1 S K := by
  unfold p_makeGrids
  unfold x_p_makeGrids at h
  refine xs_p_greatest h e_x1 ((rfl : (1 : Int32) = Int32.ofNat 1)) hS (fun h e_v3 h_S3 => ?_)
  refine xs_p_greatest h e_x1 ((rfl : (0 : Int32) = Int32.ofNat 0)) h_S3 (fun h e_v10 h_S10 => ?_)
  exact xs_e_makeGrids_17 h e_x1 e_v3 e_v10 ((rfl : (0 : Int32) = Int32.ofNat 0)) h_S10 hK
noncomputable def x_p_levelCell (a_x0 : Nat) (a_x1 : Nat) (a_x2 : Nat) (a_x3 : Nat) (k_K : Nat → Bool) : Bool :=
  frc (w_add (w_mul 64 (w_add (w_mul 64 (w_add (w_mul 3 a_x0) a_x1)) a_x2)) a_x3) fun f1 => k_K f1
set_option maxRecDepth 20000 in
set_option maxHeartbeats 1000000 in
theorem xs_p_levelCell {x0 : Int32} {a_x0 : Nat} {x1 : Int32} {a_x1 : Nat} {x2 : Int32} {a_x2 : Nat} {x3 : Int32} {a_x3 : Nat} {K : Int32 → Prop} {k_K : Nat → Bool} (h : x_p_levelCell a_x0 a_x1 a_x2 a_x3 k_K = true) (e_x0 : x0 = Int32.ofNat a_x0) (e_x1 : x1 = Int32.ofNat a_x1) (e_x2 : x2 = Int32.ofNat a_x2) (e_x3 : x3 = Int32.ofNat a_x3) (hK : ∀ {y0 : Int32} {b0 : Nat}, k_K b0 = true → y0 = Int32.ofNat b0 → K y0) : p_levelCell x0 x1 x2 x3 K := by
  unfold p_levelCell
  unfold x_p_levelCell at h
  have h := frc_ok h
  have p2 := n_add (n_mul ((rfl : (64 : Int32) = Int32.ofNat 64)) (n_add (n_mul ((rfl : (64 : Int32) = Int32.ofNat 64)) (n_add (n_mul ((rfl : (3 : Int32) = Int32.ofNat 3)) e_x0) e_x1)) e_x2)) e_x3
  exact hK h p2
noncomputable def x_b_bitsOf_13 (a_x1 : Nat) (a_x2 : Nat) (r_R13 : Nat → Nat → Bool) (k_K : Nat → Bool) : Bool :=
  cond (!(w_lt 0 (w_shr a_x1 a_x2))) (k_K a_x2) (frc (w_add a_x2 1) fun f2 => r_R13 a_x1 f2)
set_option maxRecDepth 20000 in
set_option maxHeartbeats 1000000 in
theorem xs_b_bitsOf_13 {x1 : Int32} {a_x1 : Nat} {x2 : Int32} {a_x2 : Nat} {R13 : Int32 → Int32 → Prop} {r_R13 : Nat → Nat → Bool} {K : Int32 → Prop} {k_K : Nat → Bool} (h : x_b_bitsOf_13 a_x1 a_x2 r_R13 k_K = true) (e_x1 : x1 = Int32.ofNat a_x1) (e_x2 : x2 = Int32.ofNat a_x2) (hR13 : ∀ {y0 : Int32} {b0 : Nat} {y1 : Int32} {b1 : Nat}, r_R13 b0 b1 = true → y0 = Int32.ofNat b0 → y1 = Int32.ofNat b1 → R13 y0 y1) (hK : ∀ {y0 : Int32} {b0 : Nat}, k_K b0 = true → y0 = Int32.ofNat b0 → K y0) : b_bitsOf_13 x1 x2 R13 K := by
  unfold b_bitsOf_13
  unfold x_b_bitsOf_13 at h
  have hc1 := c_le' (n_shr e_x1 e_x2) ((rfl : (0 : Int32) = Int32.ofNat 0))
  refine ⟨fun hc => ?_, fun hc => ?_⟩
  · have h := x_pos h (hc1.mp hc)
    exact hK h e_x2
  · have h := x_neg h (fun q => hc (hc1.mpr q))
    have h := frc_ok h
    have p3 := n_add e_x2 ((rfl : (1 : Int32) = Int32.ofNat 1))
    exact hR13 h e_x1 p3
noncomputable def xl_e_bitsOf_13 (k_K : Nat → Bool) (n : Nat) : Nat → Nat → Bool := Nat.rec (motive := fun _ => Nat → Nat → Bool) (fun _ _ => false) (fun _ ih b_x1 b_x2 => x_b_bitsOf_13 b_x1 b_x2 ih k_K) n
noncomputable def x_e_bitsOf_13 (a_x1 : Nat) (a_x2 : Nat) (k_K : Nat → Bool) : Bool := xl_e_bitsOf_13 k_K 200000 a_x1 a_x2
def xq_e_bitsOf_13 (k_K : Nat → Bool) (n : Nat) (y_x1 : Int32) (y_x2 : Int32) : Prop := ∃ (b_x1 : Nat) (b_x2 : Nat), y_x1 = Int32.ofNat b_x1 ∧ y_x2 = Int32.ofNat b_x2 ∧ xl_e_bitsOf_13 k_K n b_x1 b_x2 = true
set_option maxRecDepth 20000 in
theorem xs_e_bitsOf_13 {x1 : Int32} {a_x1 : Nat} {x2 : Int32} {a_x2 : Nat} {K : Int32 → Prop} {k_K : Nat → Bool} (h : x_e_bitsOf_13 a_x1 a_x2 k_K = true) (e_x1 : x1 = Int32.ofNat a_x1) (e_x2 : x2 = Int32.ofNat a_x2) (hK : ∀ {y0 : Int32} {b0 : Nat}, k_K b0 = true → y0 = Int32.ofNat b0 → K y0) : e_bitsOf_13 x1 x2 K := by
  refine ⟨fun y_x1 y_x2 => ∃ n, xq_e_bitsOf_13 k_K n y_x1 y_x2, fun y_x1 y_x2 => mf (fun n => xq_e_bitsOf_13 k_K n y_x1 y_x2), ⟨200000, a_x1, a_x2, e_x1, e_x2, h⟩, fun y_x1 y_x2 hI => ?_⟩
  obtain ⟨m, hm, hq⟩ := mf_ok hI
  obtain ⟨b_x1, b_x2, c_x1, c_x2, h⟩ := hq
  cases m with
  | zero => exact absurd h Bool.false_ne_true
  | succ n => exact xs_b_bitsOf_13 h c_x1 c_x2 (fun h d_x1 d_x2 => ⟨⟨n, _, _, d_x1, d_x2, h⟩, Nat.lt_of_le_of_lt (mf_le ⟨_, _, d_x1, d_x2, h⟩) (Nat.lt_of_lt_of_eq (Nat.lt_succ_self n) hm.symm)⟩) hK
noncomputable def x_b_bitsOf_10 (a_s0 : Nat) (k_K : Nat → Bool) : Bool :=
  x_e_bitsOf_13 a_s0 0 k_K
set_option maxRecDepth 20000 in
set_option maxHeartbeats 1000000 in
theorem xs_b_bitsOf_10 {s0 : Int32} {a_s0 : Nat} {K : Int32 → Prop} {k_K : Nat → Bool} (h : x_b_bitsOf_10 a_s0 k_K = true) (e_s0 : s0 = Int32.ofNat a_s0) (hK : ∀ {y0 : Int32} {b0 : Nat}, k_K b0 = true → y0 = Int32.ofNat b0 → K y0) : b_bitsOf_10 s0 K := by
  unfold b_bitsOf_10
  unfold x_b_bitsOf_10 at h
  exact xs_e_bitsOf_13 h e_s0 ((rfl : (0 : Int32) = Int32.ofNat 0)) hK
noncomputable def x_p_bitsOf (a_x0 : Nat) (k_K : Nat → Bool) : Bool :=
  cond (!(w_lt a_x0 0)) (x_b_bitsOf_10 a_x0 k_K) (frc (w_neg a_x0) fun f2 => x_b_bitsOf_10 f2 k_K)
set_option maxRecDepth 20000 in
set_option maxHeartbeats 1000000 in
theorem xs_p_bitsOf {x0 : Int32} {a_x0 : Nat} {K : Int32 → Prop} {k_K : Nat → Bool} (h : x_p_bitsOf a_x0 k_K = true) (e_x0 : x0 = Int32.ofNat a_x0) (hK : ∀ {y0 : Int32} {b0 : Nat}, k_K b0 = true → y0 = Int32.ofNat b0 → K y0) : p_bitsOf x0 K := by
  unfold p_bitsOf
  unfold x_p_bitsOf at h
  have hc1 := c_le' ((rfl : (0 : Int32) = Int32.ofNat 0)) e_x0
  refine ⟨fun hc => ?_, fun hc => ?_⟩
  · have h := x_pos h (hc1.mp hc)
    exact xs_b_bitsOf_10 h e_x0 hK
  · have h := x_neg h (fun q => hc (hc1.mpr q))
    have h := frc_ok h
    have p3 := n_neg e_x0
    exact xs_b_bitsOf_10 h p3 hK
noncomputable def x_b_putBits_76 (a_x1 : Nat) (a_x3 : Nat) (t : X6) (r_R4 : Nat → Nat → X6 → Bool) (k_K : X6 → Bool) : Bool :=
  frc (w_add a_x3 4294967295) fun f1 => r_R4 a_x1 f1 t
set_option maxRecDepth 20000 in
set_option maxHeartbeats 1000000 in
theorem xs_b_putBits_76 {x1 : Int32} {a_x1 : Nat} {x3 : Int32} {a_x3 : Nat} {S : ms} {t : X6} {R4 : Int32 → Int32 → ms → Prop} {r_R4 : Nat → Nat → X6 → Bool} {K : ms → Prop} {k_K : X6 → Bool} (h : x_b_putBits_76 a_x1 a_x3 t r_R4 k_K = true) (e_x1 : x1 = Int32.ofNat a_x1) (e_x3 : x3 = Int32.ofNat a_x3) (hS : RM S t) (hR4 : ∀ {y0 : Int32} {b0 : Nat} {y1 : Int32} {b1 : Nat} {yS : ms} {yt : X6}, r_R4 b0 b1 yt = true → y0 = Int32.ofNat b0 → y1 = Int32.ofNat b1 → RM yS yt → R4 y0 y1 yS) (hK : ∀ {yS : ms} {yt : X6}, k_K yt = true → RM yS yt → K yS) : b_putBits_76 x1 x3 S R4 K := by
  unfold b_putBits_76
  unfold x_b_putBits_76 at h
  have h := frc_ok h
  have p2 := n_add e_x3 (((by decide) : (-1 : Int32) = Int32.ofNat 4294967295))
  exact hR4 h e_x1 p2 hS
noncomputable def x_p_put (a_x1 : Nat) (t : X6) (k_K : X6 → Bool) : Bool :=
  rfi t 9 fun v1 => and (Nat.blt v1 65536) <| wrw t 8 v1 a_x1 fun t4 => rfi t4 9 fun v8 => frc (w_add v8 1) fun f10 => wfi t4 9 f10 fun t6 => k_K t6
set_option maxRecDepth 20000 in
set_option maxHeartbeats 1000000 in
theorem xs_p_put {x1 : Int32} {a_x1 : Nat} {S : ms} {t : X6} {K : ms → Prop} {k_K : X6 → Bool} (h : x_p_put a_x1 t k_K = true) (e_x1 : x1 = Int32.ofNat a_x1) (hS : RM S t) (hK : ∀ {yS : ms} {yt : X6}, k_K yt = true → RM yS yt → K yS) : p_put x1 S K := by
  unfold p_put
  unfold x_p_put at h
  obtain ⟨v1, h, q2⟩ := rfi_ok h hS
  obtain ⟨n3, h⟩ := an_ok h
  refine ⟨n_vp q2 n3 (by decide), ?_⟩
  obtain ⟨t4, h, hS5⟩ := wrw_ok h hS (by decide) q2 e_x1
  obtain ⟨v8, h, q9⟩ := rfi_ok h hS5
  have h := frc_ok h
  have p11 := n_add q9 ((rfl : (1 : Int32) = Int32.ofNat 1))
  obtain ⟨t6, h, hS7⟩ := wfi_ok h hS5  p11
  exact hK h hS7
noncomputable def x_b_putBits_66 (a_x1 : Nat) (a_x3 : Nat) (t : X6) (r_R4 : Nat → Nat → X6 → Bool) (k_K : X6 → Bool) : Bool :=
  wfi t 32 0 fun t1 => wfi t1 33 0 fun t3 => x_b_putBits_76 a_x1 a_x3 t3 r_R4 k_K
set_option maxRecDepth 20000 in
set_option maxHeartbeats 1000000 in
theorem xs_b_putBits_66 {x1 : Int32} {a_x1 : Nat} {x3 : Int32} {a_x3 : Nat} {S : ms} {t : X6} {R4 : Int32 → Int32 → ms → Prop} {r_R4 : Nat → Nat → X6 → Bool} {K : ms → Prop} {k_K : X6 → Bool} (h : x_b_putBits_66 a_x1 a_x3 t r_R4 k_K = true) (e_x1 : x1 = Int32.ofNat a_x1) (e_x3 : x3 = Int32.ofNat a_x3) (hS : RM S t) (hR4 : ∀ {y0 : Int32} {b0 : Nat} {y1 : Int32} {b1 : Nat} {yS : ms} {yt : X6}, r_R4 b0 b1 yt = true → y0 = Int32.ofNat b0 → y1 = Int32.ofNat b1 → RM yS yt → R4 y0 y1 yS) (hK : ∀ {yS : ms} {yt : X6}, k_K yt = true → RM yS yt → K yS) : b_putBits_66 x1 x3 S R4 K := by
  unfold b_putBits_66
  unfold x_b_putBits_66 at h
  obtain ⟨t1, h, hS2⟩ := wfi_ok h hS  ((rfl : (0 : Int32) = Int32.ofNat 0))
  obtain ⟨t3, h, hS4⟩ := wfi_ok h hS2  ((rfl : (0 : Int32) = Int32.ofNat 0))
  exact xs_b_putBits_76 h e_x1 e_x3 hS4 hR4 hK
noncomputable def x_b_putBits_4 (a_x1 : Nat) (a_x3 : Nat) (t : X6) (r_R4 : Nat → Nat → X6 → Bool) (k_K : X6 → Bool) : Bool :=
  cond (w_lt a_x3 0) (k_K t) (rfi t 33 fun v4 => frc (w_add (w_mul 2 v4) (Nat.land (w_shr a_x1 a_x3) 1)) fun f6 => wfi t 33 f6 fun t2 => rfi t2 32 fun v10 => frc (w_add v10 1) fun f12 => wfi t2 32 f12 fun t8 => rfi t8 32 fun v14 => cond (w_eq v14 8) (rfi t8 33 fun v17 => x_p_put v17 t8 (fun t_S48 => rfi t_S48 33 fun v19 => cond (w_eq v19 255) (x_p_put 0 t_S48 (fun t_S63 => x_b_putBits_66 a_x1 a_x3 t_S63 r_R4 k_K)) (x_b_putBits_66 a_x1 a_x3 t_S48 r_R4 k_K))) (x_b_putBits_76 a_x1 a_x3 t8 r_R4 k_K))
set_option maxRecDepth 20000 in
set_option maxHeartbeats 1000000 in
theorem xs_b_putBits_4 {x1 : Int32} {a_x1 : Nat} {x3 : Int32} {a_x3 : Nat} {S : ms} {t : X6} {R4 : Int32 → Int32 → ms → Prop} {r_R4 : Nat → Nat → X6 → Bool} {K : ms → Prop} {k_K : X6 → Bool} (h : x_b_putBits_4 a_x1 a_x3 t r_R4 k_K = true) (e_x1 : x1 = Int32.ofNat a_x1) (e_x3 : x3 = Int32.ofNat a_x3) (hS : RM S t) (hR4 : ∀ {y0 : Int32} {b0 : Nat} {y1 : Int32} {b1 : Nat} {yS : ms} {yt : X6}, r_R4 b0 b1 yt = true → y0 = Int32.ofNat b0 → y1 = Int32.ofNat b1 → RM yS yt → R4 y0 y1 yS) (hK : ∀ {yS : ms} {yt : X6}, k_K yt = true → RM yS yt → K yS) : b_putBits_4 x1 x3 S R4 K := by
  unfold b_putBits_4
  unfold x_b_putBits_4 at h
  have hc1 := c_lt' e_x3 ((rfl : (0 : Int32) = Int32.ofNat 0))
  refine ⟨fun hc => ?_, fun hc => ?_⟩
  · have h := x_pos h (hc1.mp hc)
    exact hK h hS
  · have h := x_neg h (fun q => hc (hc1.mpr q))
    obtain ⟨v4, h, q5⟩ := rfi_ok h hS
    have h := frc_ok h
    have p7 := n_add (n_mul ((rfl : (2 : Int32) = Int32.ofNat 2)) q5) (n_and (n_shr e_x1 e_x3) ((rfl : (1 : Int32) = Int32.ofNat 1)))
    obtain ⟨t2, h, hS3⟩ := wfi_ok h hS  p7
    obtain ⟨v10, h, q11⟩ := rfi_ok h hS3
    have h := frc_ok h
    have p13 := n_add q11 ((rfl : (1 : Int32) = Int32.ofNat 1))
    obtain ⟨t8, h, hS9⟩ := wfi_ok h hS3  p13
    obtain ⟨v14, h, q15⟩ := rfi_ok h hS9
    have hc16 := c_eq' q15 ((rfl : (8 : Int32) = Int32.ofNat 8))
    refine ⟨fun hc => ?_, fun hc => ?_⟩
    · have h := x_neg h (fun q => hc (hc16.mpr q))
      exact xs_b_putBits_76 h e_x1 e_x3 hS9 hR4 hK
    · have h := x_pos h (hc16.mp hc)
      obtain ⟨v17, h, q18⟩ := rfi_ok h hS9
      refine xs_p_put h q18 hS9 (fun h h_S48 => ?_)
      obtain ⟨v19, h, q20⟩ := rfi_ok h h_S48
      have hc21 := c_eq' q20 ((rfl : (255 : Int32) = Int32.ofNat 255))
      refine ⟨fun hc => ?_, fun hc => ?_⟩
      · have h := x_neg h (fun q => hc (hc21.mpr q))
        exact xs_b_putBits_66 h e_x1 e_x3 h_S48 hR4 hK
      · have h := x_pos h (hc21.mp hc)
        refine xs_p_put h ((rfl : (0 : Int32) = Int32.ofNat 0)) h_S48 (fun h h_S63 => ?_)
        exact xs_b_putBits_66 h e_x1 e_x3 h_S63 hR4 hK
noncomputable def xl_e_putBits_4 (k_K : X6 → Bool) (n : Nat) : Nat → Nat → X6 → Bool := Nat.rec (motive := fun _ => Nat → Nat → X6 → Bool) (fun _ _ _ => false) (fun _ ih b_x1 b_x3 bt => x_b_putBits_4 b_x1 b_x3 bt ih k_K) n
noncomputable def x_e_putBits_4 (a_x1 : Nat) (a_x3 : Nat) (t : X6) (k_K : X6 → Bool) : Bool := xl_e_putBits_4 k_K 200000 a_x1 a_x3 t
def xq_e_putBits_4 (k_K : X6 → Bool) (n : Nat) (y_x1 : Int32) (y_x3 : Int32) (yS : ms) : Prop := ∃ (b_x1 : Nat) (b_x3 : Nat) (bt : X6), y_x1 = Int32.ofNat b_x1 ∧ y_x3 = Int32.ofNat b_x3 ∧ RM yS bt ∧ xl_e_putBits_4 k_K n b_x1 b_x3 bt = true
set_option maxRecDepth 20000 in
theorem xs_e_putBits_4 {x1 : Int32} {a_x1 : Nat} {x3 : Int32} {a_x3 : Nat} {S : ms} {t : X6} {K : ms → Prop} {k_K : X6 → Bool} (h : x_e_putBits_4 a_x1 a_x3 t k_K = true) (e_x1 : x1 = Int32.ofNat a_x1) (e_x3 : x3 = Int32.ofNat a_x3) (hS : RM S t) (hK : ∀ {yS : ms} {yt : X6}, k_K yt = true → RM yS yt → K yS) : e_putBits_4 x1 x3 S K := by
  refine ⟨fun y_x1 y_x3 yS => ∃ n, xq_e_putBits_4 k_K n y_x1 y_x3 yS, fun y_x1 y_x3 yS => mf (fun n => xq_e_putBits_4 k_K n y_x1 y_x3 yS), ⟨200000, a_x1, a_x3, t, e_x1, e_x3, hS, h⟩, fun y_x1 y_x3 yS hI => ?_⟩
  obtain ⟨m, hm, hq⟩ := mf_ok hI
  obtain ⟨b_x1, b_x3, bt, c_x1, c_x3, cS, h⟩ := hq
  cases m with
  | zero => exact absurd h Bool.false_ne_true
  | succ n => exact xs_b_putBits_4 h c_x1 c_x3 cS (fun h d_x1 d_x3 dS => ⟨⟨n, _, _, _, d_x1, d_x3, dS, h⟩, Nat.lt_of_le_of_lt (mf_le ⟨_, _, _, d_x1, d_x3, dS, h⟩) (Nat.lt_of_lt_of_eq (Nat.lt_succ_self n) hm.symm)⟩) hK
noncomputable def x_p_putBits (a_x1 : Nat) (a_x2 : Nat) (t : X6) (k_K : X6 → Bool) : Bool :=
  frc (w_sub a_x2 1) fun f1 => x_e_putBits_4 a_x1 f1 t k_K
set_option maxRecDepth 20000 in
set_option maxHeartbeats 1000000 in
theorem xs_p_putBits {x1 : Int32} {a_x1 : Nat} {x2 : Int32} {a_x2 : Nat} {S : ms} {t : X6} {K : ms → Prop} {k_K : X6 → Bool} (h : x_p_putBits a_x1 a_x2 t k_K = true) (e_x1 : x1 = Int32.ofNat a_x1) (e_x2 : x2 = Int32.ofNat a_x2) (hS : RM S t) (hK : ∀ {yS : ms} {yt : X6}, k_K yt = true → RM yS yt → K yS) : p_putBits x1 x2 S K := by
  unfold p_putBits
  unfold x_p_putBits at h
  have h := frc_ok h
  have p2 := n_sub e_x2 ((rfl : (1 : Int32) = Int32.ofNat 1))
  exact xs_e_putBits_4 h e_x1 p2 hS hK
noncomputable def x_b_symbol_51 (t : X6) (k_K : X6 → Bool) : Bool :=
  k_K t
set_option maxRecDepth 20000 in
set_option maxHeartbeats 1000000 in
theorem xs_b_symbol_51 {S : ms} {t : X6} {K : ms → Prop} {k_K : X6 → Bool} (h : x_b_symbol_51 t k_K = true) (hS : RM S t) (hK : ∀ {yS : ms} {yt : X6}, k_K yt = true → RM yS yt → K yS) : b_symbol_51 S K := by
  unfold b_symbol_51
  unfold x_b_symbol_51 at h
  exact hK h hS
noncomputable def x_p_symbol (a_x1 : Nat) (a_x2 : Nat) (a_x3 : Nat) (t : X6) (k_K : X6 → Bool) : Bool :=
  cond (w_eq a_x1 0) (frc (w_add (w_mul 257 a_x2) a_x3) fun f2 => and (Nat.blt f2 1028) <| rrw t 28 f2 fun v5 => rrw t 27 f2 fun v7 => x_p_putBits v5 v7 t (fun t_S48 => x_b_symbol_51 t_S48 k_K)) (frc (w_add (w_mul 257 a_x2) a_x3) fun f9 => and (Nat.blt f9 1028) <| rrw t 26 f9 fun v14 => frc (w_add v14 1) fun f16 => wrw t 26 f9 f16 fun t12 => x_b_symbol_51 t12 k_K)
set_option maxRecDepth 20000 in
set_option maxHeartbeats 1000000 in
theorem xs_p_symbol {x1 : Int32} {a_x1 : Nat} {x2 : Int32} {a_x2 : Nat} {x3 : Int32} {a_x3 : Nat} {S : ms} {t : X6} {K : ms → Prop} {k_K : X6 → Bool} (h : x_p_symbol a_x1 a_x2 a_x3 t k_K = true) (e_x1 : x1 = Int32.ofNat a_x1) (e_x2 : x2 = Int32.ofNat a_x2) (e_x3 : x3 = Int32.ofNat a_x3) (hS : RM S t) (hK : ∀ {yS : ms} {yt : X6}, k_K yt = true → RM yS yt → K yS) : p_symbol x1 x2 x3 S K := by
  unfold p_symbol
  unfold x_p_symbol at h
  have hc1 := c_eq' e_x1 ((rfl : (0 : Int32) = Int32.ofNat 0))
  refine ⟨fun hc => ?_, fun hc => ?_⟩
  · have h := x_pos h (hc1.mp hc)
    have h := frc_ok h
    have p3 := n_add (n_mul ((rfl : (257 : Int32) = Int32.ofNat 257)) e_x2) e_x3
    obtain ⟨n4, h⟩ := an_ok h
    refine ⟨n_vp p3 n4 (by decide), ?_⟩
    refine ⟨n_vp p3 n4 (by decide), ?_⟩
    obtain ⟨v5, h, q6⟩ := rrw_ok h hS (by decide) p3
    obtain ⟨v7, h, q8⟩ := rrw_ok h hS (by decide) p3
    refine xs_p_putBits h q6 q8 hS (fun h h_S48 => ?_)
    exact xs_b_symbol_51 h h_S48 hK
  · have h := x_neg h (fun q => hc (hc1.mpr q))
    have h := frc_ok h
    have p10 := n_add (n_mul ((rfl : (257 : Int32) = Int32.ofNat 257)) e_x2) e_x3
    obtain ⟨n11, h⟩ := an_ok h
    refine ⟨n_vp p10 n11 (by decide), ?_⟩
    refine ⟨n_vp p10 n11 (by decide), ?_⟩
    obtain ⟨v14, h, q15⟩ := rrw_ok h hS (by decide) p10
    have h := frc_ok h
    have p17 := n_add q15 ((rfl : (1 : Int32) = Int32.ofNat 1))
    obtain ⟨t12, h, hS13⟩ := wrw_ok h hS (by decide) p10 p17
    exact xs_b_symbol_51 h hS13 hK
noncomputable def x_b_number_24 (t : X6) (k_K : X6 → Bool) : Bool :=
  k_K t
set_option maxRecDepth 20000 in
set_option maxHeartbeats 1000000 in
theorem xs_b_number_24 {S : ms} {t : X6} {K : ms → Prop} {k_K : X6 → Bool} (h : x_b_number_24 t k_K = true) (hS : RM S t) (hK : ∀ {yS : ms} {yt : X6}, k_K yt = true → RM yS yt → K yS) : b_number_24 S K := by
  unfold b_number_24
  unfold x_b_number_24 at h
  exact hK h hS
noncomputable def x_b_number_20 (a_x3 : Nat) (a_s1 : Nat) (t : X6) (k_K : X6 → Bool) : Bool :=
  x_p_putBits a_s1 a_x3 t (fun t_S21 => x_b_number_24 t_S21 k_K)
set_option maxRecDepth 20000 in
set_option maxHeartbeats 1000000 in
theorem xs_b_number_20 {x3 : Int32} {a_x3 : Nat} {s1 : Int32} {a_s1 : Nat} {S : ms} {t : X6} {K : ms → Prop} {k_K : X6 → Bool} (h : x_b_number_20 a_x3 a_s1 t k_K = true) (e_x3 : x3 = Int32.ofNat a_x3) (e_s1 : s1 = Int32.ofNat a_s1) (hS : RM S t) (hK : ∀ {yS : ms} {yt : X6}, k_K yt = true → RM yS yt → K yS) : b_number_20 x3 s1 S K := by
  unfold b_number_20
  unfold x_b_number_20 at h
  refine xs_p_putBits h e_s1 e_x3 hS (fun h h_S21 => ?_)
  exact xs_b_number_24 h h_S21 hK
noncomputable def x_p_number (a_x1 : Nat) (a_x2 : Nat) (a_x3 : Nat) (t : X6) (k_K : X6 → Bool) : Bool :=
  cond (w_eq a_x1 0) (cond (!(w_lt a_x2 0)) (x_b_number_20 a_x3 a_x2 t k_K) (frc (w_sub (w_add a_x2 (w_shl 1 a_x3)) 1) fun f3 => x_b_number_20 a_x3 f3 t k_K)) (x_b_number_24 t k_K)
set_option maxRecDepth 20000 in
set_option maxHeartbeats 1000000 in
theorem xs_p_number {x1 : Int32} {a_x1 : Nat} {x2 : Int32} {a_x2 : Nat} {x3 : Int32} {a_x3 : Nat} {S : ms} {t : X6} {K : ms → Prop} {k_K : X6 → Bool} (h : x_p_number a_x1 a_x2 a_x3 t k_K = true) (e_x1 : x1 = Int32.ofNat a_x1) (e_x2 : x2 = Int32.ofNat a_x2) (e_x3 : x3 = Int32.ofNat a_x3) (hS : RM S t) (hK : ∀ {yS : ms} {yt : X6}, k_K yt = true → RM yS yt → K yS) : p_number x1 x2 x3 S K := by
  unfold p_number
  unfold x_p_number at h
  have hc1 := c_eq' e_x1 ((rfl : (0 : Int32) = Int32.ofNat 0))
  refine ⟨fun hc => ?_, fun hc => ?_⟩
  · have h := x_neg h (fun q => hc (hc1.mpr q))
    exact xs_b_number_24 h hS hK
  · have h := x_pos h (hc1.mp hc)
    have hc2 := c_le' ((rfl : (0 : Int32) = Int32.ofNat 0)) e_x2
    refine ⟨fun hc => ?_, fun hc => ?_⟩
    · have h := x_pos h (hc2.mp hc)
      exact xs_b_number_20 h e_x3 e_x2 hS hK
    · have h := x_neg h (fun q => hc (hc2.mpr q))
      have h := frc_ok h
      have p4 := n_sub (n_add e_x2 (n_shl ((rfl : (1 : Int32) = Int32.ofNat 1)) e_x3)) ((rfl : (1 : Int32) = Int32.ofNat 1))
      exact xs_b_number_20 h e_x3 p4 hS hK
noncomputable def x_b_tell_188 (t : X6) (k_K : X6 → Bool) : Bool :=
  k_K t
set_option maxRecDepth 20000 in
set_option maxHeartbeats 1000000 in
theorem xs_b_tell_188 {S : ms} {t : X6} {K : ms → Prop} {k_K : X6 → Bool} (h : x_b_tell_188 t k_K = true) (hS : RM S t) (hK : ∀ {yS : ms} {yt : X6}, k_K yt = true → RM yS yt → K yS) : b_tell_188 S K := by
  unfold b_tell_188
  unfold x_b_tell_188 at h
  exact hK h hS
noncomputable def x_b_tell_167 (a_x1 : Nat) (a_x2 : Nat) (a_x3 : Nat) (a_x4 : Nat) (a_x7 : Nat) (a_x8 : Nat) (t : X6) (r_R74 : Nat → Nat → Nat → Nat → Nat → Nat → X6 → Bool) (k_K : X6 → Bool) : Bool :=
  frc (w_add a_x8 1) fun f1 => r_R74 a_x1 a_x2 a_x3 a_x4 a_x7 f1 t
set_option maxRecDepth 20000 in
set_option maxHeartbeats 1000000 in
theorem xs_b_tell_167 {x1 : Int32} {a_x1 : Nat} {x2 : Int32} {a_x2 : Nat} {x3 : Int32} {a_x3 : Nat} {x4 : Int32} {a_x4 : Nat} {x7 : Int32} {a_x7 : Nat} {x8 : Int32} {a_x8 : Nat} {S : ms} {t : X6} {R74 : Int32 → Int32 → Int32 → Int32 → Int32 → Int32 → ms → Prop} {r_R74 : Nat → Nat → Nat → Nat → Nat → Nat → X6 → Bool} {K : ms → Prop} {k_K : X6 → Bool} (h : x_b_tell_167 a_x1 a_x2 a_x3 a_x4 a_x7 a_x8 t r_R74 k_K = true) (e_x1 : x1 = Int32.ofNat a_x1) (e_x2 : x2 = Int32.ofNat a_x2) (e_x3 : x3 = Int32.ofNat a_x3) (e_x4 : x4 = Int32.ofNat a_x4) (e_x7 : x7 = Int32.ofNat a_x7) (e_x8 : x8 = Int32.ofNat a_x8) (hS : RM S t) (hR74 : ∀ {y0 : Int32} {b0 : Nat} {y1 : Int32} {b1 : Nat} {y2 : Int32} {b2 : Nat} {y3 : Int32} {b3 : Nat} {y4 : Int32} {b4 : Nat} {y5 : Int32} {b5 : Nat} {yS : ms} {yt : X6}, r_R74 b0 b1 b2 b3 b4 b5 yt = true → y0 = Int32.ofNat b0 → y1 = Int32.ofNat b1 → y2 = Int32.ofNat b2 → y3 = Int32.ofNat b3 → y4 = Int32.ofNat b4 → y5 = Int32.ofNat b5 → RM yS yt → R74 y0 y1 y2 y3 y4 y5 yS) (hK : ∀ {yS : ms} {yt : X6}, k_K yt = true → RM yS yt → K yS) : b_tell_167 x1 x2 x3 x4 x7 x8 S R74 K := by
  unfold b_tell_167
  unfold x_b_tell_167 at h
  have h := frc_ok h
  have p2 := n_add e_x8 ((rfl : (1 : Int32) = Int32.ofNat 1))
  exact hR74 h e_x1 e_x2 e_x3 e_x4 e_x7 p2 hS
noncomputable def x_b_tell_107 (a_x1 : Nat) (a_x2 : Nat) (a_x3 : Nat) (a_x4 : Nat) (a_x7 : Nat) (a_x8 : Nat) (a_x9 : Nat) (t : X6) (r_R74 : Nat → Nat → Nat → Nat → Nat → Nat → X6 → Bool) (r_R107 : Nat → Nat → Nat → Nat → Nat → Nat → Nat → X6 → Bool) (k_K : X6 → Bool) : Bool :=
  cond (!(w_lt 15 a_x7)) (x_p_bitsOf a_x9 (fun v145_ => frc (w_add a_x4 1) fun f2 => frc (w_add (w_mul 16 a_x7) v145_) fun f4 => x_p_symbol a_x1 f2 f4 t (fun t_S149 => x_p_bitsOf a_x9 (fun v158_ => x_p_number a_x1 a_x9 v158_ t_S149 (fun t_S161 => x_b_tell_167 a_x1 a_x2 a_x3 a_x4 0 a_x8 t_S161 r_R74 k_K))))) (frc (w_add a_x4 1) fun f6 => x_p_symbol a_x1 f6 240 t (fun t_S123 => frc (w_add a_x7 4294967280) fun f8 => r_R107 a_x1 a_x2 a_x3 a_x4 f8 a_x8 a_x9 t_S123))
set_option maxRecDepth 20000 in
set_option maxHeartbeats 1000000 in
theorem xs_b_tell_107 {x1 : Int32} {a_x1 : Nat} {x2 : Int32} {a_x2 : Nat} {x3 : Int32} {a_x3 : Nat} {x4 : Int32} {a_x4 : Nat} {x7 : Int32} {a_x7 : Nat} {x8 : Int32} {a_x8 : Nat} {x9 : Int32} {a_x9 : Nat} {S : ms} {t : X6} {R74 : Int32 → Int32 → Int32 → Int32 → Int32 → Int32 → ms → Prop} {r_R74 : Nat → Nat → Nat → Nat → Nat → Nat → X6 → Bool} {R107 : Int32 → Int32 → Int32 → Int32 → Int32 → Int32 → Int32 → ms → Prop} {r_R107 : Nat → Nat → Nat → Nat → Nat → Nat → Nat → X6 → Bool} {K : ms → Prop} {k_K : X6 → Bool} (h : x_b_tell_107 a_x1 a_x2 a_x3 a_x4 a_x7 a_x8 a_x9 t r_R74 r_R107 k_K = true) (e_x1 : x1 = Int32.ofNat a_x1) (e_x2 : x2 = Int32.ofNat a_x2) (e_x3 : x3 = Int32.ofNat a_x3) (e_x4 : x4 = Int32.ofNat a_x4) (e_x7 : x7 = Int32.ofNat a_x7) (e_x8 : x8 = Int32.ofNat a_x8) (e_x9 : x9 = Int32.ofNat a_x9) (hS : RM S t) (hR74 : ∀ {y0 : Int32} {b0 : Nat} {y1 : Int32} {b1 : Nat} {y2 : Int32} {b2 : Nat} {y3 : Int32} {b3 : Nat} {y4 : Int32} {b4 : Nat} {y5 : Int32} {b5 : Nat} {yS : ms} {yt : X6}, r_R74 b0 b1 b2 b3 b4 b5 yt = true → y0 = Int32.ofNat b0 → y1 = Int32.ofNat b1 → y2 = Int32.ofNat b2 → y3 = Int32.ofNat b3 → y4 = Int32.ofNat b4 → y5 = Int32.ofNat b5 → RM yS yt → R74 y0 y1 y2 y3 y4 y5 yS) (hR107 : ∀ {y0 : Int32} {b0 : Nat} {y1 : Int32} {b1 : Nat} {y2 : Int32} {b2 : Nat} {y3 : Int32} {b3 : Nat} {y4 : Int32} {b4 : Nat} {y5 : Int32} {b5 : Nat} {y6 : Int32} {b6 : Nat} {yS : ms} {yt : X6}, r_R107 b0 b1 b2 b3 b4 b5 b6 yt = true → y0 = Int32.ofNat b0 → y1 = Int32.ofNat b1 → y2 = Int32.ofNat b2 → y3 = Int32.ofNat b3 → y4 = Int32.ofNat b4 → y5 = Int32.ofNat b5 → y6 = Int32.ofNat b6 → RM yS yt → R107 y0 y1 y2 y3 y4 y5 y6 yS) (hK : ∀ {yS : ms} {yt : X6}, k_K yt = true → RM yS yt → K yS) : b_tell_107 x1 x2 x3 x4 x7 x8 x9 S R74 R107 K := by
  unfold b_tell_107
  unfold x_b_tell_107 at h
  have hc1 := c_le' e_x7 ((rfl : (15 : Int32) = Int32.ofNat 15))
  refine ⟨fun hc => ?_, fun hc => ?_⟩
  · have h := x_pos h (hc1.mp hc)
    refine xs_p_bitsOf h e_x9 (fun h e_v145 => ?_)
    have h := frc_ok h
    have p3 := n_add e_x4 ((rfl : (1 : Int32) = Int32.ofNat 1))
    have h := frc_ok h
    have p5 := n_add (n_mul ((rfl : (16 : Int32) = Int32.ofNat 16)) e_x7) e_v145
    refine xs_p_symbol h e_x1 p3 p5 hS (fun h h_S149 => ?_)
    refine xs_p_bitsOf h e_x9 (fun h e_v158 => ?_)
    refine xs_p_number h e_x1 e_x9 e_v158 h_S149 (fun h h_S161 => ?_)
    exact xs_b_tell_167 h e_x1 e_x2 e_x3 e_x4 ((rfl : (0 : Int32) = Int32.ofNat 0)) e_x8 h_S161 hR74 hK
  · have h := x_neg h (fun q => hc (hc1.mpr q))
    have h := frc_ok h
    have p7 := n_add e_x4 ((rfl : (1 : Int32) = Int32.ofNat 1))
    refine xs_p_symbol h e_x1 p7 ((rfl : (240 : Int32) = Int32.ofNat 240)) hS (fun h h_S123 => ?_)
    have h := frc_ok h
    have p9 := n_add e_x7 (((by decide) : (-16 : Int32) = Int32.ofNat 4294967280))
    exact hR107 h e_x1 e_x2 e_x3 e_x4 p9 e_x8 e_x9 h_S123
noncomputable def xl_e_tell_107 (r_R74 : Nat → Nat → Nat → Nat → Nat → Nat → X6 → Bool) (k_K : X6 → Bool) (n : Nat) : Nat → Nat → Nat → Nat → Nat → Nat → Nat → X6 → Bool := Nat.rec (motive := fun _ => Nat → Nat → Nat → Nat → Nat → Nat → Nat → X6 → Bool) (fun _ _ _ _ _ _ _ _ => false) (fun _ ih b_x1 b_x2 b_x3 b_x4 b_x7 b_x8 b_x9 bt => x_b_tell_107 b_x1 b_x2 b_x3 b_x4 b_x7 b_x8 b_x9 bt r_R74 ih k_K) n
noncomputable def x_e_tell_107 (a_x1 : Nat) (a_x2 : Nat) (a_x3 : Nat) (a_x4 : Nat) (a_x7 : Nat) (a_x8 : Nat) (a_x9 : Nat) (t : X6) (r_R74 : Nat → Nat → Nat → Nat → Nat → Nat → X6 → Bool) (k_K : X6 → Bool) : Bool := xl_e_tell_107 r_R74 k_K 200000 a_x1 a_x2 a_x3 a_x4 a_x7 a_x8 a_x9 t
def xq_e_tell_107 (r_R74 : Nat → Nat → Nat → Nat → Nat → Nat → X6 → Bool) (k_K : X6 → Bool) (n : Nat) (y_x1 : Int32) (y_x2 : Int32) (y_x3 : Int32) (y_x4 : Int32) (y_x7 : Int32) (y_x8 : Int32) (y_x9 : Int32) (yS : ms) : Prop := ∃ (b_x1 : Nat) (b_x2 : Nat) (b_x3 : Nat) (b_x4 : Nat) (b_x7 : Nat) (b_x8 : Nat) (b_x9 : Nat) (bt : X6), y_x1 = Int32.ofNat b_x1 ∧ y_x2 = Int32.ofNat b_x2 ∧ y_x3 = Int32.ofNat b_x3 ∧ y_x4 = Int32.ofNat b_x4 ∧ y_x7 = Int32.ofNat b_x7 ∧ y_x8 = Int32.ofNat b_x8 ∧ y_x9 = Int32.ofNat b_x9 ∧ RM yS bt ∧ xl_e_tell_107 r_R74 k_K n b_x1 b_x2 b_x3 b_x4 b_x7 b_x8 b_x9 bt = true
set_option maxRecDepth 20000 in
theorem xs_e_tell_107 {x1 : Int32} {a_x1 : Nat} {x2 : Int32} {a_x2 : Nat} {x3 : Int32} {a_x3 : Nat} {x4 : Int32} {a_x4 : Nat} {x7 : Int32} {a_x7 : Nat} {x8 : Int32} {a_x8 : Nat} {x9 : Int32} {a_x9 : Nat} {S : ms} {t : X6} {R74 : Int32 → Int32 → Int32 → Int32 → Int32 → Int32 → ms → Prop} {r_R74 : Nat → Nat → Nat → Nat → Nat → Nat → X6 → Bool} {K : ms → Prop} {k_K : X6 → Bool} (h : x_e_tell_107 a_x1 a_x2 a_x3 a_x4 a_x7 a_x8 a_x9 t r_R74 k_K = true) (e_x1 : x1 = Int32.ofNat a_x1) (e_x2 : x2 = Int32.ofNat a_x2) (e_x3 : x3 = Int32.ofNat a_x3) (e_x4 : x4 = Int32.ofNat a_x4) (e_x7 : x7 = Int32.ofNat a_x7) (e_x8 : x8 = Int32.ofNat a_x8) (e_x9 : x9 = Int32.ofNat a_x9) (hS : RM S t) (hR74 : ∀ {y0 : Int32} {b0 : Nat} {y1 : Int32} {b1 : Nat} {y2 : Int32} {b2 : Nat} {y3 : Int32} {b3 : Nat} {y4 : Int32} {b4 : Nat} {y5 : Int32} {b5 : Nat} {yS : ms} {yt : X6}, r_R74 b0 b1 b2 b3 b4 b5 yt = true → y0 = Int32.ofNat b0 → y1 = Int32.ofNat b1 → y2 = Int32.ofNat b2 → y3 = Int32.ofNat b3 → y4 = Int32.ofNat b4 → y5 = Int32.ofNat b5 → RM yS yt → R74 y0 y1 y2 y3 y4 y5 yS) (hK : ∀ {yS : ms} {yt : X6}, k_K yt = true → RM yS yt → K yS) : e_tell_107 x1 x2 x3 x4 x7 x8 x9 S R74 K := by
  refine ⟨fun y_x1 y_x2 y_x3 y_x4 y_x7 y_x8 y_x9 yS => ∃ n, xq_e_tell_107 r_R74 k_K n y_x1 y_x2 y_x3 y_x4 y_x7 y_x8 y_x9 yS, fun y_x1 y_x2 y_x3 y_x4 y_x7 y_x8 y_x9 yS => mf (fun n => xq_e_tell_107 r_R74 k_K n y_x1 y_x2 y_x3 y_x4 y_x7 y_x8 y_x9 yS), ⟨200000, a_x1, a_x2, a_x3, a_x4, a_x7, a_x8, a_x9, t, e_x1, e_x2, e_x3, e_x4, e_x7, e_x8, e_x9, hS, h⟩, fun y_x1 y_x2 y_x3 y_x4 y_x7 y_x8 y_x9 yS hI => ?_⟩
  obtain ⟨m, hm, hq⟩ := mf_ok hI
  obtain ⟨b_x1, b_x2, b_x3, b_x4, b_x7, b_x8, b_x9, bt, c_x1, c_x2, c_x3, c_x4, c_x7, c_x8, c_x9, cS, h⟩ := hq
  cases m with
  | zero => exact absurd h Bool.false_ne_true
  | succ n => exact xs_b_tell_107 h c_x1 c_x2 c_x3 c_x4 c_x7 c_x8 c_x9 cS hR74 (fun h d_x1 d_x2 d_x3 d_x4 d_x7 d_x8 d_x9 dS => ⟨⟨n, _, _, _, _, _, _, _, _, d_x1, d_x2, d_x3, d_x4, d_x7, d_x8, d_x9, dS, h⟩, Nat.lt_of_le_of_lt (mf_le ⟨_, _, _, _, _, _, _, _, d_x1, d_x2, d_x3, d_x4, d_x7, d_x8, d_x9, dS, h⟩) (Nat.lt_of_lt_of_eq (Nat.lt_succ_self n) hm.symm)⟩) hK
noncomputable def x_b_tell_74 (a_x1 : Nat) (a_x2 : Nat) (a_x3 : Nat) (a_x4 : Nat) (a_x7 : Nat) (a_x8 : Nat) (t : X6) (r_R74 : Nat → Nat → Nat → Nat → Nat → Nat → X6 → Bool) (k_K : X6 → Bool) : Bool :=
  cond (!(w_lt a_x8 64)) (cond (!(w_lt 0 a_x7)) (x_b_tell_188 t k_K) (frc (w_add a_x4 1) fun f3 => x_p_symbol a_x1 f3 0 t (fun t_S185 => x_b_tell_188 t_S185 k_K))) (x_p_levelCell 0 a_x2 a_x3 a_x8 (fun v90_ => and (Nat.blt v90_ 36864) <| rrw t 19 v90_ fun v6 => cond (w_eq v6 0) (frc (w_add a_x7 1) fun f9 => x_b_tell_167 a_x1 a_x2 a_x3 a_x4 f9 a_x8 t r_R74 k_K) (x_e_tell_107 a_x1 a_x2 a_x3 a_x4 a_x7 a_x8 v6 t r_R74 k_K)))
set_option maxRecDepth 20000 in
set_option maxHeartbeats 1000000 in
theorem xs_b_tell_74 {x1 : Int32} {a_x1 : Nat} {x2 : Int32} {a_x2 : Nat} {x3 : Int32} {a_x3 : Nat} {x4 : Int32} {a_x4 : Nat} {x7 : Int32} {a_x7 : Nat} {x8 : Int32} {a_x8 : Nat} {S : ms} {t : X6} {R74 : Int32 → Int32 → Int32 → Int32 → Int32 → Int32 → ms → Prop} {r_R74 : Nat → Nat → Nat → Nat → Nat → Nat → X6 → Bool} {K : ms → Prop} {k_K : X6 → Bool} (h : x_b_tell_74 a_x1 a_x2 a_x3 a_x4 a_x7 a_x8 t r_R74 k_K = true) (e_x1 : x1 = Int32.ofNat a_x1) (e_x2 : x2 = Int32.ofNat a_x2) (e_x3 : x3 = Int32.ofNat a_x3) (e_x4 : x4 = Int32.ofNat a_x4) (e_x7 : x7 = Int32.ofNat a_x7) (e_x8 : x8 = Int32.ofNat a_x8) (hS : RM S t) (hR74 : ∀ {y0 : Int32} {b0 : Nat} {y1 : Int32} {b1 : Nat} {y2 : Int32} {b2 : Nat} {y3 : Int32} {b3 : Nat} {y4 : Int32} {b4 : Nat} {y5 : Int32} {b5 : Nat} {yS : ms} {yt : X6}, r_R74 b0 b1 b2 b3 b4 b5 yt = true → y0 = Int32.ofNat b0 → y1 = Int32.ofNat b1 → y2 = Int32.ofNat b2 → y3 = Int32.ofNat b3 → y4 = Int32.ofNat b4 → y5 = Int32.ofNat b5 → RM yS yt → R74 y0 y1 y2 y3 y4 y5 yS) (hK : ∀ {yS : ms} {yt : X6}, k_K yt = true → RM yS yt → K yS) : b_tell_74 x1 x2 x3 x4 x7 x8 S R74 K := by
  unfold b_tell_74
  unfold x_b_tell_74 at h
  have hc1 := c_le' ((rfl : (64 : Int32) = Int32.ofNat 64)) e_x8
  refine ⟨fun hc => ?_, fun hc => ?_⟩
  · have h := x_pos h (hc1.mp hc)
    have hc2 := c_le' e_x7 ((rfl : (0 : Int32) = Int32.ofNat 0))
    refine ⟨fun hc => ?_, fun hc => ?_⟩
    · have h := x_pos h (hc2.mp hc)
      exact xs_b_tell_188 h hS hK
    · have h := x_neg h (fun q => hc (hc2.mpr q))
      have h := frc_ok h
      have p4 := n_add e_x4 ((rfl : (1 : Int32) = Int32.ofNat 1))
      refine xs_p_symbol h e_x1 p4 ((rfl : (0 : Int32) = Int32.ofNat 0)) hS (fun h h_S185 => ?_)
      exact xs_b_tell_188 h h_S185 hK
  · have h := x_neg h (fun q => hc (hc1.mpr q))
    refine xs_p_levelCell h ((rfl : (0 : Int32) = Int32.ofNat 0)) e_x2 e_x3 e_x8 (fun h e_v90 => ?_)
    obtain ⟨n5, h⟩ := an_ok h
    refine ⟨n_vp e_v90 n5 (by decide), ?_⟩
    obtain ⟨v6, h, q7⟩ := rrw_ok h hS (by decide) e_v90
    have hc8 := c_eq' q7 ((rfl : (0 : Int32) = Int32.ofNat 0))
    refine ⟨fun hc => ?_, fun hc => ?_⟩
    · have h := x_neg h (fun q => hc (hc8.mpr q))
      exact xs_e_tell_107 h e_x1 e_x2 e_x3 e_x4 e_x7 e_x8 q7 hS hR74 hK
    · have h := x_pos h (hc8.mp hc)
      have h := frc_ok h
      have p10 := n_add e_x7 ((rfl : (1 : Int32) = Int32.ofNat 1))
      exact xs_b_tell_167 h e_x1 e_x2 e_x3 e_x4 p10 e_x8 hS hR74 hK
noncomputable def xl_e_tell_74 (k_K : X6 → Bool) (n : Nat) : Nat → Nat → Nat → Nat → Nat → Nat → X6 → Bool := Nat.rec (motive := fun _ => Nat → Nat → Nat → Nat → Nat → Nat → X6 → Bool) (fun _ _ _ _ _ _ _ => false) (fun _ ih b_x1 b_x2 b_x3 b_x4 b_x7 b_x8 bt => x_b_tell_74 b_x1 b_x2 b_x3 b_x4 b_x7 b_x8 bt ih k_K) n
noncomputable def x_e_tell_74 (a_x1 : Nat) (a_x2 : Nat) (a_x3 : Nat) (a_x4 : Nat) (a_x7 : Nat) (a_x8 : Nat) (t : X6) (k_K : X6 → Bool) : Bool := xl_e_tell_74 k_K 200000 a_x1 a_x2 a_x3 a_x4 a_x7 a_x8 t
def xq_e_tell_74 (k_K : X6 → Bool) (n : Nat) (y_x1 : Int32) (y_x2 : Int32) (y_x3 : Int32) (y_x4 : Int32) (y_x7 : Int32) (y_x8 : Int32) (yS : ms) : Prop := ∃ (b_x1 : Nat) (b_x2 : Nat) (b_x3 : Nat) (b_x4 : Nat) (b_x7 : Nat) (b_x8 : Nat) (bt : X6), y_x1 = Int32.ofNat b_x1 ∧ y_x2 = Int32.ofNat b_x2 ∧ y_x3 = Int32.ofNat b_x3 ∧ y_x4 = Int32.ofNat b_x4 ∧ y_x7 = Int32.ofNat b_x7 ∧ y_x8 = Int32.ofNat b_x8 ∧ RM yS bt ∧ xl_e_tell_74 k_K n b_x1 b_x2 b_x3 b_x4 b_x7 b_x8 bt = true
set_option maxRecDepth 20000 in
theorem xs_e_tell_74 {x1 : Int32} {a_x1 : Nat} {x2 : Int32} {a_x2 : Nat} {x3 : Int32} {a_x3 : Nat} {x4 : Int32} {a_x4 : Nat} {x7 : Int32} {a_x7 : Nat} {x8 : Int32} {a_x8 : Nat} {S : ms} {t : X6} {K : ms → Prop} {k_K : X6 → Bool} (h : x_e_tell_74 a_x1 a_x2 a_x3 a_x4 a_x7 a_x8 t k_K = true) (e_x1 : x1 = Int32.ofNat a_x1) (e_x2 : x2 = Int32.ofNat a_x2) (e_x3 : x3 = Int32.ofNat a_x3) (e_x4 : x4 = Int32.ofNat a_x4) (e_x7 : x7 = Int32.ofNat a_x7) (e_x8 : x8 = Int32.ofNat a_x8) (hS : RM S t) (hK : ∀ {yS : ms} {yt : X6}, k_K yt = true → RM yS yt → K yS) : e_tell_74 x1 x2 x3 x4 x7 x8 S K := by
  refine ⟨fun y_x1 y_x2 y_x3 y_x4 y_x7 y_x8 yS => ∃ n, xq_e_tell_74 k_K n y_x1 y_x2 y_x3 y_x4 y_x7 y_x8 yS, fun y_x1 y_x2 y_x3 y_x4 y_x7 y_x8 yS => mf (fun n => xq_e_tell_74 k_K n y_x1 y_x2 y_x3 y_x4 y_x7 y_x8 yS), ⟨200000, a_x1, a_x2, a_x3, a_x4, a_x7, a_x8, t, e_x1, e_x2, e_x3, e_x4, e_x7, e_x8, hS, h⟩, fun y_x1 y_x2 y_x3 y_x4 y_x7 y_x8 yS hI => ?_⟩
  obtain ⟨m, hm, hq⟩ := mf_ok hI
  obtain ⟨b_x1, b_x2, b_x3, b_x4, b_x7, b_x8, bt, c_x1, c_x2, c_x3, c_x4, c_x7, c_x8, cS, h⟩ := hq
  cases m with
  | zero => exact absurd h Bool.false_ne_true
  | succ n => exact xs_b_tell_74 h c_x1 c_x2 c_x3 c_x4 c_x7 c_x8 cS (fun h d_x1 d_x2 d_x3 d_x4 d_x7 d_x8 dS => ⟨⟨n, _, _, _, _, _, _, _, d_x1, d_x2, d_x3, d_x4, d_x7, d_x8, dS, h⟩, Nat.lt_of_le_of_lt (mf_le ⟨_, _, _, _, _, _, _, d_x1, d_x2, d_x3, d_x4, d_x7, d_x8, dS, h⟩) (Nat.lt_of_lt_of_eq (Nat.lt_succ_self n) hm.symm)⟩) hK
noncomputable def x_b_tell_9 (a_x1 : Nat) (a_x2 : Nat) (a_x3 : Nat) (a_s0 : Nat) (t : X6) (k_K : X6 → Bool) : Bool :=
  x_p_levelCell 0 a_x2 a_x3 0 (fun v19_ => and (Nat.blt v19_ 36864) <| and (Nat.blt a_x2 3) <| rrw t 19 v19_ fun v3 => rrw t 53 a_x2 fun v5 => frc (w_sub v3 v5) fun f7 => x_p_bitsOf f7 (fun v50_ => wrw t 53 a_x2 v3 fun t9 => x_p_symbol a_x1 a_s0 v50_ t9 (fun t_S53 => x_p_bitsOf f7 (fun v62_ => x_p_number a_x1 f7 v62_ t_S53 (fun t_S65 => x_e_tell_74 a_x1 a_x2 a_x3 a_s0 0 1 t_S65 k_K)))))
set_option maxRecDepth 20000 in
set_option maxHeartbeats 1000000 in
theorem xs_b_tell_9 {x1 : Int32} {a_x1 : Nat} {x2 : Int32} {a_x2 : Nat} {x3 : Int32} {a_x3 : Nat} {s0 : Int32} {a_s0 : Nat} {S : ms} {t : X6} {K : ms → Prop} {k_K : X6 → Bool} (h : x_b_tell_9 a_x1 a_x2 a_x3 a_s0 t k_K = true) (e_x1 : x1 = Int32.ofNat a_x1) (e_x2 : x2 = Int32.ofNat a_x2) (e_x3 : x3 = Int32.ofNat a_x3) (e_s0 : s0 = Int32.ofNat a_s0) (hS : RM S t) (hK : ∀ {yS : ms} {yt : X6}, k_K yt = true → RM yS yt → K yS) : b_tell_9 x1 x2 x3 s0 S K := by
  unfold b_tell_9
  unfold x_b_tell_9 at h
  refine xs_p_levelCell h ((rfl : (0 : Int32) = Int32.ofNat 0)) e_x2 e_x3 ((rfl : (0 : Int32) = Int32.ofNat 0)) (fun h e_v19 => ?_)
  obtain ⟨n1, h⟩ := an_ok h
  refine ⟨n_vp e_v19 n1 (by decide), ?_⟩
  obtain ⟨n2, h⟩ := an_ok h
  refine ⟨n_vp e_x2 n2 (by decide), ?_⟩
  refine ⟨n_vp e_x2 n2 (by decide), ?_⟩
  obtain ⟨v3, h, q4⟩ := rrw_ok h hS (by decide) e_v19
  obtain ⟨v5, h, q6⟩ := rrw_ok h hS (by decide) e_x2
  have h := frc_ok h
  have p8 := n_sub q4 q6
  refine xs_p_bitsOf h p8 (fun h e_v50 => ?_)
  obtain ⟨t9, h, hS10⟩ := wrw_ok h hS (by decide) e_x2 q4
  refine xs_p_symbol h e_x1 e_s0 e_v50 hS10 (fun h h_S53 => ?_)
  refine xs_p_bitsOf h p8 (fun h e_v62 => ?_)
  refine xs_p_number h e_x1 p8 e_v62 h_S53 (fun h h_S65 => ?_)
  exact xs_e_tell_74 h e_x1 e_x2 e_x3 e_s0 ((rfl : (0 : Int32) = Int32.ofNat 0)) ((rfl : (1 : Int32) = Int32.ofNat 1)) h_S65 hK
noncomputable def x_p_tell (a_x1 : Nat) (a_x2 : Nat) (a_x3 : Nat) (t : X6) (k_K : X6 → Bool) : Bool :=
  cond (w_eq a_x2 0) (x_b_tell_9 a_x1 a_x2 a_x3 0 t k_K) (x_b_tell_9 a_x1 a_x2 a_x3 2 t k_K)
set_option maxRecDepth 20000 in
set_option maxHeartbeats 1000000 in
theorem xs_p_tell {x1 : Int32} {a_x1 : Nat} {x2 : Int32} {a_x2 : Nat} {x3 : Int32} {a_x3 : Nat} {S : ms} {t : X6} {K : ms → Prop} {k_K : X6 → Bool} (h : x_p_tell a_x1 a_x2 a_x3 t k_K = true) (e_x1 : x1 = Int32.ofNat a_x1) (e_x2 : x2 = Int32.ofNat a_x2) (e_x3 : x3 = Int32.ofNat a_x3) (hS : RM S t) (hK : ∀ {yS : ms} {yt : X6}, k_K yt = true → RM yS yt → K yS) : p_tell x1 x2 x3 S K := by
  unfold p_tell
  unfold x_p_tell at h
  have hc1 := c_eq' e_x2 ((rfl : (0 : Int32) = Int32.ofNat 0))
  refine ⟨fun hc => ?_, fun hc => ?_⟩
  · have h := x_neg h (fun q => hc (hc1.mpr q))
    exact xs_b_tell_9 h e_x1 e_x2 e_x3 ((rfl : (2 : Int32) = Int32.ofNat 2)) hS hK
  · have h := x_pos h (hc1.mp hc)
    exact xs_b_tell_9 h e_x1 e_x2 e_x3 ((rfl : (0 : Int32) = Int32.ofNat 0)) hS hK
noncomputable def x_b_units_261 (a_x1 : Nat) (a_x2 : Nat) (a_x3 : Nat) (a_x6 : Nat) (a_x7 : Nat) (a_x8 : Nat) (a_x9 : Nat) (a_x10 : Nat) (a_x11 : Nat) (a_x12 : Nat) (a_x13 : Nat) (a_x14 : Nat) (t : X6) (r_R122 : Nat → Nat → Nat → Nat → Nat → Nat → X6 → Bool) (r_R213 : Nat → Nat → Nat → Nat → Nat → Nat → Nat → Nat → Nat → X6 → Bool) (r_R261 : Nat → Nat → Nat → Nat → Nat → Nat → Nat → Nat → Nat → Nat → Nat → Nat → X6 → Bool) (k_K : X6 → Bool) : Bool :=
  cond (!(w_lt a_x14 (w_mul a_x12 a_x13))) (frc (w_add a_x11 1) fun f2 => r_R213 a_x1 a_x2 a_x3 a_x6 a_x7 a_x8 a_x9 a_x10 f2 t) (cond (w_eq a_x12 0) false <| cond (w_eq a_x12 0) false <| and (Nat.blt a_x11 9) <| rrw t 17 a_x11 fun v7 => frc (w_add (w_mul (w_add (w_mul a_x10 a_x13) (w_div a_x14 a_x12)) v7) (w_add (w_mul a_x9 a_x12) (w_sub a_x14 (w_mul (w_div a_x14 a_x12) a_x12)))) fun f9 => x_p_tell a_x1 a_x11 f9 t (fun t_S314 => frc (w_add a_x14 1) fun f11 => r_R261 a_x1 a_x2 a_x3 a_x6 a_x7 a_x8 a_x9 a_x10 a_x11 a_x12 a_x13 f11 t_S314))
set_option maxRecDepth 20000 in
set_option maxHeartbeats 1000000 in
theorem xs_b_units_261 {x1 : Int32} {a_x1 : Nat} {x2 : Int32} {a_x2 : Nat} {x3 : Int32} {a_x3 : Nat} {x6 : Int32} {a_x6 : Nat} {x7 : Int32} {a_x7 : Nat} {x8 : Int32} {a_x8 : Nat} {x9 : Int32} {a_x9 : Nat} {x10 : Int32} {a_x10 : Nat} {x11 : Int32} {a_x11 : Nat} {x12 : Int32} {a_x12 : Nat} {x13 : Int32} {a_x13 : Nat} {x14 : Int32} {a_x14 : Nat} {S : ms} {t : X6} {R122 : Int32 → Int32 → Int32 → Int32 → Int32 → Int32 → ms → Prop} {r_R122 : Nat → Nat → Nat → Nat → Nat → Nat → X6 → Bool} {R213 : Int32 → Int32 → Int32 → Int32 → Int32 → Int32 → Int32 → Int32 → Int32 → ms → Prop} {r_R213 : Nat → Nat → Nat → Nat → Nat → Nat → Nat → Nat → Nat → X6 → Bool} {R261 : Int32 → Int32 → Int32 → Int32 → Int32 → Int32 → Int32 → Int32 → Int32 → Int32 → Int32 → Int32 → ms → Prop} {r_R261 : Nat → Nat → Nat → Nat → Nat → Nat → Nat → Nat → Nat → Nat → Nat → Nat → X6 → Bool} {K : ms → Prop} {k_K : X6 → Bool} (h : x_b_units_261 a_x1 a_x2 a_x3 a_x6 a_x7 a_x8 a_x9 a_x10 a_x11 a_x12 a_x13 a_x14 t r_R122 r_R213 r_R261 k_K = true) (e_x1 : x1 = Int32.ofNat a_x1) (e_x2 : x2 = Int32.ofNat a_x2) (e_x3 : x3 = Int32.ofNat a_x3) (e_x6 : x6 = Int32.ofNat a_x6) (e_x7 : x7 = Int32.ofNat a_x7) (e_x8 : x8 = Int32.ofNat a_x8) (e_x9 : x9 = Int32.ofNat a_x9) (e_x10 : x10 = Int32.ofNat a_x10) (e_x11 : x11 = Int32.ofNat a_x11) (e_x12 : x12 = Int32.ofNat a_x12) (e_x13 : x13 = Int32.ofNat a_x13) (e_x14 : x14 = Int32.ofNat a_x14) (hS : RM S t) (hR122 : ∀ {y0 : Int32} {b0 : Nat} {y1 : Int32} {b1 : Nat} {y2 : Int32} {b2 : Nat} {y3 : Int32} {b3 : Nat} {y4 : Int32} {b4 : Nat} {y5 : Int32} {b5 : Nat} {yS : ms} {yt : X6}, r_R122 b0 b1 b2 b3 b4 b5 yt = true → y0 = Int32.ofNat b0 → y1 = Int32.ofNat b1 → y2 = Int32.ofNat b2 → y3 = Int32.ofNat b3 → y4 = Int32.ofNat b4 → y5 = Int32.ofNat b5 → RM yS yt → R122 y0 y1 y2 y3 y4 y5 yS) (hR213 : ∀ {y0 : Int32} {b0 : Nat} {y1 : Int32} {b1 : Nat} {y2 : Int32} {b2 : Nat} {y3 : Int32} {b3 : Nat} {y4 : Int32} {b4 : Nat} {y5 : Int32} {b5 : Nat} {y6 : Int32} {b6 : Nat} {y7 : Int32} {b7 : Nat} {y8 : Int32} {b8 : Nat} {yS : ms} {yt : X6}, r_R213 b0 b1 b2 b3 b4 b5 b6 b7 b8 yt = true → y0 = Int32.ofNat b0 → y1 = Int32.ofNat b1 → y2 = Int32.ofNat b2 → y3 = Int32.ofNat b3 → y4 = Int32.ofNat b4 → y5 = Int32.ofNat b5 → y6 = Int32.ofNat b6 → y7 = Int32.ofNat b7 → y8 = Int32.ofNat b8 → RM yS yt → R213 y0 y1 y2 y3 y4 y5 y6 y7 y8 yS) (hR261 : ∀ {y0 : Int32} {b0 : Nat} {y1 : Int32} {b1 : Nat} {y2 : Int32} {b2 : Nat} {y3 : Int32} {b3 : Nat} {y4 : Int32} {b4 : Nat} {y5 : Int32} {b5 : Nat} {y6 : Int32} {b6 : Nat} {y7 : Int32} {b7 : Nat} {y8 : Int32} {b8 : Nat} {y9 : Int32} {b9 : Nat} {y10 : Int32} {b10 : Nat} {y11 : Int32} {b11 : Nat} {yS : ms} {yt : X6}, r_R261 b0 b1 b2 b3 b4 b5 b6 b7 b8 b9 b10 b11 yt = true → y0 = Int32.ofNat b0 → y1 = Int32.ofNat b1 → y2 = Int32.ofNat b2 → y3 = Int32.ofNat b3 → y4 = Int32.ofNat b4 → y5 = Int32.ofNat b5 → y6 = Int32.ofNat b6 → y7 = Int32.ofNat b7 → y8 = Int32.ofNat b8 → y9 = Int32.ofNat b9 → y10 = Int32.ofNat b10 → y11 = Int32.ofNat b11 → RM yS yt → R261 y0 y1 y2 y3 y4 y5 y6 y7 y8 y9 y10 y11 yS) (hK : ∀ {yS : ms} {yt : X6}, k_K yt = true → RM yS yt → K yS) : b_units_261 x1 x2 x3 x6 x7 x8 x9 x10 x11 x12 x13 x14 S R122 R213 R261 K := by
  unfold b_units_261
  unfold x_b_units_261 at h
  have hc1 := c_le' (n_mul e_x12 e_x13) e_x14
  refine ⟨fun hc => ?_, fun hc => ?_⟩
  · have h := x_pos h (hc1.mp hc)
    have h := frc_ok h
    have p3 := n_add e_x11 ((rfl : (1 : Int32) = Int32.ofNat 1))
    exact hR213 h e_x1 e_x2 e_x3 e_x6 e_x7 e_x8 e_x9 e_x10 p3 hS
  · have h := x_neg h (fun q => hc (hc1.mpr q))
    obtain ⟨n4, h⟩ := nu_ok h
    refine ⟨fun q => absurd ((c_eq' e_x12 ((rfl : (0 : Int32) = Int32.ofNat 0))).mp q) (by rw [n4]; exact Bool.false_ne_true), ?_⟩
    obtain ⟨n5, h⟩ := nu_ok h
    refine ⟨fun q => absurd ((c_eq' e_x12 ((rfl : (0 : Int32) = Int32.ofNat 0))).mp q) (by rw [n5]; exact Bool.false_ne_true), ?_⟩
    obtain ⟨n6, h⟩ := an_ok h
    refine ⟨n_vp e_x11 n6 (by decide), ?_⟩
    obtain ⟨v7, h, q8⟩ := rrw_ok h hS (by decide) e_x11
    have h := frc_ok h
    have p10 := n_add (n_mul (n_add (n_mul e_x10 e_x13) (n_div e_x14 e_x12)) q8) (n_add (n_mul e_x9 e_x12) (n_sub e_x14 (n_mul (n_div e_x14 e_x12) e_x12)))
    refine xs_p_tell h e_x1 e_x11 p10 hS (fun h h_S314 => ?_)
    have h := frc_ok h
    have p12 := n_add e_x14 ((rfl : (1 : Int32) = Int32.ofNat 1))
    exact hR261 h e_x1 e_x2 e_x3 e_x6 e_x7 e_x8 e_x9 e_x10 e_x11 e_x12 e_x13 p12 h_S314
noncomputable def xl_e_units_261 (r_R122 : Nat → Nat → Nat → Nat → Nat → Nat → X6 → Bool) (r_R213 : Nat → Nat → Nat → Nat → Nat → Nat → Nat → Nat → Nat → X6 → Bool) (k_K : X6 → Bool) (n : Nat) : Nat → Nat → Nat → Nat → Nat → Nat → Nat → Nat → Nat → Nat → Nat → Nat → X6 → Bool := Nat.rec (motive := fun _ => Nat → Nat → Nat → Nat → Nat → Nat → Nat → Nat → Nat → Nat → Nat → Nat → X6 → Bool) (fun _ _ _ _ _ _ _ _ _ _ _ _ _ => false) (fun _ ih b_x1 b_x2 b_x3 b_x6 b_x7 b_x8 b_x9 b_x10 b_x11 b_x12 b_x13 b_x14 bt => x_b_units_261 b_x1 b_x2 b_x3 b_x6 b_x7 b_x8 b_x9 b_x10 b_x11 b_x12 b_x13 b_x14 bt r_R122 r_R213 ih k_K) n
noncomputable def x_e_units_261 (a_x1 : Nat) (a_x2 : Nat) (a_x3 : Nat) (a_x6 : Nat) (a_x7 : Nat) (a_x8 : Nat) (a_x9 : Nat) (a_x10 : Nat) (a_x11 : Nat) (a_x12 : Nat) (a_x13 : Nat) (a_x14 : Nat) (t : X6) (r_R122 : Nat → Nat → Nat → Nat → Nat → Nat → X6 → Bool) (r_R213 : Nat → Nat → Nat → Nat → Nat → Nat → Nat → Nat → Nat → X6 → Bool) (k_K : X6 → Bool) : Bool := xl_e_units_261 r_R122 r_R213 k_K 200000 a_x1 a_x2 a_x3 a_x6 a_x7 a_x8 a_x9 a_x10 a_x11 a_x12 a_x13 a_x14 t
def xq_e_units_261 (r_R122 : Nat → Nat → Nat → Nat → Nat → Nat → X6 → Bool) (r_R213 : Nat → Nat → Nat → Nat → Nat → Nat → Nat → Nat → Nat → X6 → Bool) (k_K : X6 → Bool) (n : Nat) (y_x1 : Int32) (y_x2 : Int32) (y_x3 : Int32) (y_x6 : Int32) (y_x7 : Int32) (y_x8 : Int32) (y_x9 : Int32) (y_x10 : Int32) (y_x11 : Int32) (y_x12 : Int32) (y_x13 : Int32) (y_x14 : Int32) (yS : ms) : Prop := ∃ (b_x1 : Nat) (b_x2 : Nat) (b_x3 : Nat) (b_x6 : Nat) (b_x7 : Nat) (b_x8 : Nat) (b_x9 : Nat) (b_x10 : Nat) (b_x11 : Nat) (b_x12 : Nat) (b_x13 : Nat) (b_x14 : Nat) (bt : X6), y_x1 = Int32.ofNat b_x1 ∧ y_x2 = Int32.ofNat b_x2 ∧ y_x3 = Int32.ofNat b_x3 ∧ y_x6 = Int32.ofNat b_x6 ∧ y_x7 = Int32.ofNat b_x7 ∧ y_x8 = Int32.ofNat b_x8 ∧ y_x9 = Int32.ofNat b_x9 ∧ y_x10 = Int32.ofNat b_x10 ∧ y_x11 = Int32.ofNat b_x11 ∧ y_x12 = Int32.ofNat b_x12 ∧ y_x13 = Int32.ofNat b_x13 ∧ y_x14 = Int32.ofNat b_x14 ∧ RM yS bt ∧ xl_e_units_261 r_R122 r_R213 k_K n b_x1 b_x2 b_x3 b_x6 b_x7 b_x8 b_x9 b_x10 b_x11 b_x12 b_x13 b_x14 bt = true
set_option maxRecDepth 20000 in
theorem xs_e_units_261 {x1 : Int32} {a_x1 : Nat} {x2 : Int32} {a_x2 : Nat} {x3 : Int32} {a_x3 : Nat} {x6 : Int32} {a_x6 : Nat} {x7 : Int32} {a_x7 : Nat} {x8 : Int32} {a_x8 : Nat} {x9 : Int32} {a_x9 : Nat} {x10 : Int32} {a_x10 : Nat} {x11 : Int32} {a_x11 : Nat} {x12 : Int32} {a_x12 : Nat} {x13 : Int32} {a_x13 : Nat} {x14 : Int32} {a_x14 : Nat} {S : ms} {t : X6} {R122 : Int32 → Int32 → Int32 → Int32 → Int32 → Int32 → ms → Prop} {r_R122 : Nat → Nat → Nat → Nat → Nat → Nat → X6 → Bool} {R213 : Int32 → Int32 → Int32 → Int32 → Int32 → Int32 → Int32 → Int32 → Int32 → ms → Prop} {r_R213 : Nat → Nat → Nat → Nat → Nat → Nat → Nat → Nat → Nat → X6 → Bool} {K : ms → Prop} {k_K : X6 → Bool} (h : x_e_units_261 a_x1 a_x2 a_x3 a_x6 a_x7 a_x8 a_x9 a_x10 a_x11 a_x12 a_x13 a_x14 t r_R122 r_R213 k_K = true) (e_x1 : x1 = Int32.ofNat a_x1) (e_x2 : x2 = Int32.ofNat a_x2) (e_x3 : x3 = Int32.ofNat a_x3) (e_x6 : x6 = Int32.ofNat a_x6) (e_x7 : x7 = Int32.ofNat a_x7) (e_x8 : x8 = Int32.ofNat a_x8) (e_x9 : x9 = Int32.ofNat a_x9) (e_x10 : x10 = Int32.ofNat a_x10) (e_x11 : x11 = Int32.ofNat a_x11) (e_x12 : x12 = Int32.ofNat a_x12) (e_x13 : x13 = Int32.ofNat a_x13) (e_x14 : x14 = Int32.ofNat a_x14) (hS : RM S t) (hR122 : ∀ {y0 : Int32} {b0 : Nat} {y1 : Int32} {b1 : Nat} {y2 : Int32} {b2 : Nat} {y3 : Int32} {b3 : Nat} {y4 : Int32} {b4 : Nat} {y5 : Int32} {b5 : Nat} {yS : ms} {yt : X6}, r_R122 b0 b1 b2 b3 b4 b5 yt = true → y0 = Int32.ofNat b0 → y1 = Int32.ofNat b1 → y2 = Int32.ofNat b2 → y3 = Int32.ofNat b3 → y4 = Int32.ofNat b4 → y5 = Int32.ofNat b5 → RM yS yt → R122 y0 y1 y2 y3 y4 y5 yS) (hR213 : ∀ {y0 : Int32} {b0 : Nat} {y1 : Int32} {b1 : Nat} {y2 : Int32} {b2 : Nat} {y3 : Int32} {b3 : Nat} {y4 : Int32} {b4 : Nat} {y5 : Int32} {b5 : Nat} {y6 : Int32} {b6 : Nat} {y7 : Int32} {b7 : Nat} {y8 : Int32} {b8 : Nat} {yS : ms} {yt : X6}, r_R213 b0 b1 b2 b3 b4 b5 b6 b7 b8 yt = true → y0 = Int32.ofNat b0 → y1 = Int32.ofNat b1 → y2 = Int32.ofNat b2 → y3 = Int32.ofNat b3 → y4 = Int32.ofNat b4 → y5 = Int32.ofNat b5 → y6 = Int32.ofNat b6 → y7 = Int32.ofNat b7 → y8 = Int32.ofNat b8 → RM yS yt → R213 y0 y1 y2 y3 y4 y5 y6 y7 y8 yS) (hK : ∀ {yS : ms} {yt : X6}, k_K yt = true → RM yS yt → K yS) : e_units_261 x1 x2 x3 x6 x7 x8 x9 x10 x11 x12 x13 x14 S R122 R213 K := by
  refine ⟨fun y_x1 y_x2 y_x3 y_x6 y_x7 y_x8 y_x9 y_x10 y_x11 y_x12 y_x13 y_x14 yS => ∃ n, xq_e_units_261 r_R122 r_R213 k_K n y_x1 y_x2 y_x3 y_x6 y_x7 y_x8 y_x9 y_x10 y_x11 y_x12 y_x13 y_x14 yS, fun y_x1 y_x2 y_x3 y_x6 y_x7 y_x8 y_x9 y_x10 y_x11 y_x12 y_x13 y_x14 yS => mf (fun n => xq_e_units_261 r_R122 r_R213 k_K n y_x1 y_x2 y_x3 y_x6 y_x7 y_x8 y_x9 y_x10 y_x11 y_x12 y_x13 y_x14 yS), ⟨200000, a_x1, a_x2, a_x3, a_x6, a_x7, a_x8, a_x9, a_x10, a_x11, a_x12, a_x13, a_x14, t, e_x1, e_x2, e_x3, e_x6, e_x7, e_x8, e_x9, e_x10, e_x11, e_x12, e_x13, e_x14, hS, h⟩, fun y_x1 y_x2 y_x3 y_x6 y_x7 y_x8 y_x9 y_x10 y_x11 y_x12 y_x13 y_x14 yS hI => ?_⟩
  obtain ⟨m, hm, hq⟩ := mf_ok hI
  obtain ⟨b_x1, b_x2, b_x3, b_x6, b_x7, b_x8, b_x9, b_x10, b_x11, b_x12, b_x13, b_x14, bt, c_x1, c_x2, c_x3, c_x6, c_x7, c_x8, c_x9, c_x10, c_x11, c_x12, c_x13, c_x14, cS, h⟩ := hq
  cases m with
  | zero => exact absurd h Bool.false_ne_true
  | succ n => exact xs_b_units_261 h c_x1 c_x2 c_x3 c_x6 c_x7 c_x8 c_x9 c_x10 c_x11 c_x12 c_x13 c_x14 cS hR122 hR213 (fun h d_x1 d_x2 d_x3 d_x6 d_x7 d_x8 d_x9 d_x10 d_x11 d_x12 d_x13 d_x14 dS => ⟨⟨n, _, _, _, _, _, _, _, _, _, _, _, _, _, d_x1, d_x2, d_x3, d_x6, d_x7, d_x8, d_x9, d_x10, d_x11, d_x12, d_x13, d_x14, dS, h⟩, Nat.lt_of_le_of_lt (mf_le ⟨_, _, _, _, _, _, _, _, _, _, _, _, _, d_x1, d_x2, d_x3, d_x6, d_x7, d_x8, d_x9, d_x10, d_x11, d_x12, d_x13, d_x14, dS, h⟩) (Nat.lt_of_lt_of_eq (Nat.lt_succ_self n) hm.symm)⟩) hK
noncomputable def x_b_units_256 (a_x1 : Nat) (a_x2 : Nat) (a_x3 : Nat) (a_x6 : Nat) (a_x7 : Nat) (a_x8 : Nat) (a_x9 : Nat) (a_x10 : Nat) (a_x11 : Nat) (a_x12 : Nat) (a_s0 : Nat) (t : X6) (r_R122 : Nat → Nat → Nat → Nat → Nat → Nat → X6 → Bool) (r_R213 : Nat → Nat → Nat → Nat → Nat → Nat → Nat → Nat → Nat → X6 → Bool) (k_K : X6 → Bool) : Bool :=
  x_e_units_261 a_x1 a_x2 a_x3 a_x6 a_x7 a_x8 a_x9 a_x10 a_x11 a_x12 a_s0 0 t r_R122 r_R213 k_K
set_option maxRecDepth 20000 in
set_option maxHeartbeats 1000000 in
theorem xs_b_units_256 {x1 : Int32} {a_x1 : Nat} {x2 : Int32} {a_x2 : Nat} {x3 : Int32} {a_x3 : Nat} {x6 : Int32} {a_x6 : Nat} {x7 : Int32} {a_x7 : Nat} {x8 : Int32} {a_x8 : Nat} {x9 : Int32} {a_x9 : Nat} {x10 : Int32} {a_x10 : Nat} {x11 : Int32} {a_x11 : Nat} {x12 : Int32} {a_x12 : Nat} {s0 : Int32} {a_s0 : Nat} {S : ms} {t : X6} {R122 : Int32 → Int32 → Int32 → Int32 → Int32 → Int32 → ms → Prop} {r_R122 : Nat → Nat → Nat → Nat → Nat → Nat → X6 → Bool} {R213 : Int32 → Int32 → Int32 → Int32 → Int32 → Int32 → Int32 → Int32 → Int32 → ms → Prop} {r_R213 : Nat → Nat → Nat → Nat → Nat → Nat → Nat → Nat → Nat → X6 → Bool} {K : ms → Prop} {k_K : X6 → Bool} (h : x_b_units_256 a_x1 a_x2 a_x3 a_x6 a_x7 a_x8 a_x9 a_x10 a_x11 a_x12 a_s0 t r_R122 r_R213 k_K = true) (e_x1 : x1 = Int32.ofNat a_x1) (e_x2 : x2 = Int32.ofNat a_x2) (e_x3 : x3 = Int32.ofNat a_x3) (e_x6 : x6 = Int32.ofNat a_x6) (e_x7 : x7 = Int32.ofNat a_x7) (e_x8 : x8 = Int32.ofNat a_x8) (e_x9 : x9 = Int32.ofNat a_x9) (e_x10 : x10 = Int32.ofNat a_x10) (e_x11 : x11 = Int32.ofNat a_x11) (e_x12 : x12 = Int32.ofNat a_x12) (e_s0 : s0 = Int32.ofNat a_s0) (hS : RM S t) (hR122 : ∀ {y0 : Int32} {b0 : Nat} {y1 : Int32} {b1 : Nat} {y2 : Int32} {b2 : Nat} {y3 : Int32} {b3 : Nat} {y4 : Int32} {b4 : Nat} {y5 : Int32} {b5 : Nat} {yS : ms} {yt : X6}, r_R122 b0 b1 b2 b3 b4 b5 yt = true → y0 = Int32.ofNat b0 → y1 = Int32.ofNat b1 → y2 = Int32.ofNat b2 → y3 = Int32.ofNat b3 → y4 = Int32.ofNat b4 → y5 = Int32.ofNat b5 → RM yS yt → R122 y0 y1 y2 y3 y4 y5 yS) (hR213 : ∀ {y0 : Int32} {b0 : Nat} {y1 : Int32} {b1 : Nat} {y2 : Int32} {b2 : Nat} {y3 : Int32} {b3 : Nat} {y4 : Int32} {b4 : Nat} {y5 : Int32} {b5 : Nat} {y6 : Int32} {b6 : Nat} {y7 : Int32} {b7 : Nat} {y8 : Int32} {b8 : Nat} {yS : ms} {yt : X6}, r_R213 b0 b1 b2 b3 b4 b5 b6 b7 b8 yt = true → y0 = Int32.ofNat b0 → y1 = Int32.ofNat b1 → y2 = Int32.ofNat b2 → y3 = Int32.ofNat b3 → y4 = Int32.ofNat b4 → y5 = Int32.ofNat b5 → y6 = Int32.ofNat b6 → y7 = Int32.ofNat b7 → y8 = Int32.ofNat b8 → RM yS yt → R213 y0 y1 y2 y3 y4 y5 y6 y7 y8 yS) (hK : ∀ {yS : ms} {yt : X6}, k_K yt = true → RM yS yt → K yS) : b_units_256 x1 x2 x3 x6 x7 x8 x9 x10 x11 x12 s0 S R122 R213 K := by
  unfold b_units_256
  unfold x_b_units_256 at h
  exact xs_e_units_261 h e_x1 e_x2 e_x3 e_x6 e_x7 e_x8 e_x9 e_x10 e_x11 e_x12 e_s0 ((rfl : (0 : Int32) = Int32.ofNat 0)) hS hR122 hR213 hK
noncomputable def x_b_units_239 (a_x1 : Nat) (a_x2 : Nat) (a_x3 : Nat) (a_x6 : Nat) (a_x7 : Nat) (a_x8 : Nat) (a_x9 : Nat) (a_x10 : Nat) (a_x11 : Nat) (a_s0 : Nat) (t : X6) (r_R122 : Nat → Nat → Nat → Nat → Nat → Nat → X6 → Bool) (r_R213 : Nat → Nat → Nat → Nat → Nat → Nat → Nat → Nat → Nat → X6 → Bool) (k_K : X6 → Bool) : Bool :=
  cond (w_eq a_x3 0) (and (Nat.blt a_x11 9) <| rrw t 16 a_x11 fun v3 => x_b_units_256 a_x1 a_x2 a_x3 a_x6 a_x7 a_x8 a_x9 a_x10 a_x11 a_s0 v3 t r_R122 r_R213 k_K) (x_b_units_256 a_x1 a_x2 a_x3 a_x6 a_x7 a_x8 a_x9 a_x10 a_x11 a_s0 1 t r_R122 r_R213 k_K)
set_option maxRecDepth 20000 in
set_option maxHeartbeats 1000000 in
theorem xs_b_units_239 {x1 : Int32} {a_x1 : Nat} {x2 : Int32} {a_x2 : Nat} {x3 : Int32} {a_x3 : Nat} {x6 : Int32} {a_x6 : Nat} {x7 : Int32} {a_x7 : Nat} {x8 : Int32} {a_x8 : Nat} {x9 : Int32} {a_x9 : Nat} {x10 : Int32} {a_x10 : Nat} {x11 : Int32} {a_x11 : Nat} {s0 : Int32} {a_s0 : Nat} {S : ms} {t : X6} {R122 : Int32 → Int32 → Int32 → Int32 → Int32 → Int32 → ms → Prop} {r_R122 : Nat → Nat → Nat → Nat → Nat → Nat → X6 → Bool} {R213 : Int32 → Int32 → Int32 → Int32 → Int32 → Int32 → Int32 → Int32 → Int32 → ms → Prop} {r_R213 : Nat → Nat → Nat → Nat → Nat → Nat → Nat → Nat → Nat → X6 → Bool} {K : ms → Prop} {k_K : X6 → Bool} (h : x_b_units_239 a_x1 a_x2 a_x3 a_x6 a_x7 a_x8 a_x9 a_x10 a_x11 a_s0 t r_R122 r_R213 k_K = true) (e_x1 : x1 = Int32.ofNat a_x1) (e_x2 : x2 = Int32.ofNat a_x2) (e_x3 : x3 = Int32.ofNat a_x3) (e_x6 : x6 = Int32.ofNat a_x6) (e_x7 : x7 = Int32.ofNat a_x7) (e_x8 : x8 = Int32.ofNat a_x8) (e_x9 : x9 = Int32.ofNat a_x9) (e_x10 : x10 = Int32.ofNat a_x10) (e_x11 : x11 = Int32.ofNat a_x11) (e_s0 : s0 = Int32.ofNat a_s0) (hS : RM S t) (hR122 : ∀ {y0 : Int32} {b0 : Nat} {y1 : Int32} {b1 : Nat} {y2 : Int32} {b2 : Nat} {y3 : Int32} {b3 : Nat} {y4 : Int32} {b4 : Nat} {y5 : Int32} {b5 : Nat} {yS : ms} {yt : X6}, r_R122 b0 b1 b2 b3 b4 b5 yt = true → y0 = Int32.ofNat b0 → y1 = Int32.ofNat b1 → y2 = Int32.ofNat b2 → y3 = Int32.ofNat b3 → y4 = Int32.ofNat b4 → y5 = Int32.ofNat b5 → RM yS yt → R122 y0 y1 y2 y3 y4 y5 yS) (hR213 : ∀ {y0 : Int32} {b0 : Nat} {y1 : Int32} {b1 : Nat} {y2 : Int32} {b2 : Nat} {y3 : Int32} {b3 : Nat} {y4 : Int32} {b4 : Nat} {y5 : Int32} {b5 : Nat} {y6 : Int32} {b6 : Nat} {y7 : Int32} {b7 : Nat} {y8 : Int32} {b8 : Nat} {yS : ms} {yt : X6}, r_R213 b0 b1 b2 b3 b4 b5 b6 b7 b8 yt = true → y0 = Int32.ofNat b0 → y1 = Int32.ofNat b1 → y2 = Int32.ofNat b2 → y3 = Int32.ofNat b3 → y4 = Int32.ofNat b4 → y5 = Int32.ofNat b5 → y6 = Int32.ofNat b6 → y7 = Int32.ofNat b7 → y8 = Int32.ofNat b8 → RM yS yt → R213 y0 y1 y2 y3 y4 y5 y6 y7 y8 yS) (hK : ∀ {yS : ms} {yt : X6}, k_K yt = true → RM yS yt → K yS) : b_units_239 x1 x2 x3 x6 x7 x8 x9 x10 x11 s0 S R122 R213 K := by
  unfold b_units_239
  unfold x_b_units_239 at h
  have hc1 := c_eq' e_x3 ((rfl : (0 : Int32) = Int32.ofNat 0))
  refine ⟨fun hc => ?_, fun hc => ?_⟩
  · have h := x_pos h (hc1.mp hc)
    obtain ⟨n2, h⟩ := an_ok h
    refine ⟨n_vp e_x11 n2 (by decide), ?_⟩
    obtain ⟨v3, h, q4⟩ := rrw_ok h hS (by decide) e_x11
    exact xs_b_units_256 h e_x1 e_x2 e_x3 e_x6 e_x7 e_x8 e_x9 e_x10 e_x11 e_s0 q4 hS hR122 hR213 hK
  · have h := x_neg h (fun q => hc (hc1.mpr q))
    exact xs_b_units_256 h e_x1 e_x2 e_x3 e_x6 e_x7 e_x8 e_x9 e_x10 e_x11 e_s0 ((rfl : (1 : Int32) = Int32.ofNat 1)) hS hR122 hR213 hK
noncomputable def x_b_units_213 (a_x1 : Nat) (a_x2 : Nat) (a_x3 : Nat) (a_x6 : Nat) (a_x7 : Nat) (a_x8 : Nat) (a_x9 : Nat) (a_x10 : Nat) (a_x11 : Nat) (t : X6) (r_R122 : Nat → Nat → Nat → Nat → Nat → Nat → X6 → Bool) (r_R213 : Nat → Nat → Nat → Nat → Nat → Nat → Nat → Nat → Nat → X6 → Bool) (k_K : X6 → Bool) : Bool :=
  and (Nat.blt 0 3) <| rrw t 14 0 fun v2 => cond (!(w_lt a_x11 v2)) (frc (w_add a_x8 1) fun f5 => r_R122 a_x1 a_x2 a_x3 a_x6 a_x7 f5 t) (cond (w_eq a_x3 0) (and (Nat.blt a_x11 9) <| rrw t 15 a_x11 fun v9 => x_b_units_239 a_x1 a_x2 a_x3 a_x6 a_x7 a_x8 a_x9 a_x10 a_x11 v9 t r_R122 r_R213 k_K) (x_b_units_239 a_x1 a_x2 a_x3 a_x6 a_x7 a_x8 a_x9 a_x10 a_x11 1 t r_R122 r_R213 k_K))
set_option maxRecDepth 20000 in
set_option maxHeartbeats 1000000 in
theorem xs_b_units_213 {x1 : Int32} {a_x1 : Nat} {x2 : Int32} {a_x2 : Nat} {x3 : Int32} {a_x3 : Nat} {x6 : Int32} {a_x6 : Nat} {x7 : Int32} {a_x7 : Nat} {x8 : Int32} {a_x8 : Nat} {x9 : Int32} {a_x9 : Nat} {x10 : Int32} {a_x10 : Nat} {x11 : Int32} {a_x11 : Nat} {S : ms} {t : X6} {R122 : Int32 → Int32 → Int32 → Int32 → Int32 → Int32 → ms → Prop} {r_R122 : Nat → Nat → Nat → Nat → Nat → Nat → X6 → Bool} {R213 : Int32 → Int32 → Int32 → Int32 → Int32 → Int32 → Int32 → Int32 → Int32 → ms → Prop} {r_R213 : Nat → Nat → Nat → Nat → Nat → Nat → Nat → Nat → Nat → X6 → Bool} {K : ms → Prop} {k_K : X6 → Bool} (h : x_b_units_213 a_x1 a_x2 a_x3 a_x6 a_x7 a_x8 a_x9 a_x10 a_x11 t r_R122 r_R213 k_K = true) (e_x1 : x1 = Int32.ofNat a_x1) (e_x2 : x2 = Int32.ofNat a_x2) (e_x3 : x3 = Int32.ofNat a_x3) (e_x6 : x6 = Int32.ofNat a_x6) (e_x7 : x7 = Int32.ofNat a_x7) (e_x8 : x8 = Int32.ofNat a_x8) (e_x9 : x9 = Int32.ofNat a_x9) (e_x10 : x10 = Int32.ofNat a_x10) (e_x11 : x11 = Int32.ofNat a_x11) (hS : RM S t) (hR122 : ∀ {y0 : Int32} {b0 : Nat} {y1 : Int32} {b1 : Nat} {y2 : Int32} {b2 : Nat} {y3 : Int32} {b3 : Nat} {y4 : Int32} {b4 : Nat} {y5 : Int32} {b5 : Nat} {yS : ms} {yt : X6}, r_R122 b0 b1 b2 b3 b4 b5 yt = true → y0 = Int32.ofNat b0 → y1 = Int32.ofNat b1 → y2 = Int32.ofNat b2 → y3 = Int32.ofNat b3 → y4 = Int32.ofNat b4 → y5 = Int32.ofNat b5 → RM yS yt → R122 y0 y1 y2 y3 y4 y5 yS) (hR213 : ∀ {y0 : Int32} {b0 : Nat} {y1 : Int32} {b1 : Nat} {y2 : Int32} {b2 : Nat} {y3 : Int32} {b3 : Nat} {y4 : Int32} {b4 : Nat} {y5 : Int32} {b5 : Nat} {y6 : Int32} {b6 : Nat} {y7 : Int32} {b7 : Nat} {y8 : Int32} {b8 : Nat} {yS : ms} {yt : X6}, r_R213 b0 b1 b2 b3 b4 b5 b6 b7 b8 yt = true → y0 = Int32.ofNat b0 → y1 = Int32.ofNat b1 → y2 = Int32.ofNat b2 → y3 = Int32.ofNat b3 → y4 = Int32.ofNat b4 → y5 = Int32.ofNat b5 → y6 = Int32.ofNat b6 → y7 = Int32.ofNat b7 → y8 = Int32.ofNat b8 → RM yS yt → R213 y0 y1 y2 y3 y4 y5 y6 y7 y8 yS) (hK : ∀ {yS : ms} {yt : X6}, k_K yt = true → RM yS yt → K yS) : b_units_213 x1 x2 x3 x6 x7 x8 x9 x10 x11 S R122 R213 K := by
  unfold b_units_213
  unfold x_b_units_213 at h
  obtain ⟨n1, h⟩ := an_ok h
  refine ⟨n_vp ((rfl : (0 : Int32) = Int32.ofNat 0)) n1 (by decide), ?_⟩
  obtain ⟨v2, h, q3⟩ := rrw_ok h hS (by decide) ((rfl : (0 : Int32) = Int32.ofNat 0))
  have hc4 := c_le' q3 e_x11
  refine ⟨fun hc => ?_, fun hc => ?_⟩
  · have h := x_pos h (hc4.mp hc)
    have h := frc_ok h
    have p6 := n_add e_x8 ((rfl : (1 : Int32) = Int32.ofNat 1))
    exact hR122 h e_x1 e_x2 e_x3 e_x6 e_x7 p6 hS
  · have h := x_neg h (fun q => hc (hc4.mpr q))
    have hc7 := c_eq' e_x3 ((rfl : (0 : Int32) = Int32.ofNat 0))
    refine ⟨fun hc => ?_, fun hc => ?_⟩
    · have h := x_pos h (hc7.mp hc)
      obtain ⟨n8, h⟩ := an_ok h
      refine ⟨n_vp e_x11 n8 (by decide), ?_⟩
      obtain ⟨v9, h, q10⟩ := rrw_ok h hS (by decide) e_x11
      exact xs_b_units_239 h e_x1 e_x2 e_x3 e_x6 e_x7 e_x8 e_x9 e_x10 e_x11 q10 hS hR122 hR213 hK
    · have h := x_neg h (fun q => hc (hc7.mpr q))
      exact xs_b_units_239 h e_x1 e_x2 e_x3 e_x6 e_x7 e_x8 e_x9 e_x10 e_x11 ((rfl : (1 : Int32) = Int32.ofNat 1)) hS hR122 hR213 hK
noncomputable def xl_e_units_213 (r_R122 : Nat → Nat → Nat → Nat → Nat → Nat → X6 → Bool) (k_K : X6 → Bool) (n : Nat) : Nat → Nat → Nat → Nat → Nat → Nat → Nat → Nat → Nat → X6 → Bool := Nat.rec (motive := fun _ => Nat → Nat → Nat → Nat → Nat → Nat → Nat → Nat → Nat → X6 → Bool) (fun _ _ _ _ _ _ _ _ _ _ => false) (fun _ ih b_x1 b_x2 b_x3 b_x6 b_x7 b_x8 b_x9 b_x10 b_x11 bt => x_b_units_213 b_x1 b_x2 b_x3 b_x6 b_x7 b_x8 b_x9 b_x10 b_x11 bt r_R122 ih k_K) n
noncomputable def x_e_units_213 (a_x1 : Nat) (a_x2 : Nat) (a_x3 : Nat) (a_x6 : Nat) (a_x7 : Nat) (a_x8 : Nat) (a_x9 : Nat) (a_x10 : Nat) (a_x11 : Nat) (t : X6) (r_R122 : Nat → Nat → Nat → Nat → Nat → Nat → X6 → Bool) (k_K : X6 → Bool) : Bool := xl_e_units_213 r_R122 k_K 200000 a_x1 a_x2 a_x3 a_x6 a_x7 a_x8 a_x9 a_x10 a_x11 t
def xq_e_units_213 (r_R122 : Nat → Nat → Nat → Nat → Nat → Nat → X6 → Bool) (k_K : X6 → Bool) (n : Nat) (y_x1 : Int32) (y_x2 : Int32) (y_x3 : Int32) (y_x6 : Int32) (y_x7 : Int32) (y_x8 : Int32) (y_x9 : Int32) (y_x10 : Int32) (y_x11 : Int32) (yS : ms) : Prop := ∃ (b_x1 : Nat) (b_x2 : Nat) (b_x3 : Nat) (b_x6 : Nat) (b_x7 : Nat) (b_x8 : Nat) (b_x9 : Nat) (b_x10 : Nat) (b_x11 : Nat) (bt : X6), y_x1 = Int32.ofNat b_x1 ∧ y_x2 = Int32.ofNat b_x2 ∧ y_x3 = Int32.ofNat b_x3 ∧ y_x6 = Int32.ofNat b_x6 ∧ y_x7 = Int32.ofNat b_x7 ∧ y_x8 = Int32.ofNat b_x8 ∧ y_x9 = Int32.ofNat b_x9 ∧ y_x10 = Int32.ofNat b_x10 ∧ y_x11 = Int32.ofNat b_x11 ∧ RM yS bt ∧ xl_e_units_213 r_R122 k_K n b_x1 b_x2 b_x3 b_x6 b_x7 b_x8 b_x9 b_x10 b_x11 bt = true
set_option maxRecDepth 20000 in
theorem xs_e_units_213 {x1 : Int32} {a_x1 : Nat} {x2 : Int32} {a_x2 : Nat} {x3 : Int32} {a_x3 : Nat} {x6 : Int32} {a_x6 : Nat} {x7 : Int32} {a_x7 : Nat} {x8 : Int32} {a_x8 : Nat} {x9 : Int32} {a_x9 : Nat} {x10 : Int32} {a_x10 : Nat} {x11 : Int32} {a_x11 : Nat} {S : ms} {t : X6} {R122 : Int32 → Int32 → Int32 → Int32 → Int32 → Int32 → ms → Prop} {r_R122 : Nat → Nat → Nat → Nat → Nat → Nat → X6 → Bool} {K : ms → Prop} {k_K : X6 → Bool} (h : x_e_units_213 a_x1 a_x2 a_x3 a_x6 a_x7 a_x8 a_x9 a_x10 a_x11 t r_R122 k_K = true) (e_x1 : x1 = Int32.ofNat a_x1) (e_x2 : x2 = Int32.ofNat a_x2) (e_x3 : x3 = Int32.ofNat a_x3) (e_x6 : x6 = Int32.ofNat a_x6) (e_x7 : x7 = Int32.ofNat a_x7) (e_x8 : x8 = Int32.ofNat a_x8) (e_x9 : x9 = Int32.ofNat a_x9) (e_x10 : x10 = Int32.ofNat a_x10) (e_x11 : x11 = Int32.ofNat a_x11) (hS : RM S t) (hR122 : ∀ {y0 : Int32} {b0 : Nat} {y1 : Int32} {b1 : Nat} {y2 : Int32} {b2 : Nat} {y3 : Int32} {b3 : Nat} {y4 : Int32} {b4 : Nat} {y5 : Int32} {b5 : Nat} {yS : ms} {yt : X6}, r_R122 b0 b1 b2 b3 b4 b5 yt = true → y0 = Int32.ofNat b0 → y1 = Int32.ofNat b1 → y2 = Int32.ofNat b2 → y3 = Int32.ofNat b3 → y4 = Int32.ofNat b4 → y5 = Int32.ofNat b5 → RM yS yt → R122 y0 y1 y2 y3 y4 y5 yS) (hK : ∀ {yS : ms} {yt : X6}, k_K yt = true → RM yS yt → K yS) : e_units_213 x1 x2 x3 x6 x7 x8 x9 x10 x11 S R122 K := by
  refine ⟨fun y_x1 y_x2 y_x3 y_x6 y_x7 y_x8 y_x9 y_x10 y_x11 yS => ∃ n, xq_e_units_213 r_R122 k_K n y_x1 y_x2 y_x3 y_x6 y_x7 y_x8 y_x9 y_x10 y_x11 yS, fun y_x1 y_x2 y_x3 y_x6 y_x7 y_x8 y_x9 y_x10 y_x11 yS => mf (fun n => xq_e_units_213 r_R122 k_K n y_x1 y_x2 y_x3 y_x6 y_x7 y_x8 y_x9 y_x10 y_x11 yS), ⟨200000, a_x1, a_x2, a_x3, a_x6, a_x7, a_x8, a_x9, a_x10, a_x11, t, e_x1, e_x2, e_x3, e_x6, e_x7, e_x8, e_x9, e_x10, e_x11, hS, h⟩, fun y_x1 y_x2 y_x3 y_x6 y_x7 y_x8 y_x9 y_x10 y_x11 yS hI => ?_⟩
  obtain ⟨m, hm, hq⟩ := mf_ok hI
  obtain ⟨b_x1, b_x2, b_x3, b_x6, b_x7, b_x8, b_x9, b_x10, b_x11, bt, c_x1, c_x2, c_x3, c_x6, c_x7, c_x8, c_x9, c_x10, c_x11, cS, h⟩ := hq
  cases m with
  | zero => exact absurd h Bool.false_ne_true
  | succ n => exact xs_b_units_213 h c_x1 c_x2 c_x3 c_x6 c_x7 c_x8 c_x9 c_x10 c_x11 cS hR122 (fun h d_x1 d_x2 d_x3 d_x6 d_x7 d_x8 d_x9 d_x10 d_x11 dS => ⟨⟨n, _, _, _, _, _, _, _, _, _, _, d_x1, d_x2, d_x3, d_x6, d_x7, d_x8, d_x9, d_x10, d_x11, dS, h⟩, Nat.lt_of_le_of_lt (mf_le ⟨_, _, _, _, _, _, _, _, _, _, d_x1, d_x2, d_x3, d_x6, d_x7, d_x8, d_x9, d_x10, d_x11, dS, h⟩) (Nat.lt_of_lt_of_eq (Nat.lt_succ_self n) hm.symm)⟩) hK
noncomputable def x_b_units_196 (a_x1 : Nat) (a_x2 : Nat) (a_x3 : Nat) (a_x6 : Nat) (a_x7 : Nat) (a_x8 : Nat) (t : X6) (r_R122 : Nat → Nat → Nat → Nat → Nat → Nat → X6 → Bool) (k_K : X6 → Bool) : Bool :=
  cond (w_eq a_x6 0) false <| cond (w_eq a_x6 0) false <| frc (w_sub a_x8 (w_mul (w_div a_x8 a_x6) a_x6)) fun f3 => frc (w_div a_x8 a_x6) fun f5 => x_e_units_213 a_x1 a_x2 a_x3 a_x6 a_x7 a_x8 f3 f5 0 t r_R122 k_K
set_option maxRecDepth 20000 in
set_option maxHeartbeats 1000000 in
theorem xs_b_units_196 {x1 : Int32} {a_x1 : Nat} {x2 : Int32} {a_x2 : Nat} {x3 : Int32} {a_x3 : Nat} {x6 : Int32} {a_x6 : Nat} {x7 : Int32} {a_x7 : Nat} {x8 : Int32} {a_x8 : Nat} {S : ms} {t : X6} {R122 : Int32 → Int32 → Int32 → Int32 → Int32 → Int32 → ms → Prop} {r_R122 : Nat → Nat → Nat → Nat → Nat → Nat → X6 → Bool} {K : ms → Prop} {k_K : X6 → Bool} (h : x_b_units_196 a_x1 a_x2 a_x3 a_x6 a_x7 a_x8 t r_R122 k_K = true) (e_x1 : x1 = Int32.ofNat a_x1) (e_x2 : x2 = Int32.ofNat a_x2) (e_x3 : x3 = Int32.ofNat a_x3) (e_x6 : x6 = Int32.ofNat a_x6) (e_x7 : x7 = Int32.ofNat a_x7) (e_x8 : x8 = Int32.ofNat a_x8) (hS : RM S t) (hR122 : ∀ {y0 : Int32} {b0 : Nat} {y1 : Int32} {b1 : Nat} {y2 : Int32} {b2 : Nat} {y3 : Int32} {b3 : Nat} {y4 : Int32} {b4 : Nat} {y5 : Int32} {b5 : Nat} {yS : ms} {yt : X6}, r_R122 b0 b1 b2 b3 b4 b5 yt = true → y0 = Int32.ofNat b0 → y1 = Int32.ofNat b1 → y2 = Int32.ofNat b2 → y3 = Int32.ofNat b3 → y4 = Int32.ofNat b4 → y5 = Int32.ofNat b5 → RM yS yt → R122 y0 y1 y2 y3 y4 y5 yS) (hK : ∀ {yS : ms} {yt : X6}, k_K yt = true → RM yS yt → K yS) : b_units_196 x1 x2 x3 x6 x7 x8 S R122 K := by
  unfold b_units_196
  unfold x_b_units_196 at h
  obtain ⟨n1, h⟩ := nu_ok h
  refine ⟨fun q => absurd ((c_eq' e_x6 ((rfl : (0 : Int32) = Int32.ofNat 0))).mp q) (by rw [n1]; exact Bool.false_ne_true), ?_⟩
  obtain ⟨n2, h⟩ := nu_ok h
  refine ⟨fun q => absurd ((c_eq' e_x6 ((rfl : (0 : Int32) = Int32.ofNat 0))).mp q) (by rw [n2]; exact Bool.false_ne_true), ?_⟩
  have h := frc_ok h
  have p4 := n_sub e_x8 (n_mul (n_div e_x8 e_x6) e_x6)
  have h := frc_ok h
  have p6 := n_div e_x8 e_x6
  exact xs_e_units_213 h e_x1 e_x2 e_x3 e_x6 e_x7 e_x8 p4 p6 ((rfl : (0 : Int32) = Int32.ofNat 0)) hS hR122 hK
noncomputable def x_b_units_176 (a_x1 : Nat) (a_x2 : Nat) (a_x3 : Nat) (a_x6 : Nat) (a_x7 : Nat) (a_x8 : Nat) (a_x9 : Nat) (t : X6) (r_R122 : Nat → Nat → Nat → Nat → Nat → Nat → X6 → Bool) (r_R176 : Nat → Nat → Nat → Nat → Nat → Nat → Nat → X6 → Bool) (k_K : X6 → Bool) : Bool :=
  cond (!(w_lt a_x9 3)) (x_b_units_196 a_x1 a_x2 a_x3 a_x6 a_x7 a_x8 t r_R122 k_K) (and (Nat.blt a_x9 3) <| frc (w_add a_x9 1) fun f3 => wrw t 53 a_x9 0 fun t5 => r_R176 a_x1 a_x2 a_x3 a_x6 a_x7 a_x8 f3 t5)
set_option maxRecDepth 20000 in
set_option maxHeartbeats 1000000 in
theorem xs_b_units_176 {x1 : Int32} {a_x1 : Nat} {x2 : Int32} {a_x2 : Nat} {x3 : Int32} {a_x3 : Nat} {x6 : Int32} {a_x6 : Nat} {x7 : Int32} {a_x7 : Nat} {x8 : Int32} {a_x8 : Nat} {x9 : Int32} {a_x9 : Nat} {S : ms} {t : X6} {R122 : Int32 → Int32 → Int32 → Int32 → Int32 → Int32 → ms → Prop} {r_R122 : Nat → Nat → Nat → Nat → Nat → Nat → X6 → Bool} {R176 : Int32 → Int32 → Int32 → Int32 → Int32 → Int32 → Int32 → ms → Prop} {r_R176 : Nat → Nat → Nat → Nat → Nat → Nat → Nat → X6 → Bool} {K : ms → Prop} {k_K : X6 → Bool} (h : x_b_units_176 a_x1 a_x2 a_x3 a_x6 a_x7 a_x8 a_x9 t r_R122 r_R176 k_K = true) (e_x1 : x1 = Int32.ofNat a_x1) (e_x2 : x2 = Int32.ofNat a_x2) (e_x3 : x3 = Int32.ofNat a_x3) (e_x6 : x6 = Int32.ofNat a_x6) (e_x7 : x7 = Int32.ofNat a_x7) (e_x8 : x8 = Int32.ofNat a_x8) (e_x9 : x9 = Int32.ofNat a_x9) (hS : RM S t) (hR122 : ∀ {y0 : Int32} {b0 : Nat} {y1 : Int32} {b1 : Nat} {y2 : Int32} {b2 : Nat} {y3 : Int32} {b3 : Nat} {y4 : Int32} {b4 : Nat} {y5 : Int32} {b5 : Nat} {yS : ms} {yt : X6}, r_R122 b0 b1 b2 b3 b4 b5 yt = true → y0 = Int32.ofNat b0 → y1 = Int32.ofNat b1 → y2 = Int32.ofNat b2 → y3 = Int32.ofNat b3 → y4 = Int32.ofNat b4 → y5 = Int32.ofNat b5 → RM yS yt → R122 y0 y1 y2 y3 y4 y5 yS) (hR176 : ∀ {y0 : Int32} {b0 : Nat} {y1 : Int32} {b1 : Nat} {y2 : Int32} {b2 : Nat} {y3 : Int32} {b3 : Nat} {y4 : Int32} {b4 : Nat} {y5 : Int32} {b5 : Nat} {y6 : Int32} {b6 : Nat} {yS : ms} {yt : X6}, r_R176 b0 b1 b2 b3 b4 b5 b6 yt = true → y0 = Int32.ofNat b0 → y1 = Int32.ofNat b1 → y2 = Int32.ofNat b2 → y3 = Int32.ofNat b3 → y4 = Int32.ofNat b4 → y5 = Int32.ofNat b5 → y6 = Int32.ofNat b6 → RM yS yt → R176 y0 y1 y2 y3 y4 y5 y6 yS) (hK : ∀ {yS : ms} {yt : X6}, k_K yt = true → RM yS yt → K yS) : b_units_176 x1 x2 x3 x6 x7 x8 x9 S R122 R176 K := by
  unfold b_units_176
  unfold x_b_units_176 at h
  have hc1 := c_le' ((rfl : (3 : Int32) = Int32.ofNat 3)) e_x9
  refine ⟨fun hc => ?_, fun hc => ?_⟩
  · have h := x_pos h (hc1.mp hc)
    exact xs_b_units_196 h e_x1 e_x2 e_x3 e_x6 e_x7 e_x8 hS hR122 hK
  · have h := x_neg h (fun q => hc (hc1.mpr q))
    obtain ⟨n2, h⟩ := an_ok h
    refine ⟨n_vp e_x9 n2 (by decide), ?_⟩
    have h := frc_ok h
    have p4 := n_add e_x9 ((rfl : (1 : Int32) = Int32.ofNat 1))
    obtain ⟨t5, h, hS6⟩ := wrw_ok h hS (by decide) e_x9 ((rfl : (0 : Int32) = Int32.ofNat 0))
    exact hR176 h e_x1 e_x2 e_x3 e_x6 e_x7 e_x8 p4 hS6
noncomputable def xl_e_units_176 (r_R122 : Nat → Nat → Nat → Nat → Nat → Nat → X6 → Bool) (k_K : X6 → Bool) (n : Nat) : Nat → Nat → Nat → Nat → Nat → Nat → Nat → X6 → Bool := Nat.rec (motive := fun _ => Nat → Nat → Nat → Nat → Nat → Nat → Nat → X6 → Bool) (fun _ _ _ _ _ _ _ _ => false) (fun _ ih b_x1 b_x2 b_x3 b_x6 b_x7 b_x8 b_x9 bt => x_b_units_176 b_x1 b_x2 b_x3 b_x6 b_x7 b_x8 b_x9 bt r_R122 ih k_K) n
noncomputable def x_e_units_176 (a_x1 : Nat) (a_x2 : Nat) (a_x3 : Nat) (a_x6 : Nat) (a_x7 : Nat) (a_x8 : Nat) (a_x9 : Nat) (t : X6) (r_R122 : Nat → Nat → Nat → Nat → Nat → Nat → X6 → Bool) (k_K : X6 → Bool) : Bool := xl_e_units_176 r_R122 k_K 200000 a_x1 a_x2 a_x3 a_x6 a_x7 a_x8 a_x9 t
def xq_e_units_176 (r_R122 : Nat → Nat → Nat → Nat → Nat → Nat → X6 → Bool) (k_K : X6 → Bool) (n : Nat) (y_x1 : Int32) (y_x2 : Int32) (y_x3 : Int32) (y_x6 : Int32) (y_x7 : Int32) (y_x8 : Int32) (y_x9 : Int32) (yS : ms) : Prop := ∃ (b_x1 : Nat) (b_x2 : Nat) (b_x3 : Nat) (b_x6 : Nat) (b_x7 : Nat) (b_x8 : Nat) (b_x9 : Nat) (bt : X6), y_x1 = Int32.ofNat b_x1 ∧ y_x2 = Int32.ofNat b_x2 ∧ y_x3 = Int32.ofNat b_x3 ∧ y_x6 = Int32.ofNat b_x6 ∧ y_x7 = Int32.ofNat b_x7 ∧ y_x8 = Int32.ofNat b_x8 ∧ y_x9 = Int32.ofNat b_x9 ∧ RM yS bt ∧ xl_e_units_176 r_R122 k_K n b_x1 b_x2 b_x3 b_x6 b_x7 b_x8 b_x9 bt = true
set_option maxRecDepth 20000 in
theorem xs_e_units_176 {x1 : Int32} {a_x1 : Nat} {x2 : Int32} {a_x2 : Nat} {x3 : Int32} {a_x3 : Nat} {x6 : Int32} {a_x6 : Nat} {x7 : Int32} {a_x7 : Nat} {x8 : Int32} {a_x8 : Nat} {x9 : Int32} {a_x9 : Nat} {S : ms} {t : X6} {R122 : Int32 → Int32 → Int32 → Int32 → Int32 → Int32 → ms → Prop} {r_R122 : Nat → Nat → Nat → Nat → Nat → Nat → X6 → Bool} {K : ms → Prop} {k_K : X6 → Bool} (h : x_e_units_176 a_x1 a_x2 a_x3 a_x6 a_x7 a_x8 a_x9 t r_R122 k_K = true) (e_x1 : x1 = Int32.ofNat a_x1) (e_x2 : x2 = Int32.ofNat a_x2) (e_x3 : x3 = Int32.ofNat a_x3) (e_x6 : x6 = Int32.ofNat a_x6) (e_x7 : x7 = Int32.ofNat a_x7) (e_x8 : x8 = Int32.ofNat a_x8) (e_x9 : x9 = Int32.ofNat a_x9) (hS : RM S t) (hR122 : ∀ {y0 : Int32} {b0 : Nat} {y1 : Int32} {b1 : Nat} {y2 : Int32} {b2 : Nat} {y3 : Int32} {b3 : Nat} {y4 : Int32} {b4 : Nat} {y5 : Int32} {b5 : Nat} {yS : ms} {yt : X6}, r_R122 b0 b1 b2 b3 b4 b5 yt = true → y0 = Int32.ofNat b0 → y1 = Int32.ofNat b1 → y2 = Int32.ofNat b2 → y3 = Int32.ofNat b3 → y4 = Int32.ofNat b4 → y5 = Int32.ofNat b5 → RM yS yt → R122 y0 y1 y2 y3 y4 y5 yS) (hK : ∀ {yS : ms} {yt : X6}, k_K yt = true → RM yS yt → K yS) : e_units_176 x1 x2 x3 x6 x7 x8 x9 S R122 K := by
  refine ⟨fun y_x1 y_x2 y_x3 y_x6 y_x7 y_x8 y_x9 yS => ∃ n, xq_e_units_176 r_R122 k_K n y_x1 y_x2 y_x3 y_x6 y_x7 y_x8 y_x9 yS, fun y_x1 y_x2 y_x3 y_x6 y_x7 y_x8 y_x9 yS => mf (fun n => xq_e_units_176 r_R122 k_K n y_x1 y_x2 y_x3 y_x6 y_x7 y_x8 y_x9 yS), ⟨200000, a_x1, a_x2, a_x3, a_x6, a_x7, a_x8, a_x9, t, e_x1, e_x2, e_x3, e_x6, e_x7, e_x8, e_x9, hS, h⟩, fun y_x1 y_x2 y_x3 y_x6 y_x7 y_x8 y_x9 yS hI => ?_⟩
  obtain ⟨m, hm, hq⟩ := mf_ok hI
  obtain ⟨b_x1, b_x2, b_x3, b_x6, b_x7, b_x8, b_x9, bt, c_x1, c_x2, c_x3, c_x6, c_x7, c_x8, c_x9, cS, h⟩ := hq
  cases m with
  | zero => exact absurd h Bool.false_ne_true
  | succ n => exact xs_b_units_176 h c_x1 c_x2 c_x3 c_x6 c_x7 c_x8 c_x9 cS hR122 (fun h d_x1 d_x2 d_x3 d_x6 d_x7 d_x8 d_x9 dS => ⟨⟨n, _, _, _, _, _, _, _, _, d_x1, d_x2, d_x3, d_x6, d_x7, d_x8, d_x9, dS, h⟩, Nat.lt_of_le_of_lt (mf_le ⟨_, _, _, _, _, _, _, _, d_x1, d_x2, d_x3, d_x6, d_x7, d_x8, d_x9, dS, h⟩) (Nat.lt_of_lt_of_eq (Nat.lt_succ_self n) hm.symm)⟩) hK
noncomputable def x_b_units_173 (a_x1 : Nat) (a_x2 : Nat) (a_x3 : Nat) (a_x6 : Nat) (a_x7 : Nat) (a_x8 : Nat) (t : X6) (r_R122 : Nat → Nat → Nat → Nat → Nat → Nat → X6 → Bool) (k_K : X6 → Bool) : Bool :=
  x_e_units_176 a_x1 a_x2 a_x3 a_x6 a_x7 a_x8 0 t r_R122 k_K
set_option maxRecDepth 20000 in
set_option maxHeartbeats 1000000 in
theorem xs_b_units_173 {x1 : Int32} {a_x1 : Nat} {x2 : Int32} {a_x2 : Nat} {x3 : Int32} {a_x3 : Nat} {x6 : Int32} {a_x6 : Nat} {x7 : Int32} {a_x7 : Nat} {x8 : Int32} {a_x8 : Nat} {S : ms} {t : X6} {R122 : Int32 → Int32 → Int32 → Int32 → Int32 → Int32 → ms → Prop} {r_R122 : Nat → Nat → Nat → Nat → Nat → Nat → X6 → Bool} {K : ms → Prop} {k_K : X6 → Bool} (h : x_b_units_173 a_x1 a_x2 a_x3 a_x6 a_x7 a_x8 t r_R122 k_K = true) (e_x1 : x1 = Int32.ofNat a_x1) (e_x2 : x2 = Int32.ofNat a_x2) (e_x3 : x3 = Int32.ofNat a_x3) (e_x6 : x6 = Int32.ofNat a_x6) (e_x7 : x7 = Int32.ofNat a_x7) (e_x8 : x8 = Int32.ofNat a_x8) (hS : RM S t) (hR122 : ∀ {y0 : Int32} {b0 : Nat} {y1 : Int32} {b1 : Nat} {y2 : Int32} {b2 : Nat} {y3 : Int32} {b3 : Nat} {y4 : Int32} {b4 : Nat} {y5 : Int32} {b5 : Nat} {yS : ms} {yt : X6}, r_R122 b0 b1 b2 b3 b4 b5 yt = true → y0 = Int32.ofNat b0 → y1 = Int32.ofNat b1 → y2 = Int32.ofNat b2 → y3 = Int32.ofNat b3 → y4 = Int32.ofNat b4 → y5 = Int32.ofNat b5 → RM yS yt → R122 y0 y1 y2 y3 y4 y5 yS) (hK : ∀ {yS : ms} {yt : X6}, k_K yt = true → RM yS yt → K yS) : b_units_173 x1 x2 x3 x6 x7 x8 S R122 K := by
  unfold b_units_173
  unfold x_b_units_173 at h
  exact xs_e_units_176 h e_x1 e_x2 e_x3 e_x6 e_x7 e_x8 ((rfl : (0 : Int32) = Int32.ofNat 0)) hS hR122 hK
noncomputable def x_b_fillUp_0 (t : X6) (r_R0 : X6 → Bool) (k_K : X6 → Bool) : Bool :=
  rfi t 32 fun v1 => cond (!(w_lt 0 v1)) (k_K t) (x_p_putBits 1 1 t (fun t_S10 => r_R0 t_S10))
set_option maxRecDepth 20000 in
set_option maxHeartbeats 1000000 in
theorem xs_b_fillUp_0 {S : ms} {t : X6} {R0 : ms → Prop} {r_R0 : X6 → Bool} {K : ms → Prop} {k_K : X6 → Bool} (h : x_b_fillUp_0 t r_R0 k_K = true) (hS : RM S t) (hR0 : ∀ {yS : ms} {yt : X6}, r_R0 yt = true → RM yS yt → R0 yS) (hK : ∀ {yS : ms} {yt : X6}, k_K yt = true → RM yS yt → K yS) : b_fillUp_0 S R0 K := by
  unfold b_fillUp_0
  unfold x_b_fillUp_0 at h
  obtain ⟨v1, h, q2⟩ := rfi_ok h hS
  have hc3 := c_le' q2 ((rfl : (0 : Int32) = Int32.ofNat 0))
  refine ⟨fun hc => ?_, fun hc => ?_⟩
  · have h := x_pos h (hc3.mp hc)
    exact hK h hS
  · have h := x_neg h (fun q => hc (hc3.mpr q))
    refine xs_p_putBits h ((rfl : (1 : Int32) = Int32.ofNat 1)) ((rfl : (1 : Int32) = Int32.ofNat 1)) hS (fun h h_S10 => ?_)
    exact hR0 h h_S10
noncomputable def xl_e_fillUp_0 (k_K : X6 → Bool) (n : Nat) : X6 → Bool := Nat.rec (motive := fun _ => X6 → Bool) (fun _ => false) (fun _ ih bt => x_b_fillUp_0 bt ih k_K) n
noncomputable def x_e_fillUp_0 (t : X6) (k_K : X6 → Bool) : Bool := xl_e_fillUp_0 k_K 200000 t
def xq_e_fillUp_0 (k_K : X6 → Bool) (n : Nat) (yS : ms) : Prop := ∃ (bt : X6), RM yS bt ∧ xl_e_fillUp_0 k_K n bt = true
set_option maxRecDepth 20000 in
theorem xs_e_fillUp_0 {S : ms} {t : X6} {K : ms → Prop} {k_K : X6 → Bool} (h : x_e_fillUp_0 t k_K = true) (hS : RM S t) (hK : ∀ {yS : ms} {yt : X6}, k_K yt = true → RM yS yt → K yS) : e_fillUp_0 S K := by
  refine ⟨fun yS => ∃ n, xq_e_fillUp_0 k_K n yS, fun yS => mf (fun n => xq_e_fillUp_0 k_K n yS), ⟨200000, t, hS, h⟩, fun yS hI => ?_⟩
  obtain ⟨m, hm, hq⟩ := mf_ok hI
  obtain ⟨bt, cS, h⟩ := hq
  cases m with
  | zero => exact absurd h Bool.false_ne_true
  | succ n => exact xs_b_fillUp_0 h cS (fun h dS => ⟨⟨n, _, dS, h⟩, Nat.lt_of_le_of_lt (mf_le ⟨_, dS, h⟩) (Nat.lt_of_lt_of_eq (Nat.lt_succ_self n) hm.symm)⟩) hK
noncomputable def x_p_fillUp (t : X6) (k_K : X6 → Bool) : Bool :=
  x_e_fillUp_0 t k_K
set_option maxRecDepth 20000 in
set_option maxHeartbeats 1000000 in
theorem xs_p_fillUp {S : ms} {t : X6} {K : ms → Prop} {k_K : X6 → Bool} (h : x_p_fillUp t k_K = true) (hS : RM S t) (hK : ∀ {yS : ms} {yt : X6}, k_K yt = true → RM yS yt → K yS) : p_fillUp S K := by
  unfold p_fillUp
  unfold x_p_fillUp at h
  exact xs_e_fillUp_0 h hS hK
noncomputable def x_p_mark (a_x1 : Nat) (t : X6) (k_K : X6 → Bool) : Bool :=
  x_p_put 255 t (fun t_S4 => x_p_put a_x1 t_S4 (fun t_S9 => k_K t_S9))
set_option maxRecDepth 20000 in
set_option maxHeartbeats 1000000 in
theorem xs_p_mark {x1 : Int32} {a_x1 : Nat} {S : ms} {t : X6} {K : ms → Prop} {k_K : X6 → Bool} (h : x_p_mark a_x1 t k_K = true) (e_x1 : x1 = Int32.ofNat a_x1) (hS : RM S t) (hK : ∀ {yS : ms} {yt : X6}, k_K yt = true → RM yS yt → K yS) : p_mark x1 S K := by
  unfold p_mark
  unfold x_p_mark at h
  refine xs_p_put h ((rfl : (255 : Int32) = Int32.ofNat 255)) hS (fun h h_S4 => ?_)
  refine xs_p_put h e_x1 h_S4 (fun h h_S9 => ?_)
  exact hK h h_S9
noncomputable def x_b_units_122 (a_x1 : Nat) (a_x2 : Nat) (a_x3 : Nat) (a_x6 : Nat) (a_x7 : Nat) (a_x8 : Nat) (t : X6) (r_R122 : Nat → Nat → Nat → Nat → Nat → Nat → X6 → Bool) (k_K : X6 → Bool) : Bool :=
  cond (!(w_lt a_x8 (w_mul a_x6 a_x7))) (k_K t) (cond (!(w_lt 0 a_x2)) (x_b_units_196 a_x1 a_x2 a_x3 a_x6 a_x7 a_x8 t r_R122 k_K) (cond (!(w_lt 0 a_x8)) (x_b_units_196 a_x1 a_x2 a_x3 a_x6 a_x7 a_x8 t r_R122 k_K) (cond (w_eq a_x2 0) false <| cond (w_eq (w_sub a_x8 (w_mul (w_div a_x8 a_x2) a_x2)) 0) (cond (w_eq a_x1 0) (x_p_fillUp t (fun t_S153 => cond (w_eq a_x2 0) false <| frc (w_add 208 (w_sub (w_sub (w_div a_x8 a_x2) 1) (w_mul (w_div (w_sub (w_div a_x8 a_x2) 1) 8) 8))) fun f8 => x_p_mark f8 t_S153 (fun t_S170 => x_b_units_173 a_x1 a_x2 a_x3 a_x6 a_x7 a_x8 t_S170 r_R122 k_K))) (x_b_units_173 a_x1 a_x2 a_x3 a_x6 a_x7 a_x8 t r_R122 k_K)) (x_b_units_196 a_x1 a_x2 a_x3 a_x6 a_x7 a_x8 t r_R122 k_K))))
set_option maxRecDepth 20000 in
set_option maxHeartbeats 1000000 in
theorem xs_b_units_122 {x1 : Int32} {a_x1 : Nat} {x2 : Int32} {a_x2 : Nat} {x3 : Int32} {a_x3 : Nat} {x6 : Int32} {a_x6 : Nat} {x7 : Int32} {a_x7 : Nat} {x8 : Int32} {a_x8 : Nat} {S : ms} {t : X6} {R122 : Int32 → Int32 → Int32 → Int32 → Int32 → Int32 → ms → Prop} {r_R122 : Nat → Nat → Nat → Nat → Nat → Nat → X6 → Bool} {K : ms → Prop} {k_K : X6 → Bool} (h : x_b_units_122 a_x1 a_x2 a_x3 a_x6 a_x7 a_x8 t r_R122 k_K = true) (e_x1 : x1 = Int32.ofNat a_x1) (e_x2 : x2 = Int32.ofNat a_x2) (e_x3 : x3 = Int32.ofNat a_x3) (e_x6 : x6 = Int32.ofNat a_x6) (e_x7 : x7 = Int32.ofNat a_x7) (e_x8 : x8 = Int32.ofNat a_x8) (hS : RM S t) (hR122 : ∀ {y0 : Int32} {b0 : Nat} {y1 : Int32} {b1 : Nat} {y2 : Int32} {b2 : Nat} {y3 : Int32} {b3 : Nat} {y4 : Int32} {b4 : Nat} {y5 : Int32} {b5 : Nat} {yS : ms} {yt : X6}, r_R122 b0 b1 b2 b3 b4 b5 yt = true → y0 = Int32.ofNat b0 → y1 = Int32.ofNat b1 → y2 = Int32.ofNat b2 → y3 = Int32.ofNat b3 → y4 = Int32.ofNat b4 → y5 = Int32.ofNat b5 → RM yS yt → R122 y0 y1 y2 y3 y4 y5 yS) (hK : ∀ {yS : ms} {yt : X6}, k_K yt = true → RM yS yt → K yS) : b_units_122 x1 x2 x3 x6 x7 x8 S R122 K := by
  unfold b_units_122
  unfold x_b_units_122 at h
  have hc1 := c_le' (n_mul e_x6 e_x7) e_x8
  refine ⟨fun hc => ?_, fun hc => ?_⟩
  · have h := x_pos h (hc1.mp hc)
    exact hK h hS
  · have h := x_neg h (fun q => hc (hc1.mpr q))
    have hc2 := c_le' e_x2 ((rfl : (0 : Int32) = Int32.ofNat 0))
    refine ⟨fun hc => ?_, fun hc => ?_⟩
    · have h := x_pos h (hc2.mp hc)
      exact xs_b_units_196 h e_x1 e_x2 e_x3 e_x6 e_x7 e_x8 hS hR122 hK
    · have h := x_neg h (fun q => hc (hc2.mpr q))
      have hc3 := c_le' e_x8 ((rfl : (0 : Int32) = Int32.ofNat 0))
      refine ⟨fun hc => ?_, fun hc => ?_⟩
      · have h := x_pos h (hc3.mp hc)
        exact xs_b_units_196 h e_x1 e_x2 e_x3 e_x6 e_x7 e_x8 hS hR122 hK
      · have h := x_neg h (fun q => hc (hc3.mpr q))
        obtain ⟨n4, h⟩ := nu_ok h
        refine ⟨fun q => absurd ((c_eq' e_x2 ((rfl : (0 : Int32) = Int32.ofNat 0))).mp q) (by rw [n4]; exact Bool.false_ne_true), ?_⟩
        have hc5 := c_eq' (n_sub e_x8 (n_mul (n_div e_x8 e_x2) e_x2)) ((rfl : (0 : Int32) = Int32.ofNat 0))
        refine ⟨fun hc => ?_, fun hc => ?_⟩
        · have h := x_neg h (fun q => hc (hc5.mpr q))
          exact xs_b_units_196 h e_x1 e_x2 e_x3 e_x6 e_x7 e_x8 hS hR122 hK
        · have h := x_pos h (hc5.mp hc)
          have hc6 := c_eq' e_x1 ((rfl : (0 : Int32) = Int32.ofNat 0))
          refine ⟨fun hc => ?_, fun hc => ?_⟩
          · have h := x_neg h (fun q => hc (hc6.mpr q))
            exact xs_b_units_173 h e_x1 e_x2 e_x3 e_x6 e_x7 e_x8 hS hR122 hK
          · have h := x_pos h (hc6.mp hc)
            refine xs_p_fillUp h hS (fun h h_S153 => ?_)
            obtain ⟨n7, h⟩ := nu_ok h
            refine ⟨fun q => absurd ((c_eq' e_x2 ((rfl : (0 : Int32) = Int32.ofNat 0))).mp q) (by rw [n7]; exact Bool.false_ne_true), ?_⟩
            have h := frc_ok h
            have p9 := n_add ((rfl : (208 : Int32) = Int32.ofNat 208)) (n_sub (n_sub (n_div e_x8 e_x2) ((rfl : (1 : Int32) = Int32.ofNat 1))) (n_mul (n_div (n_sub (n_div e_x8 e_x2) ((rfl : (1 : Int32) = Int32.ofNat 1))) ((rfl : (8 : Int32) = Int32.ofNat 8))) ((rfl : (8 : Int32) = Int32.ofNat 8))))
            refine xs_p_mark h p9 h_S153 (fun h h_S170 => ?_)
            exact xs_b_units_173 h e_x1 e_x2 e_x3 e_x6 e_x7 e_x8 h_S170 hR122 hK
noncomputable def xl_e_units_122 (k_K : X6 → Bool) (n : Nat) : Nat → Nat → Nat → Nat → Nat → Nat → X6 → Bool := Nat.rec (motive := fun _ => Nat → Nat → Nat → Nat → Nat → Nat → X6 → Bool) (fun _ _ _ _ _ _ _ => false) (fun _ ih b_x1 b_x2 b_x3 b_x6 b_x7 b_x8 bt => x_b_units_122 b_x1 b_x2 b_x3 b_x6 b_x7 b_x8 bt ih k_K) n
noncomputable def x_e_units_122 (a_x1 : Nat) (a_x2 : Nat) (a_x3 : Nat) (a_x6 : Nat) (a_x7 : Nat) (a_x8 : Nat) (t : X6) (k_K : X6 → Bool) : Bool := xl_e_units_122 k_K 200000 a_x1 a_x2 a_x3 a_x6 a_x7 a_x8 t
def xq_e_units_122 (k_K : X6 → Bool) (n : Nat) (y_x1 : Int32) (y_x2 : Int32) (y_x3 : Int32) (y_x6 : Int32) (y_x7 : Int32) (y_x8 : Int32) (yS : ms) : Prop := ∃ (b_x1 : Nat) (b_x2 : Nat) (b_x3 : Nat) (b_x6 : Nat) (b_x7 : Nat) (b_x8 : Nat) (bt : X6), y_x1 = Int32.ofNat b_x1 ∧ y_x2 = Int32.ofNat b_x2 ∧ y_x3 = Int32.ofNat b_x3 ∧ y_x6 = Int32.ofNat b_x6 ∧ y_x7 = Int32.ofNat b_x7 ∧ y_x8 = Int32.ofNat b_x8 ∧ RM yS bt ∧ xl_e_units_122 k_K n b_x1 b_x2 b_x3 b_x6 b_x7 b_x8 bt = true
set_option maxRecDepth 20000 in
theorem xs_e_units_122 {x1 : Int32} {a_x1 : Nat} {x2 : Int32} {a_x2 : Nat} {x3 : Int32} {a_x3 : Nat} {x6 : Int32} {a_x6 : Nat} {x7 : Int32} {a_x7 : Nat} {x8 : Int32} {a_x8 : Nat} {S : ms} {t : X6} {K : ms → Prop} {k_K : X6 → Bool} (h : x_e_units_122 a_x1 a_x2 a_x3 a_x6 a_x7 a_x8 t k_K = true) (e_x1 : x1 = Int32.ofNat a_x1) (e_x2 : x2 = Int32.ofNat a_x2) (e_x3 : x3 = Int32.ofNat a_x3) (e_x6 : x6 = Int32.ofNat a_x6) (e_x7 : x7 = Int32.ofNat a_x7) (e_x8 : x8 = Int32.ofNat a_x8) (hS : RM S t) (hK : ∀ {yS : ms} {yt : X6}, k_K yt = true → RM yS yt → K yS) : e_units_122 x1 x2 x3 x6 x7 x8 S K := by
  refine ⟨fun y_x1 y_x2 y_x3 y_x6 y_x7 y_x8 yS => ∃ n, xq_e_units_122 k_K n y_x1 y_x2 y_x3 y_x6 y_x7 y_x8 yS, fun y_x1 y_x2 y_x3 y_x6 y_x7 y_x8 yS => mf (fun n => xq_e_units_122 k_K n y_x1 y_x2 y_x3 y_x6 y_x7 y_x8 yS), ⟨200000, a_x1, a_x2, a_x3, a_x6, a_x7, a_x8, t, e_x1, e_x2, e_x3, e_x6, e_x7, e_x8, hS, h⟩, fun y_x1 y_x2 y_x3 y_x6 y_x7 y_x8 yS hI => ?_⟩
  obtain ⟨m, hm, hq⟩ := mf_ok hI
  obtain ⟨b_x1, b_x2, b_x3, b_x6, b_x7, b_x8, bt, c_x1, c_x2, c_x3, c_x6, c_x7, c_x8, cS, h⟩ := hq
  cases m with
  | zero => exact absurd h Bool.false_ne_true
  | succ n => exact xs_b_units_122 h c_x1 c_x2 c_x3 c_x6 c_x7 c_x8 cS (fun h d_x1 d_x2 d_x3 d_x6 d_x7 d_x8 dS => ⟨⟨n, _, _, _, _, _, _, _, d_x1, d_x2, d_x3, d_x6, d_x7, d_x8, dS, h⟩, Nat.lt_of_le_of_lt (mf_le ⟨_, _, _, _, _, _, _, d_x1, d_x2, d_x3, d_x6, d_x7, d_x8, dS, h⟩) (Nat.lt_of_lt_of_eq (Nat.lt_succ_self n) hm.symm)⟩) hK
