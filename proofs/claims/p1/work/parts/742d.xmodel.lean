noncomputable def x_b_makeRaster_50 (a_x1 : Nat) (a_x2 : Nat) (a_x3 : Nat) (a_x4 : Nat) (a_x5 : Nat) (a_x6 : Nat) (t : X6) (r_R36 : Nat → Nat → Nat → Nat → Nat → X6 → Bool) (r_R50 : Nat → Nat → Nat → Nat → Nat → Nat → X6 → Bool) (k_K : X6 → Bool) : Bool :=
  x_p_layerWide 0 a_x1 t (fun v55_ t_S55 => cond (!(w_lt a_x6 v55_)) (frc (w_add a_x5 1) fun f2 => r_R36 a_x1 a_x2 a_x3 a_x4 f2 t_S55) (frc (w_div a_x4 2) fun f4 => x_e_makeRaster_70 a_x1 a_x2 a_x3 a_x4 a_x5 a_x6 f4 0 t_S55 r_R36 r_R50 k_K))
set_option maxRecDepth 20000 in
set_option maxHeartbeats 1000000 in
theorem xs_b_makeRaster_50 {x1 : Int32} {a_x1 : Nat} {x2 : Int32} {a_x2 : Nat} {x3 : Int32} {a_x3 : Nat} {x4 : Int32} {a_x4 : Nat} {x5 : Int32} {a_x5 : Nat} {x6 : Int32} {a_x6 : Nat} {S : ms} {t : X6} {R36 : Int32 → Int32 → Int32 → Int32 → Int32 → ms → Prop} {r_R36 : Nat → Nat → Nat → Nat → Nat → X6 → Bool} {R50 : Int32 → Int32 → Int32 → Int32 → Int32 → Int32 → ms → Prop} {r_R50 : Nat → Nat → Nat → Nat → Nat → Nat → X6 → Bool} {K : ms → Prop} {k_K : X6 → Bool} (h : x_b_makeRaster_50 a_x1 a_x2 a_x3 a_x4 a_x5 a_x6 t r_R36 r_R50 k_K = true) (e_x1 : x1 = Int32.ofNat a_x1) (e_x2 : x2 = Int32.ofNat a_x2) (e_x3 : x3 = Int32.ofNat a_x3) (e_x4 : x4 = Int32.ofNat a_x4) (e_x5 : x5 = Int32.ofNat a_x5) (e_x6 : x6 = Int32.ofNat a_x6) (hS : RM S t) (hR36 : ∀ {y0 : Int32} {b0 : Nat} {y1 : Int32} {b1 : Nat} {y2 : Int32} {b2 : Nat} {y3 : Int32} {b3 : Nat} {y4 : Int32} {b4 : Nat} {yS : ms} {yt : X6}, r_R36 b0 b1 b2 b3 b4 yt = true → y0 = Int32.ofNat b0 → y1 = Int32.ofNat b1 → y2 = Int32.ofNat b2 → y3 = Int32.ofNat b3 → y4 = Int32.ofNat b4 → RM yS yt → R36 y0 y1 y2 y3 y4 yS) (hR50 : ∀ {y0 : Int32} {b0 : Nat} {y1 : Int32} {b1 : Nat} {y2 : Int32} {b2 : Nat} {y3 : Int32} {b3 : Nat} {y4 : Int32} {b4 : Nat} {y5 : Int32} {b5 : Nat} {yS : ms} {yt : X6}, r_R50 b0 b1 b2 b3 b4 b5 yt = true → y0 = Int32.ofNat b0 → y1 = Int32.ofNat b1 → y2 = Int32.ofNat b2 → y3 = Int32.ofNat b3 → y4 = Int32.ofNat b4 → y5 = Int32.ofNat b5 → RM yS yt → R50 y0 y1 y2 y3 y4 y5 yS) (hK : ∀ {yS : ms} {yt : X6}, k_K yt = true → RM yS yt → K yS) : b_makeRaster_50 x1 x2 x3 x4 x5 x6 S R36 R50 K := by
  unfold b_makeRaster_50
  unfold x_b_makeRaster_50 at h
  refine xs_p_layerWide h ((rfl : (0 : Int32) = Int32.ofNat 0)) e_x1 hS (fun h e_v55 h_S55 => ?_)
  have hc1 := c_le' e_v55 e_x6
  refine ⟨fun hc => ?_, fun hc => ?_⟩
  · have h := x_pos h (hc1.mp hc)
    have h := frc_ok h
    have p3 := n_add e_x5 ((rfl : (1 : Int32) = Int32.ofNat 1))
    exact hR36 h e_x1 e_x2 e_x3 e_x4 p3 h_S55
  · have h := x_neg h (fun q => hc (hc1.mpr q))
    have h := frc_ok h
    have p5 := n_div e_x4 ((rfl : (2 : Int32) = Int32.ofNat 2))
    exact xs_e_makeRaster_70 h e_x1 e_x2 e_x3 e_x4 e_x5 e_x6 p5 ((rfl : (0 : Int32) = Int32.ofNat 0)) h_S55 hR36 hR50 hK
noncomputable def xl_e_makeRaster_50 (r_R36 : Nat → Nat → Nat → Nat → Nat → X6 → Bool) (k_K : X6 → Bool) (n : Nat) : Nat → Nat → Nat → Nat → Nat → Nat → X6 → Bool := Nat.rec (motive := fun _ => Nat → Nat → Nat → Nat → Nat → Nat → X6 → Bool) (fun _ _ _ _ _ _ _ => false) (fun _ ih b_x1 b_x2 b_x3 b_x4 b_x5 b_x6 bt => x_b_makeRaster_50 b_x1 b_x2 b_x3 b_x4 b_x5 b_x6 bt r_R36 ih k_K) n
noncomputable def x_e_makeRaster_50 (a_x1 : Nat) (a_x2 : Nat) (a_x3 : Nat) (a_x4 : Nat) (a_x5 : Nat) (a_x6 : Nat) (t : X6) (r_R36 : Nat → Nat → Nat → Nat → Nat → X6 → Bool) (k_K : X6 → Bool) : Bool := xl_e_makeRaster_50 r_R36 k_K 200000 a_x1 a_x2 a_x3 a_x4 a_x5 a_x6 t
def xq_e_makeRaster_50 (r_R36 : Nat → Nat → Nat → Nat → Nat → X6 → Bool) (k_K : X6 → Bool) (n : Nat) (y_x1 : Int32) (y_x2 : Int32) (y_x3 : Int32) (y_x4 : Int32) (y_x5 : Int32) (y_x6 : Int32) (yS : ms) : Prop := ∃ (b_x1 : Nat) (b_x2 : Nat) (b_x3 : Nat) (b_x4 : Nat) (b_x5 : Nat) (b_x6 : Nat) (bt : X6), y_x1 = Int32.ofNat b_x1 ∧ y_x2 = Int32.ofNat b_x2 ∧ y_x3 = Int32.ofNat b_x3 ∧ y_x4 = Int32.ofNat b_x4 ∧ y_x5 = Int32.ofNat b_x5 ∧ y_x6 = Int32.ofNat b_x6 ∧ RM yS bt ∧ xl_e_makeRaster_50 r_R36 k_K n b_x1 b_x2 b_x3 b_x4 b_x5 b_x6 bt = true
set_option maxRecDepth 20000 in
theorem xs_e_makeRaster_50 {x1 : Int32} {a_x1 : Nat} {x2 : Int32} {a_x2 : Nat} {x3 : Int32} {a_x3 : Nat} {x4 : Int32} {a_x4 : Nat} {x5 : Int32} {a_x5 : Nat} {x6 : Int32} {a_x6 : Nat} {S : ms} {t : X6} {R36 : Int32 → Int32 → Int32 → Int32 → Int32 → ms → Prop} {r_R36 : Nat → Nat → Nat → Nat → Nat → X6 → Bool} {K : ms → Prop} {k_K : X6 → Bool} (h : x_e_makeRaster_50 a_x1 a_x2 a_x3 a_x4 a_x5 a_x6 t r_R36 k_K = true) (e_x1 : x1 = Int32.ofNat a_x1) (e_x2 : x2 = Int32.ofNat a_x2) (e_x3 : x3 = Int32.ofNat a_x3) (e_x4 : x4 = Int32.ofNat a_x4) (e_x5 : x5 = Int32.ofNat a_x5) (e_x6 : x6 = Int32.ofNat a_x6) (hS : RM S t) (hR36 : ∀ {y0 : Int32} {b0 : Nat} {y1 : Int32} {b1 : Nat} {y2 : Int32} {b2 : Nat} {y3 : Int32} {b3 : Nat} {y4 : Int32} {b4 : Nat} {yS : ms} {yt : X6}, r_R36 b0 b1 b2 b3 b4 yt = true → y0 = Int32.ofNat b0 → y1 = Int32.ofNat b1 → y2 = Int32.ofNat b2 → y3 = Int32.ofNat b3 → y4 = Int32.ofNat b4 → RM yS yt → R36 y0 y1 y2 y3 y4 yS) (hK : ∀ {yS : ms} {yt : X6}, k_K yt = true → RM yS yt → K yS) : e_makeRaster_50 x1 x2 x3 x4 x5 x6 S R36 K := by
  refine ⟨fun y_x1 y_x2 y_x3 y_x4 y_x5 y_x6 yS => ∃ n, xq_e_makeRaster_50 r_R36 k_K n y_x1 y_x2 y_x3 y_x4 y_x5 y_x6 yS, fun y_x1 y_x2 y_x3 y_x4 y_x5 y_x6 yS => mf (fun n => xq_e_makeRaster_50 r_R36 k_K n y_x1 y_x2 y_x3 y_x4 y_x5 y_x6 yS), ⟨200000, a_x1, a_x2, a_x3, a_x4, a_x5, a_x6, t, e_x1, e_x2, e_x3, e_x4, e_x5, e_x6, hS, h⟩, fun y_x1 y_x2 y_x3 y_x4 y_x5 y_x6 yS hI => ?_⟩
  obtain ⟨m, hm, hq⟩ := mf_ok hI
  obtain ⟨b_x1, b_x2, b_x3, b_x4, b_x5, b_x6, bt, c_x1, c_x2, c_x3, c_x4, c_x5, c_x6, cS, h⟩ := hq
  cases m with
  | zero => exact absurd h Bool.false_ne_true
  | succ n => exact xs_b_makeRaster_50 h c_x1 c_x2 c_x3 c_x4 c_x5 c_x6 cS hR36 (fun h d_x1 d_x2 d_x3 d_x4 d_x5 d_x6 dS => ⟨⟨n, _, _, _, _, _, _, _, d_x1, d_x2, d_x3, d_x4, d_x5, d_x6, dS, h⟩, Nat.lt_of_le_of_lt (mf_le ⟨_, _, _, _, _, _, _, d_x1, d_x2, d_x3, d_x4, d_x5, d_x6, dS, h⟩) (Nat.lt_of_lt_of_eq (Nat.lt_succ_self n) hm.symm)⟩) hK
noncomputable def x_b_makeRaster_36 (a_x1 : Nat) (a_x2 : Nat) (a_x3 : Nat) (a_x4 : Nat) (a_x5 : Nat) (t : X6) (r_R36 : Nat → Nat → Nat → Nat → Nat → X6 → Bool) (k_K : X6 → Bool) : Bool :=
  x_p_layerHigh 0 a_x1 t (fun v41_ t_S41 => cond (!(w_lt a_x5 v41_)) (k_K t_S41) (x_e_makeRaster_50 a_x1 a_x2 a_x3 a_x4 a_x5 0 t_S41 r_R36 k_K))
set_option maxRecDepth 20000 in
set_option maxHeartbeats 1000000 in
theorem xs_b_makeRaster_36 {x1 : Int32} {a_x1 : Nat} {x2 : Int32} {a_x2 : Nat} {x3 : Int32} {a_x3 : Nat} {x4 : Int32} {a_x4 : Nat} {x5 : Int32} {a_x5 : Nat} {S : ms} {t : X6} {R36 : Int32 → Int32 → Int32 → Int32 → Int32 → ms → Prop} {r_R36 : Nat → Nat → Nat → Nat → Nat → X6 → Bool} {K : ms → Prop} {k_K : X6 → Bool} (h : x_b_makeRaster_36 a_x1 a_x2 a_x3 a_x4 a_x5 t r_R36 k_K = true) (e_x1 : x1 = Int32.ofNat a_x1) (e_x2 : x2 = Int32.ofNat a_x2) (e_x3 : x3 = Int32.ofNat a_x3) (e_x4 : x4 = Int32.ofNat a_x4) (e_x5 : x5 = Int32.ofNat a_x5) (hS : RM S t) (hR36 : ∀ {y0 : Int32} {b0 : Nat} {y1 : Int32} {b1 : Nat} {y2 : Int32} {b2 : Nat} {y3 : Int32} {b3 : Nat} {y4 : Int32} {b4 : Nat} {yS : ms} {yt : X6}, r_R36 b0 b1 b2 b3 b4 yt = true → y0 = Int32.ofNat b0 → y1 = Int32.ofNat b1 → y2 = Int32.ofNat b2 → y3 = Int32.ofNat b3 → y4 = Int32.ofNat b4 → RM yS yt → R36 y0 y1 y2 y3 y4 yS) (hK : ∀ {yS : ms} {yt : X6}, k_K yt = true → RM yS yt → K yS) : b_makeRaster_36 x1 x2 x3 x4 x5 S R36 K := by
  unfold b_makeRaster_36
  unfold x_b_makeRaster_36 at h
  refine xs_p_layerHigh h ((rfl : (0 : Int32) = Int32.ofNat 0)) e_x1 hS (fun h e_v41 h_S41 => ?_)
  have hc1 := c_le' e_v41 e_x5
  refine ⟨fun hc => ?_, fun hc => ?_⟩
  · have h := x_pos h (hc1.mp hc)
    exact hK h h_S41
  · have h := x_neg h (fun q => hc (hc1.mpr q))
    exact xs_e_makeRaster_50 h e_x1 e_x2 e_x3 e_x4 e_x5 ((rfl : (0 : Int32) = Int32.ofNat 0)) h_S41 hR36 hK
noncomputable def xl_e_makeRaster_36 (k_K : X6 → Bool) (n : Nat) : Nat → Nat → Nat → Nat → Nat → X6 → Bool := Nat.rec (motive := fun _ => Nat → Nat → Nat → Nat → Nat → X6 → Bool) (fun _ _ _ _ _ _ => false) (fun _ ih b_x1 b_x2 b_x3 b_x4 b_x5 bt => x_b_makeRaster_36 b_x1 b_x2 b_x3 b_x4 b_x5 bt ih k_K) n
noncomputable def x_e_makeRaster_36 (a_x1 : Nat) (a_x2 : Nat) (a_x3 : Nat) (a_x4 : Nat) (a_x5 : Nat) (t : X6) (k_K : X6 → Bool) : Bool := xl_e_makeRaster_36 k_K 200000 a_x1 a_x2 a_x3 a_x4 a_x5 t
def xq_e_makeRaster_36 (k_K : X6 → Bool) (n : Nat) (y_x1 : Int32) (y_x2 : Int32) (y_x3 : Int32) (y_x4 : Int32) (y_x5 : Int32) (yS : ms) : Prop := ∃ (b_x1 : Nat) (b_x2 : Nat) (b_x3 : Nat) (b_x4 : Nat) (b_x5 : Nat) (bt : X6), y_x1 = Int32.ofNat b_x1 ∧ y_x2 = Int32.ofNat b_x2 ∧ y_x3 = Int32.ofNat b_x3 ∧ y_x4 = Int32.ofNat b_x4 ∧ y_x5 = Int32.ofNat b_x5 ∧ RM yS bt ∧ xl_e_makeRaster_36 k_K n b_x1 b_x2 b_x3 b_x4 b_x5 bt = true
set_option maxRecDepth 20000 in
theorem xs_e_makeRaster_36 {x1 : Int32} {a_x1 : Nat} {x2 : Int32} {a_x2 : Nat} {x3 : Int32} {a_x3 : Nat} {x4 : Int32} {a_x4 : Nat} {x5 : Int32} {a_x5 : Nat} {S : ms} {t : X6} {K : ms → Prop} {k_K : X6 → Bool} (h : x_e_makeRaster_36 a_x1 a_x2 a_x3 a_x4 a_x5 t k_K = true) (e_x1 : x1 = Int32.ofNat a_x1) (e_x2 : x2 = Int32.ofNat a_x2) (e_x3 : x3 = Int32.ofNat a_x3) (e_x4 : x4 = Int32.ofNat a_x4) (e_x5 : x5 = Int32.ofNat a_x5) (hS : RM S t) (hK : ∀ {yS : ms} {yt : X6}, k_K yt = true → RM yS yt → K yS) : e_makeRaster_36 x1 x2 x3 x4 x5 S K := by
  refine ⟨fun y_x1 y_x2 y_x3 y_x4 y_x5 yS => ∃ n, xq_e_makeRaster_36 k_K n y_x1 y_x2 y_x3 y_x4 y_x5 yS, fun y_x1 y_x2 y_x3 y_x4 y_x5 yS => mf (fun n => xq_e_makeRaster_36 k_K n y_x1 y_x2 y_x3 y_x4 y_x5 yS), ⟨200000, a_x1, a_x2, a_x3, a_x4, a_x5, t, e_x1, e_x2, e_x3, e_x4, e_x5, hS, h⟩, fun y_x1 y_x2 y_x3 y_x4 y_x5 yS hI => ?_⟩
  obtain ⟨m, hm, hq⟩ := mf_ok hI
  obtain ⟨b_x1, b_x2, b_x3, b_x4, b_x5, bt, c_x1, c_x2, c_x3, c_x4, c_x5, cS, h⟩ := hq
  cases m with
  | zero => exact absurd h Bool.false_ne_true
  | succ n => exact xs_b_makeRaster_36 h c_x1 c_x2 c_x3 c_x4 c_x5 cS (fun h d_x1 d_x2 d_x3 d_x4 d_x5 dS => ⟨⟨n, _, _, _, _, _, _, d_x1, d_x2, d_x3, d_x4, d_x5, dS, h⟩, Nat.lt_of_le_of_lt (mf_le ⟨_, _, _, _, _, _, d_x1, d_x2, d_x3, d_x4, d_x5, dS, h⟩) (Nat.lt_of_lt_of_eq (Nat.lt_succ_self n) hm.symm)⟩) hK
noncomputable def x_p_makeRaster (a_x1 : Nat) (t : X6) (k_K : X6 → Bool) : Bool :=
  x_p_greatest 0 1 t (fun v3_ t_S3 => and (Nat.blt a_x1 9) <| rrw t_S3 15 a_x1 fun v2 => cond (w_eq v2 0) false <| x_p_greatest 0 0 t_S3 (fun v17_ t_S17 => rrw t_S17 16 a_x1 fun v5 => cond (w_eq v5 0) false <| frc (w_div v3_ v2) fun f8 => frc (w_div v17_ v5) fun f10 => frc (w_mul (w_div v3_ v2) (w_div v17_ v5)) fun f12 => x_e_makeRaster_36 a_x1 f8 f10 f12 0 t_S17 k_K))
set_option maxRecDepth 20000 in
set_option maxHeartbeats 1000000 in
theorem xs_p_makeRaster {x1 : Int32} {a_x1 : Nat} {S : ms} {t : X6} {K : ms → Prop} {k_K : X6 → Bool} (h : x_p_makeRaster a_x1 t k_K = true) (e_x1 : x1 = Int32.ofNat a_x1) (hS : RM S t) (hK : ∀ {yS : ms} {yt : X6}, k_K yt = true → RM yS yt → K yS) : p_makeRaster x1 S K := by
  unfold p_makeRaster
  unfold x_p_makeRaster at h
  refine xs_p_greatest h ((rfl : (0 : Int32) = Int32.ofNat 0)) ((rfl : (1 : Int32) = Int32.ofNat 1)) hS (fun h e_v3 h_S3 => ?_)
  obtain ⟨n1, h⟩ := an_ok h
  refine ⟨n_vp e_x1 n1 (by decide), ?_⟩
  obtain ⟨v2, h, q3⟩ := rrw_ok h h_S3 (by decide) e_x1
  obtain ⟨n4, h⟩ := nu_ok h
  refine ⟨fun q => absurd ((c_eq' q3 ((rfl : (0 : Int32) = Int32.ofNat 0))).mp q) (by rw [n4]; exact Bool.false_ne_true), ?_⟩
  refine xs_p_greatest h ((rfl : (0 : Int32) = Int32.ofNat 0)) ((rfl : (0 : Int32) = Int32.ofNat 0)) h_S3 (fun h e_v17 h_S17 => ?_)
  refine ⟨n_vp e_x1 n1 (by decide), ?_⟩
  obtain ⟨v5, h, q6⟩ := rrw_ok h h_S17 (by decide) e_x1
  obtain ⟨n7, h⟩ := nu_ok h
  refine ⟨fun q => absurd ((c_eq' q6 ((rfl : (0 : Int32) = Int32.ofNat 0))).mp q) (by rw [n7]; exact Bool.false_ne_true), ?_⟩
  have h := frc_ok h
  have p9 := n_div e_v3 q3
  have h := frc_ok h
  have p11 := n_div e_v17 q6
  have h := frc_ok h
  have p13 := n_mul (n_div e_v3 q3) (n_div e_v17 q6)
  exact xs_e_makeRaster_36 h e_x1 p9 p11 p13 ((rfl : (0 : Int32) = Int32.ofNat 0)) h_S17 hK
noncomputable def x_b_toWeights_120 (a_x1 : Nat) (a_x2 : Nat) (a_x3 : Nat) (a_x5 : Nat) (t : X6) (r_R99 : Nat → X6 → Bool) (r_R107 : Nat → Nat → X6 → Bool) (r_R120 : Nat → Nat → Nat → Nat → X6 → Bool) (k_K : X6 → Bool) : Bool :=
  cond (!(w_lt a_x5 8)) (frc (w_add (w_mul 8 a_x2) a_x1) fun f2 => and (Nat.blt f2 64) <| frc (w_add a_x2 1) fun f5 => frc (v_l2i (v_shr a_x3 17)) fun f9 => wrw t 25 f2 f9 fun t7 => r_R107 a_x1 f5 t7) (frc (w_add (w_mul 8 a_x5) a_x2) fun f11 => and (Nat.blt f11 64) <| frc (w_add (w_mul 8 a_x5) a_x1) fun f14 => and (Nat.blt f14 64) <| rrw t 23 f11 fun v17 => rrl t 24 f14 fun v19 => frc (v_add a_x3 (v_mul (v_i2l v17) v19)) fun f21 => frc (w_add a_x5 1) fun f23 => r_R120 a_x1 a_x2 f21 f23 t)
set_option maxRecDepth 20000 in
set_option maxHeartbeats 1000000 in
theorem xs_b_toWeights_120 {x1 : Int32} {a_x1 : Nat} {x2 : Int32} {a_x2 : Nat} {x3 : Int64} {a_x3 : Nat} {x5 : Int32} {a_x5 : Nat} {S : ms} {t : X6} {R99 : Int32 → ms → Prop} {r_R99 : Nat → X6 → Bool} {R107 : Int32 → Int32 → ms → Prop} {r_R107 : Nat → Nat → X6 → Bool} {R120 : Int32 → Int32 → Int64 → Int32 → ms → Prop} {r_R120 : Nat → Nat → Nat → Nat → X6 → Bool} {K : ms → Prop} {k_K : X6 → Bool} (h : x_b_toWeights_120 a_x1 a_x2 a_x3 a_x5 t r_R99 r_R107 r_R120 k_K = true) (e_x1 : x1 = Int32.ofNat a_x1) (e_x2 : x2 = Int32.ofNat a_x2) (e_x3 : x3 = Int64.ofNat a_x3) (e_x5 : x5 = Int32.ofNat a_x5) (hS : RM S t) (hR99 : ∀ {y0 : Int32} {b0 : Nat} {yS : ms} {yt : X6}, r_R99 b0 yt = true → y0 = Int32.ofNat b0 → RM yS yt → R99 y0 yS) (hR107 : ∀ {y0 : Int32} {b0 : Nat} {y1 : Int32} {b1 : Nat} {yS : ms} {yt : X6}, r_R107 b0 b1 yt = true → y0 = Int32.ofNat b0 → y1 = Int32.ofNat b1 → RM yS yt → R107 y0 y1 yS) (hR120 : ∀ {y0 : Int32} {b0 : Nat} {y1 : Int32} {b1 : Nat} {y2 : Int64} {b2 : Nat} {y3 : Int32} {b3 : Nat} {yS : ms} {yt : X6}, r_R120 b0 b1 b2 b3 yt = true → y0 = Int32.ofNat b0 → y1 = Int32.ofNat b1 → y2 = Int64.ofNat b2 → y3 = Int32.ofNat b3 → RM yS yt → R120 y0 y1 y2 y3 yS) (hK : ∀ {yS : ms} {yt : X6}, k_K yt = true → RM yS yt → K yS) : b_toWeights_120 x1 x2 x3 x5 S R99 R107 R120 K := by
  unfold b_toWeights_120
  unfold x_b_toWeights_120 at h
  have hc1 := c_le' ((rfl : (8 : Int32) = Int32.ofNat 8)) e_x5
  refine ⟨fun hc => ?_, fun hc => ?_⟩
  · have h := x_pos h (hc1.mp hc)
    have h := frc_ok h
    have p3 := n_add (n_mul ((rfl : (8 : Int32) = Int32.ofNat 8)) e_x2) e_x1
    obtain ⟨n4, h⟩ := an_ok h
    refine ⟨n_vp p3 n4 (by decide), ?_⟩
    have h := frc_ok h
    have p6 := n_add e_x2 ((rfl : (1 : Int32) = Int32.ofNat 1))
    have h := frc_ok h
    have p10 := m_l2i (m_shr e_x3 ((rfl : (17 : Int32) = Int32.ofNat 17)))
    obtain ⟨t7, h, hS8⟩ := wrw_ok h hS (by decide) p3 p10
    exact hR107 h e_x1 p6 hS8
  · have h := x_neg h (fun q => hc (hc1.mpr q))
    have h := frc_ok h
    have p12 := n_add (n_mul ((rfl : (8 : Int32) = Int32.ofNat 8)) e_x5) e_x2
    obtain ⟨n13, h⟩ := an_ok h
    refine ⟨n_vp p12 n13 (by decide), ?_⟩
    have h := frc_ok h
    have p15 := n_add (n_mul ((rfl : (8 : Int32) = Int32.ofNat 8)) e_x5) e_x1
    obtain ⟨n16, h⟩ := an_ok h
    refine ⟨n_vp p15 n16 (by decide), ?_⟩
    obtain ⟨v17, h, q18⟩ := rrw_ok h hS (by decide) p12
    obtain ⟨v19, h, q20⟩ := rrl_ok h hS (by decide) p15
    have h := frc_ok h
    have p22 := m_add e_x3 (m_mul (m_i2l q18) q20)
    have h := frc_ok h
    have p24 := n_add e_x5 ((rfl : (1 : Int32) = Int32.ofNat 1))
    exact hR120 h e_x1 e_x2 p22 p24 hS
noncomputable def xl_e_toWeights_120 (r_R99 : Nat → X6 → Bool) (r_R107 : Nat → Nat → X6 → Bool) (k_K : X6 → Bool) (n : Nat) : Nat → Nat → Nat → Nat → X6 → Bool := Nat.rec (motive := fun _ => Nat → Nat → Nat → Nat → X6 → Bool) (fun _ _ _ _ _ => false) (fun _ ih b_x1 b_x2 b_x3 b_x5 bt => x_b_toWeights_120 b_x1 b_x2 b_x3 b_x5 bt r_R99 r_R107 ih k_K) n
noncomputable def x_e_toWeights_120 (a_x1 : Nat) (a_x2 : Nat) (a_x3 : Nat) (a_x5 : Nat) (t : X6) (r_R99 : Nat → X6 → Bool) (r_R107 : Nat → Nat → X6 → Bool) (k_K : X6 → Bool) : Bool := xl_e_toWeights_120 r_R99 r_R107 k_K 200000 a_x1 a_x2 a_x3 a_x5 t
def xq_e_toWeights_120 (r_R99 : Nat → X6 → Bool) (r_R107 : Nat → Nat → X6 → Bool) (k_K : X6 → Bool) (n : Nat) (y_x1 : Int32) (y_x2 : Int32) (y_x3 : Int64) (y_x5 : Int32) (yS : ms) : Prop := ∃ (b_x1 : Nat) (b_x2 : Nat) (b_x3 : Nat) (b_x5 : Nat) (bt : X6), y_x1 = Int32.ofNat b_x1 ∧ y_x2 = Int32.ofNat b_x2 ∧ y_x3 = Int64.ofNat b_x3 ∧ y_x5 = Int32.ofNat b_x5 ∧ RM yS bt ∧ xl_e_toWeights_120 r_R99 r_R107 k_K n b_x1 b_x2 b_x3 b_x5 bt = true
set_option maxRecDepth 20000 in
theorem xs_e_toWeights_120 {x1 : Int32} {a_x1 : Nat} {x2 : Int32} {a_x2 : Nat} {x3 : Int64} {a_x3 : Nat} {x5 : Int32} {a_x5 : Nat} {S : ms} {t : X6} {R99 : Int32 → ms → Prop} {r_R99 : Nat → X6 → Bool} {R107 : Int32 → Int32 → ms → Prop} {r_R107 : Nat → Nat → X6 → Bool} {K : ms → Prop} {k_K : X6 → Bool} (h : x_e_toWeights_120 a_x1 a_x2 a_x3 a_x5 t r_R99 r_R107 k_K = true) (e_x1 : x1 = Int32.ofNat a_x1) (e_x2 : x2 = Int32.ofNat a_x2) (e_x3 : x3 = Int64.ofNat a_x3) (e_x5 : x5 = Int32.ofNat a_x5) (hS : RM S t) (hR99 : ∀ {y0 : Int32} {b0 : Nat} {yS : ms} {yt : X6}, r_R99 b0 yt = true → y0 = Int32.ofNat b0 → RM yS yt → R99 y0 yS) (hR107 : ∀ {y0 : Int32} {b0 : Nat} {y1 : Int32} {b1 : Nat} {yS : ms} {yt : X6}, r_R107 b0 b1 yt = true → y0 = Int32.ofNat b0 → y1 = Int32.ofNat b1 → RM yS yt → R107 y0 y1 yS) (hK : ∀ {yS : ms} {yt : X6}, k_K yt = true → RM yS yt → K yS) : e_toWeights_120 x1 x2 x3 x5 S R99 R107 K := by
  refine ⟨fun y_x1 y_x2 y_x3 y_x5 yS => ∃ n, xq_e_toWeights_120 r_R99 r_R107 k_K n y_x1 y_x2 y_x3 y_x5 yS, fun y_x1 y_x2 y_x3 y_x5 yS => mf (fun n => xq_e_toWeights_120 r_R99 r_R107 k_K n y_x1 y_x2 y_x3 y_x5 yS), ⟨200000, a_x1, a_x2, a_x3, a_x5, t, e_x1, e_x2, e_x3, e_x5, hS, h⟩, fun y_x1 y_x2 y_x3 y_x5 yS hI => ?_⟩
  obtain ⟨m, hm, hq⟩ := mf_ok hI
  obtain ⟨b_x1, b_x2, b_x3, b_x5, bt, c_x1, c_x2, c_x3, c_x5, cS, h⟩ := hq
  cases m with
  | zero => exact absurd h Bool.false_ne_true
  | succ n => exact xs_b_toWeights_120 h c_x1 c_x2 c_x3 c_x5 cS hR99 hR107 (fun h d_x1 d_x2 d_x3 d_x5 dS => ⟨⟨n, _, _, _, _, _, d_x1, d_x2, d_x3, d_x5, dS, h⟩, Nat.lt_of_le_of_lt (mf_le ⟨_, _, _, _, _, d_x1, d_x2, d_x3, d_x5, dS, h⟩) (Nat.lt_of_lt_of_eq (Nat.lt_succ_self n) hm.symm)⟩) hK
noncomputable def x_b_toWeights_107 (a_x1 : Nat) (a_x2 : Nat) (t : X6) (r_R99 : Nat → X6 → Bool) (r_R107 : Nat → Nat → X6 → Bool) (k_K : X6 → Bool) : Bool :=
  cond (!(w_lt a_x2 8)) (frc (w_add a_x1 1) fun f2 => r_R99 f2 t) (x_e_toWeights_120 a_x1 a_x2 65536 0 t r_R99 r_R107 k_K)
set_option maxRecDepth 20000 in
set_option maxHeartbeats 1000000 in
theorem xs_b_toWeights_107 {x1 : Int32} {a_x1 : Nat} {x2 : Int32} {a_x2 : Nat} {S : ms} {t : X6} {R99 : Int32 → ms → Prop} {r_R99 : Nat → X6 → Bool} {R107 : Int32 → Int32 → ms → Prop} {r_R107 : Nat → Nat → X6 → Bool} {K : ms → Prop} {k_K : X6 → Bool} (h : x_b_toWeights_107 a_x1 a_x2 t r_R99 r_R107 k_K = true) (e_x1 : x1 = Int32.ofNat a_x1) (e_x2 : x2 = Int32.ofNat a_x2) (hS : RM S t) (hR99 : ∀ {y0 : Int32} {b0 : Nat} {yS : ms} {yt : X6}, r_R99 b0 yt = true → y0 = Int32.ofNat b0 → RM yS yt → R99 y0 yS) (hR107 : ∀ {y0 : Int32} {b0 : Nat} {y1 : Int32} {b1 : Nat} {yS : ms} {yt : X6}, r_R107 b0 b1 yt = true → y0 = Int32.ofNat b0 → y1 = Int32.ofNat b1 → RM yS yt → R107 y0 y1 yS) (hK : ∀ {yS : ms} {yt : X6}, k_K yt = true → RM yS yt → K yS) : b_toWeights_107 x1 x2 S R99 R107 K := by
  unfold b_toWeights_107
  unfold x_b_toWeights_107 at h
  have hc1 := c_le' ((rfl : (8 : Int32) = Int32.ofNat 8)) e_x2
  refine ⟨fun hc => ?_, fun hc => ?_⟩
  · have h := x_pos h (hc1.mp hc)
    have h := frc_ok h
    have p3 := n_add e_x1 ((rfl : (1 : Int32) = Int32.ofNat 1))
    exact hR99 h p3 hS
  · have h := x_neg h (fun q => hc (hc1.mpr q))
    exact xs_e_toWeights_120 h e_x1 e_x2 ((rfl : (65536 : Int64) = Int64.ofNat 65536)) ((rfl : (0 : Int32) = Int32.ofNat 0)) hS hR99 hR107 hK
noncomputable def xl_e_toWeights_107 (r_R99 : Nat → X6 → Bool) (k_K : X6 → Bool) (n : Nat) : Nat → Nat → X6 → Bool := Nat.rec (motive := fun _ => Nat → Nat → X6 → Bool) (fun _ _ _ => false) (fun _ ih b_x1 b_x2 bt => x_b_toWeights_107 b_x1 b_x2 bt r_R99 ih k_K) n
noncomputable def x_e_toWeights_107 (a_x1 : Nat) (a_x2 : Nat) (t : X6) (r_R99 : Nat → X6 → Bool) (k_K : X6 → Bool) : Bool := xl_e_toWeights_107 r_R99 k_K 200000 a_x1 a_x2 t
def xq_e_toWeights_107 (r_R99 : Nat → X6 → Bool) (k_K : X6 → Bool) (n : Nat) (y_x1 : Int32) (y_x2 : Int32) (yS : ms) : Prop := ∃ (b_x1 : Nat) (b_x2 : Nat) (bt : X6), y_x1 = Int32.ofNat b_x1 ∧ y_x2 = Int32.ofNat b_x2 ∧ RM yS bt ∧ xl_e_toWeights_107 r_R99 k_K n b_x1 b_x2 bt = true
set_option maxRecDepth 20000 in
theorem xs_e_toWeights_107 {x1 : Int32} {a_x1 : Nat} {x2 : Int32} {a_x2 : Nat} {S : ms} {t : X6} {R99 : Int32 → ms → Prop} {r_R99 : Nat → X6 → Bool} {K : ms → Prop} {k_K : X6 → Bool} (h : x_e_toWeights_107 a_x1 a_x2 t r_R99 k_K = true) (e_x1 : x1 = Int32.ofNat a_x1) (e_x2 : x2 = Int32.ofNat a_x2) (hS : RM S t) (hR99 : ∀ {y0 : Int32} {b0 : Nat} {yS : ms} {yt : X6}, r_R99 b0 yt = true → y0 = Int32.ofNat b0 → RM yS yt → R99 y0 yS) (hK : ∀ {yS : ms} {yt : X6}, k_K yt = true → RM yS yt → K yS) : e_toWeights_107 x1 x2 S R99 K := by
  refine ⟨fun y_x1 y_x2 yS => ∃ n, xq_e_toWeights_107 r_R99 k_K n y_x1 y_x2 yS, fun y_x1 y_x2 yS => mf (fun n => xq_e_toWeights_107 r_R99 k_K n y_x1 y_x2 yS), ⟨200000, a_x1, a_x2, t, e_x1, e_x2, hS, h⟩, fun y_x1 y_x2 yS hI => ?_⟩
  obtain ⟨m, hm, hq⟩ := mf_ok hI
  obtain ⟨b_x1, b_x2, bt, c_x1, c_x2, cS, h⟩ := hq
  cases m with
  | zero => exact absurd h Bool.false_ne_true
  | succ n => exact xs_b_toWeights_107 h c_x1 c_x2 cS hR99 (fun h d_x1 d_x2 dS => ⟨⟨n, _, _, _, d_x1, d_x2, dS, h⟩, Nat.lt_of_le_of_lt (mf_le ⟨_, _, _, d_x1, d_x2, dS, h⟩) (Nat.lt_of_lt_of_eq (Nat.lt_succ_self n) hm.symm)⟩) hK
noncomputable def x_b_toWeights_99 (a_x1 : Nat) (t : X6) (r_R99 : Nat → X6 → Bool) (k_K : X6 → Bool) : Bool :=
  cond (!(w_lt a_x1 8)) (k_K t) (x_e_toWeights_107 a_x1 0 t r_R99 k_K)
set_option maxRecDepth 20000 in
set_option maxHeartbeats 1000000 in
theorem xs_b_toWeights_99 {x1 : Int32} {a_x1 : Nat} {S : ms} {t : X6} {R99 : Int32 → ms → Prop} {r_R99 : Nat → X6 → Bool} {K : ms → Prop} {k_K : X6 → Bool} (h : x_b_toWeights_99 a_x1 t r_R99 k_K = true) (e_x1 : x1 = Int32.ofNat a_x1) (hS : RM S t) (hR99 : ∀ {y0 : Int32} {b0 : Nat} {yS : ms} {yt : X6}, r_R99 b0 yt = true → y0 = Int32.ofNat b0 → RM yS yt → R99 y0 yS) (hK : ∀ {yS : ms} {yt : X6}, k_K yt = true → RM yS yt → K yS) : b_toWeights_99 x1 S R99 K := by
  unfold b_toWeights_99
  unfold x_b_toWeights_99 at h
  have hc1 := c_le' ((rfl : (8 : Int32) = Int32.ofNat 8)) e_x1
  refine ⟨fun hc => ?_, fun hc => ?_⟩
  · have h := x_pos h (hc1.mp hc)
    exact hK h hS
  · have h := x_neg h (fun q => hc (hc1.mpr q))
    exact xs_e_toWeights_107 h e_x1 ((rfl : (0 : Int32) = Int32.ofNat 0)) hS hR99 hK
noncomputable def xl_e_toWeights_99 (k_K : X6 → Bool) (n : Nat) : Nat → X6 → Bool := Nat.rec (motive := fun _ => Nat → X6 → Bool) (fun _ _ => false) (fun _ ih b_x1 bt => x_b_toWeights_99 b_x1 bt ih k_K) n
noncomputable def x_e_toWeights_99 (a_x1 : Nat) (t : X6) (k_K : X6 → Bool) : Bool := xl_e_toWeights_99 k_K 200000 a_x1 t
def xq_e_toWeights_99 (k_K : X6 → Bool) (n : Nat) (y_x1 : Int32) (yS : ms) : Prop := ∃ (b_x1 : Nat) (bt : X6), y_x1 = Int32.ofNat b_x1 ∧ RM yS bt ∧ xl_e_toWeights_99 k_K n b_x1 bt = true
set_option maxRecDepth 20000 in
theorem xs_e_toWeights_99 {x1 : Int32} {a_x1 : Nat} {S : ms} {t : X6} {K : ms → Prop} {k_K : X6 → Bool} (h : x_e_toWeights_99 a_x1 t k_K = true) (e_x1 : x1 = Int32.ofNat a_x1) (hS : RM S t) (hK : ∀ {yS : ms} {yt : X6}, k_K yt = true → RM yS yt → K yS) : e_toWeights_99 x1 S K := by
  refine ⟨fun y_x1 yS => ∃ n, xq_e_toWeights_99 k_K n y_x1 yS, fun y_x1 yS => mf (fun n => xq_e_toWeights_99 k_K n y_x1 yS), ⟨200000, a_x1, t, e_x1, hS, h⟩, fun y_x1 yS hI => ?_⟩
  obtain ⟨m, hm, hq⟩ := mf_ok hI
  obtain ⟨b_x1, bt, c_x1, cS, h⟩ := hq
  cases m with
  | zero => exact absurd h Bool.false_ne_true
  | succ n => exact xs_b_toWeights_99 h c_x1 cS (fun h d_x1 dS => ⟨⟨n, _, _, d_x1, dS, h⟩, Nat.lt_of_le_of_lt (mf_le ⟨_, _, d_x1, dS, h⟩) (Nat.lt_of_lt_of_eq (Nat.lt_succ_self n) hm.symm)⟩) hK
noncomputable def x_b_toWeights_23 (a_x1 : Nat) (a_x2 : Nat) (a_x3 : Nat) (a_x5 : Nat) (t : X6) (r_R2 : Nat → X6 → Bool) (r_R10 : Nat → Nat → X6 → Bool) (r_R23 : Nat → Nat → Nat → Nat → X6 → Bool) (k_K : X6 → Bool) : Bool :=
  cond (!(w_lt a_x5 8)) (frc (w_add (w_mul 8 a_x1) a_x2) fun f2 => and (Nat.blt f2 64) <| frc (w_add a_x2 1) fun f5 => frc (v_shr a_x3 9) fun f9 => wrm t 24 f2 f9 fun t7 => r_R10 a_x1 f5 t7) (frc (w_add (w_mul 8 a_x5) a_x2) fun f11 => and (Nat.blt f11 64) <| frc (w_add (w_mul 8 a_x1) a_x5) fun f14 => and (Nat.blt f14 64) <| rrw t 23 f11 fun v17 => rrw t 25 f14 fun v19 => frc (v_add a_x3 (v_mul (v_i2l v17) (v_i2l (w_sub v19 128)))) fun f21 => frc (w_add a_x5 1) fun f23 => r_R23 a_x1 a_x2 f21 f23 t)
set_option maxRecDepth 20000 in
set_option maxHeartbeats 1000000 in
theorem xs_b_toWeights_23 {x1 : Int32} {a_x1 : Nat} {x2 : Int32} {a_x2 : Nat} {x3 : Int64} {a_x3 : Nat} {x5 : Int32} {a_x5 : Nat} {S : ms} {t : X6} {R2 : Int32 → ms → Prop} {r_R2 : Nat → X6 → Bool} {R10 : Int32 → Int32 → ms → Prop} {r_R10 : Nat → Nat → X6 → Bool} {R23 : Int32 → Int32 → Int64 → Int32 → ms → Prop} {r_R23 : Nat → Nat → Nat → Nat → X6 → Bool} {K : ms → Prop} {k_K : X6 → Bool} (h : x_b_toWeights_23 a_x1 a_x2 a_x3 a_x5 t r_R2 r_R10 r_R23 k_K = true) (e_x1 : x1 = Int32.ofNat a_x1) (e_x2 : x2 = Int32.ofNat a_x2) (e_x3 : x3 = Int64.ofNat a_x3) (e_x5 : x5 = Int32.ofNat a_x5) (hS : RM S t) (hR2 : ∀ {y0 : Int32} {b0 : Nat} {yS : ms} {yt : X6}, r_R2 b0 yt = true → y0 = Int32.ofNat b0 → RM yS yt → R2 y0 yS) (hR10 : ∀ {y0 : Int32} {b0 : Nat} {y1 : Int32} {b1 : Nat} {yS : ms} {yt : X6}, r_R10 b0 b1 yt = true → y0 = Int32.ofNat b0 → y1 = Int32.ofNat b1 → RM yS yt → R10 y0 y1 yS) (hR23 : ∀ {y0 : Int32} {b0 : Nat} {y1 : Int32} {b1 : Nat} {y2 : Int64} {b2 : Nat} {y3 : Int32} {b3 : Nat} {yS : ms} {yt : X6}, r_R23 b0 b1 b2 b3 yt = true → y0 = Int32.ofNat b0 → y1 = Int32.ofNat b1 → y2 = Int64.ofNat b2 → y3 = Int32.ofNat b3 → RM yS yt → R23 y0 y1 y2 y3 yS) (hK : ∀ {yS : ms} {yt : X6}, k_K yt = true → RM yS yt → K yS) : b_toWeights_23 x1 x2 x3 x5 S R2 R10 R23 K := by
  unfold b_toWeights_23
  unfold x_b_toWeights_23 at h
  have hc1 := c_le' ((rfl : (8 : Int32) = Int32.ofNat 8)) e_x5
  refine ⟨fun hc => ?_, fun hc => ?_⟩
  · have h := x_pos h (hc1.mp hc)
    have h := frc_ok h
    have p3 := n_add (n_mul ((rfl : (8 : Int32) = Int32.ofNat 8)) e_x1) e_x2
    obtain ⟨n4, h⟩ := an_ok h
    refine ⟨n_vp p3 n4 (by decide), ?_⟩
    have h := frc_ok h
    have p6 := n_add e_x2 ((rfl : (1 : Int32) = Int32.ofNat 1))
    have h := frc_ok h
    have p10 := m_shr e_x3 ((rfl : (9 : Int32) = Int32.ofNat 9))
    obtain ⟨t7, h, hS8⟩ := wrm_ok h hS (by decide) p3 p10
    exact hR10 h e_x1 p6 hS8
  · have h := x_neg h (fun q => hc (hc1.mpr q))
    have h := frc_ok h
    have p12 := n_add (n_mul ((rfl : (8 : Int32) = Int32.ofNat 8)) e_x5) e_x2
    obtain ⟨n13, h⟩ := an_ok h
    refine ⟨n_vp p12 n13 (by decide), ?_⟩
    have h := frc_ok h
    have p15 := n_add (n_mul ((rfl : (8 : Int32) = Int32.ofNat 8)) e_x1) e_x5
    obtain ⟨n16, h⟩ := an_ok h
    refine ⟨n_vp p15 n16 (by decide), ?_⟩
    obtain ⟨v17, h, q18⟩ := rrw_ok h hS (by decide) p12
    obtain ⟨v19, h, q20⟩ := rrw_ok h hS (by decide) p15
    have h := frc_ok h
    have p22 := m_add e_x3 (m_mul (m_i2l q18) (m_i2l (n_sub q20 ((rfl : (128 : Int32) = Int32.ofNat 128)))))
    have h := frc_ok h
    have p24 := n_add e_x5 ((rfl : (1 : Int32) = Int32.ofNat 1))
    exact hR23 h e_x1 e_x2 p22 p24 hS
noncomputable def xl_e_toWeights_23 (r_R2 : Nat → X6 → Bool) (r_R10 : Nat → Nat → X6 → Bool) (k_K : X6 → Bool) (n : Nat) : Nat → Nat → Nat → Nat → X6 → Bool := Nat.rec (motive := fun _ => Nat → Nat → Nat → Nat → X6 → Bool) (fun _ _ _ _ _ => false) (fun _ ih b_x1 b_x2 b_x3 b_x5 bt => x_b_toWeights_23 b_x1 b_x2 b_x3 b_x5 bt r_R2 r_R10 ih k_K) n
noncomputable def x_e_toWeights_23 (a_x1 : Nat) (a_x2 : Nat) (a_x3 : Nat) (a_x5 : Nat) (t : X6) (r_R2 : Nat → X6 → Bool) (r_R10 : Nat → Nat → X6 → Bool) (k_K : X6 → Bool) : Bool := xl_e_toWeights_23 r_R2 r_R10 k_K 200000 a_x1 a_x2 a_x3 a_x5 t
def xq_e_toWeights_23 (r_R2 : Nat → X6 → Bool) (r_R10 : Nat → Nat → X6 → Bool) (k_K : X6 → Bool) (n : Nat) (y_x1 : Int32) (y_x2 : Int32) (y_x3 : Int64) (y_x5 : Int32) (yS : ms) : Prop := ∃ (b_x1 : Nat) (b_x2 : Nat) (b_x3 : Nat) (b_x5 : Nat) (bt : X6), y_x1 = Int32.ofNat b_x1 ∧ y_x2 = Int32.ofNat b_x2 ∧ y_x3 = Int64.ofNat b_x3 ∧ y_x5 = Int32.ofNat b_x5 ∧ RM yS bt ∧ xl_e_toWeights_23 r_R2 r_R10 k_K n b_x1 b_x2 b_x3 b_x5 bt = true
set_option maxRecDepth 20000 in
theorem xs_e_toWeights_23 {x1 : Int32} {a_x1 : Nat} {x2 : Int32} {a_x2 : Nat} {x3 : Int64} {a_x3 : Nat} {x5 : Int32} {a_x5 : Nat} {S : ms} {t : X6} {R2 : Int32 → ms → Prop} {r_R2 : Nat → X6 → Bool} {R10 : Int32 → Int32 → ms → Prop} {r_R10 : Nat → Nat → X6 → Bool} {K : ms → Prop} {k_K : X6 → Bool} (h : x_e_toWeights_23 a_x1 a_x2 a_x3 a_x5 t r_R2 r_R10 k_K = true) (e_x1 : x1 = Int32.ofNat a_x1) (e_x2 : x2 = Int32.ofNat a_x2) (e_x3 : x3 = Int64.ofNat a_x3) (e_x5 : x5 = Int32.ofNat a_x5) (hS : RM S t) (hR2 : ∀ {y0 : Int32} {b0 : Nat} {yS : ms} {yt : X6}, r_R2 b0 yt = true → y0 = Int32.ofNat b0 → RM yS yt → R2 y0 yS) (hR10 : ∀ {y0 : Int32} {b0 : Nat} {y1 : Int32} {b1 : Nat} {yS : ms} {yt : X6}, r_R10 b0 b1 yt = true → y0 = Int32.ofNat b0 → y1 = Int32.ofNat b1 → RM yS yt → R10 y0 y1 yS) (hK : ∀ {yS : ms} {yt : X6}, k_K yt = true → RM yS yt → K yS) : e_toWeights_23 x1 x2 x3 x5 S R2 R10 K := by
  refine ⟨fun y_x1 y_x2 y_x3 y_x5 yS => ∃ n, xq_e_toWeights_23 r_R2 r_R10 k_K n y_x1 y_x2 y_x3 y_x5 yS, fun y_x1 y_x2 y_x3 y_x5 yS => mf (fun n => xq_e_toWeights_23 r_R2 r_R10 k_K n y_x1 y_x2 y_x3 y_x5 yS), ⟨200000, a_x1, a_x2, a_x3, a_x5, t, e_x1, e_x2, e_x3, e_x5, hS, h⟩, fun y_x1 y_x2 y_x3 y_x5 yS hI => ?_⟩
  obtain ⟨m, hm, hq⟩ := mf_ok hI
  obtain ⟨b_x1, b_x2, b_x3, b_x5, bt, c_x1, c_x2, c_x3, c_x5, cS, h⟩ := hq
  cases m with
  | zero => exact absurd h Bool.false_ne_true
  | succ n => exact xs_b_toWeights_23 h c_x1 c_x2 c_x3 c_x5 cS hR2 hR10 (fun h d_x1 d_x2 d_x3 d_x5 dS => ⟨⟨n, _, _, _, _, _, d_x1, d_x2, d_x3, d_x5, dS, h⟩, Nat.lt_of_le_of_lt (mf_le ⟨_, _, _, _, _, d_x1, d_x2, d_x3, d_x5, dS, h⟩) (Nat.lt_of_lt_of_eq (Nat.lt_succ_self n) hm.symm)⟩) hK
noncomputable def x_b_toWeights_10 (a_x1 : Nat) (a_x2 : Nat) (t : X6) (r_R2 : Nat → X6 → Bool) (r_R10 : Nat → Nat → X6 → Bool) (k_K : X6 → Bool) : Bool :=
  cond (!(w_lt a_x2 8)) (frc (w_add a_x1 1) fun f2 => r_R2 f2 t) (x_e_toWeights_23 a_x1 a_x2 256 0 t r_R2 r_R10 k_K)
set_option maxRecDepth 20000 in
set_option maxHeartbeats 1000000 in
theorem xs_b_toWeights_10 {x1 : Int32} {a_x1 : Nat} {x2 : Int32} {a_x2 : Nat} {S : ms} {t : X6} {R2 : Int32 → ms → Prop} {r_R2 : Nat → X6 → Bool} {R10 : Int32 → Int32 → ms → Prop} {r_R10 : Nat → Nat → X6 → Bool} {K : ms → Prop} {k_K : X6 → Bool} (h : x_b_toWeights_10 a_x1 a_x2 t r_R2 r_R10 k_K = true) (e_x1 : x1 = Int32.ofNat a_x1) (e_x2 : x2 = Int32.ofNat a_x2) (hS : RM S t) (hR2 : ∀ {y0 : Int32} {b0 : Nat} {yS : ms} {yt : X6}, r_R2 b0 yt = true → y0 = Int32.ofNat b0 → RM yS yt → R2 y0 yS) (hR10 : ∀ {y0 : Int32} {b0 : Nat} {y1 : Int32} {b1 : Nat} {yS : ms} {yt : X6}, r_R10 b0 b1 yt = true → y0 = Int32.ofNat b0 → y1 = Int32.ofNat b1 → RM yS yt → R10 y0 y1 yS) (hK : ∀ {yS : ms} {yt : X6}, k_K yt = true → RM yS yt → K yS) : b_toWeights_10 x1 x2 S R2 R10 K := by
  unfold b_toWeights_10
  unfold x_b_toWeights_10 at h
  have hc1 := c_le' ((rfl : (8 : Int32) = Int32.ofNat 8)) e_x2
  refine ⟨fun hc => ?_, fun hc => ?_⟩
  · have h := x_pos h (hc1.mp hc)
    have h := frc_ok h
    have p3 := n_add e_x1 ((rfl : (1 : Int32) = Int32.ofNat 1))
    exact hR2 h p3 hS
  · have h := x_neg h (fun q => hc (hc1.mpr q))
    exact xs_e_toWeights_23 h e_x1 e_x2 ((rfl : (256 : Int64) = Int64.ofNat 256)) ((rfl : (0 : Int32) = Int32.ofNat 0)) hS hR2 hR10 hK
noncomputable def xl_e_toWeights_10 (r_R2 : Nat → X6 → Bool) (k_K : X6 → Bool) (n : Nat) : Nat → Nat → X6 → Bool := Nat.rec (motive := fun _ => Nat → Nat → X6 → Bool) (fun _ _ _ => false) (fun _ ih b_x1 b_x2 bt => x_b_toWeights_10 b_x1 b_x2 bt r_R2 ih k_K) n
noncomputable def x_e_toWeights_10 (a_x1 : Nat) (a_x2 : Nat) (t : X6) (r_R2 : Nat → X6 → Bool) (k_K : X6 → Bool) : Bool := xl_e_toWeights_10 r_R2 k_K 200000 a_x1 a_x2 t
def xq_e_toWeights_10 (r_R2 : Nat → X6 → Bool) (k_K : X6 → Bool) (n : Nat) (y_x1 : Int32) (y_x2 : Int32) (yS : ms) : Prop := ∃ (b_x1 : Nat) (b_x2 : Nat) (bt : X6), y_x1 = Int32.ofNat b_x1 ∧ y_x2 = Int32.ofNat b_x2 ∧ RM yS bt ∧ xl_e_toWeights_10 r_R2 k_K n b_x1 b_x2 bt = true
set_option maxRecDepth 20000 in
theorem xs_e_toWeights_10 {x1 : Int32} {a_x1 : Nat} {x2 : Int32} {a_x2 : Nat} {S : ms} {t : X6} {R2 : Int32 → ms → Prop} {r_R2 : Nat → X6 → Bool} {K : ms → Prop} {k_K : X6 → Bool} (h : x_e_toWeights_10 a_x1 a_x2 t r_R2 k_K = true) (e_x1 : x1 = Int32.ofNat a_x1) (e_x2 : x2 = Int32.ofNat a_x2) (hS : RM S t) (hR2 : ∀ {y0 : Int32} {b0 : Nat} {yS : ms} {yt : X6}, r_R2 b0 yt = true → y0 = Int32.ofNat b0 → RM yS yt → R2 y0 yS) (hK : ∀ {yS : ms} {yt : X6}, k_K yt = true → RM yS yt → K yS) : e_toWeights_10 x1 x2 S R2 K := by
  refine ⟨fun y_x1 y_x2 yS => ∃ n, xq_e_toWeights_10 r_R2 k_K n y_x1 y_x2 yS, fun y_x1 y_x2 yS => mf (fun n => xq_e_toWeights_10 r_R2 k_K n y_x1 y_x2 yS), ⟨200000, a_x1, a_x2, t, e_x1, e_x2, hS, h⟩, fun y_x1 y_x2 yS hI => ?_⟩
  obtain ⟨m, hm, hq⟩ := mf_ok hI
  obtain ⟨b_x1, b_x2, bt, c_x1, c_x2, cS, h⟩ := hq
  cases m with
  | zero => exact absurd h Bool.false_ne_true
  | succ n => exact xs_b_toWeights_10 h c_x1 c_x2 cS hR2 (fun h d_x1 d_x2 dS => ⟨⟨n, _, _, _, d_x1, d_x2, dS, h⟩, Nat.lt_of_le_of_lt (mf_le ⟨_, _, _, d_x1, d_x2, dS, h⟩) (Nat.lt_of_lt_of_eq (Nat.lt_succ_self n) hm.symm)⟩) hK
noncomputable def x_b_toWeights_2 (a_x1 : Nat) (t : X6) (r_R2 : Nat → X6 → Bool) (k_K : X6 → Bool) : Bool :=
  cond (!(w_lt a_x1 8)) (x_e_toWeights_99 0 t k_K) (x_e_toWeights_10 a_x1 0 t r_R2 k_K)
set_option maxRecDepth 20000 in
set_option maxHeartbeats 1000000 in
theorem xs_b_toWeights_2 {x1 : Int32} {a_x1 : Nat} {S : ms} {t : X6} {R2 : Int32 → ms → Prop} {r_R2 : Nat → X6 → Bool} {K : ms → Prop} {k_K : X6 → Bool} (h : x_b_toWeights_2 a_x1 t r_R2 k_K = true) (e_x1 : x1 = Int32.ofNat a_x1) (hS : RM S t) (hR2 : ∀ {y0 : Int32} {b0 : Nat} {yS : ms} {yt : X6}, r_R2 b0 yt = true → y0 = Int32.ofNat b0 → RM yS yt → R2 y0 yS) (hK : ∀ {yS : ms} {yt : X6}, k_K yt = true → RM yS yt → K yS) : b_toWeights_2 x1 S R2 K := by
  unfold b_toWeights_2
  unfold x_b_toWeights_2 at h
  have hc1 := c_le' ((rfl : (8 : Int32) = Int32.ofNat 8)) e_x1
  refine ⟨fun hc => ?_, fun hc => ?_⟩
  · have h := x_pos h (hc1.mp hc)
    exact xs_e_toWeights_99 h ((rfl : (0 : Int32) = Int32.ofNat 0)) hS hK
  · have h := x_neg h (fun q => hc (hc1.mpr q))
    exact xs_e_toWeights_10 h e_x1 ((rfl : (0 : Int32) = Int32.ofNat 0)) hS hR2 hK
noncomputable def xl_e_toWeights_2 (k_K : X6 → Bool) (n : Nat) : Nat → X6 → Bool := Nat.rec (motive := fun _ => Nat → X6 → Bool) (fun _ _ => false) (fun _ ih b_x1 bt => x_b_toWeights_2 b_x1 bt ih k_K) n
noncomputable def x_e_toWeights_2 (a_x1 : Nat) (t : X6) (k_K : X6 → Bool) : Bool := xl_e_toWeights_2 k_K 200000 a_x1 t
def xq_e_toWeights_2 (k_K : X6 → Bool) (n : Nat) (y_x1 : Int32) (yS : ms) : Prop := ∃ (b_x1 : Nat) (bt : X6), y_x1 = Int32.ofNat b_x1 ∧ RM yS bt ∧ xl_e_toWeights_2 k_K n b_x1 bt = true
set_option maxRecDepth 20000 in
theorem xs_e_toWeights_2 {x1 : Int32} {a_x1 : Nat} {S : ms} {t : X6} {K : ms → Prop} {k_K : X6 → Bool} (h : x_e_toWeights_2 a_x1 t k_K = true) (e_x1 : x1 = Int32.ofNat a_x1) (hS : RM S t) (hK : ∀ {yS : ms} {yt : X6}, k_K yt = true → RM yS yt → K yS) : e_toWeights_2 x1 S K := by
  refine ⟨fun y_x1 yS => ∃ n, xq_e_toWeights_2 k_K n y_x1 yS, fun y_x1 yS => mf (fun n => xq_e_toWeights_2 k_K n y_x1 yS), ⟨200000, a_x1, t, e_x1, hS, h⟩, fun y_x1 yS hI => ?_⟩
  obtain ⟨m, hm, hq⟩ := mf_ok hI
  obtain ⟨b_x1, bt, c_x1, cS, h⟩ := hq
  cases m with
  | zero => exact absurd h Bool.false_ne_true
  | succ n => exact xs_b_toWeights_2 h c_x1 cS (fun h d_x1 dS => ⟨⟨n, _, _, d_x1, dS, h⟩, Nat.lt_of_le_of_lt (mf_le ⟨_, _, d_x1, dS, h⟩) (Nat.lt_of_lt_of_eq (Nat.lt_succ_self n) hm.symm)⟩) hK
noncomputable def x_p_toWeights (t : X6) (k_K : X6 → Bool) : Bool :=
  x_e_toWeights_2 0 t k_K
set_option maxRecDepth 20000 in
set_option maxHeartbeats 1000000 in
theorem xs_p_toWeights {S : ms} {t : X6} {K : ms → Prop} {k_K : X6 → Bool} (h : x_p_toWeights t k_K = true) (hS : RM S t) (hK : ∀ {yS : ms} {yt : X6}, k_K yt = true → RM yS yt → K yS) : p_toWeights S K := by
  unfold p_toWeights
  unfold x_p_toWeights at h
  exact xs_e_toWeights_2 h ((rfl : (0 : Int32) = Int32.ofNat 0)) hS hK
noncomputable def x_b_makeLevels_224 (a_x1 : Nat) (a_x2 : Nat) (a_x7 : Nat) (a_s1 : Nat) (a_s2 : Nat) (t : X6) (r_R130 : Nat → Nat → Nat → X6 → Bool) (k_K : X6 → Bool) : Bool :=
  and (Nat.blt a_s1 36864) <| frc (w_add a_x7 1) fun f2 => wrw t 19 a_s1 a_s2 fun t4 => r_R130 a_x1 a_x2 f2 t4
set_option maxRecDepth 20000 in
set_option maxHeartbeats 1000000 in
theorem xs_b_makeLevels_224 {x1 : Int32} {a_x1 : Nat} {x2 : Int32} {a_x2 : Nat} {x7 : Int32} {a_x7 : Nat} {s1 : Int32} {a_s1 : Nat} {s2 : Int32} {a_s2 : Nat} {S : ms} {t : X6} {R130 : Int32 → Int32 → Int32 → ms → Prop} {r_R130 : Nat → Nat → Nat → X6 → Bool} {K : ms → Prop} {k_K : X6 → Bool} (h : x_b_makeLevels_224 a_x1 a_x2 a_x7 a_s1 a_s2 t r_R130 k_K = true) (e_x1 : x1 = Int32.ofNat a_x1) (e_x2 : x2 = Int32.ofNat a_x2) (e_x7 : x7 = Int32.ofNat a_x7) (e_s1 : s1 = Int32.ofNat a_s1) (e_s2 : s2 = Int32.ofNat a_s2) (hS : RM S t) (hR130 : ∀ {y0 : Int32} {b0 : Nat} {y1 : Int32} {b1 : Nat} {y2 : Int32} {b2 : Nat} {yS : ms} {yt : X6}, r_R130 b0 b1 b2 yt = true → y0 = Int32.ofNat b0 → y1 = Int32.ofNat b1 → y2 = Int32.ofNat b2 → RM yS yt → R130 y0 y1 y2 yS) (hK : ∀ {yS : ms} {yt : X6}, k_K yt = true → RM yS yt → K yS) : b_makeLevels_224 x1 x2 x7 s1 s2 S R130 K := by
  unfold b_makeLevels_224
  unfold x_b_makeLevels_224 at h
  obtain ⟨n1, h⟩ := an_ok h
  refine ⟨n_vp e_s1 n1 (by decide), ?_⟩
  have h := frc_ok h
  have p3 := n_add e_x7 ((rfl : (1 : Int32) = Int32.ofNat 1))
  obtain ⟨t4, h, hS5⟩ := wrw_ok h hS (by decide) e_s1 e_s2
  exact hR130 h e_x1 e_x2 p3 hS5
noncomputable def x_b_makeLevels_189 (a_x1 : Nat) (a_x2 : Nat) (a_x7 : Nat) (a_x8 : Nat) (a_x9 : Nat) (a_s0 : Nat) (t : X6) (r_R130 : Nat → Nat → Nat → X6 → Bool) (k_K : X6 → Bool) : Bool :=
  cond (w_eq a_x9 0) false <| x_p_levelCell 0 a_x1 a_x2 a_x7 (fun v208_ => cond (!(w_lt a_x8 0)) (frc (w_div (w_add a_s0 (w_div a_x9 2)) a_x9) fun f3 => x_b_makeLevels_224 a_x1 a_x2 a_x7 v208_ f3 t r_R130 k_K) (frc (w_neg (w_div (w_add a_s0 (w_div a_x9 2)) a_x9)) fun f5 => x_b_makeLevels_224 a_x1 a_x2 a_x7 v208_ f5 t r_R130 k_K))
set_option maxRecDepth 20000 in
set_option maxHeartbeats 1000000 in
theorem xs_b_makeLevels_189 {x1 : Int32} {a_x1 : Nat} {x2 : Int32} {a_x2 : Nat} {x7 : Int32} {a_x7 : Nat} {x8 : Int32} {a_x8 : Nat} {x9 : Int32} {a_x9 : Nat} {s0 : Int32} {a_s0 : Nat} {S : ms} {t : X6} {R130 : Int32 → Int32 → Int32 → ms → Prop} {r_R130 : Nat → Nat → Nat → X6 → Bool} {K : ms → Prop} {k_K : X6 → Bool} (h : x_b_makeLevels_189 a_x1 a_x2 a_x7 a_x8 a_x9 a_s0 t r_R130 k_K = true) (e_x1 : x1 = Int32.ofNat a_x1) (e_x2 : x2 = Int32.ofNat a_x2) (e_x7 : x7 = Int32.ofNat a_x7) (e_x8 : x8 = Int32.ofNat a_x8) (e_x9 : x9 = Int32.ofNat a_x9) (e_s0 : s0 = Int32.ofNat a_s0) (hS : RM S t) (hR130 : ∀ {y0 : Int32} {b0 : Nat} {y1 : Int32} {b1 : Nat} {y2 : Int32} {b2 : Nat} {yS : ms} {yt : X6}, r_R130 b0 b1 b2 yt = true → y0 = Int32.ofNat b0 → y1 = Int32.ofNat b1 → y2 = Int32.ofNat b2 → RM yS yt → R130 y0 y1 y2 yS) (hK : ∀ {yS : ms} {yt : X6}, k_K yt = true → RM yS yt → K yS) : b_makeLevels_189 x1 x2 x7 x8 x9 s0 S R130 K := by
  unfold b_makeLevels_189
  unfold x_b_makeLevels_189 at h
  obtain ⟨n1, h⟩ := nu_ok h
  refine ⟨fun q => absurd ((c_eq' e_x9 ((rfl : (0 : Int32) = Int32.ofNat 0))).mp q) (by rw [n1]; exact Bool.false_ne_true), ?_⟩
  refine xs_p_levelCell h ((rfl : (0 : Int32) = Int32.ofNat 0)) e_x1 e_x2 e_x7 (fun h e_v208 => ?_)
  have hc2 := c_le' ((rfl : (0 : Int32) = Int32.ofNat 0)) e_x8
  refine ⟨fun hc => ?_, fun hc => ?_⟩
  · have h := x_pos h (hc2.mp hc)
    have h := frc_ok h
    have p4 := n_div (n_add e_s0 (n_div e_x9 ((rfl : (2 : Int32) = Int32.ofNat 2)))) e_x9
    exact xs_b_makeLevels_224 h e_x1 e_x2 e_x7 e_v208 p4 hS hR130 hK
  · have h := x_neg h (fun q => hc (hc2.mpr q))
    have h := frc_ok h
    have p6 := n_neg (n_div (n_add e_s0 (n_div e_x9 ((rfl : (2 : Int32) = Int32.ofNat 2)))) e_x9)
    exact xs_b_makeLevels_224 h e_x1 e_x2 e_x7 e_v208 p6 hS hR130 hK
noncomputable def x_b_makeLevels_165 (a_x1 : Nat) (a_x2 : Nat) (a_x7 : Nat) (a_x8 : Nat) (a_s1 : Nat) (t : X6) (r_R130 : Nat → Nat → Nat → X6 → Bool) (k_K : X6 → Bool) : Bool :=
  and (Nat.blt a_x7 64) <| rrw t 22 a_x7 fun v2 => frc (w_add a_s1 v2) fun f4 => and (Nat.blt f4 128) <| cond (!(w_lt a_x8 0)) (rrw t 5 f4 fun v8 => x_b_makeLevels_189 a_x1 a_x2 a_x7 a_x8 v8 a_x8 t r_R130 k_K) (rrw t 5 f4 fun v10 => frc (w_neg a_x8) fun f12 => x_b_makeLevels_189 a_x1 a_x2 a_x7 a_x8 v10 f12 t r_R130 k_K)
set_option maxRecDepth 20000 in
set_option maxHeartbeats 1000000 in
theorem xs_b_makeLevels_165 {x1 : Int32} {a_x1 : Nat} {x2 : Int32} {a_x2 : Nat} {x7 : Int32} {a_x7 : Nat} {x8 : Int32} {a_x8 : Nat} {s1 : Int32} {a_s1 : Nat} {S : ms} {t : X6} {R130 : Int32 → Int32 → Int32 → ms → Prop} {r_R130 : Nat → Nat → Nat → X6 → Bool} {K : ms → Prop} {k_K : X6 → Bool} (h : x_b_makeLevels_165 a_x1 a_x2 a_x7 a_x8 a_s1 t r_R130 k_K = true) (e_x1 : x1 = Int32.ofNat a_x1) (e_x2 : x2 = Int32.ofNat a_x2) (e_x7 : x7 = Int32.ofNat a_x7) (e_x8 : x8 = Int32.ofNat a_x8) (e_s1 : s1 = Int32.ofNat a_s1) (hS : RM S t) (hR130 : ∀ {y0 : Int32} {b0 : Nat} {y1 : Int32} {b1 : Nat} {y2 : Int32} {b2 : Nat} {yS : ms} {yt : X6}, r_R130 b0 b1 b2 yt = true → y0 = Int32.ofNat b0 → y1 = Int32.ofNat b1 → y2 = Int32.ofNat b2 → RM yS yt → R130 y0 y1 y2 yS) (hK : ∀ {yS : ms} {yt : X6}, k_K yt = true → RM yS yt → K yS) : b_makeLevels_165 x1 x2 x7 x8 s1 S R130 K := by
  unfold b_makeLevels_165
  unfold x_b_makeLevels_165 at h
  obtain ⟨n1, h⟩ := an_ok h
  refine ⟨n_vp e_x7 n1 (by decide), ?_⟩
  obtain ⟨v2, h, q3⟩ := rrw_ok h hS (by decide) e_x7
  have h := frc_ok h
  have p5 := n_add e_s1 q3
  obtain ⟨n6, h⟩ := an_ok h
  refine ⟨n_vp p5 n6 (by decide), ?_⟩
  have hc7 := c_le' ((rfl : (0 : Int32) = Int32.ofNat 0)) e_x8
  refine ⟨fun hc => ?_, fun hc => ?_⟩
  · have h := x_pos h (hc7.mp hc)
    obtain ⟨v8, h, q9⟩ := rrw_ok h hS (by decide) p5
    exact xs_b_makeLevels_189 h e_x1 e_x2 e_x7 e_x8 q9 e_x8 hS hR130 hK
  · have h := x_neg h (fun q => hc (hc7.mpr q))
    obtain ⟨v10, h, q11⟩ := rrw_ok h hS (by decide) p5
    have h := frc_ok h
    have p13 := n_neg e_x8
    exact xs_b_makeLevels_189 h e_x1 e_x2 e_x7 e_x8 q11 p13 hS hR130 hK
noncomputable def x_b_makeLevels_130 (a_x1 : Nat) (a_x2 : Nat) (a_x7 : Nat) (t : X6) (r_R130 : Nat → Nat → Nat → X6 → Bool) (k_K : X6 → Bool) : Bool :=
  cond (!(w_lt a_x7 64)) (k_K t) (and (Nat.blt a_x7 64) <| rrw t 22 a_x7 fun v3 => and (Nat.blt v3 64) <| cond (w_eq a_x1 0) (rrw t 25 v3 fun v9 => x_b_makeLevels_165 a_x1 a_x2 a_x7 v9 0 t r_R130 k_K) (rrw t 25 v3 fun v7 => x_b_makeLevels_165 a_x1 a_x2 a_x7 v7 64 t r_R130 k_K))
set_option maxRecDepth 20000 in
set_option maxHeartbeats 1000000 in
theorem xs_b_makeLevels_130 {x1 : Int32} {a_x1 : Nat} {x2 : Int32} {a_x2 : Nat} {x7 : Int32} {a_x7 : Nat} {S : ms} {t : X6} {R130 : Int32 → Int32 → Int32 → ms → Prop} {r_R130 : Nat → Nat → Nat → X6 → Bool} {K : ms → Prop} {k_K : X6 → Bool} (h : x_b_makeLevels_130 a_x1 a_x2 a_x7 t r_R130 k_K = true) (e_x1 : x1 = Int32.ofNat a_x1) (e_x2 : x2 = Int32.ofNat a_x2) (e_x7 : x7 = Int32.ofNat a_x7) (hS : RM S t) (hR130 : ∀ {y0 : Int32} {b0 : Nat} {y1 : Int32} {b1 : Nat} {y2 : Int32} {b2 : Nat} {yS : ms} {yt : X6}, r_R130 b0 b1 b2 yt = true → y0 = Int32.ofNat b0 → y1 = Int32.ofNat b1 → y2 = Int32.ofNat b2 → RM yS yt → R130 y0 y1 y2 yS) (hK : ∀ {yS : ms} {yt : X6}, k_K yt = true → RM yS yt → K yS) : b_makeLevels_130 x1 x2 x7 S R130 K := by
  unfold b_makeLevels_130
  unfold x_b_makeLevels_130 at h
  have hc1 := c_le' ((rfl : (64 : Int32) = Int32.ofNat 64)) e_x7
  refine ⟨fun hc => ?_, fun hc => ?_⟩
  · have h := x_pos h (hc1.mp hc)
    exact hK h hS
  · have h := x_neg h (fun q => hc (hc1.mpr q))
    obtain ⟨n2, h⟩ := an_ok h
    refine ⟨n_vp e_x7 n2 (by decide), ?_⟩
    obtain ⟨v3, h, q4⟩ := rrw_ok h hS (by decide) e_x7
    obtain ⟨n5, h⟩ := an_ok h
    refine ⟨n_vp q4 n5 (by decide), ?_⟩
    have hc6 := c_eq' e_x1 ((rfl : (0 : Int32) = Int32.ofNat 0))
    refine ⟨fun hc => ?_, fun hc => ?_⟩
    · have h := x_neg h (fun q => hc (hc6.mpr q))
      obtain ⟨v7, h, q8⟩ := rrw_ok h hS (by decide) q4
      exact xs_b_makeLevels_165 h e_x1 e_x2 e_x7 q8 ((rfl : (64 : Int32) = Int32.ofNat 64)) hS hR130 hK
    · have h := x_pos h (hc6.mp hc)
      obtain ⟨v9, h, q10⟩ := rrw_ok h hS (by decide) q4
      exact xs_b_makeLevels_165 h e_x1 e_x2 e_x7 q10 ((rfl : (0 : Int32) = Int32.ofNat 0)) hS hR130 hK
noncomputable def xl_e_makeLevels_130 (k_K : X6 → Bool) (n : Nat) : Nat → Nat → Nat → X6 → Bool := Nat.rec (motive := fun _ => Nat → Nat → Nat → X6 → Bool) (fun _ _ _ _ => false) (fun _ ih b_x1 b_x2 b_x7 bt => x_b_makeLevels_130 b_x1 b_x2 b_x7 bt ih k_K) n
noncomputable def x_e_makeLevels_130 (a_x1 : Nat) (a_x2 : Nat) (a_x7 : Nat) (t : X6) (k_K : X6 → Bool) : Bool := xl_e_makeLevels_130 k_K 200000 a_x1 a_x2 a_x7 t
def xq_e_makeLevels_130 (k_K : X6 → Bool) (n : Nat) (y_x1 : Int32) (y_x2 : Int32) (y_x7 : Int32) (yS : ms) : Prop := ∃ (b_x1 : Nat) (b_x2 : Nat) (b_x7 : Nat) (bt : X6), y_x1 = Int32.ofNat b_x1 ∧ y_x2 = Int32.ofNat b_x2 ∧ y_x7 = Int32.ofNat b_x7 ∧ RM yS bt ∧ xl_e_makeLevels_130 k_K n b_x1 b_x2 b_x7 bt = true
set_option maxRecDepth 20000 in
theorem xs_e_makeLevels_130 {x1 : Int32} {a_x1 : Nat} {x2 : Int32} {a_x2 : Nat} {x7 : Int32} {a_x7 : Nat} {S : ms} {t : X6} {K : ms → Prop} {k_K : X6 → Bool} (h : x_e_makeLevels_130 a_x1 a_x2 a_x7 t k_K = true) (e_x1 : x1 = Int32.ofNat a_x1) (e_x2 : x2 = Int32.ofNat a_x2) (e_x7 : x7 = Int32.ofNat a_x7) (hS : RM S t) (hK : ∀ {yS : ms} {yt : X6}, k_K yt = true → RM yS yt → K yS) : e_makeLevels_130 x1 x2 x7 S K := by
  refine ⟨fun y_x1 y_x2 y_x7 yS => ∃ n, xq_e_makeLevels_130 k_K n y_x1 y_x2 y_x7 yS, fun y_x1 y_x2 y_x7 yS => mf (fun n => xq_e_makeLevels_130 k_K n y_x1 y_x2 y_x7 yS), ⟨200000, a_x1, a_x2, a_x7, t, e_x1, e_x2, e_x7, hS, h⟩, fun y_x1 y_x2 y_x7 yS hI => ?_⟩
  obtain ⟨m, hm, hq⟩ := mf_ok hI
  obtain ⟨b_x1, b_x2, b_x7, bt, c_x1, c_x2, c_x7, cS, h⟩ := hq
  cases m with
  | zero => exact absurd h Bool.false_ne_true
  | succ n => exact xs_b_makeLevels_130 h c_x1 c_x2 c_x7 cS (fun h d_x1 d_x2 d_x7 dS => ⟨⟨n, _, _, _, _, d_x1, d_x2, d_x7, dS, h⟩, Nat.lt_of_le_of_lt (mf_le ⟨_, _, _, _, d_x1, d_x2, d_x7, dS, h⟩) (Nat.lt_of_lt_of_eq (Nat.lt_succ_self n) hm.symm)⟩) hK
noncomputable def x_b_makeLevels_114 (a_x1 : Nat) (a_x2 : Nat) (a_x3 : Nat) (a_x4 : Nat) (a_x5 : Nat) (a_x6 : Nat) (a_x7 : Nat) (a_s1 : Nat) (a_s3 : Nat) (a_s4 : Nat) (t : X6) (r_R48 : Nat → Nat → Nat → Nat → Nat → Nat → Nat → X6 → Bool) (k_K : X6 → Bool) : Bool :=
  frc (w_add a_s3 a_s4) fun f1 => and (Nat.blt f1 4096) <| and (Nat.blt a_s1 64) <| frc (w_add a_x7 1) fun f5 => rrw t 21 f1 fun v9 => wrw t 25 a_s1 v9 fun t7 => r_R48 a_x1 a_x2 a_x3 a_x4 a_x5 a_x6 f5 t7
set_option maxRecDepth 20000 in
set_option maxHeartbeats 1000000 in
theorem xs_b_makeLevels_114 {x1 : Int32} {a_x1 : Nat} {x2 : Int32} {a_x2 : Nat} {x3 : Int32} {a_x3 : Nat} {x4 : Int32} {a_x4 : Nat} {x5 : Int32} {a_x5 : Nat} {x6 : Int32} {a_x6 : Nat} {x7 : Int32} {a_x7 : Nat} {s1 : Int32} {a_s1 : Nat} {s3 : Int32} {a_s3 : Nat} {s4 : Int32} {a_s4 : Nat} {S : ms} {t : X6} {R48 : Int32 → Int32 → Int32 → Int32 → Int32 → Int32 → Int32 → ms → Prop} {r_R48 : Nat → Nat → Nat → Nat → Nat → Nat → Nat → X6 → Bool} {K : ms → Prop} {k_K : X6 → Bool} (h : x_b_makeLevels_114 a_x1 a_x2 a_x3 a_x4 a_x5 a_x6 a_x7 a_s1 a_s3 a_s4 t r_R48 k_K = true) (e_x1 : x1 = Int32.ofNat a_x1) (e_x2 : x2 = Int32.ofNat a_x2) (e_x3 : x3 = Int32.ofNat a_x3) (e_x4 : x4 = Int32.ofNat a_x4) (e_x5 : x5 = Int32.ofNat a_x5) (e_x6 : x6 = Int32.ofNat a_x6) (e_x7 : x7 = Int32.ofNat a_x7) (e_s1 : s1 = Int32.ofNat a_s1) (e_s3 : s3 = Int32.ofNat a_s3) (e_s4 : s4 = Int32.ofNat a_s4) (hS : RM S t) (hR48 : ∀ {y0 : Int32} {b0 : Nat} {y1 : Int32} {b1 : Nat} {y2 : Int32} {b2 : Nat} {y3 : Int32} {b3 : Nat} {y4 : Int32} {b4 : Nat} {y5 : Int32} {b5 : Nat} {y6 : Int32} {b6 : Nat} {yS : ms} {yt : X6}, r_R48 b0 b1 b2 b3 b4 b5 b6 yt = true → y0 = Int32.ofNat b0 → y1 = Int32.ofNat b1 → y2 = Int32.ofNat b2 → y3 = Int32.ofNat b3 → y4 = Int32.ofNat b4 → y5 = Int32.ofNat b5 → y6 = Int32.ofNat b6 → RM yS yt → R48 y0 y1 y2 y3 y4 y5 y6 yS) (hK : ∀ {yS : ms} {yt : X6}, k_K yt = true → RM yS yt → K yS) : b_makeLevels_114 x1 x2 x3 x4 x5 x6 x7 s1 s3 s4 S R48 K := by
  unfold b_makeLevels_114
  unfold x_b_makeLevels_114 at h
  have h := frc_ok h
  have p2 := n_add e_s3 e_s4
  obtain ⟨n3, h⟩ := an_ok h
  refine ⟨n_vp p2 n3 (by decide), ?_⟩
  obtain ⟨n4, h⟩ := an_ok h
  refine ⟨n_vp e_s1 n4 (by decide), ?_⟩
  have h := frc_ok h
  have p6 := n_add e_x7 ((rfl : (1 : Int32) = Int32.ofNat 1))
  obtain ⟨v9, h, q10⟩ := rrw_ok h hS (by decide) p2
  obtain ⟨t7, h, hS8⟩ := wrw_ok h hS (by decide) e_s1 q10
  exact hR48 h e_x1 e_x2 e_x3 e_x4 e_x5 e_x6 p6 hS8
noncomputable def x_b_makeLevels_101 (a_x1 : Nat) (a_x2 : Nat) (a_x3 : Nat) (a_x4 : Nat) (a_x5 : Nat) (a_x6 : Nat) (a_x7 : Nat) (a_x8 : Nat) (a_s1 : Nat) (a_s3 : Nat) (a_s4 : Nat) (t : X6) (r_R48 : Nat → Nat → Nat → Nat → Nat → Nat → Nat → X6 → Bool) (k_K : X6 → Bool) : Bool :=
  cond (!(w_lt a_x8 a_x3)) (frc (w_mul a_s3 a_s4) fun f2 => x_b_makeLevels_114 a_x1 a_x2 a_x3 a_x4 a_x5 a_x6 a_x7 a_s1 f2 a_x3 t r_R48 k_K) (frc (w_mul a_s3 a_s4) fun f4 => x_b_makeLevels_114 a_x1 a_x2 a_x3 a_x4 a_x5 a_x6 a_x7 a_s1 f4 a_x8 t r_R48 k_K)
set_option maxRecDepth 20000 in
set_option maxHeartbeats 1000000 in
theorem xs_b_makeLevels_101 {x1 : Int32} {a_x1 : Nat} {x2 : Int32} {a_x2 : Nat} {x3 : Int32} {a_x3 : Nat} {x4 : Int32} {a_x4 : Nat} {x5 : Int32} {a_x5 : Nat} {x6 : Int32} {a_x6 : Nat} {x7 : Int32} {a_x7 : Nat} {x8 : Int32} {a_x8 : Nat} {s1 : Int32} {a_s1 : Nat} {s3 : Int32} {a_s3 : Nat} {s4 : Int32} {a_s4 : Nat} {S : ms} {t : X6} {R48 : Int32 → Int32 → Int32 → Int32 → Int32 → Int32 → Int32 → ms → Prop} {r_R48 : Nat → Nat → Nat → Nat → Nat → Nat → Nat → X6 → Bool} {K : ms → Prop} {k_K : X6 → Bool} (h : x_b_makeLevels_101 a_x1 a_x2 a_x3 a_x4 a_x5 a_x6 a_x7 a_x8 a_s1 a_s3 a_s4 t r_R48 k_K = true) (e_x1 : x1 = Int32.ofNat a_x1) (e_x2 : x2 = Int32.ofNat a_x2) (e_x3 : x3 = Int32.ofNat a_x3) (e_x4 : x4 = Int32.ofNat a_x4) (e_x5 : x5 = Int32.ofNat a_x5) (e_x6 : x6 = Int32.ofNat a_x6) (e_x7 : x7 = Int32.ofNat a_x7) (e_x8 : x8 = Int32.ofNat a_x8) (e_s1 : s1 = Int32.ofNat a_s1) (e_s3 : s3 = Int32.ofNat a_s3) (e_s4 : s4 = Int32.ofNat a_s4) (hS : RM S t) (hR48 : ∀ {y0 : Int32} {b0 : Nat} {y1 : Int32} {b1 : Nat} {y2 : Int32} {b2 : Nat} {y3 : Int32} {b3 : Nat} {y4 : Int32} {b4 : Nat} {y5 : Int32} {b5 : Nat} {y6 : Int32} {b6 : Nat} {yS : ms} {yt : X6}, r_R48 b0 b1 b2 b3 b4 b5 b6 yt = true → y0 = Int32.ofNat b0 → y1 = Int32.ofNat b1 → y2 = Int32.ofNat b2 → y3 = Int32.ofNat b3 → y4 = Int32.ofNat b4 → y5 = Int32.ofNat b5 → y6 = Int32.ofNat b6 → RM yS yt → R48 y0 y1 y2 y3 y4 y5 y6 yS) (hK : ∀ {yS : ms} {yt : X6}, k_K yt = true → RM yS yt → K yS) : b_makeLevels_101 x1 x2 x3 x4 x5 x6 x7 x8 s1 s3 s4 S R48 K := by
  unfold b_makeLevels_101
  unfold x_b_makeLevels_101 at h
  have hc1 := c_le' e_x3 e_x8
  refine ⟨fun hc => ?_, fun hc => ?_⟩
  · have h := x_pos h (hc1.mp hc)
    have h := frc_ok h
    have p3 := n_mul e_s3 e_s4
    exact xs_b_makeLevels_114 h e_x1 e_x2 e_x3 e_x4 e_x5 e_x6 e_x7 e_s1 p3 e_x3 hS hR48 hK
  · have h := x_neg h (fun q => hc (hc1.mpr q))
    have h := frc_ok h
    have p5 := n_mul e_s3 e_s4
    exact xs_b_makeLevels_114 h e_x1 e_x2 e_x3 e_x4 e_x5 e_x6 e_x7 e_s1 p5 e_x8 hS hR48 hK
noncomputable def x_b_makeLevels_48 (a_x1 : Nat) (a_x2 : Nat) (a_x3 : Nat) (a_x4 : Nat) (a_x5 : Nat) (a_x6 : Nat) (a_x7 : Nat) (t : X6) (r_R48 : Nat → Nat → Nat → Nat → Nat → Nat → Nat → X6 → Bool) (k_K : X6 → Bool) : Bool :=
  cond (!(w_lt a_x7 64)) (x_p_toWeights t (fun t_S124 => x_e_makeLevels_130 a_x1 a_x2 0 t_S124 k_K)) (cond (!(w_lt (w_add a_x6 (w_div a_x7 8)) a_x4)) (frc (w_add a_x5 (w_sub a_x7 (w_mul (w_div a_x7 8) 8))) fun f3 => x_b_makeLevels_101 a_x1 a_x2 a_x3 a_x4 a_x5 a_x6 a_x7 f3 a_x7 64 a_x4 t r_R48 k_K) (frc (w_add a_x5 (w_sub a_x7 (w_mul (w_div a_x7 8) 8))) fun f5 => frc (w_add a_x6 (w_div a_x7 8)) fun f7 => x_b_makeLevels_101 a_x1 a_x2 a_x3 a_x4 a_x5 a_x6 a_x7 f5 a_x7 64 f7 t r_R48 k_K))
set_option maxRecDepth 20000 in
set_option maxHeartbeats 1000000 in
theorem xs_b_makeLevels_48 {x1 : Int32} {a_x1 : Nat} {x2 : Int32} {a_x2 : Nat} {x3 : Int32} {a_x3 : Nat} {x4 : Int32} {a_x4 : Nat} {x5 : Int32} {a_x5 : Nat} {x6 : Int32} {a_x6 : Nat} {x7 : Int32} {a_x7 : Nat} {S : ms} {t : X6} {R48 : Int32 → Int32 → Int32 → Int32 → Int32 → Int32 → Int32 → ms → Prop} {r_R48 : Nat → Nat → Nat → Nat → Nat → Nat → Nat → X6 → Bool} {K : ms → Prop} {k_K : X6 → Bool} (h : x_b_makeLevels_48 a_x1 a_x2 a_x3 a_x4 a_x5 a_x6 a_x7 t r_R48 k_K = true) (e_x1 : x1 = Int32.ofNat a_x1) (e_x2 : x2 = Int32.ofNat a_x2) (e_x3 : x3 = Int32.ofNat a_x3) (e_x4 : x4 = Int32.ofNat a_x4) (e_x5 : x5 = Int32.ofNat a_x5) (e_x6 : x6 = Int32.ofNat a_x6) (e_x7 : x7 = Int32.ofNat a_x7) (hS : RM S t) (hR48 : ∀ {y0 : Int32} {b0 : Nat} {y1 : Int32} {b1 : Nat} {y2 : Int32} {b2 : Nat} {y3 : Int32} {b3 : Nat} {y4 : Int32} {b4 : Nat} {y5 : Int32} {b5 : Nat} {y6 : Int32} {b6 : Nat} {yS : ms} {yt : X6}, r_R48 b0 b1 b2 b3 b4 b5 b6 yt = true → y0 = Int32.ofNat b0 → y1 = Int32.ofNat b1 → y2 = Int32.ofNat b2 → y3 = Int32.ofNat b3 → y4 = Int32.ofNat b4 → y5 = Int32.ofNat b5 → y6 = Int32.ofNat b6 → RM yS yt → R48 y0 y1 y2 y3 y4 y5 y6 yS) (hK : ∀ {yS : ms} {yt : X6}, k_K yt = true → RM yS yt → K yS) : b_makeLevels_48 x1 x2 x3 x4 x5 x6 x7 S R48 K := by
  unfold b_makeLevels_48
  unfold x_b_makeLevels_48 at h
  have hc1 := c_le' ((rfl : (64 : Int32) = Int32.ofNat 64)) e_x7
  refine ⟨fun hc => ?_, fun hc => ?_⟩
  · have h := x_pos h (hc1.mp hc)
    refine xs_p_toWeights h hS (fun h h_S124 => ?_)
    exact xs_e_makeLevels_130 h e_x1 e_x2 ((rfl : (0 : Int32) = Int32.ofNat 0)) h_S124 hK
  · have h := x_neg h (fun q => hc (hc1.mpr q))
    have hc2 := c_le' e_x4 (n_add e_x6 (n_div e_x7 ((rfl : (8 : Int32) = Int32.ofNat 8))))
    refine ⟨fun hc => ?_, fun hc => ?_⟩
    · have h := x_pos h (hc2.mp hc)
      have h := frc_ok h
      have p4 := n_add e_x5 (n_sub e_x7 (n_mul (n_div e_x7 ((rfl : (8 : Int32) = Int32.ofNat 8))) ((rfl : (8 : Int32) = Int32.ofNat 8))))
      exact xs_b_makeLevels_101 h e_x1 e_x2 e_x3 e_x4 e_x5 e_x6 e_x7 p4 e_x7 ((rfl : (64 : Int32) = Int32.ofNat 64)) e_x4 hS hR48 hK
    · have h := x_neg h (fun q => hc (hc2.mpr q))
      have h := frc_ok h
      have p6 := n_add e_x5 (n_sub e_x7 (n_mul (n_div e_x7 ((rfl : (8 : Int32) = Int32.ofNat 8))) ((rfl : (8 : Int32) = Int32.ofNat 8))))
      have h := frc_ok h
      have p8 := n_add e_x6 (n_div e_x7 ((rfl : (8 : Int32) = Int32.ofNat 8)))
      exact xs_b_makeLevels_101 h e_x1 e_x2 e_x3 e_x4 e_x5 e_x6 e_x7 p6 e_x7 ((rfl : (64 : Int32) = Int32.ofNat 64)) p8 hS hR48 hK
noncomputable def xl_e_makeLevels_48 (k_K : X6 → Bool) (n : Nat) : Nat → Nat → Nat → Nat → Nat → Nat → Nat → X6 → Bool := Nat.rec (motive := fun _ => Nat → Nat → Nat → Nat → Nat → Nat → Nat → X6 → Bool) (fun _ _ _ _ _ _ _ _ => false) (fun _ ih b_x1 b_x2 b_x3 b_x4 b_x5 b_x6 b_x7 bt => x_b_makeLevels_48 b_x1 b_x2 b_x3 b_x4 b_x5 b_x6 b_x7 bt ih k_K) n
noncomputable def x_e_makeLevels_48 (a_x1 : Nat) (a_x2 : Nat) (a_x3 : Nat) (a_x4 : Nat) (a_x5 : Nat) (a_x6 : Nat) (a_x7 : Nat) (t : X6) (k_K : X6 → Bool) : Bool := xl_e_makeLevels_48 k_K 200000 a_x1 a_x2 a_x3 a_x4 a_x5 a_x6 a_x7 t
def xq_e_makeLevels_48 (k_K : X6 → Bool) (n : Nat) (y_x1 : Int32) (y_x2 : Int32) (y_x3 : Int32) (y_x4 : Int32) (y_x5 : Int32) (y_x6 : Int32) (y_x7 : Int32) (yS : ms) : Prop := ∃ (b_x1 : Nat) (b_x2 : Nat) (b_x3 : Nat) (b_x4 : Nat) (b_x5 : Nat) (b_x6 : Nat) (b_x7 : Nat) (bt : X6), y_x1 = Int32.ofNat b_x1 ∧ y_x2 = Int32.ofNat b_x2 ∧ y_x3 = Int32.ofNat b_x3 ∧ y_x4 = Int32.ofNat b_x4 ∧ y_x5 = Int32.ofNat b_x5 ∧ y_x6 = Int32.ofNat b_x6 ∧ y_x7 = Int32.ofNat b_x7 ∧ RM yS bt ∧ xl_e_makeLevels_48 k_K n b_x1 b_x2 b_x3 b_x4 b_x5 b_x6 b_x7 bt = true
set_option maxRecDepth 20000 in
theorem xs_e_makeLevels_48 {x1 : Int32} {a_x1 : Nat} {x2 : Int32} {a_x2 : Nat} {x3 : Int32} {a_x3 : Nat} {x4 : Int32} {a_x4 : Nat} {x5 : Int32} {a_x5 : Nat} {x6 : Int32} {a_x6 : Nat} {x7 : Int32} {a_x7 : Nat} {S : ms} {t : X6} {K : ms → Prop} {k_K : X6 → Bool} (h : x_e_makeLevels_48 a_x1 a_x2 a_x3 a_x4 a_x5 a_x6 a_x7 t k_K = true) (e_x1 : x1 = Int32.ofNat a_x1) (e_x2 : x2 = Int32.ofNat a_x2) (e_x3 : x3 = Int32.ofNat a_x3) (e_x4 : x4 = Int32.ofNat a_x4) (e_x5 : x5 = Int32.ofNat a_x5) (e_x6 : x6 = Int32.ofNat a_x6) (e_x7 : x7 = Int32.ofNat a_x7) (hS : RM S t) (hK : ∀ {yS : ms} {yt : X6}, k_K yt = true → RM yS yt → K yS) : e_makeLevels_48 x1 x2 x3 x4 x5 x6 x7 S K := by
  refine ⟨fun y_x1 y_x2 y_x3 y_x4 y_x5 y_x6 y_x7 yS => ∃ n, xq_e_makeLevels_48 k_K n y_x1 y_x2 y_x3 y_x4 y_x5 y_x6 y_x7 yS, fun y_x1 y_x2 y_x3 y_x4 y_x5 y_x6 y_x7 yS => mf (fun n => xq_e_makeLevels_48 k_K n y_x1 y_x2 y_x3 y_x4 y_x5 y_x6 y_x7 yS), ⟨200000, a_x1, a_x2, a_x3, a_x4, a_x5, a_x6, a_x7, t, e_x1, e_x2, e_x3, e_x4, e_x5, e_x6, e_x7, hS, h⟩, fun y_x1 y_x2 y_x3 y_x4 y_x5 y_x6 y_x7 yS hI => ?_⟩
  obtain ⟨m, hm, hq⟩ := mf_ok hI
  obtain ⟨b_x1, b_x2, b_x3, b_x4, b_x5, b_x6, b_x7, bt, c_x1, c_x2, c_x3, c_x4, c_x5, c_x6, c_x7, cS, h⟩ := hq
  cases m with
  | zero => exact absurd h Bool.false_ne_true
  | succ n => exact xs_b_makeLevels_48 h c_x1 c_x2 c_x3 c_x4 c_x5 c_x6 c_x7 cS (fun h d_x1 d_x2 d_x3 d_x4 d_x5 d_x6 d_x7 dS => ⟨⟨n, _, _, _, _, _, _, _, _, d_x1, d_x2, d_x3, d_x4, d_x5, d_x6, d_x7, dS, h⟩, Nat.lt_of_le_of_lt (mf_le ⟨_, _, _, _, _, _, _, _, d_x1, d_x2, d_x3, d_x4, d_x5, d_x6, d_x7, dS, h⟩) (Nat.lt_of_lt_of_eq (Nat.lt_succ_self n) hm.symm)⟩) hK
noncomputable def x_p_makeLevels (a_x1 : Nat) (a_x2 : Nat) (t : X6) (k_K : X6 → Bool) : Bool :=
  x_p_layerWide 0 a_x1 t (fun v3_ t_S3 => x_p_layerHigh 0 a_x1 t_S3 (fun v12_ t_S12 => and (Nat.blt a_x1 9) <| rrw t_S12 17 a_x1 fun v2 => cond (w_eq v2 0) false <| cond (w_eq v2 0) false <| frc (w_sub v3_ 1) fun f6 => frc (w_sub v12_ 1) fun f8 => frc (w_mul 8 (w_sub a_x2 (w_mul (w_div a_x2 v2) v2))) fun f10 => frc (w_mul 8 (w_div a_x2 v2)) fun f12 => x_e_makeLevels_48 a_x1 a_x2 f6 f8 f10 f12 0 t_S12 k_K))
set_option maxRecDepth 20000 in
set_option maxHeartbeats 1000000 in
theorem xs_p_makeLevels {x1 : Int32} {a_x1 : Nat} {x2 : Int32} {a_x2 : Nat} {S : ms} {t : X6} {K : ms → Prop} {k_K : X6 → Bool} (h : x_p_makeLevels a_x1 a_x2 t k_K = true) (e_x1 : x1 = Int32.ofNat a_x1) (e_x2 : x2 = Int32.ofNat a_x2) (hS : RM S t) (hK : ∀ {yS : ms} {yt : X6}, k_K yt = true → RM yS yt → K yS) : p_makeLevels x1 x2 S K := by
  unfold p_makeLevels
  unfold x_p_makeLevels at h
  refine xs_p_layerWide h ((rfl : (0 : Int32) = Int32.ofNat 0)) e_x1 hS (fun h e_v3 h_S3 => ?_)
  refine xs_p_layerHigh h ((rfl : (0 : Int32) = Int32.ofNat 0)) e_x1 h_S3 (fun h e_v12 h_S12 => ?_)
  obtain ⟨n1, h⟩ := an_ok h
  refine ⟨n_vp e_x1 n1 (by decide), ?_⟩
  obtain ⟨v2, h, q3⟩ := rrw_ok h h_S12 (by decide) e_x1
  obtain ⟨n4, h⟩ := nu_ok h
  refine ⟨fun q => absurd ((c_eq' q3 ((rfl : (0 : Int32) = Int32.ofNat 0))).mp q) (by rw [n4]; exact Bool.false_ne_true), ?_⟩
  refine ⟨n_vp e_x1 n1 (by decide), ?_⟩
  obtain ⟨n5, h⟩ := nu_ok h
  refine ⟨fun q => absurd ((c_eq' q3 ((rfl : (0 : Int32) = Int32.ofNat 0))).mp q) (by rw [n5]; exact Bool.false_ne_true), ?_⟩
  have h := frc_ok h
  have p7 := n_sub e_v3 ((rfl : (1 : Int32) = Int32.ofNat 1))
  have h := frc_ok h
  have p9 := n_sub e_v12 ((rfl : (1 : Int32) = Int32.ofNat 1))
  have h := frc_ok h
  have p11 := n_mul ((rfl : (8 : Int32) = Int32.ofNat 8)) (n_sub e_x2 (n_mul (n_div e_x2 q3) q3))
  have h := frc_ok h
  have p13 := n_mul ((rfl : (8 : Int32) = Int32.ofNat 8)) (n_div e_x2 q3)
  exact xs_e_makeLevels_48 h e_x1 e_x2 p7 p9 p11 p13 ((rfl : (0 : Int32) = Int32.ofNat 0)) h_S12 hK
noncomputable def x_b_pack_225 (a_x3 : Nat) (a_x4 : Nat) (a_x5 : Nat) (a_x6 : Nat) (a_x7 : Nat) (t : X6) (r_R145 : Nat → Nat → X6 → Bool) (r_R225 : Nat → Nat → Nat → Nat → Nat → X6 → Bool) (k_K : Nat → X6 → Bool) : Bool :=
  cond (!(w_lt a_x7 (w_mul a_x5 a_x6))) (frc (w_add a_x4 1) fun f2 => r_R145 a_x3 f2 t) (cond (w_eq a_x5 0) false <| and (Nat.blt a_x4 9) <| cond (w_eq a_x5 0) false <| rrw t 17 a_x4 fun v7 => frc (w_add (w_mul (w_div a_x7 a_x5) v7) (w_sub a_x7 (w_mul (w_div a_x7 a_x5) a_x5))) fun f9 => x_p_makeLevels a_x4 f9 t (fun t_S257 => frc (w_add a_x7 1) fun f11 => r_R225 a_x3 a_x4 a_x5 a_x6 f11 t_S257))
set_option maxRecDepth 20000 in
set_option maxHeartbeats 1000000 in
theorem xs_b_pack_225 {x3 : Int32} {a_x3 : Nat} {x4 : Int32} {a_x4 : Nat} {x5 : Int32} {a_x5 : Nat} {x6 : Int32} {a_x6 : Nat} {x7 : Int32} {a_x7 : Nat} {S : ms} {t : X6} {R145 : Int32 → Int32 → ms → Prop} {r_R145 : Nat → Nat → X6 → Bool} {R225 : Int32 → Int32 → Int32 → Int32 → Int32 → ms → Prop} {r_R225 : Nat → Nat → Nat → Nat → Nat → X6 → Bool} {K : Int32 → ms → Prop} {k_K : Nat → X6 → Bool} (h : x_b_pack_225 a_x3 a_x4 a_x5 a_x6 a_x7 t r_R145 r_R225 k_K = true) (e_x3 : x3 = Int32.ofNat a_x3) (e_x4 : x4 = Int32.ofNat a_x4) (e_x5 : x5 = Int32.ofNat a_x5) (e_x6 : x6 = Int32.ofNat a_x6) (e_x7 : x7 = Int32.ofNat a_x7) (hS : RM S t) (hR145 : ∀ {y0 : Int32} {b0 : Nat} {y1 : Int32} {b1 : Nat} {yS : ms} {yt : X6}, r_R145 b0 b1 yt = true → y0 = Int32.ofNat b0 → y1 = Int32.ofNat b1 → RM yS yt → R145 y0 y1 yS) (hR225 : ∀ {y0 : Int32} {b0 : Nat} {y1 : Int32} {b1 : Nat} {y2 : Int32} {b2 : Nat} {y3 : Int32} {b3 : Nat} {y4 : Int32} {b4 : Nat} {yS : ms} {yt : X6}, r_R225 b0 b1 b2 b3 b4 yt = true → y0 = Int32.ofNat b0 → y1 = Int32.ofNat b1 → y2 = Int32.ofNat b2 → y3 = Int32.ofNat b3 → y4 = Int32.ofNat b4 → RM yS yt → R225 y0 y1 y2 y3 y4 yS) (hK : ∀ {y0 : Int32} {b0 : Nat} {yS : ms} {yt : X6}, k_K b0 yt = true → y0 = Int32.ofNat b0 → RM yS yt → K y0 yS) : b_pack_225 x3 x4 x5 x6 x7 S R145 R225 K := by
  unfold b_pack_225
  unfold x_b_pack_225 at h
  have hc1 := c_le' (n_mul e_x5 e_x6) e_x7
  refine ⟨fun hc => ?_, fun hc => ?_⟩
  · have h := x_pos h (hc1.mp hc)
    have h := frc_ok h
    have p3 := n_add e_x4 ((rfl : (1 : Int32) = Int32.ofNat 1))
    exact hR145 h e_x3 p3 hS
  · have h := x_neg h (fun q => hc (hc1.mpr q))
    obtain ⟨n4, h⟩ := nu_ok h
    refine ⟨fun q => absurd ((c_eq' e_x5 ((rfl : (0 : Int32) = Int32.ofNat 0))).mp q) (by rw [n4]; exact Bool.false_ne_true), ?_⟩
    obtain ⟨n5, h⟩ := an_ok h
    refine ⟨n_vp e_x4 n5 (by decide), ?_⟩
    obtain ⟨n6, h⟩ := nu_ok h
    refine ⟨fun q => absurd ((c_eq' e_x5 ((rfl : (0 : Int32) = Int32.ofNat 0))).mp q) (by rw [n6]; exact Bool.false_ne_true), ?_⟩
    obtain ⟨v7, h, q8⟩ := rrw_ok h hS (by decide) e_x4
    have h := frc_ok h
    have p10 := n_add (n_mul (n_div e_x7 e_x5) q8) (n_sub e_x7 (n_mul (n_div e_x7 e_x5) e_x5))
    refine xs_p_makeLevels h e_x4 p10 hS (fun h h_S257 => ?_)
    have h := frc_ok h
    have p12 := n_add e_x7 ((rfl : (1 : Int32) = Int32.ofNat 1))
    exact hR225 h e_x3 e_x4 e_x5 e_x6 p12 h_S257
noncomputable def xl_e_pack_225 (r_R145 : Nat → Nat → X6 → Bool) (k_K : Nat → X6 → Bool) (n : Nat) : Nat → Nat → Nat → Nat → Nat → X6 → Bool := Nat.rec (motive := fun _ => Nat → Nat → Nat → Nat → Nat → X6 → Bool) (fun _ _ _ _ _ _ => false) (fun _ ih b_x3 b_x4 b_x5 b_x6 b_x7 bt => x_b_pack_225 b_x3 b_x4 b_x5 b_x6 b_x7 bt r_R145 ih k_K) n
noncomputable def x_e_pack_225 (a_x3 : Nat) (a_x4 : Nat) (a_x5 : Nat) (a_x6 : Nat) (a_x7 : Nat) (t : X6) (r_R145 : Nat → Nat → X6 → Bool) (k_K : Nat → X6 → Bool) : Bool := xl_e_pack_225 r_R145 k_K 200000 a_x3 a_x4 a_x5 a_x6 a_x7 t
def xq_e_pack_225 (r_R145 : Nat → Nat → X6 → Bool) (k_K : Nat → X6 → Bool) (n : Nat) (y_x3 : Int32) (y_x4 : Int32) (y_x5 : Int32) (y_x6 : Int32) (y_x7 : Int32) (yS : ms) : Prop := ∃ (b_x3 : Nat) (b_x4 : Nat) (b_x5 : Nat) (b_x6 : Nat) (b_x7 : Nat) (bt : X6), y_x3 = Int32.ofNat b_x3 ∧ y_x4 = Int32.ofNat b_x4 ∧ y_x5 = Int32.ofNat b_x5 ∧ y_x6 = Int32.ofNat b_x6 ∧ y_x7 = Int32.ofNat b_x7 ∧ RM yS bt ∧ xl_e_pack_225 r_R145 k_K n b_x3 b_x4 b_x5 b_x6 b_x7 bt = true
set_option maxRecDepth 20000 in
theorem xs_e_pack_225 {x3 : Int32} {a_x3 : Nat} {x4 : Int32} {a_x4 : Nat} {x5 : Int32} {a_x5 : Nat} {x6 : Int32} {a_x6 : Nat} {x7 : Int32} {a_x7 : Nat} {S : ms} {t : X6} {R145 : Int32 → Int32 → ms → Prop} {r_R145 : Nat → Nat → X6 → Bool} {K : Int32 → ms → Prop} {k_K : Nat → X6 → Bool} (h : x_e_pack_225 a_x3 a_x4 a_x5 a_x6 a_x7 t r_R145 k_K = true) (e_x3 : x3 = Int32.ofNat a_x3) (e_x4 : x4 = Int32.ofNat a_x4) (e_x5 : x5 = Int32.ofNat a_x5) (e_x6 : x6 = Int32.ofNat a_x6) (e_x7 : x7 = Int32.ofNat a_x7) (hS : RM S t) (hR145 : ∀ {y0 : Int32} {b0 : Nat} {y1 : Int32} {b1 : Nat} {yS : ms} {yt : X6}, r_R145 b0 b1 yt = true → y0 = Int32.ofNat b0 → y1 = Int32.ofNat b1 → RM yS yt → R145 y0 y1 yS) (hK : ∀ {y0 : Int32} {b0 : Nat} {yS : ms} {yt : X6}, k_K b0 yt = true → y0 = Int32.ofNat b0 → RM yS yt → K y0 yS) : e_pack_225 x3 x4 x5 x6 x7 S R145 K := by
  refine ⟨fun y_x3 y_x4 y_x5 y_x6 y_x7 yS => ∃ n, xq_e_pack_225 r_R145 k_K n y_x3 y_x4 y_x5 y_x6 y_x7 yS, fun y_x3 y_x4 y_x5 y_x6 y_x7 yS => mf (fun n => xq_e_pack_225 r_R145 k_K n y_x3 y_x4 y_x5 y_x6 y_x7 yS), ⟨200000, a_x3, a_x4, a_x5, a_x6, a_x7, t, e_x3, e_x4, e_x5, e_x6, e_x7, hS, h⟩, fun y_x3 y_x4 y_x5 y_x6 y_x7 yS hI => ?_⟩
  obtain ⟨m, hm, hq⟩ := mf_ok hI
  obtain ⟨b_x3, b_x4, b_x5, b_x6, b_x7, bt, c_x3, c_x4, c_x5, c_x6, c_x7, cS, h⟩ := hq
  cases m with
  | zero => exact absurd h Bool.false_ne_true
  | succ n => exact xs_b_pack_225 h c_x3 c_x4 c_x5 c_x6 c_x7 cS hR145 (fun h d_x3 d_x4 d_x5 d_x6 d_x7 dS => ⟨⟨n, _, _, _, _, _, _, d_x3, d_x4, d_x5, d_x6, d_x7, dS, h⟩, Nat.lt_of_le_of_lt (mf_le ⟨_, _, _, _, _, _, d_x3, d_x4, d_x5, d_x6, d_x7, dS, h⟩) (Nat.lt_of_lt_of_eq (Nat.lt_succ_self n) hm.symm)⟩) hK
noncomputable def x_b_pack_220 (a_x3 : Nat) (a_x4 : Nat) (a_x5 : Nat) (a_s0 : Nat) (t : X6) (r_R145 : Nat → Nat → X6 → Bool) (k_K : Nat → X6 → Bool) : Bool :=
  x_e_pack_225 a_x3 a_x4 a_x5 a_s0 0 t r_R145 k_K
set_option maxRecDepth 20000 in
set_option maxHeartbeats 1000000 in
theorem xs_b_pack_220 {x3 : Int32} {a_x3 : Nat} {x4 : Int32} {a_x4 : Nat} {x5 : Int32} {a_x5 : Nat} {s0 : Int32} {a_s0 : Nat} {S : ms} {t : X6} {R145 : Int32 → Int32 → ms → Prop} {r_R145 : Nat → Nat → X6 → Bool} {K : Int32 → ms → Prop} {k_K : Nat → X6 → Bool} (h : x_b_pack_220 a_x3 a_x4 a_x5 a_s0 t r_R145 k_K = true) (e_x3 : x3 = Int32.ofNat a_x3) (e_x4 : x4 = Int32.ofNat a_x4) (e_x5 : x5 = Int32.ofNat a_x5) (e_s0 : s0 = Int32.ofNat a_s0) (hS : RM S t) (hR145 : ∀ {y0 : Int32} {b0 : Nat} {y1 : Int32} {b1 : Nat} {yS : ms} {yt : X6}, r_R145 b0 b1 yt = true → y0 = Int32.ofNat b0 → y1 = Int32.ofNat b1 → RM yS yt → R145 y0 y1 yS) (hK : ∀ {y0 : Int32} {b0 : Nat} {yS : ms} {yt : X6}, k_K b0 yt = true → y0 = Int32.ofNat b0 → RM yS yt → K y0 yS) : b_pack_220 x3 x4 x5 s0 S R145 K := by
  unfold b_pack_220
  unfold x_b_pack_220 at h
  exact xs_e_pack_225 h e_x3 e_x4 e_x5 e_s0 ((rfl : (0 : Int32) = Int32.ofNat 0)) hS hR145 hK
noncomputable def x_b_pack_189 (a_x3 : Nat) (a_x4 : Nat) (a_s0 : Nat) (t : X6) (r_R145 : Nat → Nat → X6 → Bool) (k_K : Nat → X6 → Bool) : Bool :=
  rfi t 3 fun v1 => cond (w_eq v1 1) (x_p_layerHigh 0 0 t (fun v202_ t_S202 => x_p_upward v202_ 8 (fun v207_ => x_b_pack_220 a_x3 a_x4 a_s0 v207_ t_S202 r_R145 k_K))) (and (Nat.blt a_x4 9) <| rrw t 18 a_x4 fun v5 => x_b_pack_220 a_x3 a_x4 a_s0 v5 t r_R145 k_K)
set_option maxRecDepth 20000 in
set_option maxHeartbeats 1000000 in
theorem xs_b_pack_189 {x3 : Int32} {a_x3 : Nat} {x4 : Int32} {a_x4 : Nat} {s0 : Int32} {a_s0 : Nat} {S : ms} {t : X6} {R145 : Int32 → Int32 → ms → Prop} {r_R145 : Nat → Nat → X6 → Bool} {K : Int32 → ms → Prop} {k_K : Nat → X6 → Bool} (h : x_b_pack_189 a_x3 a_x4 a_s0 t r_R145 k_K = true) (e_x3 : x3 = Int32.ofNat a_x3) (e_x4 : x4 = Int32.ofNat a_x4) (e_s0 : s0 = Int32.ofNat a_s0) (hS : RM S t) (hR145 : ∀ {y0 : Int32} {b0 : Nat} {y1 : Int32} {b1 : Nat} {yS : ms} {yt : X6}, r_R145 b0 b1 yt = true → y0 = Int32.ofNat b0 → y1 = Int32.ofNat b1 → RM yS yt → R145 y0 y1 yS) (hK : ∀ {y0 : Int32} {b0 : Nat} {yS : ms} {yt : X6}, k_K b0 yt = true → y0 = Int32.ofNat b0 → RM yS yt → K y0 yS) : b_pack_189 x3 x4 s0 S R145 K := by
  unfold b_pack_189
  unfold x_b_pack_189 at h
  obtain ⟨v1, h, q2⟩ := rfi_ok h hS
  have hc3 := c_eq' q2 ((rfl : (1 : Int32) = Int32.ofNat 1))
  refine ⟨fun hc => ?_, fun hc => ?_⟩
  · have h := x_neg h (fun q => hc (hc3.mpr q))
    obtain ⟨n4, h⟩ := an_ok h
    refine ⟨n_vp e_x4 n4 (by decide), ?_⟩
    obtain ⟨v5, h, q6⟩ := rrw_ok h hS (by decide) e_x4
    exact xs_b_pack_220 h e_x3 e_x4 e_s0 q6 hS hR145 hK
  · have h := x_pos h (hc3.mp hc)
    refine xs_p_layerHigh h ((rfl : (0 : Int32) = Int32.ofNat 0)) ((rfl : (0 : Int32) = Int32.ofNat 0)) hS (fun h e_v202 h_S202 => ?_)
    refine xs_p_upward h e_v202 ((rfl : (8 : Int32) = Int32.ofNat 8)) (fun h e_v207 => ?_)
    exact xs_b_pack_220 h e_x3 e_x4 e_s0 e_v207 h_S202 hR145 hK
noncomputable def x_b_pack_145 (a_x3 : Nat) (a_x4 : Nat) (t : X6) (r_R145 : Nat → Nat → X6 → Bool) (k_K : Nat → X6 → Bool) : Bool :=
  rfi t 3 fun v1 => cond (!(w_lt a_x4 v1)) (x_e_pack_275 a_x3 0 t k_K) (x_p_makeRaster a_x4 t (fun t_S157 => rfi t_S157 3 fun v4 => cond (w_eq v4 1) (x_p_layerWide 0 0 t_S157 (fun v171_ t_S171 => x_p_upward v171_ 8 (fun v176_ => x_b_pack_189 a_x3 a_x4 v176_ t_S171 r_R145 k_K))) (and (Nat.blt a_x4 9) <| rrw t_S157 17 a_x4 fun v8 => x_b_pack_189 a_x3 a_x4 v8 t_S157 r_R145 k_K)))
set_option maxRecDepth 20000 in
set_option maxHeartbeats 1000000 in
theorem xs_b_pack_145 {x3 : Int32} {a_x3 : Nat} {x4 : Int32} {a_x4 : Nat} {S : ms} {t : X6} {R145 : Int32 → Int32 → ms → Prop} {r_R145 : Nat → Nat → X6 → Bool} {K : Int32 → ms → Prop} {k_K : Nat → X6 → Bool} (h : x_b_pack_145 a_x3 a_x4 t r_R145 k_K = true) (e_x3 : x3 = Int32.ofNat a_x3) (e_x4 : x4 = Int32.ofNat a_x4) (hS : RM S t) (hR145 : ∀ {y0 : Int32} {b0 : Nat} {y1 : Int32} {b1 : Nat} {yS : ms} {yt : X6}, r_R145 b0 b1 yt = true → y0 = Int32.ofNat b0 → y1 = Int32.ofNat b1 → RM yS yt → R145 y0 y1 yS) (hK : ∀ {y0 : Int32} {b0 : Nat} {yS : ms} {yt : X6}, k_K b0 yt = true → y0 = Int32.ofNat b0 → RM yS yt → K y0 yS) : b_pack_145 x3 x4 S R145 K := by
  unfold b_pack_145
  unfold x_b_pack_145 at h
  obtain ⟨v1, h, q2⟩ := rfi_ok h hS
  have hc3 := c_le' q2 e_x4
  refine ⟨fun hc => ?_, fun hc => ?_⟩
  · have h := x_pos h (hc3.mp hc)
    exact xs_e_pack_275 h e_x3 ((rfl : (0 : Int32) = Int32.ofNat 0)) hS hK
  · have h := x_neg h (fun q => hc (hc3.mpr q))
    refine xs_p_makeRaster h e_x4 hS (fun h h_S157 => ?_)
    obtain ⟨v4, h, q5⟩ := rfi_ok h h_S157
    have hc6 := c_eq' q5 ((rfl : (1 : Int32) = Int32.ofNat 1))
    refine ⟨fun hc => ?_, fun hc => ?_⟩
    · have h := x_neg h (fun q => hc (hc6.mpr q))
      obtain ⟨n7, h⟩ := an_ok h
      refine ⟨n_vp e_x4 n7 (by decide), ?_⟩
      obtain ⟨v8, h, q9⟩ := rrw_ok h h_S157 (by decide) e_x4
      exact xs_b_pack_189 h e_x3 e_x4 q9 h_S157 hR145 hK
    · have h := x_pos h (hc6.mp hc)
      refine xs_p_layerWide h ((rfl : (0 : Int32) = Int32.ofNat 0)) ((rfl : (0 : Int32) = Int32.ofNat 0)) h_S157 (fun h e_v171 h_S171 => ?_)
      refine xs_p_upward h e_v171 ((rfl : (8 : Int32) = Int32.ofNat 8)) (fun h e_v176 => ?_)
      exact xs_b_pack_189 h e_x3 e_x4 e_v176 h_S171 hR145 hK
noncomputable def xl_e_pack_145 (k_K : Nat → X6 → Bool) (n : Nat) : Nat → Nat → X6 → Bool := Nat.rec (motive := fun _ => Nat → Nat → X6 → Bool) (fun _ _ _ => false) (fun _ ih b_x3 b_x4 bt => x_b_pack_145 b_x3 b_x4 bt ih k_K) n
noncomputable def x_e_pack_145 (a_x3 : Nat) (a_x4 : Nat) (t : X6) (k_K : Nat → X6 → Bool) : Bool := xl_e_pack_145 k_K 200000 a_x3 a_x4 t
def xq_e_pack_145 (k_K : Nat → X6 → Bool) (n : Nat) (y_x3 : Int32) (y_x4 : Int32) (yS : ms) : Prop := ∃ (b_x3 : Nat) (b_x4 : Nat) (bt : X6), y_x3 = Int32.ofNat b_x3 ∧ y_x4 = Int32.ofNat b_x4 ∧ RM yS bt ∧ xl_e_pack_145 k_K n b_x3 b_x4 bt = true
set_option maxRecDepth 20000 in
theorem xs_e_pack_145 {x3 : Int32} {a_x3 : Nat} {x4 : Int32} {a_x4 : Nat} {S : ms} {t : X6} {K : Int32 → ms → Prop} {k_K : Nat → X6 → Bool} (h : x_e_pack_145 a_x3 a_x4 t k_K = true) (e_x3 : x3 = Int32.ofNat a_x3) (e_x4 : x4 = Int32.ofNat a_x4) (hS : RM S t) (hK : ∀ {y0 : Int32} {b0 : Nat} {yS : ms} {yt : X6}, k_K b0 yt = true → y0 = Int32.ofNat b0 → RM yS yt → K y0 yS) : e_pack_145 x3 x4 S K := by
  refine ⟨fun y_x3 y_x4 yS => ∃ n, xq_e_pack_145 k_K n y_x3 y_x4 yS, fun y_x3 y_x4 yS => mf (fun n => xq_e_pack_145 k_K n y_x3 y_x4 yS), ⟨200000, a_x3, a_x4, t, e_x3, e_x4, hS, h⟩, fun y_x3 y_x4 yS hI => ?_⟩
  obtain ⟨m, hm, hq⟩ := mf_ok hI
  obtain ⟨b_x3, b_x4, bt, c_x3, c_x4, cS, h⟩ := hq
  cases m with
  | zero => exact absurd h Bool.false_ne_true
  | succ n => exact xs_b_pack_145 h c_x3 c_x4 cS (fun h d_x3 d_x4 dS => ⟨⟨n, _, _, _, d_x3, d_x4, dS, h⟩, Nat.lt_of_le_of_lt (mf_le ⟨_, _, _, d_x3, d_x4, dS, h⟩) (Nat.lt_of_lt_of_eq (Nat.lt_succ_self n) hm.symm)⟩) hK
noncomputable def x_b_pack_130 (a_x1 : Nat) (a_x2 : Nat) (a_x3 : Nat) (a_x4 : Nat) (a_s1 : Nat) (a_s2 : Nat) (t : X6) (r_R88 : Nat → Nat → Nat → Nat → X6 → Bool) (k_K : Nat → X6 → Bool) : Bool :=
  and (Nat.blt a_s1 9) <| frc (w_add a_x4 1) fun f2 => wrw t 16 a_s1 a_s2 fun t4 => r_R88 a_x1 a_x2 a_x3 f2 t4
set_option maxRecDepth 20000 in
set_option maxHeartbeats 1000000 in
theorem xs_b_pack_130 {x1 : Int32} {a_x1 : Nat} {x2 : Int32} {a_x2 : Nat} {x3 : Int32} {a_x3 : Nat} {x4 : Int32} {a_x4 : Nat} {s1 : Int32} {a_s1 : Nat} {s2 : Int32} {a_s2 : Nat} {S : ms} {t : X6} {R88 : Int32 → Int32 → Int32 → Int32 → ms → Prop} {r_R88 : Nat → Nat → Nat → Nat → X6 → Bool} {K : Int32 → ms → Prop} {k_K : Nat → X6 → Bool} (h : x_b_pack_130 a_x1 a_x2 a_x3 a_x4 a_s1 a_s2 t r_R88 k_K = true) (e_x1 : x1 = Int32.ofNat a_x1) (e_x2 : x2 = Int32.ofNat a_x2) (e_x3 : x3 = Int32.ofNat a_x3) (e_x4 : x4 = Int32.ofNat a_x4) (e_s1 : s1 = Int32.ofNat a_s1) (e_s2 : s2 = Int32.ofNat a_s2) (hS : RM S t) (hR88 : ∀ {y0 : Int32} {b0 : Nat} {y1 : Int32} {b1 : Nat} {y2 : Int32} {b2 : Nat} {y3 : Int32} {b3 : Nat} {yS : ms} {yt : X6}, r_R88 b0 b1 b2 b3 yt = true → y0 = Int32.ofNat b0 → y1 = Int32.ofNat b1 → y2 = Int32.ofNat b2 → y3 = Int32.ofNat b3 → RM yS yt → R88 y0 y1 y2 y3 yS) (hK : ∀ {y0 : Int32} {b0 : Nat} {yS : ms} {yt : X6}, k_K b0 yt = true → y0 = Int32.ofNat b0 → RM yS yt → K y0 yS) : b_pack_130 x1 x2 x3 x4 s1 s2 S R88 K := by
  unfold b_pack_130
  unfold x_b_pack_130 at h
  obtain ⟨n1, h⟩ := an_ok h
  refine ⟨n_vp e_s1 n1 (by decide), ?_⟩
  have h := frc_ok h
  have p3 := n_add e_x4 ((rfl : (1 : Int32) = Int32.ofNat 1))
  obtain ⟨t4, h, hS5⟩ := wrw_ok h hS (by decide) e_s1 e_s2
  exact hR88 h e_x1 e_x2 e_x3 p3 hS5
noncomputable def x_b_pack_113 (a_x1 : Nat) (a_x2 : Nat) (a_x3 : Nat) (a_x4 : Nat) (a_s1 : Nat) (a_s2 : Nat) (t : X6) (r_R88 : Nat → Nat → Nat → Nat → X6 → Bool) (k_K : Nat → X6 → Bool) : Bool :=
  and (Nat.blt a_s1 9) <| cond (w_eq a_x4 0) (wrw t 15 a_s1 a_s2 fun t5 => x_b_pack_130 a_x1 a_x2 a_x3 a_x4 a_x4 a_x2 t5 r_R88 k_K) (wrw t 15 a_s1 a_s2 fun t3 => x_b_pack_130 a_x1 a_x2 a_x3 a_x4 a_x4 1 t3 r_R88 k_K)
set_option maxRecDepth 20000 in
set_option maxHeartbeats 1000000 in
theorem xs_b_pack_113 {x1 : Int32} {a_x1 : Nat} {x2 : Int32} {a_x2 : Nat} {x3 : Int32} {a_x3 : Nat} {x4 : Int32} {a_x4 : Nat} {s1 : Int32} {a_s1 : Nat} {s2 : Int32} {a_s2 : Nat} {S : ms} {t : X6} {R88 : Int32 → Int32 → Int32 → Int32 → ms → Prop} {r_R88 : Nat → Nat → Nat → Nat → X6 → Bool} {K : Int32 → ms → Prop} {k_K : Nat → X6 → Bool} (h : x_b_pack_113 a_x1 a_x2 a_x3 a_x4 a_s1 a_s2 t r_R88 k_K = true) (e_x1 : x1 = Int32.ofNat a_x1) (e_x2 : x2 = Int32.ofNat a_x2) (e_x3 : x3 = Int32.ofNat a_x3) (e_x4 : x4 = Int32.ofNat a_x4) (e_s1 : s1 = Int32.ofNat a_s1) (e_s2 : s2 = Int32.ofNat a_s2) (hS : RM S t) (hR88 : ∀ {y0 : Int32} {b0 : Nat} {y1 : Int32} {b1 : Nat} {y2 : Int32} {b2 : Nat} {y3 : Int32} {b3 : Nat} {yS : ms} {yt : X6}, r_R88 b0 b1 b2 b3 yt = true → y0 = Int32.ofNat b0 → y1 = Int32.ofNat b1 → y2 = Int32.ofNat b2 → y3 = Int32.ofNat b3 → RM yS yt → R88 y0 y1 y2 y3 yS) (hK : ∀ {y0 : Int32} {b0 : Nat} {yS : ms} {yt : X6}, k_K b0 yt = true → y0 = Int32.ofNat b0 → RM yS yt → K y0 yS) : b_pack_113 x1 x2 x3 x4 s1 s2 S R88 K := by
  unfold b_pack_113
  unfold x_b_pack_113 at h
  obtain ⟨n1, h⟩ := an_ok h
  refine ⟨n_vp e_s1 n1 (by decide), ?_⟩
  have hc2 := c_eq' e_x4 ((rfl : (0 : Int32) = Int32.ofNat 0))
  refine ⟨fun hc => ?_, fun hc => ?_⟩
  · have h := x_neg h (fun q => hc (hc2.mpr q))
    obtain ⟨t3, h, hS4⟩ := wrw_ok h hS (by decide) e_s1 e_s2
    exact xs_b_pack_130 h e_x1 e_x2 e_x3 e_x4 e_x4 ((rfl : (1 : Int32) = Int32.ofNat 1)) hS4 hR88 hK
  · have h := x_pos h (hc2.mp hc)
    obtain ⟨t5, h, hS6⟩ := wrw_ok h hS (by decide) e_s1 e_s2
    exact xs_b_pack_130 h e_x1 e_x2 e_x3 e_x4 e_x4 e_x2 hS6 hR88 hK
noncomputable def x_b_pack_88 (a_x1 : Nat) (a_x2 : Nat) (a_x3 : Nat) (a_x4 : Nat) (t : X6) (r_R88 : Nat → Nat → Nat → Nat → X6 → Bool) (k_K : Nat → X6 → Bool) : Bool :=
  rfi t 3 fun v1 => cond (!(w_lt a_x4 v1)) (x_p_makeGrids 0 t (fun t_S139 => x_e_pack_145 a_x3 0 t_S139 k_K)) (cond (w_eq a_x4 0) (x_b_pack_113 a_x1 a_x2 a_x3 a_x4 a_x4 a_x1 t r_R88 k_K) (x_b_pack_113 a_x1 a_x2 a_x3 a_x4 a_x4 1 t r_R88 k_K))
set_option maxRecDepth 20000 in
set_option maxHeartbeats 1000000 in
theorem xs_b_pack_88 {x1 : Int32} {a_x1 : Nat} {x2 : Int32} {a_x2 : Nat} {x3 : Int32} {a_x3 : Nat} {x4 : Int32} {a_x4 : Nat} {S : ms} {t : X6} {R88 : Int32 → Int32 → Int32 → Int32 → ms → Prop} {r_R88 : Nat → Nat → Nat → Nat → X6 → Bool} {K : Int32 → ms → Prop} {k_K : Nat → X6 → Bool} (h : x_b_pack_88 a_x1 a_x2 a_x3 a_x4 t r_R88 k_K = true) (e_x1 : x1 = Int32.ofNat a_x1) (e_x2 : x2 = Int32.ofNat a_x2) (e_x3 : x3 = Int32.ofNat a_x3) (e_x4 : x4 = Int32.ofNat a_x4) (hS : RM S t) (hR88 : ∀ {y0 : Int32} {b0 : Nat} {y1 : Int32} {b1 : Nat} {y2 : Int32} {b2 : Nat} {y3 : Int32} {b3 : Nat} {yS : ms} {yt : X6}, r_R88 b0 b1 b2 b3 yt = true → y0 = Int32.ofNat b0 → y1 = Int32.ofNat b1 → y2 = Int32.ofNat b2 → y3 = Int32.ofNat b3 → RM yS yt → R88 y0 y1 y2 y3 yS) (hK : ∀ {y0 : Int32} {b0 : Nat} {yS : ms} {yt : X6}, k_K b0 yt = true → y0 = Int32.ofNat b0 → RM yS yt → K y0 yS) : b_pack_88 x1 x2 x3 x4 S R88 K := by
  unfold b_pack_88
  unfold x_b_pack_88 at h
  obtain ⟨v1, h, q2⟩ := rfi_ok h hS
  have hc3 := c_le' q2 e_x4
  refine ⟨fun hc => ?_, fun hc => ?_⟩
  · have h := x_pos h (hc3.mp hc)
    refine xs_p_makeGrids h ((rfl : (0 : Int32) = Int32.ofNat 0)) hS (fun h h_S139 => ?_)
    exact xs_e_pack_145 h e_x3 ((rfl : (0 : Int32) = Int32.ofNat 0)) h_S139 hK
  · have h := x_neg h (fun q => hc (hc3.mpr q))
    have hc4 := c_eq' e_x4 ((rfl : (0 : Int32) = Int32.ofNat 0))
    refine ⟨fun hc => ?_, fun hc => ?_⟩
    · have h := x_neg h (fun q => hc (hc4.mpr q))
      exact xs_b_pack_113 h e_x1 e_x2 e_x3 e_x4 e_x4 ((rfl : (1 : Int32) = Int32.ofNat 1)) hS hR88 hK
    · have h := x_pos h (hc4.mp hc)
      exact xs_b_pack_113 h e_x1 e_x2 e_x3 e_x4 e_x4 e_x1 hS hR88 hK
noncomputable def xl_e_pack_88 (k_K : Nat → X6 → Bool) (n : Nat) : Nat → Nat → Nat → Nat → X6 → Bool := Nat.rec (motive := fun _ => Nat → Nat → Nat → Nat → X6 → Bool) (fun _ _ _ _ _ => false) (fun _ ih b_x1 b_x2 b_x3 b_x4 bt => x_b_pack_88 b_x1 b_x2 b_x3 b_x4 bt ih k_K) n
noncomputable def x_e_pack_88 (a_x1 : Nat) (a_x2 : Nat) (a_x3 : Nat) (a_x4 : Nat) (t : X6) (k_K : Nat → X6 → Bool) : Bool := xl_e_pack_88 k_K 200000 a_x1 a_x2 a_x3 a_x4 t
def xq_e_pack_88 (k_K : Nat → X6 → Bool) (n : Nat) (y_x1 : Int32) (y_x2 : Int32) (y_x3 : Int32) (y_x4 : Int32) (yS : ms) : Prop := ∃ (b_x1 : Nat) (b_x2 : Nat) (b_x3 : Nat) (b_x4 : Nat) (bt : X6), y_x1 = Int32.ofNat b_x1 ∧ y_x2 = Int32.ofNat b_x2 ∧ y_x3 = Int32.ofNat b_x3 ∧ y_x4 = Int32.ofNat b_x4 ∧ RM yS bt ∧ xl_e_pack_88 k_K n b_x1 b_x2 b_x3 b_x4 bt = true
set_option maxRecDepth 20000 in
theorem xs_e_pack_88 {x1 : Int32} {a_x1 : Nat} {x2 : Int32} {a_x2 : Nat} {x3 : Int32} {a_x3 : Nat} {x4 : Int32} {a_x4 : Nat} {S : ms} {t : X6} {K : Int32 → ms → Prop} {k_K : Nat → X6 → Bool} (h : x_e_pack_88 a_x1 a_x2 a_x3 a_x4 t k_K = true) (e_x1 : x1 = Int32.ofNat a_x1) (e_x2 : x2 = Int32.ofNat a_x2) (e_x3 : x3 = Int32.ofNat a_x3) (e_x4 : x4 = Int32.ofNat a_x4) (hS : RM S t) (hK : ∀ {y0 : Int32} {b0 : Nat} {yS : ms} {yt : X6}, k_K b0 yt = true → y0 = Int32.ofNat b0 → RM yS yt → K y0 yS) : e_pack_88 x1 x2 x3 x4 S K := by
  refine ⟨fun y_x1 y_x2 y_x3 y_x4 yS => ∃ n, xq_e_pack_88 k_K n y_x1 y_x2 y_x3 y_x4 yS, fun y_x1 y_x2 y_x3 y_x4 yS => mf (fun n => xq_e_pack_88 k_K n y_x1 y_x2 y_x3 y_x4 yS), ⟨200000, a_x1, a_x2, a_x3, a_x4, t, e_x1, e_x2, e_x3, e_x4, hS, h⟩, fun y_x1 y_x2 y_x3 y_x4 yS hI => ?_⟩
  obtain ⟨m, hm, hq⟩ := mf_ok hI
  obtain ⟨b_x1, b_x2, b_x3, b_x4, bt, c_x1, c_x2, c_x3, c_x4, cS, h⟩ := hq
  cases m with
  | zero => exact absurd h Bool.false_ne_true
  | succ n => exact xs_b_pack_88 h c_x1 c_x2 c_x3 c_x4 cS (fun h d_x1 d_x2 d_x3 d_x4 dS => ⟨⟨n, _, _, _, _, _, d_x1, d_x2, d_x3, d_x4, dS, h⟩, Nat.lt_of_le_of_lt (mf_le ⟨_, _, _, _, _, d_x1, d_x2, d_x3, d_x4, dS, h⟩) (Nat.lt_of_lt_of_eq (Nat.lt_succ_self n) hm.symm)⟩) hK
noncomputable def x_b_pack_36 (a_x1 : Nat) (a_x2 : Nat) (a_x3 : Nat) (a_s1 : Nat) (t : X6) (k_K : Nat → X6 → Bool) : Bool :=
  wfi t 0 a_s1 fun t1 => rfi t1 0 fun v3 => cond (!(w_lt 0 v3)) (and (Nat.blt 0 3) <| wrw t 11 0 1 fun t7 => rfi t1 1 fun v11 => wrw t7 12 0 v11 fun t9 => rfi t1 2 fun v15 => wrw t9 13 0 v15 fun t13 => rfi t1 3 fun v19 => wrw t13 14 0 v19 fun t17 => wfi t17 0 a_s1 fun t21 => x_e_pack_88 a_x1 a_x2 a_x3 0 t21 k_K) (k_K 0 t1)
set_option maxRecDepth 20000 in
set_option maxHeartbeats 1000000 in
theorem xs_b_pack_36 {x1 : Int32} {a_x1 : Nat} {x2 : Int32} {a_x2 : Nat} {x3 : Int32} {a_x3 : Nat} {s1 : Int32} {a_s1 : Nat} {S : ms} {t : X6} {K : Int32 → ms → Prop} {k_K : Nat → X6 → Bool} (h : x_b_pack_36 a_x1 a_x2 a_x3 a_s1 t k_K = true) (e_x1 : x1 = Int32.ofNat a_x1) (e_x2 : x2 = Int32.ofNat a_x2) (e_x3 : x3 = Int32.ofNat a_x3) (e_s1 : s1 = Int32.ofNat a_s1) (hS : RM S t) (hK : ∀ {y0 : Int32} {b0 : Nat} {yS : ms} {yt : X6}, k_K b0 yt = true → y0 = Int32.ofNat b0 → RM yS yt → K y0 yS) : b_pack_36 x1 x2 x3 s1 S K := by
  unfold b_pack_36
  unfold x_b_pack_36 at h
  obtain ⟨t1, h, hS2⟩ := wfi_ok h hS  e_s1
  obtain ⟨v3, h, q4⟩ := rfi_ok h hS2
  have hc5 := c_le' q4 ((rfl : (0 : Int32) = Int32.ofNat 0))
  refine ⟨fun hc => ?_, fun hc => ?_⟩
  · have h := x_pos h (hc5.mp hc)
    obtain ⟨n6, h⟩ := an_ok h
    refine ⟨n_vp ((rfl : (0 : Int32) = Int32.ofNat 0)) n6 (by decide), ?_⟩
    refine ⟨n_vp ((rfl : (0 : Int32) = Int32.ofNat 0)) n6 (by decide), ?_⟩
    refine ⟨n_vp ((rfl : (0 : Int32) = Int32.ofNat 0)) n6 (by decide), ?_⟩
    refine ⟨n_vp ((rfl : (0 : Int32) = Int32.ofNat 0)) n6 (by decide), ?_⟩
    obtain ⟨t7, h, hS8⟩ := wrw_ok h hS (by decide) ((rfl : (0 : Int32) = Int32.ofNat 0)) ((rfl : vp_nar .boolean 1 = Int32.ofNat 1))
    obtain ⟨v11, h, q12⟩ := rfi_ok h hS2
    obtain ⟨t9, h, hS10⟩ := wrw_ok h hS8 (by decide) ((rfl : (0 : Int32) = Int32.ofNat 0)) q12
    obtain ⟨v15, h, q16⟩ := rfi_ok h hS2
    obtain ⟨t13, h, hS14⟩ := wrw_ok h hS10 (by decide) ((rfl : (0 : Int32) = Int32.ofNat 0)) q16
    obtain ⟨v19, h, q20⟩ := rfi_ok h hS2
    obtain ⟨t17, h, hS18⟩ := wrw_ok h hS14 (by decide) ((rfl : (0 : Int32) = Int32.ofNat 0)) q20
    obtain ⟨t21, h, hS22⟩ := wfi_ok h hS18  e_s1
    exact xs_e_pack_88 h e_x1 e_x2 e_x3 ((rfl : (0 : Int32) = Int32.ofNat 0)) hS22 hK
  · have h := x_neg h (fun q => hc (hc5.mpr q))
    exact hK h ((rfl : (0 : Int32) = Int32.ofNat 0)) hS2
noncomputable def x_b_units_261_x2 (a_x1 : Nat) (a_x3 : Nat) (a_x6 : Nat) (a_x7 : Nat) (a_x8 : Nat) (a_x9 : Nat) (a_x10 : Nat) (a_x11 : Nat) (a_x12 : Nat) (a_x13 : Nat) (a_x14 : Nat) (t : X6) (r_R122 : Nat → Nat → Nat → Nat → Nat → X6 → Bool) (r_R213 : Nat → Nat → Nat → Nat → Nat → Nat → Nat → Nat → X6 → Bool) (r_R261 : Nat → Nat → Nat → Nat → Nat → Nat → Nat → Nat → Nat → Nat → Nat → X6 → Bool) (k_K : X6 → Bool) : Bool :=
  cond (!(w_lt a_x14 (w_mul a_x12 a_x13))) (frc (w_add a_x11 1) fun f2 => r_R213 a_x1 a_x3 a_x6 a_x7 a_x8 a_x9 a_x10 f2 t) (cond (w_eq a_x12 0) false <| cond (w_eq a_x12 0) false <| and (Nat.blt a_x11 9) <| rrw t 17 a_x11 fun v7 => frc (w_add (w_mul (w_add (w_mul a_x10 a_x13) (w_div a_x14 a_x12)) v7) (w_add (w_mul a_x9 a_x12) (w_sub a_x14 (w_mul (w_div a_x14 a_x12) a_x12)))) fun f9 => x_p_tell a_x1 a_x11 f9 t (fun t_S314 => frc (w_add a_x14 1) fun f11 => r_R261 a_x1 a_x3 a_x6 a_x7 a_x8 a_x9 a_x10 a_x11 a_x12 a_x13 f11 t_S314))
set_option maxRecDepth 20000 in
set_option maxHeartbeats 1000000 in
theorem xs_b_units_261_x2 {x1 : Int32} {a_x1 : Nat} {x2 : Int32} {x3 : Int32} {a_x3 : Nat} {x6 : Int32} {a_x6 : Nat} {x7 : Int32} {a_x7 : Nat} {x8 : Int32} {a_x8 : Nat} {x9 : Int32} {a_x9 : Nat} {x10 : Int32} {a_x10 : Nat} {x11 : Int32} {a_x11 : Nat} {x12 : Int32} {a_x12 : Nat} {x13 : Int32} {a_x13 : Nat} {x14 : Int32} {a_x14 : Nat} {S : ms} {t : X6} {R122 : Int32 → Int32 → Int32 → Int32 → Int32 → Int32 → ms → Prop} {r_R122 : Nat → Nat → Nat → Nat → Nat → X6 → Bool} {R213 : Int32 → Int32 → Int32 → Int32 → Int32 → Int32 → Int32 → Int32 → Int32 → ms → Prop} {r_R213 : Nat → Nat → Nat → Nat → Nat → Nat → Nat → Nat → X6 → Bool} {R261 : Int32 → Int32 → Int32 → Int32 → Int32 → Int32 → Int32 → Int32 → Int32 → Int32 → Int32 → Int32 → ms → Prop} {r_R261 : Nat → Nat → Nat → Nat → Nat → Nat → Nat → Nat → Nat → Nat → Nat → X6 → Bool} {K : ms → Prop} {k_K : X6 → Bool} (h : x_b_units_261_x2 a_x1 a_x3 a_x6 a_x7 a_x8 a_x9 a_x10 a_x11 a_x12 a_x13 a_x14 t r_R122 r_R213 r_R261 k_K = true) (e_x1 : x1 = Int32.ofNat a_x1) (g_x2 : 0 < x2) (e_x3 : x3 = Int32.ofNat a_x3) (e_x6 : x6 = Int32.ofNat a_x6) (e_x7 : x7 = Int32.ofNat a_x7) (e_x8 : x8 = Int32.ofNat a_x8) (e_x9 : x9 = Int32.ofNat a_x9) (e_x10 : x10 = Int32.ofNat a_x10) (e_x11 : x11 = Int32.ofNat a_x11) (e_x12 : x12 = Int32.ofNat a_x12) (e_x13 : x13 = Int32.ofNat a_x13) (e_x14 : x14 = Int32.ofNat a_x14) (hS : RM S t) (hR122 : ∀ {y0 : Int32} {b0 : Nat} {y1 : Int32} {y2 : Int32} {b2 : Nat} {y3 : Int32} {b3 : Nat} {y4 : Int32} {b4 : Nat} {y5 : Int32} {b5 : Nat} {yS : ms} {yt : X6}, r_R122 b0 b2 b3 b4 b5 yt = true → y0 = Int32.ofNat b0 → 0 < y1 → y2 = Int32.ofNat b2 → y3 = Int32.ofNat b3 → y4 = Int32.ofNat b4 → y5 = Int32.ofNat b5 → RM yS yt → R122 y0 y1 y2 y3 y4 y5 yS) (hR213 : ∀ {y0 : Int32} {b0 : Nat} {y1 : Int32} {y2 : Int32} {b2 : Nat} {y3 : Int32} {b3 : Nat} {y4 : Int32} {b4 : Nat} {y5 : Int32} {b5 : Nat} {y6 : Int32} {b6 : Nat} {y7 : Int32} {b7 : Nat} {y8 : Int32} {b8 : Nat} {yS : ms} {yt : X6}, r_R213 b0 b2 b3 b4 b5 b6 b7 b8 yt = true → y0 = Int32.ofNat b0 → 0 < y1 → y2 = Int32.ofNat b2 → y3 = Int32.ofNat b3 → y4 = Int32.ofNat b4 → y5 = Int32.ofNat b5 → y6 = Int32.ofNat b6 → y7 = Int32.ofNat b7 → y8 = Int32.ofNat b8 → RM yS yt → R213 y0 y1 y2 y3 y4 y5 y6 y7 y8 yS) (hR261 : ∀ {y0 : Int32} {b0 : Nat} {y1 : Int32} {y2 : Int32} {b2 : Nat} {y3 : Int32} {b3 : Nat} {y4 : Int32} {b4 : Nat} {y5 : Int32} {b5 : Nat} {y6 : Int32} {b6 : Nat} {y7 : Int32} {b7 : Nat} {y8 : Int32} {b8 : Nat} {y9 : Int32} {b9 : Nat} {y10 : Int32} {b10 : Nat} {y11 : Int32} {b11 : Nat} {yS : ms} {yt : X6}, r_R261 b0 b2 b3 b4 b5 b6 b7 b8 b9 b10 b11 yt = true → y0 = Int32.ofNat b0 → 0 < y1 → y2 = Int32.ofNat b2 → y3 = Int32.ofNat b3 → y4 = Int32.ofNat b4 → y5 = Int32.ofNat b5 → y6 = Int32.ofNat b6 → y7 = Int32.ofNat b7 → y8 = Int32.ofNat b8 → y9 = Int32.ofNat b9 → y10 = Int32.ofNat b10 → y11 = Int32.ofNat b11 → RM yS yt → R261 y0 y1 y2 y3 y4 y5 y6 y7 y8 y9 y10 y11 yS) (hK : ∀ {yS : ms} {yt : X6}, k_K yt = true → RM yS yt → K yS) : b_units_261 x1 x2 x3 x6 x7 x8 x9 x10 x11 x12 x13 x14 S R122 R213 R261 K := by
  unfold b_units_261
  unfold x_b_units_261_x2 at h
  have hc1 := c_le' (n_mul e_x12 e_x13) e_x14
  refine ⟨fun hc => ?_, fun hc => ?_⟩
  · have h := x_pos h (hc1.mp hc)
    have h := frc_ok h
    have p3 := n_add e_x11 ((rfl : (1 : Int32) = Int32.ofNat 1))
    exact hR213 h e_x1 g_x2 e_x3 e_x6 e_x7 e_x8 e_x9 e_x10 p3 hS
  · have h := x_neg h (fun q => hc (hc1.mpr q))
    obtain ⟨n4, h⟩ := nu_ok h
    refine ⟨fun q => absurd ((c_eq' e_x12 ((rfl : (0 : Int32) = Int32.ofNat 0))).mp q) (by rw [n4]; exact Bool.false_ne_true), ?_⟩
    obtain ⟨n5, h⟩ := nu_ok h
    refine ⟨fun q => absurd ((c_eq' e_x12 ((rfl : (0 : Int32) = Int32.ofNat 0))).mp q) (by rw [n5]; exact Bool.false_ne_true), ?_⟩
    obtain ⟨n6, h⟩ := an_ok h
    refine ⟨n_vp e_x11 n6 (by decide), ?_⟩
    obtain ⟨v7, h, q8⟩ := rrw_ok h hS (by decide) e_x11
    have h := frc_ok h
    have p10 := n_add (n_mul (n_add (n_mul e_x10 e_x13) (n_div e_x14 e_x12)) q8) (n_add (n_mul e_x9 e_x12) (n_sub e_x14 (n_mul (n_div e_x14 e_x12) e_x12)))
    refine xs_p_tell h e_x1 e_x11 p10 hS (fun h h_S314 => ?_)
    have h := frc_ok h
    have p12 := n_add e_x14 ((rfl : (1 : Int32) = Int32.ofNat 1))
    exact hR261 h e_x1 g_x2 e_x3 e_x6 e_x7 e_x8 e_x9 e_x10 e_x11 e_x12 e_x13 p12 h_S314
noncomputable def xl_e_units_261_x2 (r_R122 : Nat → Nat → Nat → Nat → Nat → X6 → Bool) (r_R213 : Nat → Nat → Nat → Nat → Nat → Nat → Nat → Nat → X6 → Bool) (k_K : X6 → Bool) (n : Nat) : Nat → Nat → Nat → Nat → Nat → Nat → Nat → Nat → Nat → Nat → Nat → X6 → Bool := Nat.rec (motive := fun _ => Nat → Nat → Nat → Nat → Nat → Nat → Nat → Nat → Nat → Nat → Nat → X6 → Bool) (fun _ _ _ _ _ _ _ _ _ _ _ _ => false) (fun _ ih b_x1 b_x3 b_x6 b_x7 b_x8 b_x9 b_x10 b_x11 b_x12 b_x13 b_x14 bt => x_b_units_261_x2 b_x1 b_x3 b_x6 b_x7 b_x8 b_x9 b_x10 b_x11 b_x12 b_x13 b_x14 bt r_R122 r_R213 ih k_K) n
noncomputable def x_e_units_261_x2 (a_x1 : Nat) (a_x3 : Nat) (a_x6 : Nat) (a_x7 : Nat) (a_x8 : Nat) (a_x9 : Nat) (a_x10 : Nat) (a_x11 : Nat) (a_x12 : Nat) (a_x13 : Nat) (a_x14 : Nat) (t : X6) (r_R122 : Nat → Nat → Nat → Nat → Nat → X6 → Bool) (r_R213 : Nat → Nat → Nat → Nat → Nat → Nat → Nat → Nat → X6 → Bool) (k_K : X6 → Bool) : Bool := xl_e_units_261_x2 r_R122 r_R213 k_K 200000 a_x1 a_x3 a_x6 a_x7 a_x8 a_x9 a_x10 a_x11 a_x12 a_x13 a_x14 t
def xq_e_units_261_x2 (r_R122 : Nat → Nat → Nat → Nat → Nat → X6 → Bool) (r_R213 : Nat → Nat → Nat → Nat → Nat → Nat → Nat → Nat → X6 → Bool) (k_K : X6 → Bool) (n : Nat) (y_x1 : Int32) (y_x2 : Int32) (y_x3 : Int32) (y_x6 : Int32) (y_x7 : Int32) (y_x8 : Int32) (y_x9 : Int32) (y_x10 : Int32) (y_x11 : Int32) (y_x12 : Int32) (y_x13 : Int32) (y_x14 : Int32) (yS : ms) : Prop := ∃ (b_x1 : Nat) (b_x3 : Nat) (b_x6 : Nat) (b_x7 : Nat) (b_x8 : Nat) (b_x9 : Nat) (b_x10 : Nat) (b_x11 : Nat) (b_x12 : Nat) (b_x13 : Nat) (b_x14 : Nat) (bt : X6), y_x1 = Int32.ofNat b_x1 ∧ 0 < y_x2 ∧ y_x3 = Int32.ofNat b_x3 ∧ y_x6 = Int32.ofNat b_x6 ∧ y_x7 = Int32.ofNat b_x7 ∧ y_x8 = Int32.ofNat b_x8 ∧ y_x9 = Int32.ofNat b_x9 ∧ y_x10 = Int32.ofNat b_x10 ∧ y_x11 = Int32.ofNat b_x11 ∧ y_x12 = Int32.ofNat b_x12 ∧ y_x13 = Int32.ofNat b_x13 ∧ y_x14 = Int32.ofNat b_x14 ∧ RM yS bt ∧ xl_e_units_261_x2 r_R122 r_R213 k_K n b_x1 b_x3 b_x6 b_x7 b_x8 b_x9 b_x10 b_x11 b_x12 b_x13 b_x14 bt = true
set_option maxRecDepth 20000 in
theorem xs_e_units_261_x2 {x1 : Int32} {a_x1 : Nat} {x2 : Int32} {x3 : Int32} {a_x3 : Nat} {x6 : Int32} {a_x6 : Nat} {x7 : Int32} {a_x7 : Nat} {x8 : Int32} {a_x8 : Nat} {x9 : Int32} {a_x9 : Nat} {x10 : Int32} {a_x10 : Nat} {x11 : Int32} {a_x11 : Nat} {x12 : Int32} {a_x12 : Nat} {x13 : Int32} {a_x13 : Nat} {x14 : Int32} {a_x14 : Nat} {S : ms} {t : X6} {R122 : Int32 → Int32 → Int32 → Int32 → Int32 → Int32 → ms → Prop} {r_R122 : Nat → Nat → Nat → Nat → Nat → X6 → Bool} {R213 : Int32 → Int32 → Int32 → Int32 → Int32 → Int32 → Int32 → Int32 → Int32 → ms → Prop} {r_R213 : Nat → Nat → Nat → Nat → Nat → Nat → Nat → Nat → X6 → Bool} {K : ms → Prop} {k_K : X6 → Bool} (h : x_e_units_261_x2 a_x1 a_x3 a_x6 a_x7 a_x8 a_x9 a_x10 a_x11 a_x12 a_x13 a_x14 t r_R122 r_R213 k_K = true) (e_x1 : x1 = Int32.ofNat a_x1) (g_x2 : 0 < x2) (e_x3 : x3 = Int32.ofNat a_x3) (e_x6 : x6 = Int32.ofNat a_x6) (e_x7 : x7 = Int32.ofNat a_x7) (e_x8 : x8 = Int32.ofNat a_x8) (e_x9 : x9 = Int32.ofNat a_x9) (e_x10 : x10 = Int32.ofNat a_x10) (e_x11 : x11 = Int32.ofNat a_x11) (e_x12 : x12 = Int32.ofNat a_x12) (e_x13 : x13 = Int32.ofNat a_x13) (e_x14 : x14 = Int32.ofNat a_x14) (hS : RM S t) (hR122 : ∀ {y0 : Int32} {b0 : Nat} {y1 : Int32} {y2 : Int32} {b2 : Nat} {y3 : Int32} {b3 : Nat} {y4 : Int32} {b4 : Nat} {y5 : Int32} {b5 : Nat} {yS : ms} {yt : X6}, r_R122 b0 b2 b3 b4 b5 yt = true → y0 = Int32.ofNat b0 → 0 < y1 → y2 = Int32.ofNat b2 → y3 = Int32.ofNat b3 → y4 = Int32.ofNat b4 → y5 = Int32.ofNat b5 → RM yS yt → R122 y0 y1 y2 y3 y4 y5 yS) (hR213 : ∀ {y0 : Int32} {b0 : Nat} {y1 : Int32} {y2 : Int32} {b2 : Nat} {y3 : Int32} {b3 : Nat} {y4 : Int32} {b4 : Nat} {y5 : Int32} {b5 : Nat} {y6 : Int32} {b6 : Nat} {y7 : Int32} {b7 : Nat} {y8 : Int32} {b8 : Nat} {yS : ms} {yt : X6}, r_R213 b0 b2 b3 b4 b5 b6 b7 b8 yt = true → y0 = Int32.ofNat b0 → 0 < y1 → y2 = Int32.ofNat b2 → y3 = Int32.ofNat b3 → y4 = Int32.ofNat b4 → y5 = Int32.ofNat b5 → y6 = Int32.ofNat b6 → y7 = Int32.ofNat b7 → y8 = Int32.ofNat b8 → RM yS yt → R213 y0 y1 y2 y3 y4 y5 y6 y7 y8 yS) (hK : ∀ {yS : ms} {yt : X6}, k_K yt = true → RM yS yt → K yS) : e_units_261 x1 x2 x3 x6 x7 x8 x9 x10 x11 x12 x13 x14 S R122 R213 K := by
  refine ⟨fun y_x1 y_x2 y_x3 y_x6 y_x7 y_x8 y_x9 y_x10 y_x11 y_x12 y_x13 y_x14 yS => ∃ n, xq_e_units_261_x2 r_R122 r_R213 k_K n y_x1 y_x2 y_x3 y_x6 y_x7 y_x8 y_x9 y_x10 y_x11 y_x12 y_x13 y_x14 yS, fun y_x1 y_x2 y_x3 y_x6 y_x7 y_x8 y_x9 y_x10 y_x11 y_x12 y_x13 y_x14 yS => mf (fun n => xq_e_units_261_x2 r_R122 r_R213 k_K n y_x1 y_x2 y_x3 y_x6 y_x7 y_x8 y_x9 y_x10 y_x11 y_x12 y_x13 y_x14 yS), ⟨200000, a_x1, a_x3, a_x6, a_x7, a_x8, a_x9, a_x10, a_x11, a_x12, a_x13, a_x14, t, e_x1, g_x2, e_x3, e_x6, e_x7, e_x8, e_x9, e_x10, e_x11, e_x12, e_x13, e_x14, hS, h⟩, fun y_x1 y_x2 y_x3 y_x6 y_x7 y_x8 y_x9 y_x10 y_x11 y_x12 y_x13 y_x14 yS hI => ?_⟩
  obtain ⟨m, hm, hq⟩ := mf_ok hI
  obtain ⟨b_x1, b_x3, b_x6, b_x7, b_x8, b_x9, b_x10, b_x11, b_x12, b_x13, b_x14, bt, c_x1, c_x2, c_x3, c_x6, c_x7, c_x8, c_x9, c_x10, c_x11, c_x12, c_x13, c_x14, cS, h⟩ := hq
  cases m with
  | zero => exact absurd h Bool.false_ne_true
  | succ n => exact xs_b_units_261_x2 h c_x1 c_x2 c_x3 c_x6 c_x7 c_x8 c_x9 c_x10 c_x11 c_x12 c_x13 c_x14 cS hR122 hR213 (fun h d_x1 d_x2 d_x3 d_x6 d_x7 d_x8 d_x9 d_x10 d_x11 d_x12 d_x13 d_x14 dS => ⟨⟨n, _, _, _, _, _, _, _, _, _, _, _, _, d_x1, d_x2, d_x3, d_x6, d_x7, d_x8, d_x9, d_x10, d_x11, d_x12, d_x13, d_x14, dS, h⟩, Nat.lt_of_le_of_lt (mf_le ⟨_, _, _, _, _, _, _, _, _, _, _, _, d_x1, d_x2, d_x3, d_x6, d_x7, d_x8, d_x9, d_x10, d_x11, d_x12, d_x13, d_x14, dS, h⟩) (Nat.lt_of_lt_of_eq (Nat.lt_succ_self n) hm.symm)⟩) hK
noncomputable def x_b_units_256_x2 (a_x1 : Nat) (a_x3 : Nat) (a_x6 : Nat) (a_x7 : Nat) (a_x8 : Nat) (a_x9 : Nat) (a_x10 : Nat) (a_x11 : Nat) (a_x12 : Nat) (a_s0 : Nat) (t : X6) (r_R122 : Nat → Nat → Nat → Nat → Nat → X6 → Bool) (r_R213 : Nat → Nat → Nat → Nat → Nat → Nat → Nat → Nat → X6 → Bool) (k_K : X6 → Bool) : Bool :=
  x_e_units_261_x2 a_x1 a_x3 a_x6 a_x7 a_x8 a_x9 a_x10 a_x11 a_x12 a_s0 0 t r_R122 r_R213 k_K
set_option maxRecDepth 20000 in
set_option maxHeartbeats 1000000 in
theorem xs_b_units_256_x2 {x1 : Int32} {a_x1 : Nat} {x2 : Int32} {x3 : Int32} {a_x3 : Nat} {x6 : Int32} {a_x6 : Nat} {x7 : Int32} {a_x7 : Nat} {x8 : Int32} {a_x8 : Nat} {x9 : Int32} {a_x9 : Nat} {x10 : Int32} {a_x10 : Nat} {x11 : Int32} {a_x11 : Nat} {x12 : Int32} {a_x12 : Nat} {s0 : Int32} {a_s0 : Nat} {S : ms} {t : X6} {R122 : Int32 → Int32 → Int32 → Int32 → Int32 → Int32 → ms → Prop} {r_R122 : Nat → Nat → Nat → Nat → Nat → X6 → Bool} {R213 : Int32 → Int32 → Int32 → Int32 → Int32 → Int32 → Int32 → Int32 → Int32 → ms → Prop} {r_R213 : Nat → Nat → Nat → Nat → Nat → Nat → Nat → Nat → X6 → Bool} {K : ms → Prop} {k_K : X6 → Bool} (h : x_b_units_256_x2 a_x1 a_x3 a_x6 a_x7 a_x8 a_x9 a_x10 a_x11 a_x12 a_s0 t r_R122 r_R213 k_K = true) (e_x1 : x1 = Int32.ofNat a_x1) (g_x2 : 0 < x2) (e_x3 : x3 = Int32.ofNat a_x3) (e_x6 : x6 = Int32.ofNat a_x6) (e_x7 : x7 = Int32.ofNat a_x7) (e_x8 : x8 = Int32.ofNat a_x8) (e_x9 : x9 = Int32.ofNat a_x9) (e_x10 : x10 = Int32.ofNat a_x10) (e_x11 : x11 = Int32.ofNat a_x11) (e_x12 : x12 = Int32.ofNat a_x12) (e_s0 : s0 = Int32.ofNat a_s0) (hS : RM S t) (hR122 : ∀ {y0 : Int32} {b0 : Nat} {y1 : Int32} {y2 : Int32} {b2 : Nat} {y3 : Int32} {b3 : Nat} {y4 : Int32} {b4 : Nat} {y5 : Int32} {b5 : Nat} {yS : ms} {yt : X6}, r_R122 b0 b2 b3 b4 b5 yt = true → y0 = Int32.ofNat b0 → 0 < y1 → y2 = Int32.ofNat b2 → y3 = Int32.ofNat b3 → y4 = Int32.ofNat b4 → y5 = Int32.ofNat b5 → RM yS yt → R122 y0 y1 y2 y3 y4 y5 yS) (hR213 : ∀ {y0 : Int32} {b0 : Nat} {y1 : Int32} {y2 : Int32} {b2 : Nat} {y3 : Int32} {b3 : Nat} {y4 : Int32} {b4 : Nat} {y5 : Int32} {b5 : Nat} {y6 : Int32} {b6 : Nat} {y7 : Int32} {b7 : Nat} {y8 : Int32} {b8 : Nat} {yS : ms} {yt : X6}, r_R213 b0 b2 b3 b4 b5 b6 b7 b8 yt = true → y0 = Int32.ofNat b0 → 0 < y1 → y2 = Int32.ofNat b2 → y3 = Int32.ofNat b3 → y4 = Int32.ofNat b4 → y5 = Int32.ofNat b5 → y6 = Int32.ofNat b6 → y7 = Int32.ofNat b7 → y8 = Int32.ofNat b8 → RM yS yt → R213 y0 y1 y2 y3 y4 y5 y6 y7 y8 yS) (hK : ∀ {yS : ms} {yt : X6}, k_K yt = true → RM yS yt → K yS) : b_units_256 x1 x2 x3 x6 x7 x8 x9 x10 x11 x12 s0 S R122 R213 K := by
  unfold b_units_256
  unfold x_b_units_256_x2 at h
  exact xs_e_units_261_x2 h e_x1 g_x2 e_x3 e_x6 e_x7 e_x8 e_x9 e_x10 e_x11 e_x12 e_s0 ((rfl : (0 : Int32) = Int32.ofNat 0)) hS hR122 hR213 hK
noncomputable def x_b_units_239_x2 (a_x1 : Nat) (a_x3 : Nat) (a_x6 : Nat) (a_x7 : Nat) (a_x8 : Nat) (a_x9 : Nat) (a_x10 : Nat) (a_x11 : Nat) (a_s0 : Nat) (t : X6) (r_R122 : Nat → Nat → Nat → Nat → Nat → X6 → Bool) (r_R213 : Nat → Nat → Nat → Nat → Nat → Nat → Nat → Nat → X6 → Bool) (k_K : X6 → Bool) : Bool :=
  cond (w_eq a_x3 0) (and (Nat.blt a_x11 9) <| rrw t 16 a_x11 fun v3 => x_b_units_256_x2 a_x1 a_x3 a_x6 a_x7 a_x8 a_x9 a_x10 a_x11 a_s0 v3 t r_R122 r_R213 k_K) (x_b_units_256_x2 a_x1 a_x3 a_x6 a_x7 a_x8 a_x9 a_x10 a_x11 a_s0 1 t r_R122 r_R213 k_K)
set_option maxRecDepth 20000 in
set_option maxHeartbeats 1000000 in
theorem xs_b_units_239_x2 {x1 : Int32} {a_x1 : Nat} {x2 : Int32} {x3 : Int32} {a_x3 : Nat} {x6 : Int32} {a_x6 : Nat} {x7 : Int32} {a_x7 : Nat} {x8 : Int32} {a_x8 : Nat} {x9 : Int32} {a_x9 : Nat} {x10 : Int32} {a_x10 : Nat} {x11 : Int32} {a_x11 : Nat} {s0 : Int32} {a_s0 : Nat} {S : ms} {t : X6} {R122 : Int32 → Int32 → Int32 → Int32 → Int32 → Int32 → ms → Prop} {r_R122 : Nat → Nat → Nat → Nat → Nat → X6 → Bool} {R213 : Int32 → Int32 → Int32 → Int32 → Int32 → Int32 → Int32 → Int32 → Int32 → ms → Prop} {r_R213 : Nat → Nat → Nat → Nat → Nat → Nat → Nat → Nat → X6 → Bool} {K : ms → Prop} {k_K : X6 → Bool} (h : x_b_units_239_x2 a_x1 a_x3 a_x6 a_x7 a_x8 a_x9 a_x10 a_x11 a_s0 t r_R122 r_R213 k_K = true) (e_x1 : x1 = Int32.ofNat a_x1) (g_x2 : 0 < x2) (e_x3 : x3 = Int32.ofNat a_x3) (e_x6 : x6 = Int32.ofNat a_x6) (e_x7 : x7 = Int32.ofNat a_x7) (e_x8 : x8 = Int32.ofNat a_x8) (e_x9 : x9 = Int32.ofNat a_x9) (e_x10 : x10 = Int32.ofNat a_x10) (e_x11 : x11 = Int32.ofNat a_x11) (e_s0 : s0 = Int32.ofNat a_s0) (hS : RM S t) (hR122 : ∀ {y0 : Int32} {b0 : Nat} {y1 : Int32} {y2 : Int32} {b2 : Nat} {y3 : Int32} {b3 : Nat} {y4 : Int32} {b4 : Nat} {y5 : Int32} {b5 : Nat} {yS : ms} {yt : X6}, r_R122 b0 b2 b3 b4 b5 yt = true → y0 = Int32.ofNat b0 → 0 < y1 → y2 = Int32.ofNat b2 → y3 = Int32.ofNat b3 → y4 = Int32.ofNat b4 → y5 = Int32.ofNat b5 → RM yS yt → R122 y0 y1 y2 y3 y4 y5 yS) (hR213 : ∀ {y0 : Int32} {b0 : Nat} {y1 : Int32} {y2 : Int32} {b2 : Nat} {y3 : Int32} {b3 : Nat} {y4 : Int32} {b4 : Nat} {y5 : Int32} {b5 : Nat} {y6 : Int32} {b6 : Nat} {y7 : Int32} {b7 : Nat} {y8 : Int32} {b8 : Nat} {yS : ms} {yt : X6}, r_R213 b0 b2 b3 b4 b5 b6 b7 b8 yt = true → y0 = Int32.ofNat b0 → 0 < y1 → y2 = Int32.ofNat b2 → y3 = Int32.ofNat b3 → y4 = Int32.ofNat b4 → y5 = Int32.ofNat b5 → y6 = Int32.ofNat b6 → y7 = Int32.ofNat b7 → y8 = Int32.ofNat b8 → RM yS yt → R213 y0 y1 y2 y3 y4 y5 y6 y7 y8 yS) (hK : ∀ {yS : ms} {yt : X6}, k_K yt = true → RM yS yt → K yS) : b_units_239 x1 x2 x3 x6 x7 x8 x9 x10 x11 s0 S R122 R213 K := by
  unfold b_units_239
  unfold x_b_units_239_x2 at h
  have hc1 := c_eq' e_x3 ((rfl : (0 : Int32) = Int32.ofNat 0))
  refine ⟨fun hc => ?_, fun hc => ?_⟩
  · have h := x_pos h (hc1.mp hc)
    obtain ⟨n2, h⟩ := an_ok h
    refine ⟨n_vp e_x11 n2 (by decide), ?_⟩
    obtain ⟨v3, h, q4⟩ := rrw_ok h hS (by decide) e_x11
    exact xs_b_units_256_x2 h e_x1 g_x2 e_x3 e_x6 e_x7 e_x8 e_x9 e_x10 e_x11 e_s0 q4 hS hR122 hR213 hK
  · have h := x_neg h (fun q => hc (hc1.mpr q))
    exact xs_b_units_256_x2 h e_x1 g_x2 e_x3 e_x6 e_x7 e_x8 e_x9 e_x10 e_x11 e_s0 ((rfl : (1 : Int32) = Int32.ofNat 1)) hS hR122 hR213 hK
