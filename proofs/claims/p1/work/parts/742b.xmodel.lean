noncomputable def x_b_units_99 (a_x1 : Nat) (a_x2 : Nat) (a_x3 : Nat) (a_x6 : Nat) (a_x7 : Nat) (a_x8 : Nat) (t : X6) (r_R99 : Nat → Nat → Nat → Nat → Nat → Nat → X6 → Bool) (k_K : X6 → Bool) : Bool :=
  cond (!(w_lt a_x8 3)) (x_e_units_122 a_x1 a_x2 a_x3 a_x6 a_x7 0 t k_K) (and (Nat.blt a_x8 3) <| frc (w_add a_x8 1) fun f3 => wrw t 53 a_x8 0 fun t5 => r_R99 a_x1 a_x2 a_x3 a_x6 a_x7 f3 t5)
set_option maxRecDepth 20000 in
set_option maxHeartbeats 1000000 in
theorem xs_b_units_99 {x1 : Int32} {a_x1 : Nat} {x2 : Int32} {a_x2 : Nat} {x3 : Int32} {a_x3 : Nat} {x6 : Int32} {a_x6 : Nat} {x7 : Int32} {a_x7 : Nat} {x8 : Int32} {a_x8 : Nat} {S : ms} {t : X6} {R99 : Int32 → Int32 → Int32 → Int32 → Int32 → Int32 → ms → Prop} {r_R99 : Nat → Nat → Nat → Nat → Nat → Nat → X6 → Bool} {K : ms → Prop} {k_K : X6 → Bool} (h : x_b_units_99 a_x1 a_x2 a_x3 a_x6 a_x7 a_x8 t r_R99 k_K = true) (e_x1 : x1 = Int32.ofNat a_x1) (e_x2 : x2 = Int32.ofNat a_x2) (e_x3 : x3 = Int32.ofNat a_x3) (e_x6 : x6 = Int32.ofNat a_x6) (e_x7 : x7 = Int32.ofNat a_x7) (e_x8 : x8 = Int32.ofNat a_x8) (hS : RM S t) (hR99 : ∀ {y0 : Int32} {b0 : Nat} {y1 : Int32} {b1 : Nat} {y2 : Int32} {b2 : Nat} {y3 : Int32} {b3 : Nat} {y4 : Int32} {b4 : Nat} {y5 : Int32} {b5 : Nat} {yS : ms} {yt : X6}, r_R99 b0 b1 b2 b3 b4 b5 yt = true → y0 = Int32.ofNat b0 → y1 = Int32.ofNat b1 → y2 = Int32.ofNat b2 → y3 = Int32.ofNat b3 → y4 = Int32.ofNat b4 → y5 = Int32.ofNat b5 → RM yS yt → R99 y0 y1 y2 y3 y4 y5 yS) (hK : ∀ {yS : ms} {yt : X6}, k_K yt = true → RM yS yt → K yS) : b_units_99 x1 x2 x3 x6 x7 x8 S R99 K := by
  unfold b_units_99
  unfold x_b_units_99 at h
  have hc1 := c_le' ((rfl : (3 : Int32) = Int32.ofNat 3)) e_x8
  refine ⟨fun hc => ?_, fun hc => ?_⟩
  · have h := x_pos h (hc1.mp hc)
    exact xs_e_units_122 h e_x1 e_x2 e_x3 e_x6 e_x7 ((rfl : (0 : Int32) = Int32.ofNat 0)) hS hK
  · have h := x_neg h (fun q => hc (hc1.mpr q))
    obtain ⟨n2, h⟩ := an_ok h
    refine ⟨n_vp e_x8 n2 (by decide), ?_⟩
    have h := frc_ok h
    have p4 := n_add e_x8 ((rfl : (1 : Int32) = Int32.ofNat 1))
    obtain ⟨t5, h, hS6⟩ := wrw_ok h hS (by decide) e_x8 ((rfl : (0 : Int32) = Int32.ofNat 0))
    exact hR99 h e_x1 e_x2 e_x3 e_x6 e_x7 p4 hS6
noncomputable def xl_e_units_99 (k_K : X6 → Bool) (n : Nat) : Nat → Nat → Nat → Nat → Nat → Nat → X6 → Bool := Nat.rec (motive := fun _ => Nat → Nat → Nat → Nat → Nat → Nat → X6 → Bool) (fun _ _ _ _ _ _ _ => false) (fun _ ih b_x1 b_x2 b_x3 b_x6 b_x7 b_x8 bt => x_b_units_99 b_x1 b_x2 b_x3 b_x6 b_x7 b_x8 bt ih k_K) n
noncomputable def x_e_units_99 (a_x1 : Nat) (a_x2 : Nat) (a_x3 : Nat) (a_x6 : Nat) (a_x7 : Nat) (a_x8 : Nat) (t : X6) (k_K : X6 → Bool) : Bool := xl_e_units_99 k_K 200000 a_x1 a_x2 a_x3 a_x6 a_x7 a_x8 t
def xq_e_units_99 (k_K : X6 → Bool) (n : Nat) (y_x1 : Int32) (y_x2 : Int32) (y_x3 : Int32) (y_x6 : Int32) (y_x7 : Int32) (y_x8 : Int32) (yS : ms) : Prop := ∃ (b_x1 : Nat) (b_x2 : Nat) (b_x3 : Nat) (b_x6 : Nat) (b_x7 : Nat) (b_x8 : Nat) (bt : X6), y_x1 = Int32.ofNat b_x1 ∧ y_x2 = Int32.ofNat b_x2 ∧ y_x3 = Int32.ofNat b_x3 ∧ y_x6 = Int32.ofNat b_x6 ∧ y_x7 = Int32.ofNat b_x7 ∧ y_x8 = Int32.ofNat b_x8 ∧ RM yS bt ∧ xl_e_units_99 k_K n b_x1 b_x2 b_x3 b_x6 b_x7 b_x8 bt = true
set_option maxRecDepth 20000 in
theorem xs_e_units_99 {x1 : Int32} {a_x1 : Nat} {x2 : Int32} {a_x2 : Nat} {x3 : Int32} {a_x3 : Nat} {x6 : Int32} {a_x6 : Nat} {x7 : Int32} {a_x7 : Nat} {x8 : Int32} {a_x8 : Nat} {S : ms} {t : X6} {K : ms → Prop} {k_K : X6 → Bool} (h : x_e_units_99 a_x1 a_x2 a_x3 a_x6 a_x7 a_x8 t k_K = true) (e_x1 : x1 = Int32.ofNat a_x1) (e_x2 : x2 = Int32.ofNat a_x2) (e_x3 : x3 = Int32.ofNat a_x3) (e_x6 : x6 = Int32.ofNat a_x6) (e_x7 : x7 = Int32.ofNat a_x7) (e_x8 : x8 = Int32.ofNat a_x8) (hS : RM S t) (hK : ∀ {yS : ms} {yt : X6}, k_K yt = true → RM yS yt → K yS) : e_units_99 x1 x2 x3 x6 x7 x8 S K := by
  refine ⟨fun y_x1 y_x2 y_x3 y_x6 y_x7 y_x8 yS => ∃ n, xq_e_units_99 k_K n y_x1 y_x2 y_x3 y_x6 y_x7 y_x8 yS, fun y_x1 y_x2 y_x3 y_x6 y_x7 y_x8 yS => mf (fun n => xq_e_units_99 k_K n y_x1 y_x2 y_x3 y_x6 y_x7 y_x8 yS), ⟨200000, a_x1, a_x2, a_x3, a_x6, a_x7, a_x8, t, e_x1, e_x2, e_x3, e_x6, e_x7, e_x8, hS, h⟩, fun y_x1 y_x2 y_x3 y_x6 y_x7 y_x8 yS hI => ?_⟩
  obtain ⟨m, hm, hq⟩ := mf_ok hI
  obtain ⟨b_x1, b_x2, b_x3, b_x6, b_x7, b_x8, bt, c_x1, c_x2, c_x3, c_x6, c_x7, c_x8, cS, h⟩ := hq
  cases m with
  | zero => exact absurd h Bool.false_ne_true
  | succ n => exact xs_b_units_99 h c_x1 c_x2 c_x3 c_x6 c_x7 c_x8 cS (fun h d_x1 d_x2 d_x3 d_x6 d_x7 d_x8 dS => ⟨⟨n, _, _, _, _, _, _, _, d_x1, d_x2, d_x3, d_x6, d_x7, d_x8, dS, h⟩, Nat.lt_of_le_of_lt (mf_le ⟨_, _, _, _, _, _, _, d_x1, d_x2, d_x3, d_x6, d_x7, d_x8, dS, h⟩) (Nat.lt_of_lt_of_eq (Nat.lt_succ_self n) hm.symm)⟩) hK
noncomputable def x_b_units_94 (a_x1 : Nat) (a_x2 : Nat) (a_x3 : Nat) (a_x6 : Nat) (a_s0 : Nat) (t : X6) (k_K : X6 → Bool) : Bool :=
  x_e_units_99 a_x1 a_x2 a_x3 a_x6 a_s0 0 t k_K
set_option maxRecDepth 20000 in
set_option maxHeartbeats 1000000 in
theorem xs_b_units_94 {x1 : Int32} {a_x1 : Nat} {x2 : Int32} {a_x2 : Nat} {x3 : Int32} {a_x3 : Nat} {x6 : Int32} {a_x6 : Nat} {s0 : Int32} {a_s0 : Nat} {S : ms} {t : X6} {K : ms → Prop} {k_K : X6 → Bool} (h : x_b_units_94 a_x1 a_x2 a_x3 a_x6 a_s0 t k_K = true) (e_x1 : x1 = Int32.ofNat a_x1) (e_x2 : x2 = Int32.ofNat a_x2) (e_x3 : x3 = Int32.ofNat a_x3) (e_x6 : x6 = Int32.ofNat a_x6) (e_s0 : s0 = Int32.ofNat a_s0) (hS : RM S t) (hK : ∀ {yS : ms} {yt : X6}, k_K yt = true → RM yS yt → K yS) : b_units_94 x1 x2 x3 x6 s0 S K := by
  unfold b_units_94
  unfold x_b_units_94 at h
  exact xs_e_units_99 h e_x1 e_x2 e_x3 e_x6 e_s0 ((rfl : (0 : Int32) = Int32.ofNat 0)) hS hK
noncomputable def x_p_layerHigh (a_x1 : Nat) (a_x2 : Nat) (t : X6) (k_K : Nat → X6 → Bool) : Bool :=
  and (Nat.blt a_x1 3) <| frc (w_add (w_mul 3 a_x1) a_x2) fun f2 => and (Nat.blt f2 9) <| x_p_greatest a_x1 0 t (fun v20_ t_S20 => rrw t 13 a_x1 fun v5 => rrw t 16 f2 fun v7 => frc (w_mul v5 v7) fun f9 => x_p_upward f9 v20_ (fun v23_ => k_K v23_ t_S20))
set_option maxRecDepth 20000 in
set_option maxHeartbeats 1000000 in
theorem xs_p_layerHigh {x1 : Int32} {a_x1 : Nat} {x2 : Int32} {a_x2 : Nat} {S : ms} {t : X6} {K : Int32 → ms → Prop} {k_K : Nat → X6 → Bool} (h : x_p_layerHigh a_x1 a_x2 t k_K = true) (e_x1 : x1 = Int32.ofNat a_x1) (e_x2 : x2 = Int32.ofNat a_x2) (hS : RM S t) (hK : ∀ {y0 : Int32} {b0 : Nat} {yS : ms} {yt : X6}, k_K b0 yt = true → y0 = Int32.ofNat b0 → RM yS yt → K y0 yS) : p_layerHigh x1 x2 S K := by
  unfold p_layerHigh
  unfold x_p_layerHigh at h
  obtain ⟨n1, h⟩ := an_ok h
  refine ⟨n_vp e_x1 n1 (by decide), ?_⟩
  have h := frc_ok h
  have p3 := n_add (n_mul ((rfl : (3 : Int32) = Int32.ofNat 3)) e_x1) e_x2
  obtain ⟨n4, h⟩ := an_ok h
  refine ⟨n_vp p3 n4 (by decide), ?_⟩
  refine xs_p_greatest h e_x1 ((rfl : (0 : Int32) = Int32.ofNat 0)) hS (fun h e_v20 h_S20 => ?_)
  obtain ⟨v5, h, q6⟩ := rrw_ok h hS (by decide) e_x1
  obtain ⟨v7, h, q8⟩ := rrw_ok h hS (by decide) p3
  have h := frc_ok h
  have p10 := n_mul q6 q8
  refine xs_p_upward h p10 e_v20 (fun h e_v23 => ?_)
  exact hK h e_v23 h_S20
noncomputable def x_b_units_62 (a_x1 : Nat) (a_x2 : Nat) (a_x3 : Nat) (a_x5 : Nat) (a_s0 : Nat) (t : X6) (k_K : X6 → Bool) : Bool :=
  cond (w_eq a_x3 0) (rfi t 2 fun v2 => frc (w_mul 8 a_x5) fun f4 => x_p_upward v2 f4 (fun v91_ => x_b_units_94 a_x1 a_x2 a_x3 a_s0 v91_ t k_K)) (x_p_layerHigh 0 0 t (fun v71_ t_S71 => x_p_upward v71_ 8 (fun v76_ => x_b_units_94 a_x1 a_x2 a_x3 a_s0 v76_ t_S71 k_K)))
set_option maxRecDepth 20000 in
set_option maxHeartbeats 1000000 in
theorem xs_b_units_62 {x1 : Int32} {a_x1 : Nat} {x2 : Int32} {a_x2 : Nat} {x3 : Int32} {a_x3 : Nat} {x5 : Int32} {a_x5 : Nat} {s0 : Int32} {a_s0 : Nat} {S : ms} {t : X6} {K : ms → Prop} {k_K : X6 → Bool} (h : x_b_units_62 a_x1 a_x2 a_x3 a_x5 a_s0 t k_K = true) (e_x1 : x1 = Int32.ofNat a_x1) (e_x2 : x2 = Int32.ofNat a_x2) (e_x3 : x3 = Int32.ofNat a_x3) (e_x5 : x5 = Int32.ofNat a_x5) (e_s0 : s0 = Int32.ofNat a_s0) (hS : RM S t) (hK : ∀ {yS : ms} {yt : X6}, k_K yt = true → RM yS yt → K yS) : b_units_62 x1 x2 x3 x5 s0 S K := by
  unfold b_units_62
  unfold x_b_units_62 at h
  have hc1 := c_eq' e_x3 ((rfl : (0 : Int32) = Int32.ofNat 0))
  refine ⟨fun hc => ?_, fun hc => ?_⟩
  · have h := x_pos h (hc1.mp hc)
    obtain ⟨v2, h, q3⟩ := rfi_ok h hS
    have h := frc_ok h
    have p5 := n_mul ((rfl : (8 : Int32) = Int32.ofNat 8)) e_x5
    refine xs_p_upward h q3 p5 (fun h e_v91 => ?_)
    exact xs_b_units_94 h e_x1 e_x2 e_x3 e_s0 e_v91 hS hK
  · have h := x_neg h (fun q => hc (hc1.mpr q))
    refine xs_p_layerHigh h ((rfl : (0 : Int32) = Int32.ofNat 0)) ((rfl : (0 : Int32) = Int32.ofNat 0)) hS (fun h e_v71 h_S71 => ?_)
    refine xs_p_upward h e_v71 ((rfl : (8 : Int32) = Int32.ofNat 8)) (fun h e_v76 => ?_)
    exact xs_b_units_94 h e_x1 e_x2 e_x3 e_s0 e_v76 h_S71 hK
noncomputable def x_p_layerWide (a_x1 : Nat) (a_x2 : Nat) (t : X6) (k_K : Nat → X6 → Bool) : Bool :=
  and (Nat.blt a_x1 3) <| frc (w_add (w_mul 3 a_x1) a_x2) fun f2 => and (Nat.blt f2 9) <| x_p_greatest a_x1 1 t (fun v20_ t_S20 => rrw t 12 a_x1 fun v5 => rrw t 15 f2 fun v7 => frc (w_mul v5 v7) fun f9 => x_p_upward f9 v20_ (fun v23_ => k_K v23_ t_S20))
set_option maxRecDepth 20000 in
set_option maxHeartbeats 1000000 in
theorem xs_p_layerWide {x1 : Int32} {a_x1 : Nat} {x2 : Int32} {a_x2 : Nat} {S : ms} {t : X6} {K : Int32 → ms → Prop} {k_K : Nat → X6 → Bool} (h : x_p_layerWide a_x1 a_x2 t k_K = true) (e_x1 : x1 = Int32.ofNat a_x1) (e_x2 : x2 = Int32.ofNat a_x2) (hS : RM S t) (hK : ∀ {y0 : Int32} {b0 : Nat} {yS : ms} {yt : X6}, k_K b0 yt = true → y0 = Int32.ofNat b0 → RM yS yt → K y0 yS) : p_layerWide x1 x2 S K := by
  unfold p_layerWide
  unfold x_p_layerWide at h
  obtain ⟨n1, h⟩ := an_ok h
  refine ⟨n_vp e_x1 n1 (by decide), ?_⟩
  have h := frc_ok h
  have p3 := n_add (n_mul ((rfl : (3 : Int32) = Int32.ofNat 3)) e_x1) e_x2
  obtain ⟨n4, h⟩ := an_ok h
  refine ⟨n_vp p3 n4 (by decide), ?_⟩
  refine xs_p_greatest h e_x1 ((rfl : (1 : Int32) = Int32.ofNat 1)) hS (fun h e_v20 h_S20 => ?_)
  obtain ⟨v5, h, q6⟩ := rrw_ok h hS (by decide) e_x1
  obtain ⟨v7, h, q8⟩ := rrw_ok h hS (by decide) p3
  have h := frc_ok h
  have p10 := n_mul q6 q8
  refine xs_p_upward h p10 e_v20 (fun h e_v23 => ?_)
  exact hK h e_v23 h_S20
noncomputable def x_b_units_15 (a_x1 : Nat) (a_x2 : Nat) (a_s0 : Nat) (t : X6) (k_K : X6 → Bool) : Bool :=
  x_p_greatest 0 1 t (fun v19_ t_S19 => x_p_greatest 0 0 t_S19 (fun v27_ t_S27 => cond (w_eq a_s0 0) (rfi t_S27 1 fun v2 => frc (w_mul 8 v19_) fun f4 => x_p_upward v2 f4 (fun v59_ => x_b_units_62 a_x1 a_x2 a_s0 v27_ v59_ t_S27 k_K)) (x_p_layerWide 0 0 t_S27 (fun v39_ t_S39 => x_p_upward v39_ 8 (fun v44_ => x_b_units_62 a_x1 a_x2 a_s0 v27_ v44_ t_S39 k_K)))))
set_option maxRecDepth 20000 in
set_option maxHeartbeats 1000000 in
theorem xs_b_units_15 {x1 : Int32} {a_x1 : Nat} {x2 : Int32} {a_x2 : Nat} {s0 : Int32} {a_s0 : Nat} {S : ms} {t : X6} {K : ms → Prop} {k_K : X6 → Bool} (h : x_b_units_15 a_x1 a_x2 a_s0 t k_K = true) (e_x1 : x1 = Int32.ofNat a_x1) (e_x2 : x2 = Int32.ofNat a_x2) (e_s0 : s0 = Int32.ofNat a_s0) (hS : RM S t) (hK : ∀ {yS : ms} {yt : X6}, k_K yt = true → RM yS yt → K yS) : b_units_15 x1 x2 s0 S K := by
  unfold b_units_15
  unfold x_b_units_15 at h
  refine xs_p_greatest h ((rfl : (0 : Int32) = Int32.ofNat 0)) ((rfl : (1 : Int32) = Int32.ofNat 1)) hS (fun h e_v19 h_S19 => ?_)
  refine xs_p_greatest h ((rfl : (0 : Int32) = Int32.ofNat 0)) ((rfl : (0 : Int32) = Int32.ofNat 0)) h_S19 (fun h e_v27 h_S27 => ?_)
  have hc1 := c_eq' e_s0 ((rfl : (0 : Int32) = Int32.ofNat 0))
  refine ⟨fun hc => ?_, fun hc => ?_⟩
  · have h := x_pos h (hc1.mp hc)
    obtain ⟨v2, h, q3⟩ := rfi_ok h h_S27
    have h := frc_ok h
    have p5 := n_mul ((rfl : (8 : Int32) = Int32.ofNat 8)) e_v19
    refine xs_p_upward h q3 p5 (fun h e_v59 => ?_)
    exact xs_b_units_62 h e_x1 e_x2 e_s0 e_v27 e_v59 h_S27 hK
  · have h := x_neg h (fun q => hc (hc1.mpr q))
    refine xs_p_layerWide h ((rfl : (0 : Int32) = Int32.ofNat 0)) ((rfl : (0 : Int32) = Int32.ofNat 0)) h_S27 (fun h e_v39 h_S39 => ?_)
    refine xs_p_upward h e_v39 ((rfl : (8 : Int32) = Int32.ofNat 8)) (fun h e_v44 => ?_)
    exact xs_b_units_62 h e_x1 e_x2 e_s0 e_v27 e_v44 h_S39 hK
noncomputable def x_p_units (a_x1 : Nat) (a_x2 : Nat) (t : X6) (k_K : X6 → Bool) : Bool :=
  and (Nat.blt 0 3) <| rrw t 14 0 fun v2 => cond (w_eq v2 1) (x_b_units_15 a_x1 a_x2 1 t k_K) (x_b_units_15 a_x1 a_x2 0 t k_K)
set_option maxRecDepth 20000 in
set_option maxHeartbeats 1000000 in
theorem xs_p_units {x1 : Int32} {a_x1 : Nat} {x2 : Int32} {a_x2 : Nat} {S : ms} {t : X6} {K : ms → Prop} {k_K : X6 → Bool} (h : x_p_units a_x1 a_x2 t k_K = true) (e_x1 : x1 = Int32.ofNat a_x1) (e_x2 : x2 = Int32.ofNat a_x2) (hS : RM S t) (hK : ∀ {yS : ms} {yt : X6}, k_K yt = true → RM yS yt → K yS) : p_units x1 x2 S K := by
  unfold p_units
  unfold x_p_units at h
  obtain ⟨n1, h⟩ := an_ok h
  refine ⟨n_vp ((rfl : (0 : Int32) = Int32.ofNat 0)) n1 (by decide), ?_⟩
  obtain ⟨v2, h, q3⟩ := rrw_ok h hS (by decide) ((rfl : (0 : Int32) = Int32.ofNat 0))
  have hc4 := c_eq' q3 ((rfl : (1 : Int32) = Int32.ofNat 1))
  refine ⟨fun hc => ?_, fun hc => ?_⟩
  · have h := x_neg h (fun q => hc (hc4.mpr q))
    exact xs_b_units_15 h e_x1 e_x2 ((rfl : (0 : Int32) = Int32.ofNat 0)) hS hK
  · have h := x_pos h (hc4.mp hc)
    exact xs_b_units_15 h e_x1 e_x2 ((rfl : (1 : Int32) = Int32.ofNat 1)) hS hK
noncomputable def x_p_putTwo (a_x1 : Nat) (t : X6) (k_K : X6 → Bool) : Bool :=
  frc (Nat.land (w_shr a_x1 8) 255) fun f1 => x_p_put f1 t (fun t_S9 => frc (Nat.land a_x1 255) fun f3 => x_p_put f3 t_S9 (fun t_S18 => k_K t_S18))
set_option maxRecDepth 20000 in
set_option maxHeartbeats 1000000 in
theorem xs_p_putTwo {x1 : Int32} {a_x1 : Nat} {S : ms} {t : X6} {K : ms → Prop} {k_K : X6 → Bool} (h : x_p_putTwo a_x1 t k_K = true) (e_x1 : x1 = Int32.ofNat a_x1) (hS : RM S t) (hK : ∀ {yS : ms} {yt : X6}, k_K yt = true → RM yS yt → K yS) : p_putTwo x1 S K := by
  unfold p_putTwo
  unfold x_p_putTwo at h
  have h := frc_ok h
  have p2 := n_and (n_shr e_x1 ((rfl : (8 : Int32) = Int32.ofNat 8))) ((rfl : (255 : Int32) = Int32.ofNat 255))
  refine xs_p_put h p2 hS (fun h h_S9 => ?_)
  have h := frc_ok h
  have p4 := n_and e_x1 ((rfl : (255 : Int32) = Int32.ofNat 255))
  refine xs_p_put h p4 h_S9 (fun h h_S18 => ?_)
  exact hK h h_S18
noncomputable def x_b_putSections_348 (a_x2 : Nat) (a_x5 : Nat) (a_s1 : Nat) (t : X6) (r_R322 : Nat → Nat → X6 → Bool) (k_K : X6 → Bool) : Bool :=
  x_p_put a_s1 t (fun t_S348 => frc (w_add a_x5 1) fun f1 => r_R322 a_x2 f1 t_S348)
set_option maxRecDepth 20000 in
set_option maxHeartbeats 1000000 in
theorem xs_b_putSections_348 {x2 : Int32} {a_x2 : Nat} {x5 : Int32} {a_x5 : Nat} {s1 : Int32} {a_s1 : Nat} {S : ms} {t : X6} {R322 : Int32 → Int32 → ms → Prop} {r_R322 : Nat → Nat → X6 → Bool} {K : ms → Prop} {k_K : X6 → Bool} (h : x_b_putSections_348 a_x2 a_x5 a_s1 t r_R322 k_K = true) (e_x2 : x2 = Int32.ofNat a_x2) (e_x5 : x5 = Int32.ofNat a_x5) (e_s1 : s1 = Int32.ofNat a_s1) (hS : RM S t) (hR322 : ∀ {y0 : Int32} {b0 : Nat} {y1 : Int32} {b1 : Nat} {yS : ms} {yt : X6}, r_R322 b0 b1 yt = true → y0 = Int32.ofNat b0 → y1 = Int32.ofNat b1 → RM yS yt → R322 y0 y1 yS) (hK : ∀ {yS : ms} {yt : X6}, k_K yt = true → RM yS yt → K yS) : b_putSections_348 x2 x5 s1 S R322 K := by
  unfold b_putSections_348
  unfold x_b_putSections_348 at h
  refine xs_p_put h e_s1 hS (fun h h_S348 => ?_)
  have h := frc_ok h
  have p2 := n_add e_x5 ((rfl : (1 : Int32) = Int32.ofNat 1))
  exact hR322 h e_x2 p2 h_S348
noncomputable def x_b_putSections_322 (a_x2 : Nat) (a_x5 : Nat) (t : X6) (r_R322 : Nat → Nat → X6 → Bool) (k_K : X6 → Bool) : Bool :=
  cond (!(w_lt a_x5 a_x2)) (x_p_put 0 t (fun t_S359 => x_p_put 63 t_S359 (fun t_S365 => x_p_put 0 t_S365 (fun t_S370 => k_K t_S370)))) (frc (w_add a_x5 1) fun f2 => x_p_put f2 t (fun t_S333 => cond (w_eq a_x5 0) (x_b_putSections_348 a_x2 a_x5 0 t_S333 r_R322 k_K) (x_b_putSections_348 a_x2 a_x5 17 t_S333 r_R322 k_K)))
set_option maxRecDepth 20000 in
set_option maxHeartbeats 1000000 in
theorem xs_b_putSections_322 {x2 : Int32} {a_x2 : Nat} {x5 : Int32} {a_x5 : Nat} {S : ms} {t : X6} {R322 : Int32 → Int32 → ms → Prop} {r_R322 : Nat → Nat → X6 → Bool} {K : ms → Prop} {k_K : X6 → Bool} (h : x_b_putSections_322 a_x2 a_x5 t r_R322 k_K = true) (e_x2 : x2 = Int32.ofNat a_x2) (e_x5 : x5 = Int32.ofNat a_x5) (hS : RM S t) (hR322 : ∀ {y0 : Int32} {b0 : Nat} {y1 : Int32} {b1 : Nat} {yS : ms} {yt : X6}, r_R322 b0 b1 yt = true → y0 = Int32.ofNat b0 → y1 = Int32.ofNat b1 → RM yS yt → R322 y0 y1 yS) (hK : ∀ {yS : ms} {yt : X6}, k_K yt = true → RM yS yt → K yS) : b_putSections_322 x2 x5 S R322 K := by
  unfold b_putSections_322
  unfold x_b_putSections_322 at h
  have hc1 := c_le' e_x2 e_x5
  refine ⟨fun hc => ?_, fun hc => ?_⟩
  · have h := x_pos h (hc1.mp hc)
    refine xs_p_put h ((rfl : (0 : Int32) = Int32.ofNat 0)) hS (fun h h_S359 => ?_)
    refine xs_p_put h ((rfl : (63 : Int32) = Int32.ofNat 63)) h_S359 (fun h h_S365 => ?_)
    refine xs_p_put h ((rfl : (0 : Int32) = Int32.ofNat 0)) h_S365 (fun h h_S370 => ?_)
    exact hK h h_S370
  · have h := x_neg h (fun q => hc (hc1.mpr q))
    have h := frc_ok h
    have p3 := n_add e_x5 ((rfl : (1 : Int32) = Int32.ofNat 1))
    refine xs_p_put h p3 hS (fun h h_S333 => ?_)
    have hc4 := c_eq' e_x5 ((rfl : (0 : Int32) = Int32.ofNat 0))
    refine ⟨fun hc => ?_, fun hc => ?_⟩
    · have h := x_neg h (fun q => hc (hc4.mpr q))
      exact xs_b_putSections_348 h e_x2 e_x5 ((rfl : (17 : Int32) = Int32.ofNat 17)) h_S333 hR322 hK
    · have h := x_pos h (hc4.mp hc)
      exact xs_b_putSections_348 h e_x2 e_x5 ((rfl : (0 : Int32) = Int32.ofNat 0)) h_S333 hR322 hK
noncomputable def xl_e_putSections_322 (k_K : X6 → Bool) (n : Nat) : Nat → Nat → X6 → Bool := Nat.rec (motive := fun _ => Nat → Nat → X6 → Bool) (fun _ _ _ => false) (fun _ ih b_x2 b_x5 bt => x_b_putSections_322 b_x2 b_x5 bt ih k_K) n
noncomputable def x_e_putSections_322 (a_x2 : Nat) (a_x5 : Nat) (t : X6) (k_K : X6 → Bool) : Bool := xl_e_putSections_322 k_K 200000 a_x2 a_x5 t
def xq_e_putSections_322 (k_K : X6 → Bool) (n : Nat) (y_x2 : Int32) (y_x5 : Int32) (yS : ms) : Prop := ∃ (b_x2 : Nat) (b_x5 : Nat) (bt : X6), y_x2 = Int32.ofNat b_x2 ∧ y_x5 = Int32.ofNat b_x5 ∧ RM yS bt ∧ xl_e_putSections_322 k_K n b_x2 b_x5 bt = true
set_option maxRecDepth 20000 in
theorem xs_e_putSections_322 {x2 : Int32} {a_x2 : Nat} {x5 : Int32} {a_x5 : Nat} {S : ms} {t : X6} {K : ms → Prop} {k_K : X6 → Bool} (h : x_e_putSections_322 a_x2 a_x5 t k_K = true) (e_x2 : x2 = Int32.ofNat a_x2) (e_x5 : x5 = Int32.ofNat a_x5) (hS : RM S t) (hK : ∀ {yS : ms} {yt : X6}, k_K yt = true → RM yS yt → K yS) : e_putSections_322 x2 x5 S K := by
  refine ⟨fun y_x2 y_x5 yS => ∃ n, xq_e_putSections_322 k_K n y_x2 y_x5 yS, fun y_x2 y_x5 yS => mf (fun n => xq_e_putSections_322 k_K n y_x2 y_x5 yS), ⟨200000, a_x2, a_x5, t, e_x2, e_x5, hS, h⟩, fun y_x2 y_x5 yS hI => ?_⟩
  obtain ⟨m, hm, hq⟩ := mf_ok hI
  obtain ⟨b_x2, b_x5, bt, c_x2, c_x5, cS, h⟩ := hq
  cases m with
  | zero => exact absurd h Bool.false_ne_true
  | succ n => exact xs_b_putSections_322 h c_x2 c_x5 cS (fun h d_x2 d_x5 dS => ⟨⟨n, _, _, _, d_x2, d_x5, dS, h⟩, Nat.lt_of_le_of_lt (mf_le ⟨_, _, _, d_x2, d_x5, dS, h⟩) (Nat.lt_of_lt_of_eq (Nat.lt_succ_self n) hm.symm)⟩) hK
noncomputable def x_b_putSections_297 (a_x2 : Nat) (t : X6) (k_K : X6 → Bool) : Bool :=
  x_p_mark 218 t (fun t_S301 => frc (w_add 6 (w_mul 2 a_x2)) fun f1 => x_p_putTwo f1 t_S301 (fun t_S311 => x_p_put a_x2 t_S311 (fun t_S316 => x_e_putSections_322 a_x2 0 t_S316 k_K)))
set_option maxRecDepth 20000 in
set_option maxHeartbeats 1000000 in
theorem xs_b_putSections_297 {x2 : Int32} {a_x2 : Nat} {S : ms} {t : X6} {K : ms → Prop} {k_K : X6 → Bool} (h : x_b_putSections_297 a_x2 t k_K = true) (e_x2 : x2 = Int32.ofNat a_x2) (hS : RM S t) (hK : ∀ {yS : ms} {yt : X6}, k_K yt = true → RM yS yt → K yS) : b_putSections_297 x2 S K := by
  unfold b_putSections_297
  unfold x_b_putSections_297 at h
  refine xs_p_mark h ((rfl : (218 : Int32) = Int32.ofNat 218)) hS (fun h h_S301 => ?_)
  have h := frc_ok h
  have p2 := n_add ((rfl : (6 : Int32) = Int32.ofNat 6)) (n_mul ((rfl : (2 : Int32) = Int32.ofNat 2)) e_x2)
  refine xs_p_putTwo h p2 h_S301 (fun h h_S311 => ?_)
  refine xs_p_put h e_x2 h_S311 (fun h h_S316 => ?_)
  exact xs_e_putSections_322 h e_x2 ((rfl : (0 : Int32) = Int32.ofNat 0)) h_S316 hK
noncomputable def x_b_putCode_115 (a_x1 : Nat) (a_x3 : Nat) (a_x4 : Nat) (t : X6) (r_R75 : Nat → Nat → X6 → Bool) (r_R84 : Nat → Nat → Nat → X6 → Bool) (k_K : X6 → Bool) : Bool :=
  frc (w_add a_x4 1) fun f1 => r_R84 a_x1 a_x3 f1 t
set_option maxRecDepth 20000 in
set_option maxHeartbeats 1000000 in
theorem xs_b_putCode_115 {x1 : Int32} {a_x1 : Nat} {x3 : Int32} {a_x3 : Nat} {x4 : Int32} {a_x4 : Nat} {S : ms} {t : X6} {R75 : Int32 → Int32 → ms → Prop} {r_R75 : Nat → Nat → X6 → Bool} {R84 : Int32 → Int32 → Int32 → ms → Prop} {r_R84 : Nat → Nat → Nat → X6 → Bool} {K : ms → Prop} {k_K : X6 → Bool} (h : x_b_putCode_115 a_x1 a_x3 a_x4 t r_R75 r_R84 k_K = true) (e_x1 : x1 = Int32.ofNat a_x1) (e_x3 : x3 = Int32.ofNat a_x3) (e_x4 : x4 = Int32.ofNat a_x4) (hS : RM S t) (hR75 : ∀ {y0 : Int32} {b0 : Nat} {y1 : Int32} {b1 : Nat} {yS : ms} {yt : X6}, r_R75 b0 b1 yt = true → y0 = Int32.ofNat b0 → y1 = Int32.ofNat b1 → RM yS yt → R75 y0 y1 yS) (hR84 : ∀ {y0 : Int32} {b0 : Nat} {y1 : Int32} {b1 : Nat} {y2 : Int32} {b2 : Nat} {yS : ms} {yt : X6}, r_R84 b0 b1 b2 yt = true → y0 = Int32.ofNat b0 → y1 = Int32.ofNat b1 → y2 = Int32.ofNat b2 → RM yS yt → R84 y0 y1 y2 yS) (hK : ∀ {yS : ms} {yt : X6}, k_K yt = true → RM yS yt → K yS) : b_putCode_115 x1 x3 x4 S R75 R84 K := by
  unfold b_putCode_115
  unfold x_b_putCode_115 at h
  have h := frc_ok h
  have p2 := n_add e_x4 ((rfl : (1 : Int32) = Int32.ofNat 1))
  exact hR84 h e_x1 e_x3 p2 hS
noncomputable def x_b_putCode_84 (a_x1 : Nat) (a_x3 : Nat) (a_x4 : Nat) (t : X6) (r_R75 : Nat → Nat → X6 → Bool) (r_R84 : Nat → Nat → Nat → X6 → Bool) (k_K : X6 → Bool) : Bool :=
  cond (!(w_lt a_x4 256)) (frc (w_add a_x3 1) fun f2 => r_R75 a_x1 f2 t) (frc (w_add (w_mul 257 a_x1) a_x4) fun f4 => and (Nat.blt f4 1028) <| rrw t 27 f4 fun v7 => cond (w_eq v7 a_x3) (x_p_put a_x4 t (fun t_S112 => x_b_putCode_115 a_x1 a_x3 a_x4 t_S112 r_R75 r_R84 k_K)) (x_b_putCode_115 a_x1 a_x3 a_x4 t r_R75 r_R84 k_K))
set_option maxRecDepth 20000 in
set_option maxHeartbeats 1000000 in
theorem xs_b_putCode_84 {x1 : Int32} {a_x1 : Nat} {x3 : Int32} {a_x3 : Nat} {x4 : Int32} {a_x4 : Nat} {S : ms} {t : X6} {R75 : Int32 → Int32 → ms → Prop} {r_R75 : Nat → Nat → X6 → Bool} {R84 : Int32 → Int32 → Int32 → ms → Prop} {r_R84 : Nat → Nat → Nat → X6 → Bool} {K : ms → Prop} {k_K : X6 → Bool} (h : x_b_putCode_84 a_x1 a_x3 a_x4 t r_R75 r_R84 k_K = true) (e_x1 : x1 = Int32.ofNat a_x1) (e_x3 : x3 = Int32.ofNat a_x3) (e_x4 : x4 = Int32.ofNat a_x4) (hS : RM S t) (hR75 : ∀ {y0 : Int32} {b0 : Nat} {y1 : Int32} {b1 : Nat} {yS : ms} {yt : X6}, r_R75 b0 b1 yt = true → y0 = Int32.ofNat b0 → y1 = Int32.ofNat b1 → RM yS yt → R75 y0 y1 yS) (hR84 : ∀ {y0 : Int32} {b0 : Nat} {y1 : Int32} {b1 : Nat} {y2 : Int32} {b2 : Nat} {yS : ms} {yt : X6}, r_R84 b0 b1 b2 yt = true → y0 = Int32.ofNat b0 → y1 = Int32.ofNat b1 → y2 = Int32.ofNat b2 → RM yS yt → R84 y0 y1 y2 yS) (hK : ∀ {yS : ms} {yt : X6}, k_K yt = true → RM yS yt → K yS) : b_putCode_84 x1 x3 x4 S R75 R84 K := by
  unfold b_putCode_84
  unfold x_b_putCode_84 at h
  have hc1 := c_le' ((rfl : (256 : Int32) = Int32.ofNat 256)) e_x4
  refine ⟨fun hc => ?_, fun hc => ?_⟩
  · have h := x_pos h (hc1.mp hc)
    have h := frc_ok h
    have p3 := n_add e_x3 ((rfl : (1 : Int32) = Int32.ofNat 1))
    exact hR75 h e_x1 p3 hS
  · have h := x_neg h (fun q => hc (hc1.mpr q))
    have h := frc_ok h
    have p5 := n_add (n_mul ((rfl : (257 : Int32) = Int32.ofNat 257)) e_x1) e_x4
    obtain ⟨n6, h⟩ := an_ok h
    refine ⟨n_vp p5 n6 (by decide), ?_⟩
    obtain ⟨v7, h, q8⟩ := rrw_ok h hS (by decide) p5
    have hc9 := c_eq' q8 e_x3
    refine ⟨fun hc => ?_, fun hc => ?_⟩
    · have h := x_neg h (fun q => hc (hc9.mpr q))
      exact xs_b_putCode_115 h e_x1 e_x3 e_x4 hS hR75 hR84 hK
    · have h := x_pos h (hc9.mp hc)
      refine xs_p_put h e_x4 hS (fun h h_S112 => ?_)
      exact xs_b_putCode_115 h e_x1 e_x3 e_x4 h_S112 hR75 hR84 hK
noncomputable def xl_e_putCode_84 (r_R75 : Nat → Nat → X6 → Bool) (k_K : X6 → Bool) (n : Nat) : Nat → Nat → Nat → X6 → Bool := Nat.rec (motive := fun _ => Nat → Nat → Nat → X6 → Bool) (fun _ _ _ _ => false) (fun _ ih b_x1 b_x3 b_x4 bt => x_b_putCode_84 b_x1 b_x3 b_x4 bt r_R75 ih k_K) n
noncomputable def x_e_putCode_84 (a_x1 : Nat) (a_x3 : Nat) (a_x4 : Nat) (t : X6) (r_R75 : Nat → Nat → X6 → Bool) (k_K : X6 → Bool) : Bool := xl_e_putCode_84 r_R75 k_K 200000 a_x1 a_x3 a_x4 t
def xq_e_putCode_84 (r_R75 : Nat → Nat → X6 → Bool) (k_K : X6 → Bool) (n : Nat) (y_x1 : Int32) (y_x3 : Int32) (y_x4 : Int32) (yS : ms) : Prop := ∃ (b_x1 : Nat) (b_x3 : Nat) (b_x4 : Nat) (bt : X6), y_x1 = Int32.ofNat b_x1 ∧ y_x3 = Int32.ofNat b_x3 ∧ y_x4 = Int32.ofNat b_x4 ∧ RM yS bt ∧ xl_e_putCode_84 r_R75 k_K n b_x1 b_x3 b_x4 bt = true
set_option maxRecDepth 20000 in
theorem xs_e_putCode_84 {x1 : Int32} {a_x1 : Nat} {x3 : Int32} {a_x3 : Nat} {x4 : Int32} {a_x4 : Nat} {S : ms} {t : X6} {R75 : Int32 → Int32 → ms → Prop} {r_R75 : Nat → Nat → X6 → Bool} {K : ms → Prop} {k_K : X6 → Bool} (h : x_e_putCode_84 a_x1 a_x3 a_x4 t r_R75 k_K = true) (e_x1 : x1 = Int32.ofNat a_x1) (e_x3 : x3 = Int32.ofNat a_x3) (e_x4 : x4 = Int32.ofNat a_x4) (hS : RM S t) (hR75 : ∀ {y0 : Int32} {b0 : Nat} {y1 : Int32} {b1 : Nat} {yS : ms} {yt : X6}, r_R75 b0 b1 yt = true → y0 = Int32.ofNat b0 → y1 = Int32.ofNat b1 → RM yS yt → R75 y0 y1 yS) (hK : ∀ {yS : ms} {yt : X6}, k_K yt = true → RM yS yt → K yS) : e_putCode_84 x1 x3 x4 S R75 K := by
  refine ⟨fun y_x1 y_x3 y_x4 yS => ∃ n, xq_e_putCode_84 r_R75 k_K n y_x1 y_x3 y_x4 yS, fun y_x1 y_x3 y_x4 yS => mf (fun n => xq_e_putCode_84 r_R75 k_K n y_x1 y_x3 y_x4 yS), ⟨200000, a_x1, a_x3, a_x4, t, e_x1, e_x3, e_x4, hS, h⟩, fun y_x1 y_x3 y_x4 yS hI => ?_⟩
  obtain ⟨m, hm, hq⟩ := mf_ok hI
  obtain ⟨b_x1, b_x3, b_x4, bt, c_x1, c_x3, c_x4, cS, h⟩ := hq
  cases m with
  | zero => exact absurd h Bool.false_ne_true
  | succ n => exact xs_b_putCode_84 h c_x1 c_x3 c_x4 cS hR75 (fun h d_x1 d_x3 d_x4 dS => ⟨⟨n, _, _, _, _, d_x1, d_x3, d_x4, dS, h⟩, Nat.lt_of_le_of_lt (mf_le ⟨_, _, _, _, d_x1, d_x3, d_x4, dS, h⟩) (Nat.lt_of_lt_of_eq (Nat.lt_succ_self n) hm.symm)⟩) hK
noncomputable def x_b_putCode_75 (a_x1 : Nat) (a_x3 : Nat) (t : X6) (r_R75 : Nat → Nat → X6 → Bool) (k_K : X6 → Bool) : Bool :=
  cond (w_lt 16 a_x3) (k_K t) (x_e_putCode_84 a_x1 a_x3 0 t r_R75 k_K)
set_option maxRecDepth 20000 in
set_option maxHeartbeats 1000000 in
theorem xs_b_putCode_75 {x1 : Int32} {a_x1 : Nat} {x3 : Int32} {a_x3 : Nat} {S : ms} {t : X6} {R75 : Int32 → Int32 → ms → Prop} {r_R75 : Nat → Nat → X6 → Bool} {K : ms → Prop} {k_K : X6 → Bool} (h : x_b_putCode_75 a_x1 a_x3 t r_R75 k_K = true) (e_x1 : x1 = Int32.ofNat a_x1) (e_x3 : x3 = Int32.ofNat a_x3) (hS : RM S t) (hR75 : ∀ {y0 : Int32} {b0 : Nat} {y1 : Int32} {b1 : Nat} {yS : ms} {yt : X6}, r_R75 b0 b1 yt = true → y0 = Int32.ofNat b0 → y1 = Int32.ofNat b1 → RM yS yt → R75 y0 y1 yS) (hK : ∀ {yS : ms} {yt : X6}, k_K yt = true → RM yS yt → K yS) : b_putCode_75 x1 x3 S R75 K := by
  unfold b_putCode_75
  unfold x_b_putCode_75 at h
  have hc1 := c_lt' ((rfl : (16 : Int32) = Int32.ofNat 16)) e_x3
  refine ⟨fun hc => ?_, fun hc => ?_⟩
  · have h := x_pos h (hc1.mp hc)
    exact hK h hS
  · have h := x_neg h (fun q => hc (hc1.mpr q))
    exact xs_e_putCode_84 h e_x1 e_x3 ((rfl : (0 : Int32) = Int32.ofNat 0)) hS hR75 hK
noncomputable def xl_e_putCode_75 (k_K : X6 → Bool) (n : Nat) : Nat → Nat → X6 → Bool := Nat.rec (motive := fun _ => Nat → Nat → X6 → Bool) (fun _ _ _ => false) (fun _ ih b_x1 b_x3 bt => x_b_putCode_75 b_x1 b_x3 bt ih k_K) n
noncomputable def x_e_putCode_75 (a_x1 : Nat) (a_x3 : Nat) (t : X6) (k_K : X6 → Bool) : Bool := xl_e_putCode_75 k_K 200000 a_x1 a_x3 t
def xq_e_putCode_75 (k_K : X6 → Bool) (n : Nat) (y_x1 : Int32) (y_x3 : Int32) (yS : ms) : Prop := ∃ (b_x1 : Nat) (b_x3 : Nat) (bt : X6), y_x1 = Int32.ofNat b_x1 ∧ y_x3 = Int32.ofNat b_x3 ∧ RM yS bt ∧ xl_e_putCode_75 k_K n b_x1 b_x3 bt = true
set_option maxRecDepth 20000 in
theorem xs_e_putCode_75 {x1 : Int32} {a_x1 : Nat} {x3 : Int32} {a_x3 : Nat} {S : ms} {t : X6} {K : ms → Prop} {k_K : X6 → Bool} (h : x_e_putCode_75 a_x1 a_x3 t k_K = true) (e_x1 : x1 = Int32.ofNat a_x1) (e_x3 : x3 = Int32.ofNat a_x3) (hS : RM S t) (hK : ∀ {yS : ms} {yt : X6}, k_K yt = true → RM yS yt → K yS) : e_putCode_75 x1 x3 S K := by
  refine ⟨fun y_x1 y_x3 yS => ∃ n, xq_e_putCode_75 k_K n y_x1 y_x3 yS, fun y_x1 y_x3 yS => mf (fun n => xq_e_putCode_75 k_K n y_x1 y_x3 yS), ⟨200000, a_x1, a_x3, t, e_x1, e_x3, hS, h⟩, fun y_x1 y_x3 yS hI => ?_⟩
  obtain ⟨m, hm, hq⟩ := mf_ok hI
  obtain ⟨b_x1, b_x3, bt, c_x1, c_x3, cS, h⟩ := hq
  cases m with
  | zero => exact absurd h Bool.false_ne_true
  | succ n => exact xs_b_putCode_75 h c_x1 c_x3 cS (fun h d_x1 d_x3 dS => ⟨⟨n, _, _, _, d_x1, d_x3, dS, h⟩, Nat.lt_of_le_of_lt (mf_le ⟨_, _, _, d_x1, d_x3, dS, h⟩) (Nat.lt_of_lt_of_eq (Nat.lt_succ_self n) hm.symm)⟩) hK
noncomputable def x_b_putCode_53 (a_x1 : Nat) (a_x3 : Nat) (a_x5 : Nat) (a_s0 : Nat) (t : X6) (r_R7 : Nat → Nat → X6 → Bool) (r_R19 : Nat → Nat → Nat → Nat → X6 → Bool) (k_K : X6 → Bool) : Bool :=
  frc (w_add a_x5 1) fun f1 => r_R19 a_x1 a_x3 a_s0 f1 t
set_option maxRecDepth 20000 in
set_option maxHeartbeats 1000000 in
theorem xs_b_putCode_53 {x1 : Int32} {a_x1 : Nat} {x3 : Int32} {a_x3 : Nat} {x5 : Int32} {a_x5 : Nat} {s0 : Int32} {a_s0 : Nat} {S : ms} {t : X6} {R7 : Int32 → Int32 → ms → Prop} {r_R7 : Nat → Nat → X6 → Bool} {R19 : Int32 → Int32 → Int32 → Int32 → ms → Prop} {r_R19 : Nat → Nat → Nat → Nat → X6 → Bool} {K : ms → Prop} {k_K : X6 → Bool} (h : x_b_putCode_53 a_x1 a_x3 a_x5 a_s0 t r_R7 r_R19 k_K = true) (e_x1 : x1 = Int32.ofNat a_x1) (e_x3 : x3 = Int32.ofNat a_x3) (e_x5 : x5 = Int32.ofNat a_x5) (e_s0 : s0 = Int32.ofNat a_s0) (hS : RM S t) (hR7 : ∀ {y0 : Int32} {b0 : Nat} {y1 : Int32} {b1 : Nat} {yS : ms} {yt : X6}, r_R7 b0 b1 yt = true → y0 = Int32.ofNat b0 → y1 = Int32.ofNat b1 → RM yS yt → R7 y0 y1 yS) (hR19 : ∀ {y0 : Int32} {b0 : Nat} {y1 : Int32} {b1 : Nat} {y2 : Int32} {b2 : Nat} {y3 : Int32} {b3 : Nat} {yS : ms} {yt : X6}, r_R19 b0 b1 b2 b3 yt = true → y0 = Int32.ofNat b0 → y1 = Int32.ofNat b1 → y2 = Int32.ofNat b2 → y3 = Int32.ofNat b3 → RM yS yt → R19 y0 y1 y2 y3 yS) (hK : ∀ {yS : ms} {yt : X6}, k_K yt = true → RM yS yt → K yS) : b_putCode_53 x1 x3 x5 s0 S R7 R19 K := by
  unfold b_putCode_53
  unfold x_b_putCode_53 at h
  have h := frc_ok h
  have p2 := n_add e_x5 ((rfl : (1 : Int32) = Int32.ofNat 1))
  exact hR19 h e_x1 e_x3 e_s0 p2 hS
noncomputable def x_b_putCode_19 (a_x1 : Nat) (a_x3 : Nat) (a_x4 : Nat) (a_x5 : Nat) (t : X6) (r_R7 : Nat → Nat → X6 → Bool) (r_R19 : Nat → Nat → Nat → Nat → X6 → Bool) (k_K : X6 → Bool) : Bool :=
  cond (!(w_lt a_x5 256)) (x_p_put a_x4 t (fun t_S64 => frc (w_add a_x3 1) fun f2 => r_R7 a_x1 f2 t_S64)) (frc (w_add (w_mul 257 a_x1) a_x5) fun f4 => and (Nat.blt f4 1028) <| rrw t 27 f4 fun v7 => cond (w_eq v7 a_x3) (frc (w_add a_x4 1) fun f10 => x_b_putCode_53 a_x1 a_x3 a_x5 f10 t r_R7 r_R19 k_K) (x_b_putCode_53 a_x1 a_x3 a_x5 a_x4 t r_R7 r_R19 k_K))
set_option maxRecDepth 20000 in
set_option maxHeartbeats 1000000 in
theorem xs_b_putCode_19 {x1 : Int32} {a_x1 : Nat} {x3 : Int32} {a_x3 : Nat} {x4 : Int32} {a_x4 : Nat} {x5 : Int32} {a_x5 : Nat} {S : ms} {t : X6} {R7 : Int32 → Int32 → ms → Prop} {r_R7 : Nat → Nat → X6 → Bool} {R19 : Int32 → Int32 → Int32 → Int32 → ms → Prop} {r_R19 : Nat → Nat → Nat → Nat → X6 → Bool} {K : ms → Prop} {k_K : X6 → Bool} (h : x_b_putCode_19 a_x1 a_x3 a_x4 a_x5 t r_R7 r_R19 k_K = true) (e_x1 : x1 = Int32.ofNat a_x1) (e_x3 : x3 = Int32.ofNat a_x3) (e_x4 : x4 = Int32.ofNat a_x4) (e_x5 : x5 = Int32.ofNat a_x5) (hS : RM S t) (hR7 : ∀ {y0 : Int32} {b0 : Nat} {y1 : Int32} {b1 : Nat} {yS : ms} {yt : X6}, r_R7 b0 b1 yt = true → y0 = Int32.ofNat b0 → y1 = Int32.ofNat b1 → RM yS yt → R7 y0 y1 yS) (hR19 : ∀ {y0 : Int32} {b0 : Nat} {y1 : Int32} {b1 : Nat} {y2 : Int32} {b2 : Nat} {y3 : Int32} {b3 : Nat} {yS : ms} {yt : X6}, r_R19 b0 b1 b2 b3 yt = true → y0 = Int32.ofNat b0 → y1 = Int32.ofNat b1 → y2 = Int32.ofNat b2 → y3 = Int32.ofNat b3 → RM yS yt → R19 y0 y1 y2 y3 yS) (hK : ∀ {yS : ms} {yt : X6}, k_K yt = true → RM yS yt → K yS) : b_putCode_19 x1 x3 x4 x5 S R7 R19 K := by
  unfold b_putCode_19
  unfold x_b_putCode_19 at h
  have hc1 := c_le' ((rfl : (256 : Int32) = Int32.ofNat 256)) e_x5
  refine ⟨fun hc => ?_, fun hc => ?_⟩
  · have h := x_pos h (hc1.mp hc)
    refine xs_p_put h e_x4 hS (fun h h_S64 => ?_)
    have h := frc_ok h
    have p3 := n_add e_x3 ((rfl : (1 : Int32) = Int32.ofNat 1))
    exact hR7 h e_x1 p3 h_S64
  · have h := x_neg h (fun q => hc (hc1.mpr q))
    have h := frc_ok h
    have p5 := n_add (n_mul ((rfl : (257 : Int32) = Int32.ofNat 257)) e_x1) e_x5
    obtain ⟨n6, h⟩ := an_ok h
    refine ⟨n_vp p5 n6 (by decide), ?_⟩
    obtain ⟨v7, h, q8⟩ := rrw_ok h hS (by decide) p5
    have hc9 := c_eq' q8 e_x3
    refine ⟨fun hc => ?_, fun hc => ?_⟩
    · have h := x_neg h (fun q => hc (hc9.mpr q))
      exact xs_b_putCode_53 h e_x1 e_x3 e_x5 e_x4 hS hR7 hR19 hK
    · have h := x_pos h (hc9.mp hc)
      have h := frc_ok h
      have p11 := n_add e_x4 ((rfl : (1 : Int32) = Int32.ofNat 1))
      exact xs_b_putCode_53 h e_x1 e_x3 e_x5 p11 hS hR7 hR19 hK
noncomputable def xl_e_putCode_19 (r_R7 : Nat → Nat → X6 → Bool) (k_K : X6 → Bool) (n : Nat) : Nat → Nat → Nat → Nat → X6 → Bool := Nat.rec (motive := fun _ => Nat → Nat → Nat → Nat → X6 → Bool) (fun _ _ _ _ _ => false) (fun _ ih b_x1 b_x3 b_x4 b_x5 bt => x_b_putCode_19 b_x1 b_x3 b_x4 b_x5 bt r_R7 ih k_K) n
noncomputable def x_e_putCode_19 (a_x1 : Nat) (a_x3 : Nat) (a_x4 : Nat) (a_x5 : Nat) (t : X6) (r_R7 : Nat → Nat → X6 → Bool) (k_K : X6 → Bool) : Bool := xl_e_putCode_19 r_R7 k_K 200000 a_x1 a_x3 a_x4 a_x5 t
def xq_e_putCode_19 (r_R7 : Nat → Nat → X6 → Bool) (k_K : X6 → Bool) (n : Nat) (y_x1 : Int32) (y_x3 : Int32) (y_x4 : Int32) (y_x5 : Int32) (yS : ms) : Prop := ∃ (b_x1 : Nat) (b_x3 : Nat) (b_x4 : Nat) (b_x5 : Nat) (bt : X6), y_x1 = Int32.ofNat b_x1 ∧ y_x3 = Int32.ofNat b_x3 ∧ y_x4 = Int32.ofNat b_x4 ∧ y_x5 = Int32.ofNat b_x5 ∧ RM yS bt ∧ xl_e_putCode_19 r_R7 k_K n b_x1 b_x3 b_x4 b_x5 bt = true
set_option maxRecDepth 20000 in
theorem xs_e_putCode_19 {x1 : Int32} {a_x1 : Nat} {x3 : Int32} {a_x3 : Nat} {x4 : Int32} {a_x4 : Nat} {x5 : Int32} {a_x5 : Nat} {S : ms} {t : X6} {R7 : Int32 → Int32 → ms → Prop} {r_R7 : Nat → Nat → X6 → Bool} {K : ms → Prop} {k_K : X6 → Bool} (h : x_e_putCode_19 a_x1 a_x3 a_x4 a_x5 t r_R7 k_K = true) (e_x1 : x1 = Int32.ofNat a_x1) (e_x3 : x3 = Int32.ofNat a_x3) (e_x4 : x4 = Int32.ofNat a_x4) (e_x5 : x5 = Int32.ofNat a_x5) (hS : RM S t) (hR7 : ∀ {y0 : Int32} {b0 : Nat} {y1 : Int32} {b1 : Nat} {yS : ms} {yt : X6}, r_R7 b0 b1 yt = true → y0 = Int32.ofNat b0 → y1 = Int32.ofNat b1 → RM yS yt → R7 y0 y1 yS) (hK : ∀ {yS : ms} {yt : X6}, k_K yt = true → RM yS yt → K yS) : e_putCode_19 x1 x3 x4 x5 S R7 K := by
  refine ⟨fun y_x1 y_x3 y_x4 y_x5 yS => ∃ n, xq_e_putCode_19 r_R7 k_K n y_x1 y_x3 y_x4 y_x5 yS, fun y_x1 y_x3 y_x4 y_x5 yS => mf (fun n => xq_e_putCode_19 r_R7 k_K n y_x1 y_x3 y_x4 y_x5 yS), ⟨200000, a_x1, a_x3, a_x4, a_x5, t, e_x1, e_x3, e_x4, e_x5, hS, h⟩, fun y_x1 y_x3 y_x4 y_x5 yS hI => ?_⟩
  obtain ⟨m, hm, hq⟩ := mf_ok hI
  obtain ⟨b_x1, b_x3, b_x4, b_x5, bt, c_x1, c_x3, c_x4, c_x5, cS, h⟩ := hq
  cases m with
  | zero => exact absurd h Bool.false_ne_true
  | succ n => exact xs_b_putCode_19 h c_x1 c_x3 c_x4 c_x5 cS hR7 (fun h d_x1 d_x3 d_x4 d_x5 dS => ⟨⟨n, _, _, _, _, _, d_x1, d_x3, d_x4, d_x5, dS, h⟩, Nat.lt_of_le_of_lt (mf_le ⟨_, _, _, _, _, d_x1, d_x3, d_x4, d_x5, dS, h⟩) (Nat.lt_of_lt_of_eq (Nat.lt_succ_self n) hm.symm)⟩) hK
noncomputable def x_b_putCode_7 (a_x1 : Nat) (a_x3 : Nat) (t : X6) (r_R7 : Nat → Nat → X6 → Bool) (k_K : X6 → Bool) : Bool :=
  cond (w_lt 16 a_x3) (x_e_putCode_75 a_x1 1 t k_K) (x_e_putCode_19 a_x1 a_x3 0 0 t r_R7 k_K)
set_option maxRecDepth 20000 in
set_option maxHeartbeats 1000000 in
theorem xs_b_putCode_7 {x1 : Int32} {a_x1 : Nat} {x3 : Int32} {a_x3 : Nat} {S : ms} {t : X6} {R7 : Int32 → Int32 → ms → Prop} {r_R7 : Nat → Nat → X6 → Bool} {K : ms → Prop} {k_K : X6 → Bool} (h : x_b_putCode_7 a_x1 a_x3 t r_R7 k_K = true) (e_x1 : x1 = Int32.ofNat a_x1) (e_x3 : x3 = Int32.ofNat a_x3) (hS : RM S t) (hR7 : ∀ {y0 : Int32} {b0 : Nat} {y1 : Int32} {b1 : Nat} {yS : ms} {yt : X6}, r_R7 b0 b1 yt = true → y0 = Int32.ofNat b0 → y1 = Int32.ofNat b1 → RM yS yt → R7 y0 y1 yS) (hK : ∀ {yS : ms} {yt : X6}, k_K yt = true → RM yS yt → K yS) : b_putCode_7 x1 x3 S R7 K := by
  unfold b_putCode_7
  unfold x_b_putCode_7 at h
  have hc1 := c_lt' ((rfl : (16 : Int32) = Int32.ofNat 16)) e_x3
  refine ⟨fun hc => ?_, fun hc => ?_⟩
  · have h := x_pos h (hc1.mp hc)
    exact xs_e_putCode_75 h e_x1 ((rfl : (1 : Int32) = Int32.ofNat 1)) hS hK
  · have h := x_neg h (fun q => hc (hc1.mpr q))
    exact xs_e_putCode_19 h e_x1 e_x3 ((rfl : (0 : Int32) = Int32.ofNat 0)) ((rfl : (0 : Int32) = Int32.ofNat 0)) hS hR7 hK
noncomputable def xl_e_putCode_7 (k_K : X6 → Bool) (n : Nat) : Nat → Nat → X6 → Bool := Nat.rec (motive := fun _ => Nat → Nat → X6 → Bool) (fun _ _ _ => false) (fun _ ih b_x1 b_x3 bt => x_b_putCode_7 b_x1 b_x3 bt ih k_K) n
noncomputable def x_e_putCode_7 (a_x1 : Nat) (a_x3 : Nat) (t : X6) (k_K : X6 → Bool) : Bool := xl_e_putCode_7 k_K 200000 a_x1 a_x3 t
def xq_e_putCode_7 (k_K : X6 → Bool) (n : Nat) (y_x1 : Int32) (y_x3 : Int32) (yS : ms) : Prop := ∃ (b_x1 : Nat) (b_x3 : Nat) (bt : X6), y_x1 = Int32.ofNat b_x1 ∧ y_x3 = Int32.ofNat b_x3 ∧ RM yS bt ∧ xl_e_putCode_7 k_K n b_x1 b_x3 bt = true
set_option maxRecDepth 20000 in
theorem xs_e_putCode_7 {x1 : Int32} {a_x1 : Nat} {x3 : Int32} {a_x3 : Nat} {S : ms} {t : X6} {K : ms → Prop} {k_K : X6 → Bool} (h : x_e_putCode_7 a_x1 a_x3 t k_K = true) (e_x1 : x1 = Int32.ofNat a_x1) (e_x3 : x3 = Int32.ofNat a_x3) (hS : RM S t) (hK : ∀ {yS : ms} {yt : X6}, k_K yt = true → RM yS yt → K yS) : e_putCode_7 x1 x3 S K := by
  refine ⟨fun y_x1 y_x3 yS => ∃ n, xq_e_putCode_7 k_K n y_x1 y_x3 yS, fun y_x1 y_x3 yS => mf (fun n => xq_e_putCode_7 k_K n y_x1 y_x3 yS), ⟨200000, a_x1, a_x3, t, e_x1, e_x3, hS, h⟩, fun y_x1 y_x3 yS hI => ?_⟩
  obtain ⟨m, hm, hq⟩ := mf_ok hI
  obtain ⟨b_x1, b_x3, bt, c_x1, c_x3, cS, h⟩ := hq
  cases m with
  | zero => exact absurd h Bool.false_ne_true
  | succ n => exact xs_b_putCode_7 h c_x1 c_x3 cS (fun h d_x1 d_x3 dS => ⟨⟨n, _, _, _, d_x1, d_x3, dS, h⟩, Nat.lt_of_le_of_lt (mf_le ⟨_, _, _, d_x1, d_x3, dS, h⟩) (Nat.lt_of_lt_of_eq (Nat.lt_succ_self n) hm.symm)⟩) hK
noncomputable def x_p_putCode (a_x1 : Nat) (a_x2 : Nat) (t : X6) (k_K : X6 → Bool) : Bool :=
  x_p_put a_x2 t (fun t_S2 => x_e_putCode_7 a_x1 1 t_S2 k_K)
set_option maxRecDepth 20000 in
set_option maxHeartbeats 1000000 in
theorem xs_p_putCode {x1 : Int32} {a_x1 : Nat} {x2 : Int32} {a_x2 : Nat} {S : ms} {t : X6} {K : ms → Prop} {k_K : X6 → Bool} (h : x_p_putCode a_x1 a_x2 t k_K = true) (e_x1 : x1 = Int32.ofNat a_x1) (e_x2 : x2 = Int32.ofNat a_x2) (hS : RM S t) (hK : ∀ {yS : ms} {yt : X6}, k_K yt = true → RM yS yt → K yS) : p_putCode x1 x2 S K := by
  unfold p_putCode
  unfold x_p_putCode at h
  refine xs_p_put h e_x2 hS (fun h h_S2 => ?_)
  exact xs_e_putCode_7 h e_x1 ((rfl : (1 : Int32) = Int32.ofNat 1)) h_S2 hK
noncomputable def x_b_putSections_244 (a_x1 : Nat) (a_x2 : Nat) (a_x3 : Nat) (a_x5 : Nat) (t : X6) (r_R244 : Nat → Nat → Nat → Nat → X6 → Bool) (k_K : X6 → Bool) : Bool :=
  cond (!(w_lt a_x5 (w_mul 2 a_x3))) (cond (!(w_lt 0 a_x1)) (x_b_putSections_297 a_x2 t k_K) (x_p_mark 221 t (fun t_S284 => x_p_putTwo 4 t_S284 (fun t_S289 => x_p_putTwo a_x1 t_S289 (fun t_S294 => x_b_putSections_297 a_x2 t_S294 k_K))))) (frc (w_add (w_mul 16 (w_sub a_x5 (w_mul (w_div a_x5 2) 2))) (w_div a_x5 2)) fun f3 => x_p_putCode a_x5 f3 t (fun t_S267 => frc (w_add a_x5 1) fun f5 => r_R244 a_x1 a_x2 a_x3 f5 t_S267))
set_option maxRecDepth 20000 in
set_option maxHeartbeats 1000000 in
theorem xs_b_putSections_244 {x1 : Int32} {a_x1 : Nat} {x2 : Int32} {a_x2 : Nat} {x3 : Int32} {a_x3 : Nat} {x5 : Int32} {a_x5 : Nat} {S : ms} {t : X6} {R244 : Int32 → Int32 → Int32 → Int32 → ms → Prop} {r_R244 : Nat → Nat → Nat → Nat → X6 → Bool} {K : ms → Prop} {k_K : X6 → Bool} (h : x_b_putSections_244 a_x1 a_x2 a_x3 a_x5 t r_R244 k_K = true) (e_x1 : x1 = Int32.ofNat a_x1) (e_x2 : x2 = Int32.ofNat a_x2) (e_x3 : x3 = Int32.ofNat a_x3) (e_x5 : x5 = Int32.ofNat a_x5) (hS : RM S t) (hR244 : ∀ {y0 : Int32} {b0 : Nat} {y1 : Int32} {b1 : Nat} {y2 : Int32} {b2 : Nat} {y3 : Int32} {b3 : Nat} {yS : ms} {yt : X6}, r_R244 b0 b1 b2 b3 yt = true → y0 = Int32.ofNat b0 → y1 = Int32.ofNat b1 → y2 = Int32.ofNat b2 → y3 = Int32.ofNat b3 → RM yS yt → R244 y0 y1 y2 y3 yS) (hK : ∀ {yS : ms} {yt : X6}, k_K yt = true → RM yS yt → K yS) : b_putSections_244 x1 x2 x3 x5 S R244 K := by
  unfold b_putSections_244
  unfold x_b_putSections_244 at h
  have hc1 := c_le' (n_mul ((rfl : (2 : Int32) = Int32.ofNat 2)) e_x3) e_x5
  refine ⟨fun hc => ?_, fun hc => ?_⟩
  · have h := x_pos h (hc1.mp hc)
    have hc2 := c_le' e_x1 ((rfl : (0 : Int32) = Int32.ofNat 0))
    refine ⟨fun hc => ?_, fun hc => ?_⟩
    · have h := x_pos h (hc2.mp hc)
      exact xs_b_putSections_297 h e_x2 hS hK
    · have h := x_neg h (fun q => hc (hc2.mpr q))
      refine xs_p_mark h ((rfl : (221 : Int32) = Int32.ofNat 221)) hS (fun h h_S284 => ?_)
      refine xs_p_putTwo h ((rfl : (4 : Int32) = Int32.ofNat 4)) h_S284 (fun h h_S289 => ?_)
      refine xs_p_putTwo h e_x1 h_S289 (fun h h_S294 => ?_)
      exact xs_b_putSections_297 h e_x2 h_S294 hK
  · have h := x_neg h (fun q => hc (hc1.mpr q))
    have h := frc_ok h
    have p4 := n_add (n_mul ((rfl : (16 : Int32) = Int32.ofNat 16)) (n_sub e_x5 (n_mul (n_div e_x5 ((rfl : (2 : Int32) = Int32.ofNat 2))) ((rfl : (2 : Int32) = Int32.ofNat 2))))) (n_div e_x5 ((rfl : (2 : Int32) = Int32.ofNat 2)))
    refine xs_p_putCode h e_x5 p4 hS (fun h h_S267 => ?_)
    have h := frc_ok h
    have p6 := n_add e_x5 ((rfl : (1 : Int32) = Int32.ofNat 1))
    exact hR244 h e_x1 e_x2 e_x3 p6 h_S267
noncomputable def xl_e_putSections_244 (k_K : X6 → Bool) (n : Nat) : Nat → Nat → Nat → Nat → X6 → Bool := Nat.rec (motive := fun _ => Nat → Nat → Nat → Nat → X6 → Bool) (fun _ _ _ _ _ => false) (fun _ ih b_x1 b_x2 b_x3 b_x5 bt => x_b_putSections_244 b_x1 b_x2 b_x3 b_x5 bt ih k_K) n
noncomputable def x_e_putSections_244 (a_x1 : Nat) (a_x2 : Nat) (a_x3 : Nat) (a_x5 : Nat) (t : X6) (k_K : X6 → Bool) : Bool := xl_e_putSections_244 k_K 200000 a_x1 a_x2 a_x3 a_x5 t
def xq_e_putSections_244 (k_K : X6 → Bool) (n : Nat) (y_x1 : Int32) (y_x2 : Int32) (y_x3 : Int32) (y_x5 : Int32) (yS : ms) : Prop := ∃ (b_x1 : Nat) (b_x2 : Nat) (b_x3 : Nat) (b_x5 : Nat) (bt : X6), y_x1 = Int32.ofNat b_x1 ∧ y_x2 = Int32.ofNat b_x2 ∧ y_x3 = Int32.ofNat b_x3 ∧ y_x5 = Int32.ofNat b_x5 ∧ RM yS bt ∧ xl_e_putSections_244 k_K n b_x1 b_x2 b_x3 b_x5 bt = true
set_option maxRecDepth 20000 in
theorem xs_e_putSections_244 {x1 : Int32} {a_x1 : Nat} {x2 : Int32} {a_x2 : Nat} {x3 : Int32} {a_x3 : Nat} {x5 : Int32} {a_x5 : Nat} {S : ms} {t : X6} {K : ms → Prop} {k_K : X6 → Bool} (h : x_e_putSections_244 a_x1 a_x2 a_x3 a_x5 t k_K = true) (e_x1 : x1 = Int32.ofNat a_x1) (e_x2 : x2 = Int32.ofNat a_x2) (e_x3 : x3 = Int32.ofNat a_x3) (e_x5 : x5 = Int32.ofNat a_x5) (hS : RM S t) (hK : ∀ {yS : ms} {yt : X6}, k_K yt = true → RM yS yt → K yS) : e_putSections_244 x1 x2 x3 x5 S K := by
  refine ⟨fun y_x1 y_x2 y_x3 y_x5 yS => ∃ n, xq_e_putSections_244 k_K n y_x1 y_x2 y_x3 y_x5 yS, fun y_x1 y_x2 y_x3 y_x5 yS => mf (fun n => xq_e_putSections_244 k_K n y_x1 y_x2 y_x3 y_x5 yS), ⟨200000, a_x1, a_x2, a_x3, a_x5, t, e_x1, e_x2, e_x3, e_x5, hS, h⟩, fun y_x1 y_x2 y_x3 y_x5 yS hI => ?_⟩
  obtain ⟨m, hm, hq⟩ := mf_ok hI
  obtain ⟨b_x1, b_x2, b_x3, b_x5, bt, c_x1, c_x2, c_x3, c_x5, cS, h⟩ := hq
  cases m with
  | zero => exact absurd h Bool.false_ne_true
  | succ n => exact xs_b_putSections_244 h c_x1 c_x2 c_x3 c_x5 cS (fun h d_x1 d_x2 d_x3 d_x5 dS => ⟨⟨n, _, _, _, _, _, d_x1, d_x2, d_x3, d_x5, dS, h⟩, Nat.lt_of_le_of_lt (mf_le ⟨_, _, _, _, _, d_x1, d_x2, d_x3, d_x5, dS, h⟩) (Nat.lt_of_lt_of_eq (Nat.lt_succ_self n) hm.symm)⟩) hK
noncomputable def x_b_codeSize_34 (a_x1 : Nat) (a_x3 : Nat) (a_s0 : Nat) (t : X6) (r_R5 : Nat → Nat → Nat → X6 → Bool) (k_K : Nat → X6 → Bool) : Bool :=
  frc (w_add a_x3 1) fun f1 => r_R5 a_x1 a_s0 f1 t
set_option maxRecDepth 20000 in
set_option maxHeartbeats 1000000 in
theorem xs_b_codeSize_34 {x1 : Int32} {a_x1 : Nat} {x3 : Int32} {a_x3 : Nat} {s0 : Int32} {a_s0 : Nat} {S : ms} {t : X6} {R5 : Int32 → Int32 → Int32 → ms → Prop} {r_R5 : Nat → Nat → Nat → X6 → Bool} {K : Int32 → ms → Prop} {k_K : Nat → X6 → Bool} (h : x_b_codeSize_34 a_x1 a_x3 a_s0 t r_R5 k_K = true) (e_x1 : x1 = Int32.ofNat a_x1) (e_x3 : x3 = Int32.ofNat a_x3) (e_s0 : s0 = Int32.ofNat a_s0) (hS : RM S t) (hR5 : ∀ {y0 : Int32} {b0 : Nat} {y1 : Int32} {b1 : Nat} {y2 : Int32} {b2 : Nat} {yS : ms} {yt : X6}, r_R5 b0 b1 b2 yt = true → y0 = Int32.ofNat b0 → y1 = Int32.ofNat b1 → y2 = Int32.ofNat b2 → RM yS yt → R5 y0 y1 y2 yS) (hK : ∀ {y0 : Int32} {b0 : Nat} {yS : ms} {yt : X6}, k_K b0 yt = true → y0 = Int32.ofNat b0 → RM yS yt → K y0 yS) : b_codeSize_34 x1 x3 s0 S R5 K := by
  unfold b_codeSize_34
  unfold x_b_codeSize_34 at h
  have h := frc_ok h
  have p2 := n_add e_x3 ((rfl : (1 : Int32) = Int32.ofNat 1))
  exact hR5 h e_x1 e_s0 p2 hS
noncomputable def x_b_codeSize_5 (a_x1 : Nat) (a_x2 : Nat) (a_x3 : Nat) (t : X6) (r_R5 : Nat → Nat → Nat → X6 → Bool) (k_K : Nat → X6 → Bool) : Bool :=
  cond (!(w_lt a_x3 256)) (k_K a_x2 t) (frc (w_add (w_mul 257 a_x1) a_x3) fun f2 => and (Nat.blt f2 1028) <| rrw t 27 f2 fun v5 => cond (!(w_lt 0 v5)) (x_b_codeSize_34 a_x1 a_x3 a_x2 t r_R5 k_K) (frc (w_add a_x2 1) fun f8 => x_b_codeSize_34 a_x1 a_x3 f8 t r_R5 k_K))
set_option maxRecDepth 20000 in
set_option maxHeartbeats 1000000 in
theorem xs_b_codeSize_5 {x1 : Int32} {a_x1 : Nat} {x2 : Int32} {a_x2 : Nat} {x3 : Int32} {a_x3 : Nat} {S : ms} {t : X6} {R5 : Int32 → Int32 → Int32 → ms → Prop} {r_R5 : Nat → Nat → Nat → X6 → Bool} {K : Int32 → ms → Prop} {k_K : Nat → X6 → Bool} (h : x_b_codeSize_5 a_x1 a_x2 a_x3 t r_R5 k_K = true) (e_x1 : x1 = Int32.ofNat a_x1) (e_x2 : x2 = Int32.ofNat a_x2) (e_x3 : x3 = Int32.ofNat a_x3) (hS : RM S t) (hR5 : ∀ {y0 : Int32} {b0 : Nat} {y1 : Int32} {b1 : Nat} {y2 : Int32} {b2 : Nat} {yS : ms} {yt : X6}, r_R5 b0 b1 b2 yt = true → y0 = Int32.ofNat b0 → y1 = Int32.ofNat b1 → y2 = Int32.ofNat b2 → RM yS yt → R5 y0 y1 y2 yS) (hK : ∀ {y0 : Int32} {b0 : Nat} {yS : ms} {yt : X6}, k_K b0 yt = true → y0 = Int32.ofNat b0 → RM yS yt → K y0 yS) : b_codeSize_5 x1 x2 x3 S R5 K := by
  unfold b_codeSize_5
  unfold x_b_codeSize_5 at h
  have hc1 := c_le' ((rfl : (256 : Int32) = Int32.ofNat 256)) e_x3
  refine ⟨fun hc => ?_, fun hc => ?_⟩
  · have h := x_pos h (hc1.mp hc)
    exact hK h e_x2 hS
  · have h := x_neg h (fun q => hc (hc1.mpr q))
    have h := frc_ok h
    have p3 := n_add (n_mul ((rfl : (257 : Int32) = Int32.ofNat 257)) e_x1) e_x3
    obtain ⟨n4, h⟩ := an_ok h
    refine ⟨n_vp p3 n4 (by decide), ?_⟩
    obtain ⟨v5, h, q6⟩ := rrw_ok h hS (by decide) p3
    have hc7 := c_le' q6 ((rfl : (0 : Int32) = Int32.ofNat 0))
    refine ⟨fun hc => ?_, fun hc => ?_⟩
    · have h := x_pos h (hc7.mp hc)
      exact xs_b_codeSize_34 h e_x1 e_x3 e_x2 hS hR5 hK
    · have h := x_neg h (fun q => hc (hc7.mpr q))
      have h := frc_ok h
      have p9 := n_add e_x2 ((rfl : (1 : Int32) = Int32.ofNat 1))
      exact xs_b_codeSize_34 h e_x1 e_x3 p9 hS hR5 hK
noncomputable def xl_e_codeSize_5 (k_K : Nat → X6 → Bool) (n : Nat) : Nat → Nat → Nat → X6 → Bool := Nat.rec (motive := fun _ => Nat → Nat → Nat → X6 → Bool) (fun _ _ _ _ => false) (fun _ ih b_x1 b_x2 b_x3 bt => x_b_codeSize_5 b_x1 b_x2 b_x3 bt ih k_K) n
noncomputable def x_e_codeSize_5 (a_x1 : Nat) (a_x2 : Nat) (a_x3 : Nat) (t : X6) (k_K : Nat → X6 → Bool) : Bool := xl_e_codeSize_5 k_K 200000 a_x1 a_x2 a_x3 t
def xq_e_codeSize_5 (k_K : Nat → X6 → Bool) (n : Nat) (y_x1 : Int32) (y_x2 : Int32) (y_x3 : Int32) (yS : ms) : Prop := ∃ (b_x1 : Nat) (b_x2 : Nat) (b_x3 : Nat) (bt : X6), y_x1 = Int32.ofNat b_x1 ∧ y_x2 = Int32.ofNat b_x2 ∧ y_x3 = Int32.ofNat b_x3 ∧ RM yS bt ∧ xl_e_codeSize_5 k_K n b_x1 b_x2 b_x3 bt = true
set_option maxRecDepth 20000 in
theorem xs_e_codeSize_5 {x1 : Int32} {a_x1 : Nat} {x2 : Int32} {a_x2 : Nat} {x3 : Int32} {a_x3 : Nat} {S : ms} {t : X6} {K : Int32 → ms → Prop} {k_K : Nat → X6 → Bool} (h : x_e_codeSize_5 a_x1 a_x2 a_x3 t k_K = true) (e_x1 : x1 = Int32.ofNat a_x1) (e_x2 : x2 = Int32.ofNat a_x2) (e_x3 : x3 = Int32.ofNat a_x3) (hS : RM S t) (hK : ∀ {y0 : Int32} {b0 : Nat} {yS : ms} {yt : X6}, k_K b0 yt = true → y0 = Int32.ofNat b0 → RM yS yt → K y0 yS) : e_codeSize_5 x1 x2 x3 S K := by
  refine ⟨fun y_x1 y_x2 y_x3 yS => ∃ n, xq_e_codeSize_5 k_K n y_x1 y_x2 y_x3 yS, fun y_x1 y_x2 y_x3 yS => mf (fun n => xq_e_codeSize_5 k_K n y_x1 y_x2 y_x3 yS), ⟨200000, a_x1, a_x2, a_x3, t, e_x1, e_x2, e_x3, hS, h⟩, fun y_x1 y_x2 y_x3 yS hI => ?_⟩
  obtain ⟨m, hm, hq⟩ := mf_ok hI
  obtain ⟨b_x1, b_x2, b_x3, bt, c_x1, c_x2, c_x3, cS, h⟩ := hq
  cases m with
  | zero => exact absurd h Bool.false_ne_true
  | succ n => exact xs_b_codeSize_5 h c_x1 c_x2 c_x3 cS (fun h d_x1 d_x2 d_x3 dS => ⟨⟨n, _, _, _, _, d_x1, d_x2, d_x3, dS, h⟩, Nat.lt_of_le_of_lt (mf_le ⟨_, _, _, _, d_x1, d_x2, d_x3, dS, h⟩) (Nat.lt_of_lt_of_eq (Nat.lt_succ_self n) hm.symm)⟩) hK
noncomputable def x_p_codeSize (a_x1 : Nat) (t : X6) (k_K : Nat → X6 → Bool) : Bool :=
  x_e_codeSize_5 a_x1 17 0 t k_K
set_option maxRecDepth 20000 in
set_option maxHeartbeats 1000000 in
theorem xs_p_codeSize {x1 : Int32} {a_x1 : Nat} {S : ms} {t : X6} {K : Int32 → ms → Prop} {k_K : Nat → X6 → Bool} (h : x_p_codeSize a_x1 t k_K = true) (e_x1 : x1 = Int32.ofNat a_x1) (hS : RM S t) (hK : ∀ {y0 : Int32} {b0 : Nat} {yS : ms} {yt : X6}, k_K b0 yt = true → y0 = Int32.ofNat b0 → RM yS yt → K y0 yS) : p_codeSize x1 S K := by
  unfold p_codeSize
  unfold x_p_codeSize at h
  exact xs_e_codeSize_5 h e_x1 ((rfl : (17 : Int32) = Int32.ofNat 17)) ((rfl : (0 : Int32) = Int32.ofNat 0)) hS hK
noncomputable def x_b_putSections_210 (a_x1 : Nat) (a_x2 : Nat) (a_x3 : Nat) (a_x4 : Nat) (a_x5 : Nat) (t : X6) (r_R210 : Nat → Nat → Nat → Nat → Nat → X6 → Bool) (k_K : X6 → Bool) : Bool :=
  cond (!(w_lt a_x5 (w_mul 2 a_x3))) (x_p_putTwo a_x4 t (fun t_S238 => x_e_putSections_244 a_x1 a_x2 a_x3 0 t_S238 k_K)) (x_p_codeSize a_x5 t (fun v223_ t_S223 => frc (w_add a_x4 v223_) fun f2 => frc (w_add a_x5 1) fun f4 => r_R210 a_x1 a_x2 a_x3 f2 f4 t_S223))
set_option maxRecDepth 20000 in
set_option maxHeartbeats 1000000 in
theorem xs_b_putSections_210 {x1 : Int32} {a_x1 : Nat} {x2 : Int32} {a_x2 : Nat} {x3 : Int32} {a_x3 : Nat} {x4 : Int32} {a_x4 : Nat} {x5 : Int32} {a_x5 : Nat} {S : ms} {t : X6} {R210 : Int32 → Int32 → Int32 → Int32 → Int32 → ms → Prop} {r_R210 : Nat → Nat → Nat → Nat → Nat → X6 → Bool} {K : ms → Prop} {k_K : X6 → Bool} (h : x_b_putSections_210 a_x1 a_x2 a_x3 a_x4 a_x5 t r_R210 k_K = true) (e_x1 : x1 = Int32.ofNat a_x1) (e_x2 : x2 = Int32.ofNat a_x2) (e_x3 : x3 = Int32.ofNat a_x3) (e_x4 : x4 = Int32.ofNat a_x4) (e_x5 : x5 = Int32.ofNat a_x5) (hS : RM S t) (hR210 : ∀ {y0 : Int32} {b0 : Nat} {y1 : Int32} {b1 : Nat} {y2 : Int32} {b2 : Nat} {y3 : Int32} {b3 : Nat} {y4 : Int32} {b4 : Nat} {yS : ms} {yt : X6}, r_R210 b0 b1 b2 b3 b4 yt = true → y0 = Int32.ofNat b0 → y1 = Int32.ofNat b1 → y2 = Int32.ofNat b2 → y3 = Int32.ofNat b3 → y4 = Int32.ofNat b4 → RM yS yt → R210 y0 y1 y2 y3 y4 yS) (hK : ∀ {yS : ms} {yt : X6}, k_K yt = true → RM yS yt → K yS) : b_putSections_210 x1 x2 x3 x4 x5 S R210 K := by
  unfold b_putSections_210
  unfold x_b_putSections_210 at h
  have hc1 := c_le' (n_mul ((rfl : (2 : Int32) = Int32.ofNat 2)) e_x3) e_x5
  refine ⟨fun hc => ?_, fun hc => ?_⟩
  · have h := x_pos h (hc1.mp hc)
    refine xs_p_putTwo h e_x4 hS (fun h h_S238 => ?_)
    exact xs_e_putSections_244 h e_x1 e_x2 e_x3 ((rfl : (0 : Int32) = Int32.ofNat 0)) h_S238 hK
  · have h := x_neg h (fun q => hc (hc1.mpr q))
    refine xs_p_codeSize h e_x5 hS (fun h e_v223 h_S223 => ?_)
    have h := frc_ok h
    have p3 := n_add e_x4 e_v223
    have h := frc_ok h
    have p5 := n_add e_x5 ((rfl : (1 : Int32) = Int32.ofNat 1))
    exact hR210 h e_x1 e_x2 e_x3 p3 p5 h_S223
noncomputable def xl_e_putSections_210 (k_K : X6 → Bool) (n : Nat) : Nat → Nat → Nat → Nat → Nat → X6 → Bool := Nat.rec (motive := fun _ => Nat → Nat → Nat → Nat → Nat → X6 → Bool) (fun _ _ _ _ _ _ => false) (fun _ ih b_x1 b_x2 b_x3 b_x4 b_x5 bt => x_b_putSections_210 b_x1 b_x2 b_x3 b_x4 b_x5 bt ih k_K) n
noncomputable def x_e_putSections_210 (a_x1 : Nat) (a_x2 : Nat) (a_x3 : Nat) (a_x4 : Nat) (a_x5 : Nat) (t : X6) (k_K : X6 → Bool) : Bool := xl_e_putSections_210 k_K 200000 a_x1 a_x2 a_x3 a_x4 a_x5 t
def xq_e_putSections_210 (k_K : X6 → Bool) (n : Nat) (y_x1 : Int32) (y_x2 : Int32) (y_x3 : Int32) (y_x4 : Int32) (y_x5 : Int32) (yS : ms) : Prop := ∃ (b_x1 : Nat) (b_x2 : Nat) (b_x3 : Nat) (b_x4 : Nat) (b_x5 : Nat) (bt : X6), y_x1 = Int32.ofNat b_x1 ∧ y_x2 = Int32.ofNat b_x2 ∧ y_x3 = Int32.ofNat b_x3 ∧ y_x4 = Int32.ofNat b_x4 ∧ y_x5 = Int32.ofNat b_x5 ∧ RM yS bt ∧ xl_e_putSections_210 k_K n b_x1 b_x2 b_x3 b_x4 b_x5 bt = true
set_option maxRecDepth 20000 in
theorem xs_e_putSections_210 {x1 : Int32} {a_x1 : Nat} {x2 : Int32} {a_x2 : Nat} {x3 : Int32} {a_x3 : Nat} {x4 : Int32} {a_x4 : Nat} {x5 : Int32} {a_x5 : Nat} {S : ms} {t : X6} {K : ms → Prop} {k_K : X6 → Bool} (h : x_e_putSections_210 a_x1 a_x2 a_x3 a_x4 a_x5 t k_K = true) (e_x1 : x1 = Int32.ofNat a_x1) (e_x2 : x2 = Int32.ofNat a_x2) (e_x3 : x3 = Int32.ofNat a_x3) (e_x4 : x4 = Int32.ofNat a_x4) (e_x5 : x5 = Int32.ofNat a_x5) (hS : RM S t) (hK : ∀ {yS : ms} {yt : X6}, k_K yt = true → RM yS yt → K yS) : e_putSections_210 x1 x2 x3 x4 x5 S K := by
  refine ⟨fun y_x1 y_x2 y_x3 y_x4 y_x5 yS => ∃ n, xq_e_putSections_210 k_K n y_x1 y_x2 y_x3 y_x4 y_x5 yS, fun y_x1 y_x2 y_x3 y_x4 y_x5 yS => mf (fun n => xq_e_putSections_210 k_K n y_x1 y_x2 y_x3 y_x4 y_x5 yS), ⟨200000, a_x1, a_x2, a_x3, a_x4, a_x5, t, e_x1, e_x2, e_x3, e_x4, e_x5, hS, h⟩, fun y_x1 y_x2 y_x3 y_x4 y_x5 yS hI => ?_⟩
  obtain ⟨m, hm, hq⟩ := mf_ok hI
  obtain ⟨b_x1, b_x2, b_x3, b_x4, b_x5, bt, c_x1, c_x2, c_x3, c_x4, c_x5, cS, h⟩ := hq
  cases m with
  | zero => exact absurd h Bool.false_ne_true
  | succ n => exact xs_b_putSections_210 h c_x1 c_x2 c_x3 c_x4 c_x5 cS (fun h d_x1 d_x2 d_x3 d_x4 d_x5 dS => ⟨⟨n, _, _, _, _, _, _, d_x1, d_x2, d_x3, d_x4, d_x5, dS, h⟩, Nat.lt_of_le_of_lt (mf_le ⟨_, _, _, _, _, _, d_x1, d_x2, d_x3, d_x4, d_x5, dS, h⟩) (Nat.lt_of_lt_of_eq (Nat.lt_succ_self n) hm.symm)⟩) hK
noncomputable def x_b_putSections_188 (a_x1 : Nat) (a_x2 : Nat) (a_x3 : Nat) (a_x4 : Nat) (a_s1 : Nat) (t : X6) (r_R141 : Nat → Nat → Nat → Nat → X6 → Bool) (k_K : X6 → Bool) : Bool :=
  x_p_put a_s1 t (fun t_S188 => frc (w_add a_x4 1) fun f1 => r_R141 a_x1 a_x2 a_x3 f1 t_S188)
set_option maxRecDepth 20000 in
set_option maxHeartbeats 1000000 in
theorem xs_b_putSections_188 {x1 : Int32} {a_x1 : Nat} {x2 : Int32} {a_x2 : Nat} {x3 : Int32} {a_x3 : Nat} {x4 : Int32} {a_x4 : Nat} {s1 : Int32} {a_s1 : Nat} {S : ms} {t : X6} {R141 : Int32 → Int32 → Int32 → Int32 → ms → Prop} {r_R141 : Nat → Nat → Nat → Nat → X6 → Bool} {K : ms → Prop} {k_K : X6 → Bool} (h : x_b_putSections_188 a_x1 a_x2 a_x3 a_x4 a_s1 t r_R141 k_K = true) (e_x1 : x1 = Int32.ofNat a_x1) (e_x2 : x2 = Int32.ofNat a_x2) (e_x3 : x3 = Int32.ofNat a_x3) (e_x4 : x4 = Int32.ofNat a_x4) (e_s1 : s1 = Int32.ofNat a_s1) (hS : RM S t) (hR141 : ∀ {y0 : Int32} {b0 : Nat} {y1 : Int32} {b1 : Nat} {y2 : Int32} {b2 : Nat} {y3 : Int32} {b3 : Nat} {yS : ms} {yt : X6}, r_R141 b0 b1 b2 b3 yt = true → y0 = Int32.ofNat b0 → y1 = Int32.ofNat b1 → y2 = Int32.ofNat b2 → y3 = Int32.ofNat b3 → RM yS yt → R141 y0 y1 y2 y3 yS) (hK : ∀ {yS : ms} {yt : X6}, k_K yt = true → RM yS yt → K yS) : b_putSections_188 x1 x2 x3 x4 s1 S R141 K := by
  unfold b_putSections_188
  unfold x_b_putSections_188 at h
  refine xs_p_put h e_s1 hS (fun h h_S188 => ?_)
  have h := frc_ok h
  have p2 := n_add e_x4 ((rfl : (1 : Int32) = Int32.ofNat 1))
  exact hR141 h e_x1 e_x2 e_x3 p2 h_S188
noncomputable def x_b_putSections_141 (a_x1 : Nat) (a_x2 : Nat) (a_x3 : Nat) (a_x4 : Nat) (t : X6) (r_R141 : Nat → Nat → Nat → Nat → X6 → Bool) (k_K : X6 → Bool) : Bool :=
  cond (!(w_lt a_x4 a_x2)) (x_p_mark 196 t (fun t_S201 => x_e_putSections_210 a_x1 a_x2 a_x3 2 0 t_S201 k_K)) (frc (w_add a_x4 1) fun f2 => x_p_put f2 t (fun t_S152 => and (Nat.blt a_x4 9) <| rrw t_S152 15 a_x4 fun v5 => rrw t_S152 16 a_x4 fun v7 => frc (w_add (w_mul 16 v5) v7) fun f9 => x_p_put f9 t_S152 (fun t_S174 => cond (w_eq a_x4 0) (x_b_putSections_188 a_x1 a_x2 a_x3 a_x4 0 t_S174 r_R141 k_K) (x_b_putSections_188 a_x1 a_x2 a_x3 a_x4 1 t_S174 r_R141 k_K))))
set_option maxRecDepth 20000 in
set_option maxHeartbeats 1000000 in
theorem xs_b_putSections_141 {x1 : Int32} {a_x1 : Nat} {x2 : Int32} {a_x2 : Nat} {x3 : Int32} {a_x3 : Nat} {x4 : Int32} {a_x4 : Nat} {S : ms} {t : X6} {R141 : Int32 → Int32 → Int32 → Int32 → ms → Prop} {r_R141 : Nat → Nat → Nat → Nat → X6 → Bool} {K : ms → Prop} {k_K : X6 → Bool} (h : x_b_putSections_141 a_x1 a_x2 a_x3 a_x4 t r_R141 k_K = true) (e_x1 : x1 = Int32.ofNat a_x1) (e_x2 : x2 = Int32.ofNat a_x2) (e_x3 : x3 = Int32.ofNat a_x3) (e_x4 : x4 = Int32.ofNat a_x4) (hS : RM S t) (hR141 : ∀ {y0 : Int32} {b0 : Nat} {y1 : Int32} {b1 : Nat} {y2 : Int32} {b2 : Nat} {y3 : Int32} {b3 : Nat} {yS : ms} {yt : X6}, r_R141 b0 b1 b2 b3 yt = true → y0 = Int32.ofNat b0 → y1 = Int32.ofNat b1 → y2 = Int32.ofNat b2 → y3 = Int32.ofNat b3 → RM yS yt → R141 y0 y1 y2 y3 yS) (hK : ∀ {yS : ms} {yt : X6}, k_K yt = true → RM yS yt → K yS) : b_putSections_141 x1 x2 x3 x4 S R141 K := by
  unfold b_putSections_141
  unfold x_b_putSections_141 at h
  have hc1 := c_le' e_x2 e_x4
  refine ⟨fun hc => ?_, fun hc => ?_⟩
  · have h := x_pos h (hc1.mp hc)
    refine xs_p_mark h ((rfl : (196 : Int32) = Int32.ofNat 196)) hS (fun h h_S201 => ?_)
    exact xs_e_putSections_210 h e_x1 e_x2 e_x3 ((rfl : (2 : Int32) = Int32.ofNat 2)) ((rfl : (0 : Int32) = Int32.ofNat 0)) h_S201 hK
  · have h := x_neg h (fun q => hc (hc1.mpr q))
    have h := frc_ok h
    have p3 := n_add e_x4 ((rfl : (1 : Int32) = Int32.ofNat 1))
    refine xs_p_put h p3 hS (fun h h_S152 => ?_)
    obtain ⟨n4, h⟩ := an_ok h
    refine ⟨n_vp e_x4 n4 (by decide), ?_⟩
    refine ⟨n_vp e_x4 n4 (by decide), ?_⟩
    obtain ⟨v5, h, q6⟩ := rrw_ok h h_S152 (by decide) e_x4
    obtain ⟨v7, h, q8⟩ := rrw_ok h h_S152 (by decide) e_x4
    have h := frc_ok h
    have p10 := n_add (n_mul ((rfl : (16 : Int32) = Int32.ofNat 16)) q6) q8
    refine xs_p_put h p10 h_S152 (fun h h_S174 => ?_)
    have hc11 := c_eq' e_x4 ((rfl : (0 : Int32) = Int32.ofNat 0))
    refine ⟨fun hc => ?_, fun hc => ?_⟩
    · have h := x_neg h (fun q => hc (hc11.mpr q))
      exact xs_b_putSections_188 h e_x1 e_x2 e_x3 e_x4 ((rfl : (1 : Int32) = Int32.ofNat 1)) h_S174 hR141 hK
    · have h := x_pos h (hc11.mp hc)
      exact xs_b_putSections_188 h e_x1 e_x2 e_x3 e_x4 ((rfl : (0 : Int32) = Int32.ofNat 0)) h_S174 hR141 hK
noncomputable def xl_e_putSections_141 (k_K : X6 → Bool) (n : Nat) : Nat → Nat → Nat → Nat → X6 → Bool := Nat.rec (motive := fun _ => Nat → Nat → Nat → Nat → X6 → Bool) (fun _ _ _ _ _ => false) (fun _ ih b_x1 b_x2 b_x3 b_x4 bt => x_b_putSections_141 b_x1 b_x2 b_x3 b_x4 bt ih k_K) n
noncomputable def x_e_putSections_141 (a_x1 : Nat) (a_x2 : Nat) (a_x3 : Nat) (a_x4 : Nat) (t : X6) (k_K : X6 → Bool) : Bool := xl_e_putSections_141 k_K 200000 a_x1 a_x2 a_x3 a_x4 t
def xq_e_putSections_141 (k_K : X6 → Bool) (n : Nat) (y_x1 : Int32) (y_x2 : Int32) (y_x3 : Int32) (y_x4 : Int32) (yS : ms) : Prop := ∃ (b_x1 : Nat) (b_x2 : Nat) (b_x3 : Nat) (b_x4 : Nat) (bt : X6), y_x1 = Int32.ofNat b_x1 ∧ y_x2 = Int32.ofNat b_x2 ∧ y_x3 = Int32.ofNat b_x3 ∧ y_x4 = Int32.ofNat b_x4 ∧ RM yS bt ∧ xl_e_putSections_141 k_K n b_x1 b_x2 b_x3 b_x4 bt = true
set_option maxRecDepth 20000 in
theorem xs_e_putSections_141 {x1 : Int32} {a_x1 : Nat} {x2 : Int32} {a_x2 : Nat} {x3 : Int32} {a_x3 : Nat} {x4 : Int32} {a_x4 : Nat} {S : ms} {t : X6} {K : ms → Prop} {k_K : X6 → Bool} (h : x_e_putSections_141 a_x1 a_x2 a_x3 a_x4 t k_K = true) (e_x1 : x1 = Int32.ofNat a_x1) (e_x2 : x2 = Int32.ofNat a_x2) (e_x3 : x3 = Int32.ofNat a_x3) (e_x4 : x4 = Int32.ofNat a_x4) (hS : RM S t) (hK : ∀ {yS : ms} {yt : X6}, k_K yt = true → RM yS yt → K yS) : e_putSections_141 x1 x2 x3 x4 S K := by
  refine ⟨fun y_x1 y_x2 y_x3 y_x4 yS => ∃ n, xq_e_putSections_141 k_K n y_x1 y_x2 y_x3 y_x4 yS, fun y_x1 y_x2 y_x3 y_x4 yS => mf (fun n => xq_e_putSections_141 k_K n y_x1 y_x2 y_x3 y_x4 yS), ⟨200000, a_x1, a_x2, a_x3, a_x4, t, e_x1, e_x2, e_x3, e_x4, hS, h⟩, fun y_x1 y_x2 y_x3 y_x4 yS hI => ?_⟩
  obtain ⟨m, hm, hq⟩ := mf_ok hI
  obtain ⟨b_x1, b_x2, b_x3, b_x4, bt, c_x1, c_x2, c_x3, c_x4, cS, h⟩ := hq
  cases m with
  | zero => exact absurd h Bool.false_ne_true
  | succ n => exact xs_b_putSections_141 h c_x1 c_x2 c_x3 c_x4 cS (fun h d_x1 d_x2 d_x3 d_x4 dS => ⟨⟨n, _, _, _, _, _, d_x1, d_x2, d_x3, d_x4, dS, h⟩, Nat.lt_of_le_of_lt (mf_le ⟨_, _, _, _, _, d_x1, d_x2, d_x3, d_x4, dS, h⟩) (Nat.lt_of_lt_of_eq (Nat.lt_succ_self n) hm.symm)⟩) hK
noncomputable def x_b_putSections_53 (a_x1 : Nat) (a_x2 : Nat) (a_x3 : Nat) (a_x4 : Nat) (a_x5 : Nat) (t : X6) (r_R38 : Nat → Nat → Nat → Nat → X6 → Bool) (r_R53 : Nat → Nat → Nat → Nat → Nat → X6 → Bool) (k_K : X6 → Bool) : Bool :=
  cond (!(w_lt a_x5 64)) (frc (w_add a_x4 1) fun f2 => r_R38 a_x1 a_x2 a_x3 f2 t) (and (Nat.blt a_x5 64) <| rrw t 22 a_x5 fun v5 => frc (w_add (w_mul 64 a_x4) v5) fun f7 => and (Nat.blt f7 128) <| rrw t 5 f7 fun v10 => x_p_put v10 t (fun t_S79 => frc (w_add a_x5 1) fun f12 => r_R53 a_x1 a_x2 a_x3 a_x4 f12 t_S79))
set_option maxRecDepth 20000 in
set_option maxHeartbeats 1000000 in
theorem xs_b_putSections_53 {x1 : Int32} {a_x1 : Nat} {x2 : Int32} {a_x2 : Nat} {x3 : Int32} {a_x3 : Nat} {x4 : Int32} {a_x4 : Nat} {x5 : Int32} {a_x5 : Nat} {S : ms} {t : X6} {R38 : Int32 → Int32 → Int32 → Int32 → ms → Prop} {r_R38 : Nat → Nat → Nat → Nat → X6 → Bool} {R53 : Int32 → Int32 → Int32 → Int32 → Int32 → ms → Prop} {r_R53 : Nat → Nat → Nat → Nat → Nat → X6 → Bool} {K : ms → Prop} {k_K : X6 → Bool} (h : x_b_putSections_53 a_x1 a_x2 a_x3 a_x4 a_x5 t r_R38 r_R53 k_K = true) (e_x1 : x1 = Int32.ofNat a_x1) (e_x2 : x2 = Int32.ofNat a_x2) (e_x3 : x3 = Int32.ofNat a_x3) (e_x4 : x4 = Int32.ofNat a_x4) (e_x5 : x5 = Int32.ofNat a_x5) (hS : RM S t) (hR38 : ∀ {y0 : Int32} {b0 : Nat} {y1 : Int32} {b1 : Nat} {y2 : Int32} {b2 : Nat} {y3 : Int32} {b3 : Nat} {yS : ms} {yt : X6}, r_R38 b0 b1 b2 b3 yt = true → y0 = Int32.ofNat b0 → y1 = Int32.ofNat b1 → y2 = Int32.ofNat b2 → y3 = Int32.ofNat b3 → RM yS yt → R38 y0 y1 y2 y3 yS) (hR53 : ∀ {y0 : Int32} {b0 : Nat} {y1 : Int32} {b1 : Nat} {y2 : Int32} {b2 : Nat} {y3 : Int32} {b3 : Nat} {y4 : Int32} {b4 : Nat} {yS : ms} {yt : X6}, r_R53 b0 b1 b2 b3 b4 yt = true → y0 = Int32.ofNat b0 → y1 = Int32.ofNat b1 → y2 = Int32.ofNat b2 → y3 = Int32.ofNat b3 → y4 = Int32.ofNat b4 → RM yS yt → R53 y0 y1 y2 y3 y4 yS) (hK : ∀ {yS : ms} {yt : X6}, k_K yt = true → RM yS yt → K yS) : b_putSections_53 x1 x2 x3 x4 x5 S R38 R53 K := by
  unfold b_putSections_53
  unfold x_b_putSections_53 at h
  have hc1 := c_le' ((rfl : (64 : Int32) = Int32.ofNat 64)) e_x5
  refine ⟨fun hc => ?_, fun hc => ?_⟩
  · have h := x_pos h (hc1.mp hc)
    have h := frc_ok h
    have p3 := n_add e_x4 ((rfl : (1 : Int32) = Int32.ofNat 1))
    exact hR38 h e_x1 e_x2 e_x3 p3 hS
  · have h := x_neg h (fun q => hc (hc1.mpr q))
    obtain ⟨n4, h⟩ := an_ok h
    refine ⟨n_vp e_x5 n4 (by decide), ?_⟩
    obtain ⟨v5, h, q6⟩ := rrw_ok h hS (by decide) e_x5
    have h := frc_ok h
    have p8 := n_add (n_mul ((rfl : (64 : Int32) = Int32.ofNat 64)) e_x4) q6
    obtain ⟨n9, h⟩ := an_ok h
    refine ⟨n_vp p8 n9 (by decide), ?_⟩
    obtain ⟨v10, h, q11⟩ := rrw_ok h hS (by decide) p8
    refine xs_p_put h q11 hS (fun h h_S79 => ?_)
    have h := frc_ok h
    have p13 := n_add e_x5 ((rfl : (1 : Int32) = Int32.ofNat 1))
    exact hR53 h e_x1 e_x2 e_x3 e_x4 p13 h_S79
noncomputable def xl_e_putSections_53 (r_R38 : Nat → Nat → Nat → Nat → X6 → Bool) (k_K : X6 → Bool) (n : Nat) : Nat → Nat → Nat → Nat → Nat → X6 → Bool := Nat.rec (motive := fun _ => Nat → Nat → Nat → Nat → Nat → X6 → Bool) (fun _ _ _ _ _ _ => false) (fun _ ih b_x1 b_x2 b_x3 b_x4 b_x5 bt => x_b_putSections_53 b_x1 b_x2 b_x3 b_x4 b_x5 bt r_R38 ih k_K) n
noncomputable def x_e_putSections_53 (a_x1 : Nat) (a_x2 : Nat) (a_x3 : Nat) (a_x4 : Nat) (a_x5 : Nat) (t : X6) (r_R38 : Nat → Nat → Nat → Nat → X6 → Bool) (k_K : X6 → Bool) : Bool := xl_e_putSections_53 r_R38 k_K 200000 a_x1 a_x2 a_x3 a_x4 a_x5 t
def xq_e_putSections_53 (r_R38 : Nat → Nat → Nat → Nat → X6 → Bool) (k_K : X6 → Bool) (n : Nat) (y_x1 : Int32) (y_x2 : Int32) (y_x3 : Int32) (y_x4 : Int32) (y_x5 : Int32) (yS : ms) : Prop := ∃ (b_x1 : Nat) (b_x2 : Nat) (b_x3 : Nat) (b_x4 : Nat) (b_x5 : Nat) (bt : X6), y_x1 = Int32.ofNat b_x1 ∧ y_x2 = Int32.ofNat b_x2 ∧ y_x3 = Int32.ofNat b_x3 ∧ y_x4 = Int32.ofNat b_x4 ∧ y_x5 = Int32.ofNat b_x5 ∧ RM yS bt ∧ xl_e_putSections_53 r_R38 k_K n b_x1 b_x2 b_x3 b_x4 b_x5 bt = true
set_option maxRecDepth 20000 in
theorem xs_e_putSections_53 {x1 : Int32} {a_x1 : Nat} {x2 : Int32} {a_x2 : Nat} {x3 : Int32} {a_x3 : Nat} {x4 : Int32} {a_x4 : Nat} {x5 : Int32} {a_x5 : Nat} {S : ms} {t : X6} {R38 : Int32 → Int32 → Int32 → Int32 → ms → Prop} {r_R38 : Nat → Nat → Nat → Nat → X6 → Bool} {K : ms → Prop} {k_K : X6 → Bool} (h : x_e_putSections_53 a_x1 a_x2 a_x3 a_x4 a_x5 t r_R38 k_K = true) (e_x1 : x1 = Int32.ofNat a_x1) (e_x2 : x2 = Int32.ofNat a_x2) (e_x3 : x3 = Int32.ofNat a_x3) (e_x4 : x4 = Int32.ofNat a_x4) (e_x5 : x5 = Int32.ofNat a_x5) (hS : RM S t) (hR38 : ∀ {y0 : Int32} {b0 : Nat} {y1 : Int32} {b1 : Nat} {y2 : Int32} {b2 : Nat} {y3 : Int32} {b3 : Nat} {yS : ms} {yt : X6}, r_R38 b0 b1 b2 b3 yt = true → y0 = Int32.ofNat b0 → y1 = Int32.ofNat b1 → y2 = Int32.ofNat b2 → y3 = Int32.ofNat b3 → RM yS yt → R38 y0 y1 y2 y3 yS) (hK : ∀ {yS : ms} {yt : X6}, k_K yt = true → RM yS yt → K yS) : e_putSections_53 x1 x2 x3 x4 x5 S R38 K := by
  refine ⟨fun y_x1 y_x2 y_x3 y_x4 y_x5 yS => ∃ n, xq_e_putSections_53 r_R38 k_K n y_x1 y_x2 y_x3 y_x4 y_x5 yS, fun y_x1 y_x2 y_x3 y_x4 y_x5 yS => mf (fun n => xq_e_putSections_53 r_R38 k_K n y_x1 y_x2 y_x3 y_x4 y_x5 yS), ⟨200000, a_x1, a_x2, a_x3, a_x4, a_x5, t, e_x1, e_x2, e_x3, e_x4, e_x5, hS, h⟩, fun y_x1 y_x2 y_x3 y_x4 y_x5 yS hI => ?_⟩
  obtain ⟨m, hm, hq⟩ := mf_ok hI
  obtain ⟨b_x1, b_x2, b_x3, b_x4, b_x5, bt, c_x1, c_x2, c_x3, c_x4, c_x5, cS, h⟩ := hq
  cases m with
  | zero => exact absurd h Bool.false_ne_true
  | succ n => exact xs_b_putSections_53 h c_x1 c_x2 c_x3 c_x4 c_x5 cS hR38 (fun h d_x1 d_x2 d_x3 d_x4 d_x5 dS => ⟨⟨n, _, _, _, _, _, _, d_x1, d_x2, d_x3, d_x4, d_x5, dS, h⟩, Nat.lt_of_le_of_lt (mf_le ⟨_, _, _, _, _, _, d_x1, d_x2, d_x3, d_x4, d_x5, dS, h⟩) (Nat.lt_of_lt_of_eq (Nat.lt_succ_self n) hm.symm)⟩) hK
noncomputable def x_b_putSections_38 (a_x1 : Nat) (a_x2 : Nat) (a_x3 : Nat) (a_x4 : Nat) (t : X6) (r_R38 : Nat → Nat → Nat → Nat → X6 → Bool) (k_K : X6 → Bool) : Bool :=
  cond (!(w_lt a_x4 a_x3)) (x_p_mark 192 t (fun t_S98 => frc (w_add 8 (w_mul 3 a_x2)) fun f2 => x_p_putTwo f2 t_S98 (fun t_S108 => x_p_put 8 t_S108 (fun t_S114 => rfi t_S114 2 fun v4 => x_p_putTwo v4 t_S114 (fun t_S122 => rfi t_S122 1 fun v6 => x_p_putTwo v6 t_S122 (fun t_S130 => x_p_put a_x2 t_S130 (fun t_S135 => x_e_putSections_141 a_x1 a_x2 a_x3 0 t_S135 k_K))))))) (x_p_put a_x4 t (fun t_S47 => x_e_putSections_53 a_x1 a_x2 a_x3 a_x4 0 t_S47 r_R38 k_K))
set_option maxRecDepth 20000 in
set_option maxHeartbeats 1000000 in
theorem xs_b_putSections_38 {x1 : Int32} {a_x1 : Nat} {x2 : Int32} {a_x2 : Nat} {x3 : Int32} {a_x3 : Nat} {x4 : Int32} {a_x4 : Nat} {S : ms} {t : X6} {R38 : Int32 → Int32 → Int32 → Int32 → ms → Prop} {r_R38 : Nat → Nat → Nat → Nat → X6 → Bool} {K : ms → Prop} {k_K : X6 → Bool} (h : x_b_putSections_38 a_x1 a_x2 a_x3 a_x4 t r_R38 k_K = true) (e_x1 : x1 = Int32.ofNat a_x1) (e_x2 : x2 = Int32.ofNat a_x2) (e_x3 : x3 = Int32.ofNat a_x3) (e_x4 : x4 = Int32.ofNat a_x4) (hS : RM S t) (hR38 : ∀ {y0 : Int32} {b0 : Nat} {y1 : Int32} {b1 : Nat} {y2 : Int32} {b2 : Nat} {y3 : Int32} {b3 : Nat} {yS : ms} {yt : X6}, r_R38 b0 b1 b2 b3 yt = true → y0 = Int32.ofNat b0 → y1 = Int32.ofNat b1 → y2 = Int32.ofNat b2 → y3 = Int32.ofNat b3 → RM yS yt → R38 y0 y1 y2 y3 yS) (hK : ∀ {yS : ms} {yt : X6}, k_K yt = true → RM yS yt → K yS) : b_putSections_38 x1 x2 x3 x4 S R38 K := by
  unfold b_putSections_38
  unfold x_b_putSections_38 at h
  have hc1 := c_le' e_x3 e_x4
  refine ⟨fun hc => ?_, fun hc => ?_⟩
  · have h := x_pos h (hc1.mp hc)
    refine xs_p_mark h ((rfl : (192 : Int32) = Int32.ofNat 192)) hS (fun h h_S98 => ?_)
    have h := frc_ok h
    have p3 := n_add ((rfl : (8 : Int32) = Int32.ofNat 8)) (n_mul ((rfl : (3 : Int32) = Int32.ofNat 3)) e_x2)
    refine xs_p_putTwo h p3 h_S98 (fun h h_S108 => ?_)
    refine xs_p_put h ((rfl : (8 : Int32) = Int32.ofNat 8)) h_S108 (fun h h_S114 => ?_)
    obtain ⟨v4, h, q5⟩ := rfi_ok h h_S114
    refine xs_p_putTwo h q5 h_S114 (fun h h_S122 => ?_)
    obtain ⟨v6, h, q7⟩ := rfi_ok h h_S122
    refine xs_p_putTwo h q7 h_S122 (fun h h_S130 => ?_)
    refine xs_p_put h e_x2 h_S130 (fun h h_S135 => ?_)
    exact xs_e_putSections_141 h e_x1 e_x2 e_x3 ((rfl : (0 : Int32) = Int32.ofNat 0)) h_S135 hK
  · have h := x_neg h (fun q => hc (hc1.mpr q))
    refine xs_p_put h e_x4 hS (fun h h_S47 => ?_)
    exact xs_e_putSections_53 h e_x1 e_x2 e_x3 e_x4 ((rfl : (0 : Int32) = Int32.ofNat 0)) h_S47 hR38 hK
noncomputable def xl_e_putSections_38 (k_K : X6 → Bool) (n : Nat) : Nat → Nat → Nat → Nat → X6 → Bool := Nat.rec (motive := fun _ => Nat → Nat → Nat → Nat → X6 → Bool) (fun _ _ _ _ _ => false) (fun _ ih b_x1 b_x2 b_x3 b_x4 bt => x_b_putSections_38 b_x1 b_x2 b_x3 b_x4 bt ih k_K) n
noncomputable def x_e_putSections_38 (a_x1 : Nat) (a_x2 : Nat) (a_x3 : Nat) (a_x4 : Nat) (t : X6) (k_K : X6 → Bool) : Bool := xl_e_putSections_38 k_K 200000 a_x1 a_x2 a_x3 a_x4 t
def xq_e_putSections_38 (k_K : X6 → Bool) (n : Nat) (y_x1 : Int32) (y_x2 : Int32) (y_x3 : Int32) (y_x4 : Int32) (yS : ms) : Prop := ∃ (b_x1 : Nat) (b_x2 : Nat) (b_x3 : Nat) (b_x4 : Nat) (bt : X6), y_x1 = Int32.ofNat b_x1 ∧ y_x2 = Int32.ofNat b_x2 ∧ y_x3 = Int32.ofNat b_x3 ∧ y_x4 = Int32.ofNat b_x4 ∧ RM yS bt ∧ xl_e_putSections_38 k_K n b_x1 b_x2 b_x3 b_x4 bt = true
set_option maxRecDepth 20000 in
theorem xs_e_putSections_38 {x1 : Int32} {a_x1 : Nat} {x2 : Int32} {a_x2 : Nat} {x3 : Int32} {a_x3 : Nat} {x4 : Int32} {a_x4 : Nat} {S : ms} {t : X6} {K : ms → Prop} {k_K : X6 → Bool} (h : x_e_putSections_38 a_x1 a_x2 a_x3 a_x4 t k_K = true) (e_x1 : x1 = Int32.ofNat a_x1) (e_x2 : x2 = Int32.ofNat a_x2) (e_x3 : x3 = Int32.ofNat a_x3) (e_x4 : x4 = Int32.ofNat a_x4) (hS : RM S t) (hK : ∀ {yS : ms} {yt : X6}, k_K yt = true → RM yS yt → K yS) : e_putSections_38 x1 x2 x3 x4 S K := by
  refine ⟨fun y_x1 y_x2 y_x3 y_x4 yS => ∃ n, xq_e_putSections_38 k_K n y_x1 y_x2 y_x3 y_x4 yS, fun y_x1 y_x2 y_x3 y_x4 yS => mf (fun n => xq_e_putSections_38 k_K n y_x1 y_x2 y_x3 y_x4 yS), ⟨200000, a_x1, a_x2, a_x3, a_x4, t, e_x1, e_x2, e_x3, e_x4, hS, h⟩, fun y_x1 y_x2 y_x3 y_x4 yS hI => ?_⟩
  obtain ⟨m, hm, hq⟩ := mf_ok hI
  obtain ⟨b_x1, b_x2, b_x3, b_x4, bt, c_x1, c_x2, c_x3, c_x4, cS, h⟩ := hq
  cases m with
  | zero => exact absurd h Bool.false_ne_true
  | succ n => exact xs_b_putSections_38 h c_x1 c_x2 c_x3 c_x4 cS (fun h d_x1 d_x2 d_x3 d_x4 dS => ⟨⟨n, _, _, _, _, _, d_x1, d_x2, d_x3, d_x4, dS, h⟩, Nat.lt_of_le_of_lt (mf_le ⟨_, _, _, _, _, d_x1, d_x2, d_x3, d_x4, dS, h⟩) (Nat.lt_of_lt_of_eq (Nat.lt_succ_self n) hm.symm)⟩) hK
noncomputable def x_b_putSections_17 (a_x1 : Nat) (a_x2 : Nat) (a_s0 : Nat) (t : X6) (k_K : X6 → Bool) : Bool :=
  x_p_mark 219 t (fun t_S22 => frc (w_add 2 (w_mul 65 a_s0)) fun f1 => x_p_putTwo f1 t_S22 (fun t_S32 => x_e_putSections_38 a_x1 a_x2 a_s0 0 t_S32 k_K))
set_option maxRecDepth 20000 in
set_option maxHeartbeats 1000000 in
theorem xs_b_putSections_17 {x1 : Int32} {a_x1 : Nat} {x2 : Int32} {a_x2 : Nat} {s0 : Int32} {a_s0 : Nat} {S : ms} {t : X6} {K : ms → Prop} {k_K : X6 → Bool} (h : x_b_putSections_17 a_x1 a_x2 a_s0 t k_K = true) (e_x1 : x1 = Int32.ofNat a_x1) (e_x2 : x2 = Int32.ofNat a_x2) (e_s0 : s0 = Int32.ofNat a_s0) (hS : RM S t) (hK : ∀ {yS : ms} {yt : X6}, k_K yt = true → RM yS yt → K yS) : b_putSections_17 x1 x2 s0 S K := by
  unfold b_putSections_17
  unfold x_b_putSections_17 at h
  refine xs_p_mark h ((rfl : (219 : Int32) = Int32.ofNat 219)) hS (fun h h_S22 => ?_)
  have h := frc_ok h
  have p2 := n_add ((rfl : (2 : Int32) = Int32.ofNat 2)) (n_mul ((rfl : (65 : Int32) = Int32.ofNat 65)) e_s0)
  refine xs_p_putTwo h p2 h_S22 (fun h h_S32 => ?_)
  exact xs_e_putSections_38 h e_x1 e_x2 e_s0 ((rfl : (0 : Int32) = Int32.ofNat 0)) h_S32 hK
noncomputable def x_p_putSections (a_x1 : Nat) (t : X6) (k_K : X6 → Bool) : Bool :=
  and (Nat.blt 0 3) <| rrw t 14 0 fun v2 => cond (w_eq v2 1) (x_b_putSections_17 a_x1 v2 1 t k_K) (x_b_putSections_17 a_x1 v2 2 t k_K)
set_option maxRecDepth 20000 in
set_option maxHeartbeats 1000000 in
theorem xs_p_putSections {x1 : Int32} {a_x1 : Nat} {S : ms} {t : X6} {K : ms → Prop} {k_K : X6 → Bool} (h : x_p_putSections a_x1 t k_K = true) (e_x1 : x1 = Int32.ofNat a_x1) (hS : RM S t) (hK : ∀ {yS : ms} {yt : X6}, k_K yt = true → RM yS yt → K yS) : p_putSections x1 S K := by
  unfold p_putSections
  unfold x_p_putSections at h
  obtain ⟨n1, h⟩ := an_ok h
  refine ⟨n_vp ((rfl : (0 : Int32) = Int32.ofNat 0)) n1 (by decide), ?_⟩
  obtain ⟨v2, h, q3⟩ := rrw_ok h hS (by decide) ((rfl : (0 : Int32) = Int32.ofNat 0))
  have hc4 := c_eq' q3 ((rfl : (1 : Int32) = Int32.ofNat 1))
  refine ⟨fun hc => ?_, fun hc => ?_⟩
  · have h := x_neg h (fun q => hc (hc4.mpr q))
    exact xs_b_putSections_17 h e_x1 q3 ((rfl : (2 : Int32) = Int32.ofNat 2)) hS hK
  · have h := x_pos h (hc4.mp hc)
    exact xs_b_putSections_17 h e_x1 q3 ((rfl : (1 : Int32) = Int32.ofNat 1)) hS hK
noncomputable def x_b_makeCode_646 (a_x1 : Nat) (a_x4 : Nat) (a_x5 : Nat) (a_x6 : Nat) (t : X6) (r_R586 : Nat → Nat → Nat → X6 → Bool) (r_R602 : Nat → Nat → Nat → Nat → X6 → Bool) (k_K : X6 → Bool) : Bool :=
  frc (w_add a_x6 1) fun f1 => r_R602 a_x1 a_x4 a_x5 f1 t
set_option maxRecDepth 20000 in
set_option maxHeartbeats 1000000 in
theorem xs_b_makeCode_646 {x1 : Int32} {a_x1 : Nat} {x4 : Int32} {a_x4 : Nat} {x5 : Int32} {a_x5 : Nat} {x6 : Int32} {a_x6 : Nat} {S : ms} {t : X6} {R586 : Int32 → Int32 → Int32 → ms → Prop} {r_R586 : Nat → Nat → Nat → X6 → Bool} {R602 : Int32 → Int32 → Int32 → Int32 → ms → Prop} {r_R602 : Nat → Nat → Nat → Nat → X6 → Bool} {K : ms → Prop} {k_K : X6 → Bool} (h : x_b_makeCode_646 a_x1 a_x4 a_x5 a_x6 t r_R586 r_R602 k_K = true) (e_x1 : x1 = Int32.ofNat a_x1) (e_x4 : x4 = Int32.ofNat a_x4) (e_x5 : x5 = Int32.ofNat a_x5) (e_x6 : x6 = Int32.ofNat a_x6) (hS : RM S t) (hR586 : ∀ {y0 : Int32} {b0 : Nat} {y1 : Int32} {b1 : Nat} {y2 : Int32} {b2 : Nat} {yS : ms} {yt : X6}, r_R586 b0 b1 b2 yt = true → y0 = Int32.ofNat b0 → y1 = Int32.ofNat b1 → y2 = Int32.ofNat b2 → RM yS yt → R586 y0 y1 y2 yS) (hR602 : ∀ {y0 : Int32} {b0 : Nat} {y1 : Int32} {b1 : Nat} {y2 : Int32} {b2 : Nat} {y3 : Int32} {b3 : Nat} {yS : ms} {yt : X6}, r_R602 b0 b1 b2 b3 yt = true → y0 = Int32.ofNat b0 → y1 = Int32.ofNat b1 → y2 = Int32.ofNat b2 → y3 = Int32.ofNat b3 → RM yS yt → R602 y0 y1 y2 y3 yS) (hK : ∀ {yS : ms} {yt : X6}, k_K yt = true → RM yS yt → K yS) : b_makeCode_646 x1 x4 x5 x6 S R586 R602 K := by
  unfold b_makeCode_646
  unfold x_b_makeCode_646 at h
  have h := frc_ok h
  have p2 := n_add e_x6 ((rfl : (1 : Int32) = Int32.ofNat 1))
  exact hR602 h e_x1 e_x4 e_x5 p2 hS
noncomputable def x_b_makeCode_602 (a_x1 : Nat) (a_x4 : Nat) (a_x5 : Nat) (a_x6 : Nat) (t : X6) (r_R586 : Nat → Nat → Nat → X6 → Bool) (r_R602 : Nat → Nat → Nat → Nat → X6 → Bool) (k_K : X6 → Bool) : Bool :=
  cond (!(w_lt a_x6 256)) (frc (w_add a_x5 1) fun f2 => r_R586 a_x1 a_x4 f2 t) (frc (w_add (w_mul 257 a_x1) a_x6) fun f4 => and (Nat.blt f4 1028) <| rrw t 27 f4 fun v7 => cond (w_eq v7 a_x5) (frc (w_add a_x4 1) fun f10 => wrw t 28 f4 a_x4 fun t12 => x_b_makeCode_646 a_x1 f10 a_x5 a_x6 t12 r_R586 r_R602 k_K) (x_b_makeCode_646 a_x1 a_x4 a_x5 a_x6 t r_R586 r_R602 k_K))
set_option maxRecDepth 20000 in
set_option maxHeartbeats 1000000 in
theorem xs_b_makeCode_602 {x1 : Int32} {a_x1 : Nat} {x4 : Int32} {a_x4 : Nat} {x5 : Int32} {a_x5 : Nat} {x6 : Int32} {a_x6 : Nat} {S : ms} {t : X6} {R586 : Int32 → Int32 → Int32 → ms → Prop} {r_R586 : Nat → Nat → Nat → X6 → Bool} {R602 : Int32 → Int32 → Int32 → Int32 → ms → Prop} {r_R602 : Nat → Nat → Nat → Nat → X6 → Bool} {K : ms → Prop} {k_K : X6 → Bool} (h : x_b_makeCode_602 a_x1 a_x4 a_x5 a_x6 t r_R586 r_R602 k_K = true) (e_x1 : x1 = Int32.ofNat a_x1) (e_x4 : x4 = Int32.ofNat a_x4) (e_x5 : x5 = Int32.ofNat a_x5) (e_x6 : x6 = Int32.ofNat a_x6) (hS : RM S t) (hR586 : ∀ {y0 : Int32} {b0 : Nat} {y1 : Int32} {b1 : Nat} {y2 : Int32} {b2 : Nat} {yS : ms} {yt : X6}, r_R586 b0 b1 b2 yt = true → y0 = Int32.ofNat b0 → y1 = Int32.ofNat b1 → y2 = Int32.ofNat b2 → RM yS yt → R586 y0 y1 y2 yS) (hR602 : ∀ {y0 : Int32} {b0 : Nat} {y1 : Int32} {b1 : Nat} {y2 : Int32} {b2 : Nat} {y3 : Int32} {b3 : Nat} {yS : ms} {yt : X6}, r_R602 b0 b1 b2 b3 yt = true → y0 = Int32.ofNat b0 → y1 = Int32.ofNat b1 → y2 = Int32.ofNat b2 → y3 = Int32.ofNat b3 → RM yS yt → R602 y0 y1 y2 y3 yS) (hK : ∀ {yS : ms} {yt : X6}, k_K yt = true → RM yS yt → K yS) : b_makeCode_602 x1 x4 x5 x6 S R586 R602 K := by
  unfold b_makeCode_602
  unfold x_b_makeCode_602 at h
  have hc1 := c_le' ((rfl : (256 : Int32) = Int32.ofNat 256)) e_x6
  refine ⟨fun hc => ?_, fun hc => ?_⟩
  · have h := x_pos h (hc1.mp hc)
    have h := frc_ok h
    have p3 := n_add e_x5 ((rfl : (1 : Int32) = Int32.ofNat 1))
    exact hR586 h e_x1 e_x4 p3 hS
  · have h := x_neg h (fun q => hc (hc1.mpr q))
    have h := frc_ok h
    have p5 := n_add (n_mul ((rfl : (257 : Int32) = Int32.ofNat 257)) e_x1) e_x6
    obtain ⟨n6, h⟩ := an_ok h
    refine ⟨n_vp p5 n6 (by decide), ?_⟩
    obtain ⟨v7, h, q8⟩ := rrw_ok h hS (by decide) p5
    have hc9 := c_eq' q8 e_x5
    refine ⟨fun hc => ?_, fun hc => ?_⟩
    · have h := x_neg h (fun q => hc (hc9.mpr q))
      exact xs_b_makeCode_646 h e_x1 e_x4 e_x5 e_x6 hS hR586 hR602 hK
    · have h := x_pos h (hc9.mp hc)
      refine ⟨n_vp p5 n6 (by decide), ?_⟩
      have h := frc_ok h
      have p11 := n_add e_x4 ((rfl : (1 : Int32) = Int32.ofNat 1))
      obtain ⟨t12, h, hS13⟩ := wrw_ok h hS (by decide) p5 e_x4
      exact xs_b_makeCode_646 h e_x1 p11 e_x5 e_x6 hS13 hR586 hR602 hK
noncomputable def xl_e_makeCode_602 (r_R586 : Nat → Nat → Nat → X6 → Bool) (k_K : X6 → Bool) (n : Nat) : Nat → Nat → Nat → Nat → X6 → Bool := Nat.rec (motive := fun _ => Nat → Nat → Nat → Nat → X6 → Bool) (fun _ _ _ _ _ => false) (fun _ ih b_x1 b_x4 b_x5 b_x6 bt => x_b_makeCode_602 b_x1 b_x4 b_x5 b_x6 bt r_R586 ih k_K) n
noncomputable def x_e_makeCode_602 (a_x1 : Nat) (a_x4 : Nat) (a_x5 : Nat) (a_x6 : Nat) (t : X6) (r_R586 : Nat → Nat → Nat → X6 → Bool) (k_K : X6 → Bool) : Bool := xl_e_makeCode_602 r_R586 k_K 200000 a_x1 a_x4 a_x5 a_x6 t
def xq_e_makeCode_602 (r_R586 : Nat → Nat → Nat → X6 → Bool) (k_K : X6 → Bool) (n : Nat) (y_x1 : Int32) (y_x4 : Int32) (y_x5 : Int32) (y_x6 : Int32) (yS : ms) : Prop := ∃ (b_x1 : Nat) (b_x4 : Nat) (b_x5 : Nat) (b_x6 : Nat) (bt : X6), y_x1 = Int32.ofNat b_x1 ∧ y_x4 = Int32.ofNat b_x4 ∧ y_x5 = Int32.ofNat b_x5 ∧ y_x6 = Int32.ofNat b_x6 ∧ RM yS bt ∧ xl_e_makeCode_602 r_R586 k_K n b_x1 b_x4 b_x5 b_x6 bt = true
set_option maxRecDepth 20000 in
theorem xs_e_makeCode_602 {x1 : Int32} {a_x1 : Nat} {x4 : Int32} {a_x4 : Nat} {x5 : Int32} {a_x5 : Nat} {x6 : Int32} {a_x6 : Nat} {S : ms} {t : X6} {R586 : Int32 → Int32 → Int32 → ms → Prop} {r_R586 : Nat → Nat → Nat → X6 → Bool} {K : ms → Prop} {k_K : X6 → Bool} (h : x_e_makeCode_602 a_x1 a_x4 a_x5 a_x6 t r_R586 k_K = true) (e_x1 : x1 = Int32.ofNat a_x1) (e_x4 : x4 = Int32.ofNat a_x4) (e_x5 : x5 = Int32.ofNat a_x5) (e_x6 : x6 = Int32.ofNat a_x6) (hS : RM S t) (hR586 : ∀ {y0 : Int32} {b0 : Nat} {y1 : Int32} {b1 : Nat} {y2 : Int32} {b2 : Nat} {yS : ms} {yt : X6}, r_R586 b0 b1 b2 yt = true → y0 = Int32.ofNat b0 → y1 = Int32.ofNat b1 → y2 = Int32.ofNat b2 → RM yS yt → R586 y0 y1 y2 yS) (hK : ∀ {yS : ms} {yt : X6}, k_K yt = true → RM yS yt → K yS) : e_makeCode_602 x1 x4 x5 x6 S R586 K := by
  refine ⟨fun y_x1 y_x4 y_x5 y_x6 yS => ∃ n, xq_e_makeCode_602 r_R586 k_K n y_x1 y_x4 y_x5 y_x6 yS, fun y_x1 y_x4 y_x5 y_x6 yS => mf (fun n => xq_e_makeCode_602 r_R586 k_K n y_x1 y_x4 y_x5 y_x6 yS), ⟨200000, a_x1, a_x4, a_x5, a_x6, t, e_x1, e_x4, e_x5, e_x6, hS, h⟩, fun y_x1 y_x4 y_x5 y_x6 yS hI => ?_⟩
  obtain ⟨m, hm, hq⟩ := mf_ok hI
  obtain ⟨b_x1, b_x4, b_x5, b_x6, bt, c_x1, c_x4, c_x5, c_x6, cS, h⟩ := hq
  cases m with
  | zero => exact absurd h Bool.false_ne_true
  | succ n => exact xs_b_makeCode_602 h c_x1 c_x4 c_x5 c_x6 cS hR586 (fun h d_x1 d_x4 d_x5 d_x6 dS => ⟨⟨n, _, _, _, _, _, d_x1, d_x4, d_x5, d_x6, dS, h⟩, Nat.lt_of_le_of_lt (mf_le ⟨_, _, _, _, _, d_x1, d_x4, d_x5, d_x6, dS, h⟩) (Nat.lt_of_lt_of_eq (Nat.lt_succ_self n) hm.symm)⟩) hK
noncomputable def x_b_makeCode_586 (a_x1 : Nat) (a_x4 : Nat) (a_x5 : Nat) (t : X6) (r_R586 : Nat → Nat → Nat → X6 → Bool) (k_K : X6 → Bool) : Bool :=
  cond (w_lt 16 a_x5) (k_K t) (frc (w_mul 2 a_x4) fun f2 => x_e_makeCode_602 a_x1 f2 a_x5 0 t r_R586 k_K)
set_option maxRecDepth 20000 in
set_option maxHeartbeats 1000000 in
theorem xs_b_makeCode_586 {x1 : Int32} {a_x1 : Nat} {x4 : Int32} {a_x4 : Nat} {x5 : Int32} {a_x5 : Nat} {S : ms} {t : X6} {R586 : Int32 → Int32 → Int32 → ms → Prop} {r_R586 : Nat → Nat → Nat → X6 → Bool} {K : ms → Prop} {k_K : X6 → Bool} (h : x_b_makeCode_586 a_x1 a_x4 a_x5 t r_R586 k_K = true) (e_x1 : x1 = Int32.ofNat a_x1) (e_x4 : x4 = Int32.ofNat a_x4) (e_x5 : x5 = Int32.ofNat a_x5) (hS : RM S t) (hR586 : ∀ {y0 : Int32} {b0 : Nat} {y1 : Int32} {b1 : Nat} {y2 : Int32} {b2 : Nat} {yS : ms} {yt : X6}, r_R586 b0 b1 b2 yt = true → y0 = Int32.ofNat b0 → y1 = Int32.ofNat b1 → y2 = Int32.ofNat b2 → RM yS yt → R586 y0 y1 y2 yS) (hK : ∀ {yS : ms} {yt : X6}, k_K yt = true → RM yS yt → K yS) : b_makeCode_586 x1 x4 x5 S R586 K := by
  unfold b_makeCode_586
  unfold x_b_makeCode_586 at h
  have hc1 := c_lt' ((rfl : (16 : Int32) = Int32.ofNat 16)) e_x5
  refine ⟨fun hc => ?_, fun hc => ?_⟩
  · have h := x_pos h (hc1.mp hc)
    exact hK h hS
  · have h := x_neg h (fun q => hc (hc1.mpr q))
    have h := frc_ok h
    have p3 := n_mul ((rfl : (2 : Int32) = Int32.ofNat 2)) e_x4
    exact xs_e_makeCode_602 h e_x1 p3 e_x5 ((rfl : (0 : Int32) = Int32.ofNat 0)) hS hR586 hK
noncomputable def xl_e_makeCode_586 (k_K : X6 → Bool) (n : Nat) : Nat → Nat → Nat → X6 → Bool := Nat.rec (motive := fun _ => Nat → Nat → Nat → X6 → Bool) (fun _ _ _ _ => false) (fun _ ih b_x1 b_x4 b_x5 bt => x_b_makeCode_586 b_x1 b_x4 b_x5 bt ih k_K) n
noncomputable def x_e_makeCode_586 (a_x1 : Nat) (a_x4 : Nat) (a_x5 : Nat) (t : X6) (k_K : X6 → Bool) : Bool := xl_e_makeCode_586 k_K 200000 a_x1 a_x4 a_x5 t
def xq_e_makeCode_586 (k_K : X6 → Bool) (n : Nat) (y_x1 : Int32) (y_x4 : Int32) (y_x5 : Int32) (yS : ms) : Prop := ∃ (b_x1 : Nat) (b_x4 : Nat) (b_x5 : Nat) (bt : X6), y_x1 = Int32.ofNat b_x1 ∧ y_x4 = Int32.ofNat b_x4 ∧ y_x5 = Int32.ofNat b_x5 ∧ RM yS bt ∧ xl_e_makeCode_586 k_K n b_x1 b_x4 b_x5 bt = true
set_option maxRecDepth 20000 in
theorem xs_e_makeCode_586 {x1 : Int32} {a_x1 : Nat} {x4 : Int32} {a_x4 : Nat} {x5 : Int32} {a_x5 : Nat} {S : ms} {t : X6} {K : ms → Prop} {k_K : X6 → Bool} (h : x_e_makeCode_586 a_x1 a_x4 a_x5 t k_K = true) (e_x1 : x1 = Int32.ofNat a_x1) (e_x4 : x4 = Int32.ofNat a_x4) (e_x5 : x5 = Int32.ofNat a_x5) (hS : RM S t) (hK : ∀ {yS : ms} {yt : X6}, k_K yt = true → RM yS yt → K yS) : e_makeCode_586 x1 x4 x5 S K := by
  refine ⟨fun y_x1 y_x4 y_x5 yS => ∃ n, xq_e_makeCode_586 k_K n y_x1 y_x4 y_x5 yS, fun y_x1 y_x4 y_x5 yS => mf (fun n => xq_e_makeCode_586 k_K n y_x1 y_x4 y_x5 yS), ⟨200000, a_x1, a_x4, a_x5, t, e_x1, e_x4, e_x5, hS, h⟩, fun y_x1 y_x4 y_x5 yS hI => ?_⟩
  obtain ⟨m, hm, hq⟩ := mf_ok hI
  obtain ⟨b_x1, b_x4, b_x5, bt, c_x1, c_x4, c_x5, cS, h⟩ := hq
  cases m with
  | zero => exact absurd h Bool.false_ne_true
  | succ n => exact xs_b_makeCode_586 h c_x1 c_x4 c_x5 cS (fun h d_x1 d_x4 d_x5 dS => ⟨⟨n, _, _, _, _, d_x1, d_x4, d_x5, dS, h⟩, Nat.lt_of_le_of_lt (mf_le ⟨_, _, _, _, d_x1, d_x4, d_x5, dS, h⟩) (Nat.lt_of_lt_of_eq (Nat.lt_succ_self n) hm.symm)⟩) hK
noncomputable def x_b_makeCode_568 (a_x1 : Nat) (a_x4 : Nat) (a_x5 : Nat) (t : X6) (r_R446 : Nat → Nat → X6 → Bool) (r_R454 : Nat → Nat → Nat → X6 → Bool) (k_K : X6 → Bool) : Bool :=
  frc (w_add a_x5 1) fun f1 => r_R454 a_x1 a_x4 f1 t
set_option maxRecDepth 20000 in
set_option maxHeartbeats 1000000 in
theorem xs_b_makeCode_568 {x1 : Int32} {a_x1 : Nat} {x4 : Int32} {a_x4 : Nat} {x5 : Int32} {a_x5 : Nat} {S : ms} {t : X6} {R446 : Int32 → Int32 → ms → Prop} {r_R446 : Nat → Nat → X6 → Bool} {R454 : Int32 → Int32 → Int32 → ms → Prop} {r_R454 : Nat → Nat → Nat → X6 → Bool} {K : ms → Prop} {k_K : X6 → Bool} (h : x_b_makeCode_568 a_x1 a_x4 a_x5 t r_R446 r_R454 k_K = true) (e_x1 : x1 = Int32.ofNat a_x1) (e_x4 : x4 = Int32.ofNat a_x4) (e_x5 : x5 = Int32.ofNat a_x5) (hS : RM S t) (hR446 : ∀ {y0 : Int32} {b0 : Nat} {y1 : Int32} {b1 : Nat} {yS : ms} {yt : X6}, r_R446 b0 b1 yt = true → y0 = Int32.ofNat b0 → y1 = Int32.ofNat b1 → RM yS yt → R446 y0 y1 yS) (hR454 : ∀ {y0 : Int32} {b0 : Nat} {y1 : Int32} {b1 : Nat} {y2 : Int32} {b2 : Nat} {yS : ms} {yt : X6}, r_R454 b0 b1 b2 yt = true → y0 = Int32.ofNat b0 → y1 = Int32.ofNat b1 → y2 = Int32.ofNat b2 → RM yS yt → R454 y0 y1 y2 yS) (hK : ∀ {yS : ms} {yt : X6}, k_K yt = true → RM yS yt → K yS) : b_makeCode_568 x1 x4 x5 S R446 R454 K := by
  unfold b_makeCode_568
  unfold x_b_makeCode_568 at h
  have h := frc_ok h
  have p2 := n_add e_x5 ((rfl : (1 : Int32) = Int32.ofNat 1))
  exact hR454 h e_x1 e_x4 p2 hS
noncomputable def x_b_makeCode_518 (a_x1 : Nat) (a_x4 : Nat) (a_x5 : Nat) (a_x6 : Nat) (t : X6) (r_R446 : Nat → Nat → X6 → Bool) (r_R454 : Nat → Nat → Nat → X6 → Bool) (k_K : X6 → Bool) : Bool :=
  and (Nat.blt a_x6 8320) <| rrw t 31 a_x6 fun v2 => cond (!(w_lt 0 v2)) (x_b_makeCode_568 a_x1 a_x4 a_x5 t r_R446 r_R454 k_K) (rrw t 30 a_x6 fun v5 => frc (w_add (w_mul 520 (w_sub a_x4 1)) (w_mul 2 (w_sub 4294967295 v5))) fun f7 => and (Nat.blt f7 8320) <| frc (w_add (w_add (w_mul 520 (w_sub a_x4 1)) (w_mul 2 (w_sub 4294967295 v5))) 1) fun f10 => and (Nat.blt f10 8320) <| wrw t 31 f7 1 fun t13 => wrw t13 31 f10 1 fun t15 => x_b_makeCode_568 a_x1 a_x4 a_x5 t15 r_R446 r_R454 k_K)
set_option maxRecDepth 20000 in
set_option maxHeartbeats 1000000 in
theorem xs_b_makeCode_518 {x1 : Int32} {a_x1 : Nat} {x4 : Int32} {a_x4 : Nat} {x5 : Int32} {a_x5 : Nat} {x6 : Int32} {a_x6 : Nat} {S : ms} {t : X6} {R446 : Int32 → Int32 → ms → Prop} {r_R446 : Nat → Nat → X6 → Bool} {R454 : Int32 → Int32 → Int32 → ms → Prop} {r_R454 : Nat → Nat → Nat → X6 → Bool} {K : ms → Prop} {k_K : X6 → Bool} (h : x_b_makeCode_518 a_x1 a_x4 a_x5 a_x6 t r_R446 r_R454 k_K = true) (e_x1 : x1 = Int32.ofNat a_x1) (e_x4 : x4 = Int32.ofNat a_x4) (e_x5 : x5 = Int32.ofNat a_x5) (e_x6 : x6 = Int32.ofNat a_x6) (hS : RM S t) (hR446 : ∀ {y0 : Int32} {b0 : Nat} {y1 : Int32} {b1 : Nat} {yS : ms} {yt : X6}, r_R446 b0 b1 yt = true → y0 = Int32.ofNat b0 → y1 = Int32.ofNat b1 → RM yS yt → R446 y0 y1 yS) (hR454 : ∀ {y0 : Int32} {b0 : Nat} {y1 : Int32} {b1 : Nat} {y2 : Int32} {b2 : Nat} {yS : ms} {yt : X6}, r_R454 b0 b1 b2 yt = true → y0 = Int32.ofNat b0 → y1 = Int32.ofNat b1 → y2 = Int32.ofNat b2 → RM yS yt → R454 y0 y1 y2 yS) (hK : ∀ {yS : ms} {yt : X6}, k_K yt = true → RM yS yt → K yS) : b_makeCode_518 x1 x4 x5 x6 S R446 R454 K := by
  unfold b_makeCode_518
  unfold x_b_makeCode_518 at h
  obtain ⟨n1, h⟩ := an_ok h
  refine ⟨n_vp e_x6 n1 (by decide), ?_⟩
  obtain ⟨v2, h, q3⟩ := rrw_ok h hS (by decide) e_x6
  have hc4 := c_le' q3 ((rfl : (0 : Int32) = Int32.ofNat 0))
  refine ⟨fun hc => ?_, fun hc => ?_⟩
  · have h := x_pos h (hc4.mp hc)
    exact xs_b_makeCode_568 h e_x1 e_x4 e_x5 hS hR446 hR454 hK
  · have h := x_neg h (fun q => hc (hc4.mpr q))
    refine ⟨n_vp e_x6 n1 (by decide), ?_⟩
    obtain ⟨v5, h, q6⟩ := rrw_ok h hS (by decide) e_x6
    have h := frc_ok h
    have p8 := n_add (n_mul ((rfl : (520 : Int32) = Int32.ofNat 520)) (n_sub e_x4 ((rfl : (1 : Int32) = Int32.ofNat 1)))) (n_mul ((rfl : (2 : Int32) = Int32.ofNat 2)) (n_sub (((by decide) : (-1 : Int32) = Int32.ofNat 4294967295)) q6))
    obtain ⟨n9, h⟩ := an_ok h
    refine ⟨n_vp p8 n9 (by decide), ?_⟩
    have h := frc_ok h
    have p11 := n_add (n_add (n_mul ((rfl : (520 : Int32) = Int32.ofNat 520)) (n_sub e_x4 ((rfl : (1 : Int32) = Int32.ofNat 1)))) (n_mul ((rfl : (2 : Int32) = Int32.ofNat 2)) (n_sub (((by decide) : (-1 : Int32) = Int32.ofNat 4294967295)) q6))) ((rfl : (1 : Int32) = Int32.ofNat 1))
    obtain ⟨n12, h⟩ := an_ok h
    refine ⟨n_vp p11 n12 (by decide), ?_⟩
    obtain ⟨t13, h, hS14⟩ := wrw_ok h hS (by decide) p8 ((rfl : (1 : Int32) = Int32.ofNat 1))
    obtain ⟨t15, h, hS16⟩ := wrw_ok h hS14 (by decide) p11 ((rfl : (1 : Int32) = Int32.ofNat 1))
    exact xs_b_makeCode_568 h e_x1 e_x4 e_x5 hS16 hR446 hR454 hK
noncomputable def x_b_makeCode_454 (a_x1 : Nat) (a_x4 : Nat) (a_x5 : Nat) (t : X6) (r_R446 : Nat → Nat → X6 → Bool) (r_R454 : Nat → Nat → Nat → X6 → Bool) (k_K : X6 → Bool) : Bool :=
  cond (!(w_lt a_x5 520)) (frc (w_add a_x4 4294967295) fun f2 => r_R446 a_x1 f2 t) (frc (w_add (w_mul 520 a_x4) a_x5) fun f4 => and (Nat.blt f4 8320) <| rrw t 31 f4 fun v7 => cond (!(w_lt 0 v7)) (x_b_makeCode_518 a_x1 a_x4 a_x5 f4 t r_R446 r_R454 k_K) (rrw t 30 f4 fun v10 => cond (w_lt v10 0) (x_b_makeCode_518 a_x1 a_x4 a_x5 f4 t r_R446 r_R454 k_K) (frc (w_add (w_mul 257 a_x1) v10) fun f13 => and (Nat.blt f13 1028) <| rrw t 27 f13 fun v18 => frc (w_add v18 1) fun f20 => wrw t 27 f13 f20 fun t16 => x_b_makeCode_568 a_x1 a_x4 a_x5 t16 r_R446 r_R454 k_K)))
set_option maxRecDepth 20000 in
set_option maxHeartbeats 1000000 in
theorem xs_b_makeCode_454 {x1 : Int32} {a_x1 : Nat} {x4 : Int32} {a_x4 : Nat} {x5 : Int32} {a_x5 : Nat} {S : ms} {t : X6} {R446 : Int32 → Int32 → ms → Prop} {r_R446 : Nat → Nat → X6 → Bool} {R454 : Int32 → Int32 → Int32 → ms → Prop} {r_R454 : Nat → Nat → Nat → X6 → Bool} {K : ms → Prop} {k_K : X6 → Bool} (h : x_b_makeCode_454 a_x1 a_x4 a_x5 t r_R446 r_R454 k_K = true) (e_x1 : x1 = Int32.ofNat a_x1) (e_x4 : x4 = Int32.ofNat a_x4) (e_x5 : x5 = Int32.ofNat a_x5) (hS : RM S t) (hR446 : ∀ {y0 : Int32} {b0 : Nat} {y1 : Int32} {b1 : Nat} {yS : ms} {yt : X6}, r_R446 b0 b1 yt = true → y0 = Int32.ofNat b0 → y1 = Int32.ofNat b1 → RM yS yt → R446 y0 y1 yS) (hR454 : ∀ {y0 : Int32} {b0 : Nat} {y1 : Int32} {b1 : Nat} {y2 : Int32} {b2 : Nat} {yS : ms} {yt : X6}, r_R454 b0 b1 b2 yt = true → y0 = Int32.ofNat b0 → y1 = Int32.ofNat b1 → y2 = Int32.ofNat b2 → RM yS yt → R454 y0 y1 y2 yS) (hK : ∀ {yS : ms} {yt : X6}, k_K yt = true → RM yS yt → K yS) : b_makeCode_454 x1 x4 x5 S R446 R454 K := by
  unfold b_makeCode_454
  unfold x_b_makeCode_454 at h
  have hc1 := c_le' ((rfl : (520 : Int32) = Int32.ofNat 520)) e_x5
  refine ⟨fun hc => ?_, fun hc => ?_⟩
  · have h := x_pos h (hc1.mp hc)
    have h := frc_ok h
    have p3 := n_add e_x4 (((by decide) : (-1 : Int32) = Int32.ofNat 4294967295))
    exact hR446 h e_x1 p3 hS
  · have h := x_neg h (fun q => hc (hc1.mpr q))
    have h := frc_ok h
    have p5 := n_add (n_mul ((rfl : (520 : Int32) = Int32.ofNat 520)) e_x4) e_x5
    obtain ⟨n6, h⟩ := an_ok h
    refine ⟨n_vp p5 n6 (by decide), ?_⟩
    obtain ⟨v7, h, q8⟩ := rrw_ok h hS (by decide) p5
    have hc9 := c_le' q8 ((rfl : (0 : Int32) = Int32.ofNat 0))
    refine ⟨fun hc => ?_, fun hc => ?_⟩
    · have h := x_pos h (hc9.mp hc)
      exact xs_b_makeCode_518 h e_x1 e_x4 e_x5 p5 hS hR446 hR454 hK
    · have h := x_neg h (fun q => hc (hc9.mpr q))
      refine ⟨n_vp p5 n6 (by decide), ?_⟩
      obtain ⟨v10, h, q11⟩ := rrw_ok h hS (by decide) p5
      have hc12 := c_lt' q11 ((rfl : (0 : Int32) = Int32.ofNat 0))
      refine ⟨fun hc => ?_, fun hc => ?_⟩
      · have h := x_pos h (hc12.mp hc)
        exact xs_b_makeCode_518 h e_x1 e_x4 e_x5 p5 hS hR446 hR454 hK
      · have h := x_neg h (fun q => hc (hc12.mpr q))
        refine ⟨n_vp p5 n6 (by decide), ?_⟩
        have h := frc_ok h
        have p14 := n_add (n_mul ((rfl : (257 : Int32) = Int32.ofNat 257)) e_x1) q11
        obtain ⟨n15, h⟩ := an_ok h
        refine ⟨n_vp p14 n15 (by decide), ?_⟩
        refine ⟨n_vp p14 n15 (by decide), ?_⟩
        obtain ⟨v18, h, q19⟩ := rrw_ok h hS (by decide) p14
        have h := frc_ok h
        have p21 := n_add q19 ((rfl : (1 : Int32) = Int32.ofNat 1))
        obtain ⟨t16, h, hS17⟩ := wrw_ok h hS (by decide) p14 p21
        exact xs_b_makeCode_568 h e_x1 e_x4 e_x5 hS17 hR446 hR454 hK
noncomputable def xl_e_makeCode_454 (r_R446 : Nat → Nat → X6 → Bool) (k_K : X6 → Bool) (n : Nat) : Nat → Nat → Nat → X6 → Bool := Nat.rec (motive := fun _ => Nat → Nat → Nat → X6 → Bool) (fun _ _ _ _ => false) (fun _ ih b_x1 b_x4 b_x5 bt => x_b_makeCode_454 b_x1 b_x4 b_x5 bt r_R446 ih k_K) n
noncomputable def x_e_makeCode_454 (a_x1 : Nat) (a_x4 : Nat) (a_x5 : Nat) (t : X6) (r_R446 : Nat → Nat → X6 → Bool) (k_K : X6 → Bool) : Bool := xl_e_makeCode_454 r_R446 k_K 200000 a_x1 a_x4 a_x5 t
def xq_e_makeCode_454 (r_R446 : Nat → Nat → X6 → Bool) (k_K : X6 → Bool) (n : Nat) (y_x1 : Int32) (y_x4 : Int32) (y_x5 : Int32) (yS : ms) : Prop := ∃ (b_x1 : Nat) (b_x4 : Nat) (b_x5 : Nat) (bt : X6), y_x1 = Int32.ofNat b_x1 ∧ y_x4 = Int32.ofNat b_x4 ∧ y_x5 = Int32.ofNat b_x5 ∧ RM yS bt ∧ xl_e_makeCode_454 r_R446 k_K n b_x1 b_x4 b_x5 bt = true
set_option maxRecDepth 20000 in
theorem xs_e_makeCode_454 {x1 : Int32} {a_x1 : Nat} {x4 : Int32} {a_x4 : Nat} {x5 : Int32} {a_x5 : Nat} {S : ms} {t : X6} {R446 : Int32 → Int32 → ms → Prop} {r_R446 : Nat → Nat → X6 → Bool} {K : ms → Prop} {k_K : X6 → Bool} (h : x_e_makeCode_454 a_x1 a_x4 a_x5 t r_R446 k_K = true) (e_x1 : x1 = Int32.ofNat a_x1) (e_x4 : x4 = Int32.ofNat a_x4) (e_x5 : x5 = Int32.ofNat a_x5) (hS : RM S t) (hR446 : ∀ {y0 : Int32} {b0 : Nat} {y1 : Int32} {b1 : Nat} {yS : ms} {yt : X6}, r_R446 b0 b1 yt = true → y0 = Int32.ofNat b0 → y1 = Int32.ofNat b1 → RM yS yt → R446 y0 y1 yS) (hK : ∀ {yS : ms} {yt : X6}, k_K yt = true → RM yS yt → K yS) : e_makeCode_454 x1 x4 x5 S R446 K := by
  refine ⟨fun y_x1 y_x4 y_x5 yS => ∃ n, xq_e_makeCode_454 r_R446 k_K n y_x1 y_x4 y_x5 yS, fun y_x1 y_x4 y_x5 yS => mf (fun n => xq_e_makeCode_454 r_R446 k_K n y_x1 y_x4 y_x5 yS), ⟨200000, a_x1, a_x4, a_x5, t, e_x1, e_x4, e_x5, hS, h⟩, fun y_x1 y_x4 y_x5 yS hI => ?_⟩
  obtain ⟨m, hm, hq⟩ := mf_ok hI
  obtain ⟨b_x1, b_x4, b_x5, bt, c_x1, c_x4, c_x5, cS, h⟩ := hq
  cases m with
  | zero => exact absurd h Bool.false_ne_true
  | succ n => exact xs_b_makeCode_454 h c_x1 c_x4 c_x5 cS hR446 (fun h d_x1 d_x4 d_x5 dS => ⟨⟨n, _, _, _, _, d_x1, d_x4, d_x5, dS, h⟩, Nat.lt_of_le_of_lt (mf_le ⟨_, _, _, _, d_x1, d_x4, d_x5, dS, h⟩) (Nat.lt_of_lt_of_eq (Nat.lt_succ_self n) hm.symm)⟩) hK
noncomputable def x_b_makeCode_446 (a_x1 : Nat) (a_x4 : Nat) (t : X6) (r_R446 : Nat → Nat → X6 → Bool) (k_K : X6 → Bool) : Bool :=
  cond (w_lt a_x4 0) (x_e_makeCode_586 a_x1 0 1 t k_K) (x_e_makeCode_454 a_x1 a_x4 0 t r_R446 k_K)
set_option maxRecDepth 20000 in
set_option maxHeartbeats 1000000 in
theorem xs_b_makeCode_446 {x1 : Int32} {a_x1 : Nat} {x4 : Int32} {a_x4 : Nat} {S : ms} {t : X6} {R446 : Int32 → Int32 → ms → Prop} {r_R446 : Nat → Nat → X6 → Bool} {K : ms → Prop} {k_K : X6 → Bool} (h : x_b_makeCode_446 a_x1 a_x4 t r_R446 k_K = true) (e_x1 : x1 = Int32.ofNat a_x1) (e_x4 : x4 = Int32.ofNat a_x4) (hS : RM S t) (hR446 : ∀ {y0 : Int32} {b0 : Nat} {y1 : Int32} {b1 : Nat} {yS : ms} {yt : X6}, r_R446 b0 b1 yt = true → y0 = Int32.ofNat b0 → y1 = Int32.ofNat b1 → RM yS yt → R446 y0 y1 yS) (hK : ∀ {yS : ms} {yt : X6}, k_K yt = true → RM yS yt → K yS) : b_makeCode_446 x1 x4 S R446 K := by
  unfold b_makeCode_446
  unfold x_b_makeCode_446 at h
  have hc1 := c_lt' e_x4 ((rfl : (0 : Int32) = Int32.ofNat 0))
  refine ⟨fun hc => ?_, fun hc => ?_⟩
  · have h := x_pos h (hc1.mp hc)
    exact xs_e_makeCode_586 h e_x1 ((rfl : (0 : Int32) = Int32.ofNat 0)) ((rfl : (1 : Int32) = Int32.ofNat 1)) hS hK
  · have h := x_neg h (fun q => hc (hc1.mpr q))
    exact xs_e_makeCode_454 h e_x1 e_x4 ((rfl : (0 : Int32) = Int32.ofNat 0)) hS hR446 hK
noncomputable def xl_e_makeCode_446 (k_K : X6 → Bool) (n : Nat) : Nat → Nat → X6 → Bool := Nat.rec (motive := fun _ => Nat → Nat → X6 → Bool) (fun _ _ _ => false) (fun _ ih b_x1 b_x4 bt => x_b_makeCode_446 b_x1 b_x4 bt ih k_K) n
noncomputable def x_e_makeCode_446 (a_x1 : Nat) (a_x4 : Nat) (t : X6) (k_K : X6 → Bool) : Bool := xl_e_makeCode_446 k_K 200000 a_x1 a_x4 t
def xq_e_makeCode_446 (k_K : X6 → Bool) (n : Nat) (y_x1 : Int32) (y_x4 : Int32) (yS : ms) : Prop := ∃ (b_x1 : Nat) (b_x4 : Nat) (bt : X6), y_x1 = Int32.ofNat b_x1 ∧ y_x4 = Int32.ofNat b_x4 ∧ RM yS bt ∧ xl_e_makeCode_446 k_K n b_x1 b_x4 bt = true
set_option maxRecDepth 20000 in
theorem xs_e_makeCode_446 {x1 : Int32} {a_x1 : Nat} {x4 : Int32} {a_x4 : Nat} {S : ms} {t : X6} {K : ms → Prop} {k_K : X6 → Bool} (h : x_e_makeCode_446 a_x1 a_x4 t k_K = true) (e_x1 : x1 = Int32.ofNat a_x1) (e_x4 : x4 = Int32.ofNat a_x4) (hS : RM S t) (hK : ∀ {yS : ms} {yt : X6}, k_K yt = true → RM yS yt → K yS) : e_makeCode_446 x1 x4 S K := by
  refine ⟨fun y_x1 y_x4 yS => ∃ n, xq_e_makeCode_446 k_K n y_x1 y_x4 yS, fun y_x1 y_x4 yS => mf (fun n => xq_e_makeCode_446 k_K n y_x1 y_x4 yS), ⟨200000, a_x1, a_x4, t, e_x1, e_x4, hS, h⟩, fun y_x1 y_x4 yS hI => ?_⟩
  obtain ⟨m, hm, hq⟩ := mf_ok hI
  obtain ⟨b_x1, b_x4, bt, c_x1, c_x4, cS, h⟩ := hq
  cases m with
  | zero => exact absurd h Bool.false_ne_true
  | succ n => exact xs_b_makeCode_446 h c_x1 c_x4 cS (fun h d_x1 d_x4 dS => ⟨⟨n, _, _, _, d_x1, d_x4, dS, h⟩, Nat.lt_of_le_of_lt (mf_le ⟨_, _, _, d_x1, d_x4, dS, h⟩) (Nat.lt_of_lt_of_eq (Nat.lt_succ_self n) hm.symm)⟩) hK
noncomputable def x_b_makeCode_435 (a_x1 : Nat) (a_x2 : Nat) (a_x4 : Nat) (a_s1 : Nat) (a_s2 : Nat) (t : X6) (r_R394 : Nat → Nat → Nat → X6 → Bool) (k_K : X6 → Bool) : Bool :=
  and (Nat.blt a_s1 8320) <| frc (w_add a_x4 1) fun f2 => wrw t 31 a_s1 a_s2 fun t4 => r_R394 a_x1 a_x2 f2 t4
set_option maxRecDepth 20000 in
set_option maxHeartbeats 1000000 in
theorem xs_b_makeCode_435 {x1 : Int32} {a_x1 : Nat} {x2 : Int32} {a_x2 : Nat} {x4 : Int32} {a_x4 : Nat} {s1 : Int32} {a_s1 : Nat} {s2 : Int32} {a_s2 : Nat} {S : ms} {t : X6} {R394 : Int32 → Int32 → Int32 → ms → Prop} {r_R394 : Nat → Nat → Nat → X6 → Bool} {K : ms → Prop} {k_K : X6 → Bool} (h : x_b_makeCode_435 a_x1 a_x2 a_x4 a_s1 a_s2 t r_R394 k_K = true) (e_x1 : x1 = Int32.ofNat a_x1) (e_x2 : x2 = Int32.ofNat a_x2) (e_x4 : x4 = Int32.ofNat a_x4) (e_s1 : s1 = Int32.ofNat a_s1) (e_s2 : s2 = Int32.ofNat a_s2) (hS : RM S t) (hR394 : ∀ {y0 : Int32} {b0 : Nat} {y1 : Int32} {b1 : Nat} {y2 : Int32} {b2 : Nat} {yS : ms} {yt : X6}, r_R394 b0 b1 b2 yt = true → y0 = Int32.ofNat b0 → y1 = Int32.ofNat b1 → y2 = Int32.ofNat b2 → RM yS yt → R394 y0 y1 y2 yS) (hK : ∀ {yS : ms} {yt : X6}, k_K yt = true → RM yS yt → K yS) : b_makeCode_435 x1 x2 x4 s1 s2 S R394 K := by
  unfold b_makeCode_435
  unfold x_b_makeCode_435 at h
  obtain ⟨n1, h⟩ := an_ok h
  refine ⟨n_vp e_s1 n1 (by decide), ?_⟩
  have h := frc_ok h
  have p3 := n_add e_x4 ((rfl : (1 : Int32) = Int32.ofNat 1))
  obtain ⟨t4, h, hS5⟩ := wrw_ok h hS (by decide) e_s1 e_s2
  exact hR394 h e_x1 e_x2 p3 hS5
noncomputable def x_b_makeCode_434 (a_x1 : Nat) (a_x2 : Nat) (a_x4 : Nat) (a_s1 : Nat) (t : X6) (r_R394 : Nat → Nat → Nat → X6 → Bool) (k_K : X6 → Bool) : Bool :=
  x_b_makeCode_435 a_x1 a_x2 a_x4 a_s1 0 t r_R394 k_K
set_option maxRecDepth 20000 in
set_option maxHeartbeats 1000000 in
theorem xs_b_makeCode_434 {x1 : Int32} {a_x1 : Nat} {x2 : Int32} {a_x2 : Nat} {x4 : Int32} {a_x4 : Nat} {s1 : Int32} {a_s1 : Nat} {S : ms} {t : X6} {R394 : Int32 → Int32 → Int32 → ms → Prop} {r_R394 : Nat → Nat → Nat → X6 → Bool} {K : ms → Prop} {k_K : X6 → Bool} (h : x_b_makeCode_434 a_x1 a_x2 a_x4 a_s1 t r_R394 k_K = true) (e_x1 : x1 = Int32.ofNat a_x1) (e_x2 : x2 = Int32.ofNat a_x2) (e_x4 : x4 = Int32.ofNat a_x4) (e_s1 : s1 = Int32.ofNat a_s1) (hS : RM S t) (hR394 : ∀ {y0 : Int32} {b0 : Nat} {y1 : Int32} {b1 : Nat} {y2 : Int32} {b2 : Nat} {yS : ms} {yt : X6}, r_R394 b0 b1 b2 yt = true → y0 = Int32.ofNat b0 → y1 = Int32.ofNat b1 → y2 = Int32.ofNat b2 → RM yS yt → R394 y0 y1 y2 yS) (hK : ∀ {yS : ms} {yt : X6}, k_K yt = true → RM yS yt → K yS) : b_makeCode_434 x1 x2 x4 s1 S R394 K := by
  unfold b_makeCode_434
  unfold x_b_makeCode_434 at h
  exact xs_b_makeCode_435 h e_x1 e_x2 e_x4 e_s1 ((rfl : (0 : Int32) = Int32.ofNat 0)) hS hR394 hK
