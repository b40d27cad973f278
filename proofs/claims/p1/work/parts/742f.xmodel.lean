noncomputable def xl_e_init_442 (r_R434 : Nat → X6 → Bool) (k_K : X6 → Bool) (n : Nat) : Nat → Nat → X6 → Bool := Nat.rec (motive := fun _ => Nat → Nat → X6 → Bool) (fun _ _ _ => false) (fun _ ih b_x2 b_x3 bt => x_b_init_442 b_x2 b_x3 bt r_R434 ih k_K) n
noncomputable def x_e_init_442 (a_x2 : Nat) (a_x3 : Nat) (t : X6) (r_R434 : Nat → X6 → Bool) (k_K : X6 → Bool) : Bool := xl_e_init_442 r_R434 k_K 200000 a_x2 a_x3 t
def xq_e_init_442 (r_R434 : Nat → X6 → Bool) (k_K : X6 → Bool) (n : Nat) (y_x2 : Int32) (y_x3 : Int32) (yS : ms) : Prop := ∃ (b_x2 : Nat) (b_x3 : Nat) (bt : X6), y_x2 = Int32.ofNat b_x2 ∧ y_x3 = Int32.ofNat b_x3 ∧ RM yS bt ∧ xl_e_init_442 r_R434 k_K n b_x2 b_x3 bt = true
set_option maxRecDepth 20000 in
theorem xs_e_init_442 {x2 : Int32} {a_x2 : Nat} {x3 : Int32} {a_x3 : Nat} {S : ms} {t : X6} {R434 : Int32 → ms → Prop} {r_R434 : Nat → X6 → Bool} {K : ms → Prop} {k_K : X6 → Bool} (h : x_e_init_442 a_x2 a_x3 t r_R434 k_K = true) (e_x2 : x2 = Int32.ofNat a_x2) (e_x3 : x3 = Int32.ofNat a_x3) (hS : RM S t) (hR434 : ∀ {y0 : Int32} {b0 : Nat} {yS : ms} {yt : X6}, r_R434 b0 yt = true → y0 = Int32.ofNat b0 → RM yS yt → R434 y0 yS) (hK : ∀ {yS : ms} {yt : X6}, k_K yt = true → RM yS yt → K yS) : e_init_442 x2 x3 S R434 K := by
  refine ⟨fun y_x2 y_x3 yS => ∃ n, xq_e_init_442 r_R434 k_K n y_x2 y_x3 yS, fun y_x2 y_x3 yS => mf (fun n => xq_e_init_442 r_R434 k_K n y_x2 y_x3 yS), ⟨200000, a_x2, a_x3, t, e_x2, e_x3, hS, h⟩, fun y_x2 y_x3 yS hI => ?_⟩
  obtain ⟨m, hm, hq⟩ := mf_ok hI
  obtain ⟨b_x2, b_x3, bt, c_x2, c_x3, cS, h⟩ := hq
  cases m with
  | zero => exact absurd h Bool.false_ne_true
  | succ n => exact xs_b_init_442 h c_x2 c_x3 cS hR434 (fun h d_x2 d_x3 dS => ⟨⟨n, _, _, _, d_x2, d_x3, dS, h⟩, Nat.lt_of_le_of_lt (mf_le ⟨_, _, _, d_x2, d_x3, dS, h⟩) (Nat.lt_of_lt_of_eq (Nat.lt_succ_self n) hm.symm)⟩) hK
noncomputable def x_b_init_434 (a_x2 : Nat) (t : X6) (r_R434 : Nat → X6 → Bool) (k_K : X6 → Bool) : Bool :=
  cond (!(w_lt a_x2 8)) (k_K t) (x_e_init_442 a_x2 0 t r_R434 k_K)
set_option maxRecDepth 20000 in
set_option maxHeartbeats 1000000 in
theorem xs_b_init_434 {x2 : Int32} {a_x2 : Nat} {S : ms} {t : X6} {R434 : Int32 → ms → Prop} {r_R434 : Nat → X6 → Bool} {K : ms → Prop} {k_K : X6 → Bool} (h : x_b_init_434 a_x2 t r_R434 k_K = true) (e_x2 : x2 = Int32.ofNat a_x2) (hS : RM S t) (hR434 : ∀ {y0 : Int32} {b0 : Nat} {yS : ms} {yt : X6}, r_R434 b0 yt = true → y0 = Int32.ofNat b0 → RM yS yt → R434 y0 yS) (hK : ∀ {yS : ms} {yt : X6}, k_K yt = true → RM yS yt → K yS) : b_init_434 x2 S R434 K := by
  unfold b_init_434
  unfold x_b_init_434 at h
  have hc1 := c_le' ((rfl : (8 : Int32) = Int32.ofNat 8)) e_x2
  refine ⟨fun hc => ?_, fun hc => ?_⟩
  · have h := x_pos h (hc1.mp hc)
    exact hK h hS
  · have h := x_neg h (fun q => hc (hc1.mpr q))
    exact xs_e_init_442 h e_x2 ((rfl : (0 : Int32) = Int32.ofNat 0)) hS hR434 hK
noncomputable def xl_e_init_434 (k_K : X6 → Bool) (n : Nat) : Nat → X6 → Bool := Nat.rec (motive := fun _ => Nat → X6 → Bool) (fun _ _ => false) (fun _ ih b_x2 bt => x_b_init_434 b_x2 bt ih k_K) n
noncomputable def x_e_init_434 (a_x2 : Nat) (t : X6) (k_K : X6 → Bool) : Bool := xl_e_init_434 k_K 200000 a_x2 t
def xq_e_init_434 (k_K : X6 → Bool) (n : Nat) (y_x2 : Int32) (yS : ms) : Prop := ∃ (b_x2 : Nat) (bt : X6), y_x2 = Int32.ofNat b_x2 ∧ RM yS bt ∧ xl_e_init_434 k_K n b_x2 bt = true
set_option maxRecDepth 20000 in
theorem xs_e_init_434 {x2 : Int32} {a_x2 : Nat} {S : ms} {t : X6} {K : ms → Prop} {k_K : X6 → Bool} (h : x_e_init_434 a_x2 t k_K = true) (e_x2 : x2 = Int32.ofNat a_x2) (hS : RM S t) (hK : ∀ {yS : ms} {yt : X6}, k_K yt = true → RM yS yt → K yS) : e_init_434 x2 S K := by
  refine ⟨fun y_x2 yS => ∃ n, xq_e_init_434 k_K n y_x2 yS, fun y_x2 yS => mf (fun n => xq_e_init_434 k_K n y_x2 yS), ⟨200000, a_x2, t, e_x2, hS, h⟩, fun y_x2 yS hI => ?_⟩
  obtain ⟨m, hm, hq⟩ := mf_ok hI
  obtain ⟨b_x2, bt, c_x2, cS, h⟩ := hq
  cases m with
  | zero => exact absurd h Bool.false_ne_true
  | succ n => exact xs_b_init_434 h c_x2 cS (fun h d_x2 dS => ⟨⟨n, _, _, d_x2, dS, h⟩, Nat.lt_of_le_of_lt (mf_le ⟨_, _, d_x2, dS, h⟩) (Nat.lt_of_lt_of_eq (Nat.lt_succ_self n) hm.symm)⟩) hK
noncomputable def x_b_init_420 (a_x1 : Nat) (a_x2 : Nat) (a_x3 : Nat) (t : X6) (r_R356 : Nat → Nat → X6 → Bool) (r_R364 : Nat → Nat → Nat → X6 → Bool) (k_K : X6 → Bool) : Bool :=
  frc (w_add a_x3 1) fun f1 => r_R364 a_x1 a_x2 f1 t
set_option maxRecDepth 20000 in
set_option maxHeartbeats 1000000 in
theorem xs_b_init_420 {x1 : Int32} {a_x1 : Nat} {x2 : Int32} {a_x2 : Nat} {x3 : Int32} {a_x3 : Nat} {S : ms} {t : X6} {R356 : Int32 → Int32 → ms → Prop} {r_R356 : Nat → Nat → X6 → Bool} {R364 : Int32 → Int32 → Int32 → ms → Prop} {r_R364 : Nat → Nat → Nat → X6 → Bool} {K : ms → Prop} {k_K : X6 → Bool} (h : x_b_init_420 a_x1 a_x2 a_x3 t r_R356 r_R364 k_K = true) (e_x1 : x1 = Int32.ofNat a_x1) (e_x2 : x2 = Int32.ofNat a_x2) (e_x3 : x3 = Int32.ofNat a_x3) (hS : RM S t) (hR356 : ∀ {y0 : Int32} {b0 : Nat} {y1 : Int32} {b1 : Nat} {yS : ms} {yt : X6}, r_R356 b0 b1 yt = true → y0 = Int32.ofNat b0 → y1 = Int32.ofNat b1 → RM yS yt → R356 y0 y1 yS) (hR364 : ∀ {y0 : Int32} {b0 : Nat} {y1 : Int32} {b1 : Nat} {y2 : Int32} {b2 : Nat} {yS : ms} {yt : X6}, r_R364 b0 b1 b2 yt = true → y0 = Int32.ofNat b0 → y1 = Int32.ofNat b1 → y2 = Int32.ofNat b2 → RM yS yt → R364 y0 y1 y2 yS) (hK : ∀ {yS : ms} {yt : X6}, k_K yt = true → RM yS yt → K yS) : b_init_420 x1 x2 x3 S R356 R364 K := by
  unfold b_init_420
  unfold x_b_init_420 at h
  have h := frc_ok h
  have p2 := n_add e_x3 ((rfl : (1 : Int32) = Int32.ofNat 1))
  exact hR364 h e_x1 e_x2 p2 hS
noncomputable def x_b_init_383 (a_x1 : Nat) (a_x2 : Nat) (a_x3 : Nat) (a_s0 : Nat) (t : X6) (r_R356 : Nat → Nat → X6 → Bool) (r_R364 : Nat → Nat → Nat → X6 → Bool) (k_K : X6 → Bool) : Bool :=
  cond (!(w_lt a_s0 8)) (x_b_init_420 a_x1 a_x2 a_x3 t r_R356 r_R364 k_K) (cond (!(w_lt (w_sub a_x2 a_s0) 8)) (x_b_init_420 a_x1 a_x2 a_x3 t r_R356 r_R364 k_K) (and (Nat.blt a_x1 64) <| frc (w_add a_x1 1) fun f4 => frc (w_sub (w_add (w_mul 8 a_s0) a_x2) a_s0) fun f8 => wrw t 22 a_x1 f8 fun t6 => x_b_init_420 f4 a_x2 a_x3 t6 r_R356 r_R364 k_K))
set_option maxRecDepth 20000 in
set_option maxHeartbeats 1000000 in
theorem xs_b_init_383 {x1 : Int32} {a_x1 : Nat} {x2 : Int32} {a_x2 : Nat} {x3 : Int32} {a_x3 : Nat} {s0 : Int32} {a_s0 : Nat} {S : ms} {t : X6} {R356 : Int32 → Int32 → ms → Prop} {r_R356 : Nat → Nat → X6 → Bool} {R364 : Int32 → Int32 → Int32 → ms → Prop} {r_R364 : Nat → Nat → Nat → X6 → Bool} {K : ms → Prop} {k_K : X6 → Bool} (h : x_b_init_383 a_x1 a_x2 a_x3 a_s0 t r_R356 r_R364 k_K = true) (e_x1 : x1 = Int32.ofNat a_x1) (e_x2 : x2 = Int32.ofNat a_x2) (e_x3 : x3 = Int32.ofNat a_x3) (e_s0 : s0 = Int32.ofNat a_s0) (hS : RM S t) (hR356 : ∀ {y0 : Int32} {b0 : Nat} {y1 : Int32} {b1 : Nat} {yS : ms} {yt : X6}, r_R356 b0 b1 yt = true → y0 = Int32.ofNat b0 → y1 = Int32.ofNat b1 → RM yS yt → R356 y0 y1 yS) (hR364 : ∀ {y0 : Int32} {b0 : Nat} {y1 : Int32} {b1 : Nat} {y2 : Int32} {b2 : Nat} {yS : ms} {yt : X6}, r_R364 b0 b1 b2 yt = true → y0 = Int32.ofNat b0 → y1 = Int32.ofNat b1 → y2 = Int32.ofNat b2 → RM yS yt → R364 y0 y1 y2 yS) (hK : ∀ {yS : ms} {yt : X6}, k_K yt = true → RM yS yt → K yS) : b_init_383 x1 x2 x3 s0 S R356 R364 K := by
  unfold b_init_383
  unfold x_b_init_383 at h
  have hc1 := c_le' ((rfl : (8 : Int32) = Int32.ofNat 8)) e_s0
  refine ⟨fun hc => ?_, fun hc => ?_⟩
  · have h := x_pos h (hc1.mp hc)
    exact xs_b_init_420 h e_x1 e_x2 e_x3 hS hR356 hR364 hK
  · have h := x_neg h (fun q => hc (hc1.mpr q))
    have hc2 := c_le' ((rfl : (8 : Int32) = Int32.ofNat 8)) (n_sub e_x2 e_s0)
    refine ⟨fun hc => ?_, fun hc => ?_⟩
    · have h := x_pos h (hc2.mp hc)
      exact xs_b_init_420 h e_x1 e_x2 e_x3 hS hR356 hR364 hK
    · have h := x_neg h (fun q => hc (hc2.mpr q))
      obtain ⟨n3, h⟩ := an_ok h
      refine ⟨n_vp e_x1 n3 (by decide), ?_⟩
      have h := frc_ok h
      have p5 := n_add e_x1 ((rfl : (1 : Int32) = Int32.ofNat 1))
      have h := frc_ok h
      have p9 := n_sub (n_add (n_mul ((rfl : (8 : Int32) = Int32.ofNat 8)) e_s0) e_x2) e_s0
      obtain ⟨t6, h, hS7⟩ := wrw_ok h hS (by decide) e_x1 p9
      exact xs_b_init_420 h p5 e_x2 e_x3 hS7 hR356 hR364 hK
noncomputable def x_b_init_364 (a_x1 : Nat) (a_x2 : Nat) (a_x3 : Nat) (t : X6) (r_R356 : Nat → Nat → X6 → Bool) (r_R364 : Nat → Nat → Nat → X6 → Bool) (k_K : X6 → Bool) : Bool :=
  cond (w_lt a_x2 a_x3) (frc (w_add a_x2 1) fun f2 => r_R356 a_x1 f2 t) (cond (w_eq (w_sub a_x2 (w_mul (w_div a_x2 2) 2)) 1) (x_b_init_383 a_x1 a_x2 a_x3 a_x3 t r_R356 r_R364 k_K) (frc (w_sub a_x2 a_x3) fun f5 => x_b_init_383 a_x1 a_x2 a_x3 f5 t r_R356 r_R364 k_K))
set_option maxRecDepth 20000 in
set_option maxHeartbeats 1000000 in
theorem xs_b_init_364 {x1 : Int32} {a_x1 : Nat} {x2 : Int32} {a_x2 : Nat} {x3 : Int32} {a_x3 : Nat} {S : ms} {t : X6} {R356 : Int32 → Int32 → ms → Prop} {r_R356 : Nat → Nat → X6 → Bool} {R364 : Int32 → Int32 → Int32 → ms → Prop} {r_R364 : Nat → Nat → Nat → X6 → Bool} {K : ms → Prop} {k_K : X6 → Bool} (h : x_b_init_364 a_x1 a_x2 a_x3 t r_R356 r_R364 k_K = true) (e_x1 : x1 = Int32.ofNat a_x1) (e_x2 : x2 = Int32.ofNat a_x2) (e_x3 : x3 = Int32.ofNat a_x3) (hS : RM S t) (hR356 : ∀ {y0 : Int32} {b0 : Nat} {y1 : Int32} {b1 : Nat} {yS : ms} {yt : X6}, r_R356 b0 b1 yt = true → y0 = Int32.ofNat b0 → y1 = Int32.ofNat b1 → RM yS yt → R356 y0 y1 yS) (hR364 : ∀ {y0 : Int32} {b0 : Nat} {y1 : Int32} {b1 : Nat} {y2 : Int32} {b2 : Nat} {yS : ms} {yt : X6}, r_R364 b0 b1 b2 yt = true → y0 = Int32.ofNat b0 → y1 = Int32.ofNat b1 → y2 = Int32.ofNat b2 → RM yS yt → R364 y0 y1 y2 yS) (hK : ∀ {yS : ms} {yt : X6}, k_K yt = true → RM yS yt → K yS) : b_init_364 x1 x2 x3 S R356 R364 K := by
  unfold b_init_364
  unfold x_b_init_364 at h
  have hc1 := c_lt' e_x2 e_x3
  refine ⟨fun hc => ?_, fun hc => ?_⟩
  · have h := x_pos h (hc1.mp hc)
    have h := frc_ok h
    have p3 := n_add e_x2 ((rfl : (1 : Int32) = Int32.ofNat 1))
    exact hR356 h e_x1 p3 hS
  · have h := x_neg h (fun q => hc (hc1.mpr q))
    have hc4 := c_eq' (n_sub e_x2 (n_mul (n_div e_x2 ((rfl : (2 : Int32) = Int32.ofNat 2))) ((rfl : (2 : Int32) = Int32.ofNat 2)))) ((rfl : (1 : Int32) = Int32.ofNat 1))
    refine ⟨fun hc => ?_, fun hc => ?_⟩
    · have h := x_neg h (fun q => hc (hc4.mpr q))
      have h := frc_ok h
      have p6 := n_sub e_x2 e_x3
      exact xs_b_init_383 h e_x1 e_x2 e_x3 p6 hS hR356 hR364 hK
    · have h := x_pos h (hc4.mp hc)
      exact xs_b_init_383 h e_x1 e_x2 e_x3 e_x3 hS hR356 hR364 hK
noncomputable def xl_e_init_364 (r_R356 : Nat → Nat → X6 → Bool) (k_K : X6 → Bool) (n : Nat) : Nat → Nat → Nat → X6 → Bool := Nat.rec (motive := fun _ => Nat → Nat → Nat → X6 → Bool) (fun _ _ _ _ => false) (fun _ ih b_x1 b_x2 b_x3 bt => x_b_init_364 b_x1 b_x2 b_x3 bt r_R356 ih k_K) n
noncomputable def x_e_init_364 (a_x1 : Nat) (a_x2 : Nat) (a_x3 : Nat) (t : X6) (r_R356 : Nat → Nat → X6 → Bool) (k_K : X6 → Bool) : Bool := xl_e_init_364 r_R356 k_K 200000 a_x1 a_x2 a_x3 t
def xq_e_init_364 (r_R356 : Nat → Nat → X6 → Bool) (k_K : X6 → Bool) (n : Nat) (y_x1 : Int32) (y_x2 : Int32) (y_x3 : Int32) (yS : ms) : Prop := ∃ (b_x1 : Nat) (b_x2 : Nat) (b_x3 : Nat) (bt : X6), y_x1 = Int32.ofNat b_x1 ∧ y_x2 = Int32.ofNat b_x2 ∧ y_x3 = Int32.ofNat b_x3 ∧ RM yS bt ∧ xl_e_init_364 r_R356 k_K n b_x1 b_x2 b_x3 bt = true
set_option maxRecDepth 20000 in
theorem xs_e_init_364 {x1 : Int32} {a_x1 : Nat} {x2 : Int32} {a_x2 : Nat} {x3 : Int32} {a_x3 : Nat} {S : ms} {t : X6} {R356 : Int32 → Int32 → ms → Prop} {r_R356 : Nat → Nat → X6 → Bool} {K : ms → Prop} {k_K : X6 → Bool} (h : x_e_init_364 a_x1 a_x2 a_x3 t r_R356 k_K = true) (e_x1 : x1 = Int32.ofNat a_x1) (e_x2 : x2 = Int32.ofNat a_x2) (e_x3 : x3 = Int32.ofNat a_x3) (hS : RM S t) (hR356 : ∀ {y0 : Int32} {b0 : Nat} {y1 : Int32} {b1 : Nat} {yS : ms} {yt : X6}, r_R356 b0 b1 yt = true → y0 = Int32.ofNat b0 → y1 = Int32.ofNat b1 → RM yS yt → R356 y0 y1 yS) (hK : ∀ {yS : ms} {yt : X6}, k_K yt = true → RM yS yt → K yS) : e_init_364 x1 x2 x3 S R356 K := by
  refine ⟨fun y_x1 y_x2 y_x3 yS => ∃ n, xq_e_init_364 r_R356 k_K n y_x1 y_x2 y_x3 yS, fun y_x1 y_x2 y_x3 yS => mf (fun n => xq_e_init_364 r_R356 k_K n y_x1 y_x2 y_x3 yS), ⟨200000, a_x1, a_x2, a_x3, t, e_x1, e_x2, e_x3, hS, h⟩, fun y_x1 y_x2 y_x3 yS hI => ?_⟩
  obtain ⟨m, hm, hq⟩ := mf_ok hI
  obtain ⟨b_x1, b_x2, b_x3, bt, c_x1, c_x2, c_x3, cS, h⟩ := hq
  cases m with
  | zero => exact absurd h Bool.false_ne_true
  | succ n => exact xs_b_init_364 h c_x1 c_x2 c_x3 cS hR356 (fun h d_x1 d_x2 d_x3 dS => ⟨⟨n, _, _, _, _, d_x1, d_x2, d_x3, dS, h⟩, Nat.lt_of_le_of_lt (mf_le ⟨_, _, _, _, d_x1, d_x2, d_x3, dS, h⟩) (Nat.lt_of_lt_of_eq (Nat.lt_succ_self n) hm.symm)⟩) hK
noncomputable def x_b_init_356 (a_x1 : Nat) (a_x2 : Nat) (t : X6) (r_R356 : Nat → Nat → X6 → Bool) (k_K : X6 → Bool) : Bool :=
  cond (!(w_lt a_x2 15)) (x_e_init_434 0 t k_K) (x_e_init_364 a_x1 a_x2 0 t r_R356 k_K)
set_option maxRecDepth 20000 in
set_option maxHeartbeats 1000000 in
theorem xs_b_init_356 {x1 : Int32} {a_x1 : Nat} {x2 : Int32} {a_x2 : Nat} {S : ms} {t : X6} {R356 : Int32 → Int32 → ms → Prop} {r_R356 : Nat → Nat → X6 → Bool} {K : ms → Prop} {k_K : X6 → Bool} (h : x_b_init_356 a_x1 a_x2 t r_R356 k_K = true) (e_x1 : x1 = Int32.ofNat a_x1) (e_x2 : x2 = Int32.ofNat a_x2) (hS : RM S t) (hR356 : ∀ {y0 : Int32} {b0 : Nat} {y1 : Int32} {b1 : Nat} {yS : ms} {yt : X6}, r_R356 b0 b1 yt = true → y0 = Int32.ofNat b0 → y1 = Int32.ofNat b1 → RM yS yt → R356 y0 y1 yS) (hK : ∀ {yS : ms} {yt : X6}, k_K yt = true → RM yS yt → K yS) : b_init_356 x1 x2 S R356 K := by
  unfold b_init_356
  unfold x_b_init_356 at h
  have hc1 := c_le' ((rfl : (15 : Int32) = Int32.ofNat 15)) e_x2
  refine ⟨fun hc => ?_, fun hc => ?_⟩
  · have h := x_pos h (hc1.mp hc)
    exact xs_e_init_434 h ((rfl : (0 : Int32) = Int32.ofNat 0)) hS hK
  · have h := x_neg h (fun q => hc (hc1.mpr q))
    exact xs_e_init_364 h e_x1 e_x2 ((rfl : (0 : Int32) = Int32.ofNat 0)) hS hR356 hK
noncomputable def xl_e_init_356 (k_K : X6 → Bool) (n : Nat) : Nat → Nat → X6 → Bool := Nat.rec (motive := fun _ => Nat → Nat → X6 → Bool) (fun _ _ _ => false) (fun _ ih b_x1 b_x2 bt => x_b_init_356 b_x1 b_x2 bt ih k_K) n
noncomputable def x_e_init_356 (a_x1 : Nat) (a_x2 : Nat) (t : X6) (k_K : X6 → Bool) : Bool := xl_e_init_356 k_K 200000 a_x1 a_x2 t
def xq_e_init_356 (k_K : X6 → Bool) (n : Nat) (y_x1 : Int32) (y_x2 : Int32) (yS : ms) : Prop := ∃ (b_x1 : Nat) (b_x2 : Nat) (bt : X6), y_x1 = Int32.ofNat b_x1 ∧ y_x2 = Int32.ofNat b_x2 ∧ RM yS bt ∧ xl_e_init_356 k_K n b_x1 b_x2 bt = true
set_option maxRecDepth 20000 in
theorem xs_e_init_356 {x1 : Int32} {a_x1 : Nat} {x2 : Int32} {a_x2 : Nat} {S : ms} {t : X6} {K : ms → Prop} {k_K : X6 → Bool} (h : x_e_init_356 a_x1 a_x2 t k_K = true) (e_x1 : x1 = Int32.ofNat a_x1) (e_x2 : x2 = Int32.ofNat a_x2) (hS : RM S t) (hK : ∀ {yS : ms} {yt : X6}, k_K yt = true → RM yS yt → K yS) : e_init_356 x1 x2 S K := by
  refine ⟨fun y_x1 y_x2 yS => ∃ n, xq_e_init_356 k_K n y_x1 y_x2 yS, fun y_x1 y_x2 yS => mf (fun n => xq_e_init_356 k_K n y_x1 y_x2 yS), ⟨200000, a_x1, a_x2, t, e_x1, e_x2, hS, h⟩, fun y_x1 y_x2 yS hI => ?_⟩
  obtain ⟨m, hm, hq⟩ := mf_ok hI
  obtain ⟨b_x1, b_x2, bt, c_x1, c_x2, cS, h⟩ := hq
  cases m with
  | zero => exact absurd h Bool.false_ne_true
  | succ n => exact xs_b_init_356 h c_x1 c_x2 cS (fun h d_x1 d_x2 dS => ⟨⟨n, _, _, _, d_x1, d_x2, dS, h⟩, Nat.lt_of_le_of_lt (mf_le ⟨_, _, _, d_x1, d_x2, dS, h⟩) (Nat.lt_of_lt_of_eq (Nat.lt_succ_self n) hm.symm)⟩) hK
noncomputable def x_b_init_332 (a_x1 : Nat) (t : X6) (r_R332 : Nat → X6 → Bool) (k_K : X6 → Bool) : Bool :=
  cond (!(w_lt a_x1 128)) (x_e_init_356 0 0 t k_K) (and (Nat.blt a_x1 128) <| frc (w_add a_x1 1) fun f3 => wrw t 5 a_x1 1 fun t5 => r_R332 f3 t5)
set_option maxRecDepth 20000 in
set_option maxHeartbeats 1000000 in
theorem xs_b_init_332 {x1 : Int32} {a_x1 : Nat} {S : ms} {t : X6} {R332 : Int32 → ms → Prop} {r_R332 : Nat → X6 → Bool} {K : ms → Prop} {k_K : X6 → Bool} (h : x_b_init_332 a_x1 t r_R332 k_K = true) (e_x1 : x1 = Int32.ofNat a_x1) (hS : RM S t) (hR332 : ∀ {y0 : Int32} {b0 : Nat} {yS : ms} {yt : X6}, r_R332 b0 yt = true → y0 = Int32.ofNat b0 → RM yS yt → R332 y0 yS) (hK : ∀ {yS : ms} {yt : X6}, k_K yt = true → RM yS yt → K yS) : b_init_332 x1 S R332 K := by
  unfold b_init_332
  unfold x_b_init_332 at h
  have hc1 := c_le' ((rfl : (128 : Int32) = Int32.ofNat 128)) e_x1
  refine ⟨fun hc => ?_, fun hc => ?_⟩
  · have h := x_pos h (hc1.mp hc)
    exact xs_e_init_356 h ((rfl : (0 : Int32) = Int32.ofNat 0)) ((rfl : (0 : Int32) = Int32.ofNat 0)) hS hK
  · have h := x_neg h (fun q => hc (hc1.mpr q))
    obtain ⟨n2, h⟩ := an_ok h
    refine ⟨n_vp e_x1 n2 (by decide), ?_⟩
    have h := frc_ok h
    have p4 := n_add e_x1 ((rfl : (1 : Int32) = Int32.ofNat 1))
    obtain ⟨t5, h, hS6⟩ := wrw_ok h hS (by decide) e_x1 ((rfl : (1 : Int32) = Int32.ofNat 1))
    exact hR332 h p4 hS6
noncomputable def xl_e_init_332 (k_K : X6 → Bool) (n : Nat) : Nat → X6 → Bool := Nat.rec (motive := fun _ => Nat → X6 → Bool) (fun _ _ => false) (fun _ ih b_x1 bt => x_b_init_332 b_x1 bt ih k_K) n
noncomputable def x_e_init_332 (a_x1 : Nat) (t : X6) (k_K : X6 → Bool) : Bool := xl_e_init_332 k_K 200000 a_x1 t
def xq_e_init_332 (k_K : X6 → Bool) (n : Nat) (y_x1 : Int32) (yS : ms) : Prop := ∃ (b_x1 : Nat) (bt : X6), y_x1 = Int32.ofNat b_x1 ∧ RM yS bt ∧ xl_e_init_332 k_K n b_x1 bt = true
set_option maxRecDepth 20000 in
theorem xs_e_init_332 {x1 : Int32} {a_x1 : Nat} {S : ms} {t : X6} {K : ms → Prop} {k_K : X6 → Bool} (h : x_e_init_332 a_x1 t k_K = true) (e_x1 : x1 = Int32.ofNat a_x1) (hS : RM S t) (hK : ∀ {yS : ms} {yt : X6}, k_K yt = true → RM yS yt → K yS) : e_init_332 x1 S K := by
  refine ⟨fun y_x1 yS => ∃ n, xq_e_init_332 k_K n y_x1 yS, fun y_x1 yS => mf (fun n => xq_e_init_332 k_K n y_x1 yS), ⟨200000, a_x1, t, e_x1, hS, h⟩, fun y_x1 yS hI => ?_⟩
  obtain ⟨m, hm, hq⟩ := mf_ok hI
  obtain ⟨b_x1, bt, c_x1, cS, h⟩ := hq
  cases m with
  | zero => exact absurd h Bool.false_ne_true
  | succ n => exact xs_b_init_332 h c_x1 cS (fun h d_x1 dS => ⟨⟨n, _, _, d_x1, dS, h⟩, Nat.lt_of_le_of_lt (mf_le ⟨_, _, d_x1, dS, h⟩) (Nat.lt_of_lt_of_eq (Nat.lt_succ_self n) hm.symm)⟩) hK
noncomputable def x_p_init (t : X6) (k_K : X6 → Bool) : Bool :=
  x_e_init_332 0 t k_K
set_option maxRecDepth 20000 in
set_option maxHeartbeats 1000000 in
theorem xs_p_init {S : ms} {t : X6} {K : ms → Prop} {k_K : X6 → Bool} (h : x_p_init t k_K = true) (hS : RM S t) (hK : ∀ {yS : ms} {yt : X6}, k_K yt = true → RM yS yt → K yS) : p_init S K := by
  unfold p_init
  unfold x_p_init at h
  exact xs_e_init_332 h ((rfl : (0 : Int32) = Int32.ofNat 0)) hS hK
noncomputable def x_b_begin_61 (a_x1 : Nat) (t : X6) (r_R61 : Nat → X6 → Bool) (k_K : X6 → Bool) : Bool :=
  cond (!(w_lt a_x1 3)) (k_K t) (and (Nat.blt a_x1 3) <| frc (w_add a_x1 1) fun f3 => wrw t 47 a_x1 0 fun t5 => r_R61 f3 t5)
set_option maxRecDepth 20000 in
set_option maxHeartbeats 1000000 in
theorem xs_b_begin_61 {x1 : Int32} {a_x1 : Nat} {S : ms} {t : X6} {R61 : Int32 → ms → Prop} {r_R61 : Nat → X6 → Bool} {K : ms → Prop} {k_K : X6 → Bool} (h : x_b_begin_61 a_x1 t r_R61 k_K = true) (e_x1 : x1 = Int32.ofNat a_x1) (hS : RM S t) (hR61 : ∀ {y0 : Int32} {b0 : Nat} {yS : ms} {yt : X6}, r_R61 b0 yt = true → y0 = Int32.ofNat b0 → RM yS yt → R61 y0 yS) (hK : ∀ {yS : ms} {yt : X6}, k_K yt = true → RM yS yt → K yS) : b_begin_61 x1 S R61 K := by
  unfold b_begin_61
  unfold x_b_begin_61 at h
  have hc1 := c_le' ((rfl : (3 : Int32) = Int32.ofNat 3)) e_x1
  refine ⟨fun hc => ?_, fun hc => ?_⟩
  · have h := x_pos h (hc1.mp hc)
    exact hK h hS
  · have h := x_neg h (fun q => hc (hc1.mpr q))
    obtain ⟨n2, h⟩ := an_ok h
    refine ⟨n_vp e_x1 n2 (by decide), ?_⟩
    have h := frc_ok h
    have p4 := n_add e_x1 ((rfl : (1 : Int32) = Int32.ofNat 1))
    obtain ⟨t5, h, hS6⟩ := wrw_ok h hS (by decide) e_x1 ((rfl : vp_nar .boolean 0 = Int32.ofNat 0))
    exact hR61 h p4 hS6
noncomputable def xl_e_begin_61 (k_K : X6 → Bool) (n : Nat) : Nat → X6 → Bool := Nat.rec (motive := fun _ => Nat → X6 → Bool) (fun _ _ => false) (fun _ ih b_x1 bt => x_b_begin_61 b_x1 bt ih k_K) n
noncomputable def x_e_begin_61 (a_x1 : Nat) (t : X6) (k_K : X6 → Bool) : Bool := xl_e_begin_61 k_K 200000 a_x1 t
def xq_e_begin_61 (k_K : X6 → Bool) (n : Nat) (y_x1 : Int32) (yS : ms) : Prop := ∃ (b_x1 : Nat) (bt : X6), y_x1 = Int32.ofNat b_x1 ∧ RM yS bt ∧ xl_e_begin_61 k_K n b_x1 bt = true
set_option maxRecDepth 20000 in
theorem xs_e_begin_61 {x1 : Int32} {a_x1 : Nat} {S : ms} {t : X6} {K : ms → Prop} {k_K : X6 → Bool} (h : x_e_begin_61 a_x1 t k_K = true) (e_x1 : x1 = Int32.ofNat a_x1) (hS : RM S t) (hK : ∀ {yS : ms} {yt : X6}, k_K yt = true → RM yS yt → K yS) : e_begin_61 x1 S K := by
  refine ⟨fun y_x1 yS => ∃ n, xq_e_begin_61 k_K n y_x1 yS, fun y_x1 yS => mf (fun n => xq_e_begin_61 k_K n y_x1 yS), ⟨200000, a_x1, t, e_x1, hS, h⟩, fun y_x1 yS hI => ?_⟩
  obtain ⟨m, hm, hq⟩ := mf_ok hI
  obtain ⟨b_x1, bt, c_x1, cS, h⟩ := hq
  cases m with
  | zero => exact absurd h Bool.false_ne_true
  | succ n => exact xs_b_begin_61 h c_x1 cS (fun h d_x1 dS => ⟨⟨n, _, _, d_x1, dS, h⟩, Nat.lt_of_le_of_lt (mf_le ⟨_, _, d_x1, dS, h⟩) (Nat.lt_of_lt_of_eq (Nat.lt_succ_self n) hm.symm)⟩) hK
noncomputable def x_b_begin_34 (a_x1 : Nat) (t : X6) (r_R34 : Nat → X6 → Bool) (k_K : X6 → Bool) : Bool :=
  cond (!(w_lt a_x1 4)) (x_e_begin_61 0 t k_K) (and (Nat.blt a_x1 4) <| frc (w_add a_x1 1) fun f3 => wrw t 39 a_x1 0 fun t5 => wrw t5 42 a_x1 0 fun t7 => r_R34 f3 t7)
set_option maxRecDepth 20000 in
set_option maxHeartbeats 1000000 in
theorem xs_b_begin_34 {x1 : Int32} {a_x1 : Nat} {S : ms} {t : X6} {R34 : Int32 → ms → Prop} {r_R34 : Nat → X6 → Bool} {K : ms → Prop} {k_K : X6 → Bool} (h : x_b_begin_34 a_x1 t r_R34 k_K = true) (e_x1 : x1 = Int32.ofNat a_x1) (hS : RM S t) (hR34 : ∀ {y0 : Int32} {b0 : Nat} {yS : ms} {yt : X6}, r_R34 b0 yt = true → y0 = Int32.ofNat b0 → RM yS yt → R34 y0 yS) (hK : ∀ {yS : ms} {yt : X6}, k_K yt = true → RM yS yt → K yS) : b_begin_34 x1 S R34 K := by
  unfold b_begin_34
  unfold x_b_begin_34 at h
  have hc1 := c_le' ((rfl : (4 : Int32) = Int32.ofNat 4)) e_x1
  refine ⟨fun hc => ?_, fun hc => ?_⟩
  · have h := x_pos h (hc1.mp hc)
    exact xs_e_begin_61 h ((rfl : (0 : Int32) = Int32.ofNat 0)) hS hK
  · have h := x_neg h (fun q => hc (hc1.mpr q))
    obtain ⟨n2, h⟩ := an_ok h
    refine ⟨n_vp e_x1 n2 (by decide), ?_⟩
    refine ⟨n_vp e_x1 n2 (by decide), ?_⟩
    have h := frc_ok h
    have p4 := n_add e_x1 ((rfl : (1 : Int32) = Int32.ofNat 1))
    obtain ⟨t5, h, hS6⟩ := wrw_ok h hS (by decide) e_x1 ((rfl : vp_nar .boolean 0 = Int32.ofNat 0))
    obtain ⟨t7, h, hS8⟩ := wrw_ok h hS6 (by decide) e_x1 ((rfl : vp_nar .boolean 0 = Int32.ofNat 0))
    exact hR34 h p4 hS8
noncomputable def xl_e_begin_34 (k_K : X6 → Bool) (n : Nat) : Nat → X6 → Bool := Nat.rec (motive := fun _ => Nat → X6 → Bool) (fun _ _ => false) (fun _ ih b_x1 bt => x_b_begin_34 b_x1 bt ih k_K) n
noncomputable def x_e_begin_34 (a_x1 : Nat) (t : X6) (k_K : X6 → Bool) : Bool := xl_e_begin_34 k_K 200000 a_x1 t
def xq_e_begin_34 (k_K : X6 → Bool) (n : Nat) (y_x1 : Int32) (yS : ms) : Prop := ∃ (b_x1 : Nat) (bt : X6), y_x1 = Int32.ofNat b_x1 ∧ RM yS bt ∧ xl_e_begin_34 k_K n b_x1 bt = true
set_option maxRecDepth 20000 in
theorem xs_e_begin_34 {x1 : Int32} {a_x1 : Nat} {S : ms} {t : X6} {K : ms → Prop} {k_K : X6 → Bool} (h : x_e_begin_34 a_x1 t k_K = true) (e_x1 : x1 = Int32.ofNat a_x1) (hS : RM S t) (hK : ∀ {yS : ms} {yt : X6}, k_K yt = true → RM yS yt → K yS) : e_begin_34 x1 S K := by
  refine ⟨fun y_x1 yS => ∃ n, xq_e_begin_34 k_K n y_x1 yS, fun y_x1 yS => mf (fun n => xq_e_begin_34 k_K n y_x1 yS), ⟨200000, a_x1, t, e_x1, hS, h⟩, fun y_x1 yS hI => ?_⟩
  obtain ⟨m, hm, hq⟩ := mf_ok hI
  obtain ⟨b_x1, bt, c_x1, cS, h⟩ := hq
  cases m with
  | zero => exact absurd h Bool.false_ne_true
  | succ n => exact xs_b_begin_34 h c_x1 cS (fun h d_x1 dS => ⟨⟨n, _, _, d_x1, dS, h⟩, Nat.lt_of_le_of_lt (mf_le ⟨_, _, d_x1, dS, h⟩) (Nat.lt_of_lt_of_eq (Nat.lt_succ_self n) hm.symm)⟩) hK
noncomputable def x_p_begin (t : X6) (k_K : X6 → Bool) : Bool :=
  and (Nat.blt 2 3) <| wrw t 14 2 0 fun t2 => wfi t2 34 0 fun t4 => wfi t4 35 0 fun t6 => wfi t6 10 4294967295 fun t8 => wfi t8 43 0 fun t10 => wfi t10 48 0 fun t12 => x_e_begin_34 0 t12 k_K
set_option maxRecDepth 20000 in
set_option maxHeartbeats 1000000 in
theorem xs_p_begin {S : ms} {t : X6} {K : ms → Prop} {k_K : X6 → Bool} (h : x_p_begin t k_K = true) (hS : RM S t) (hK : ∀ {yS : ms} {yt : X6}, k_K yt = true → RM yS yt → K yS) : p_begin S K := by
  unfold p_begin
  unfold x_p_begin at h
  obtain ⟨n1, h⟩ := an_ok h
  refine ⟨n_vp ((rfl : (2 : Int32) = Int32.ofNat 2)) n1 (by decide), ?_⟩
  obtain ⟨t2, h, hS3⟩ := wrw_ok h hS (by decide) ((rfl : (2 : Int32) = Int32.ofNat 2)) ((rfl : (0 : Int32) = Int32.ofNat 0))
  obtain ⟨t4, h, hS5⟩ := wfi_ok h hS3  ((rfl : (0 : Int32) = Int32.ofNat 0))
  obtain ⟨t6, h, hS7⟩ := wfi_ok h hS5  ((rfl : (0 : Int32) = Int32.ofNat 0))
  obtain ⟨t8, h, hS9⟩ := wfi_ok h hS7  (((by decide) : (-1 : Int32) = Int32.ofNat 4294967295))
  obtain ⟨t10, h, hS11⟩ := wfi_ok h hS9  ((rfl : (0 : Int32) = Int32.ofNat 0))
  obtain ⟨t12, h, hS13⟩ := wfi_ok h hS11  ((rfl : (0 : Int32) = Int32.ofNat 0))
  exact xs_e_begin_34 h ((rfl : (0 : Int32) = Int32.ofNat 0)) hS13 hK
noncomputable def x_b_fail_17 (t : X6) (k_K : Nat → X6 → Bool) : Bool :=
  k_K 0 t
set_option maxRecDepth 20000 in
set_option maxHeartbeats 1000000 in
theorem xs_b_fail_17 {S : ms} {t : X6} {K : Int32 → ms → Prop} {k_K : Nat → X6 → Bool} (h : x_b_fail_17 t k_K = true) (hS : RM S t) (hK : ∀ {y0 : Int32} {b0 : Nat} {yS : ms} {yt : X6}, k_K b0 yt = true → y0 = Int32.ofNat b0 → RM yS yt → K y0 yS) : b_fail_17 S K := by
  unfold b_fail_17
  unfold x_b_fail_17 at h
  exact hK h ((rfl : (0 : Int32) = Int32.ofNat 0)) hS
noncomputable def x_p_fail (a_x1 : Nat) (a_x2 : Nat) (t : X6) (k_K : Nat → X6 → Bool) : Bool :=
  rfi t 35 fun v1 => cond (w_eq v1 0) (wfi t 35 a_x1 fun t4 => wfi t4 10 a_x2 fun t6 => x_b_fail_17 t6 k_K) (x_b_fail_17 t k_K)
set_option maxRecDepth 20000 in
set_option maxHeartbeats 1000000 in
theorem xs_p_fail {x1 : Int32} {a_x1 : Nat} {x2 : Int32} {a_x2 : Nat} {S : ms} {t : X6} {K : Int32 → ms → Prop} {k_K : Nat → X6 → Bool} (h : x_p_fail a_x1 a_x2 t k_K = true) (e_x1 : x1 = Int32.ofNat a_x1) (e_x2 : x2 = Int32.ofNat a_x2) (hS : RM S t) (hK : ∀ {y0 : Int32} {b0 : Nat} {yS : ms} {yt : X6}, k_K b0 yt = true → y0 = Int32.ofNat b0 → RM yS yt → K y0 yS) : p_fail x1 x2 S K := by
  unfold p_fail
  unfold x_p_fail at h
  obtain ⟨v1, h, q2⟩ := rfi_ok h hS
  have hc3 := c_eq' q2 ((rfl : (0 : Int32) = Int32.ofNat 0))
  refine ⟨fun hc => ?_, fun hc => ?_⟩
  · have h := x_neg h (fun q => hc (hc3.mpr q))
    exact xs_b_fail_17 h hS hK
  · have h := x_pos h (hc3.mp hc)
    obtain ⟨t4, h, hS5⟩ := wfi_ok h hS  e_x1
    obtain ⟨t6, h, hS7⟩ := wfi_ok h hS5  e_x2
    exact xs_b_fail_17 h hS7 hK
noncomputable def x_p_next (t : X6) (k_K : Nat → X6 → Bool) : Bool :=
  rfi t 34 fun v1 => rfi t 7 fun v3 => cond (w_lt v1 v3) (frc (w_add v1 1) fun f8 => wfi t 34 f8 fun t6 => rfi t6 34 fun v10 => frc (w_sub v10 1) fun f12 => and (Nat.blt f12 32768) <| rrw t6 6 f12 fun v15 => k_K v15 t6) (x_p_fail 1 v3 t (fun v17_ t_S17 => k_K 0 t_S17))
set_option maxRecDepth 20000 in
set_option maxHeartbeats 1000000 in
theorem xs_p_next {S : ms} {t : X6} {K : Int32 → ms → Prop} {k_K : Nat → X6 → Bool} (h : x_p_next t k_K = true) (hS : RM S t) (hK : ∀ {y0 : Int32} {b0 : Nat} {yS : ms} {yt : X6}, k_K b0 yt = true → y0 = Int32.ofNat b0 → RM yS yt → K y0 yS) : p_next S K := by
  unfold p_next
  unfold x_p_next at h
  obtain ⟨v1, h, q2⟩ := rfi_ok h hS
  obtain ⟨v3, h, q4⟩ := rfi_ok h hS
  have hc5 := c_lt' q2 q4
  refine ⟨fun hc => ?_, fun hc => ?_⟩
  · have h := x_pos h (hc5.mp hc)
    have h := frc_ok h
    have p9 := n_add q2 ((rfl : (1 : Int32) = Int32.ofNat 1))
    obtain ⟨t6, h, hS7⟩ := wfi_ok h hS  p9
    obtain ⟨v10, h, q11⟩ := rfi_ok h hS7
    have h := frc_ok h
    have p13 := n_sub q11 ((rfl : (1 : Int32) = Int32.ofNat 1))
    obtain ⟨n14, h⟩ := an_ok h
    refine ⟨n_vp p13 n14 (by decide), ?_⟩
    obtain ⟨v15, h, q16⟩ := rrw_ok h hS7 (by decide) p13
    exact hK h q16 hS7
  · have h := x_neg h (fun q => hc (hc5.mpr q))
    refine xs_p_fail h ((rfl : (1 : Int32) = Int32.ofNat 1)) q4 hS (fun h e_v17 h_S17 => ?_)
    exact hK h ((rfl : (0 : Int32) = Int32.ofNat 0)) h_S17
noncomputable def x_b_readMark_53 (a_x2 : Nat) (t : X6) (k_K : Nat → X6 → Bool) : Bool :=
  k_K a_x2 t
set_option maxRecDepth 20000 in
set_option maxHeartbeats 1000000 in
theorem xs_b_readMark_53 {x2 : Int32} {a_x2 : Nat} {S : ms} {t : X6} {K : Int32 → ms → Prop} {k_K : Nat → X6 → Bool} (h : x_b_readMark_53 a_x2 t k_K = true) (e_x2 : x2 = Int32.ofNat a_x2) (hS : RM S t) (hK : ∀ {y0 : Int32} {b0 : Nat} {yS : ms} {yt : X6}, k_K b0 yt = true → y0 = Int32.ofNat b0 → RM yS yt → K y0 yS) : b_readMark_53 x2 S K := by
  unfold b_readMark_53
  unfold x_b_readMark_53 at h
  exact hK h e_x2 hS
noncomputable def x_b_readMark_31 (a_x2 : Nat) (t : X6) (r_R31 : Nat → X6 → Bool) (k_K : Nat → X6 → Bool) : Bool :=
  rfi t 35 fun v1 => cond (w_eq v1 0) (cond (w_eq a_x2 255) (x_p_next t (fun v46_ t_S46 => r_R31 v46_ t_S46)) (x_b_readMark_53 a_x2 t k_K)) (x_b_readMark_53 a_x2 t k_K)
set_option maxRecDepth 20000 in
set_option maxHeartbeats 1000000 in
theorem xs_b_readMark_31 {x2 : Int32} {a_x2 : Nat} {S : ms} {t : X6} {R31 : Int32 → ms → Prop} {r_R31 : Nat → X6 → Bool} {K : Int32 → ms → Prop} {k_K : Nat → X6 → Bool} (h : x_b_readMark_31 a_x2 t r_R31 k_K = true) (e_x2 : x2 = Int32.ofNat a_x2) (hS : RM S t) (hR31 : ∀ {y0 : Int32} {b0 : Nat} {yS : ms} {yt : X6}, r_R31 b0 yt = true → y0 = Int32.ofNat b0 → RM yS yt → R31 y0 yS) (hK : ∀ {y0 : Int32} {b0 : Nat} {yS : ms} {yt : X6}, k_K b0 yt = true → y0 = Int32.ofNat b0 → RM yS yt → K y0 yS) : b_readMark_31 x2 S R31 K := by
  unfold b_readMark_31
  unfold x_b_readMark_31 at h
  obtain ⟨v1, h, q2⟩ := rfi_ok h hS
  have hc3 := c_eq' q2 ((rfl : (0 : Int32) = Int32.ofNat 0))
  refine ⟨fun hc => ?_, fun hc => ?_⟩
  · have h := x_neg h (fun q => hc (hc3.mpr q))
    exact xs_b_readMark_53 h e_x2 hS hK
  · have h := x_pos h (hc3.mp hc)
    have hc4 := c_eq' e_x2 ((rfl : (255 : Int32) = Int32.ofNat 255))
    refine ⟨fun hc => ?_, fun hc => ?_⟩
    · have h := x_neg h (fun q => hc (hc4.mpr q))
      exact xs_b_readMark_53 h e_x2 hS hK
    · have h := x_pos h (hc4.mp hc)
      refine xs_p_next h hS (fun h e_v46 h_S46 => ?_)
      exact hR31 h e_v46 h_S46
noncomputable def xl_e_readMark_31 (k_K : Nat → X6 → Bool) (n : Nat) : Nat → X6 → Bool := Nat.rec (motive := fun _ => Nat → X6 → Bool) (fun _ _ => false) (fun _ ih b_x2 bt => x_b_readMark_31 b_x2 bt ih k_K) n
noncomputable def x_e_readMark_31 (a_x2 : Nat) (t : X6) (k_K : Nat → X6 → Bool) : Bool := xl_e_readMark_31 k_K 200000 a_x2 t
def xq_e_readMark_31 (k_K : Nat → X6 → Bool) (n : Nat) (y_x2 : Int32) (yS : ms) : Prop := ∃ (b_x2 : Nat) (bt : X6), y_x2 = Int32.ofNat b_x2 ∧ RM yS bt ∧ xl_e_readMark_31 k_K n b_x2 bt = true
set_option maxRecDepth 20000 in
theorem xs_e_readMark_31 {x2 : Int32} {a_x2 : Nat} {S : ms} {t : X6} {K : Int32 → ms → Prop} {k_K : Nat → X6 → Bool} (h : x_e_readMark_31 a_x2 t k_K = true) (e_x2 : x2 = Int32.ofNat a_x2) (hS : RM S t) (hK : ∀ {y0 : Int32} {b0 : Nat} {yS : ms} {yt : X6}, k_K b0 yt = true → y0 = Int32.ofNat b0 → RM yS yt → K y0 yS) : e_readMark_31 x2 S K := by
  refine ⟨fun y_x2 yS => ∃ n, xq_e_readMark_31 k_K n y_x2 yS, fun y_x2 yS => mf (fun n => xq_e_readMark_31 k_K n y_x2 yS), ⟨200000, a_x2, t, e_x2, hS, h⟩, fun y_x2 yS hI => ?_⟩
  obtain ⟨m, hm, hq⟩ := mf_ok hI
  obtain ⟨b_x2, bt, c_x2, cS, h⟩ := hq
  cases m with
  | zero => exact absurd h Bool.false_ne_true
  | succ n => exact xs_b_readMark_31 h c_x2 cS (fun h d_x2 dS => ⟨⟨n, _, _, d_x2, dS, h⟩, Nat.lt_of_le_of_lt (mf_le ⟨_, _, d_x2, dS, h⟩) (Nat.lt_of_lt_of_eq (Nat.lt_succ_self n) hm.symm)⟩) hK
noncomputable def x_p_readMark (t : X6) (k_K : Nat → X6 → Bool) : Bool :=
  x_p_next t (fun v6_ t_S6 => rfi t_S6 35 fun v1 => cond (w_eq v1 0) (cond (w_eq v6_ 255) (x_e_readMark_31 v6_ t_S6 k_K) (rfi t 34 fun v5 => x_p_fail 2 v5 t_S6 (fun v27_ t_S27 => x_e_readMark_31 v6_ t_S27 k_K))) (x_e_readMark_31 v6_ t_S6 k_K))
set_option maxRecDepth 20000 in
set_option maxHeartbeats 1000000 in
theorem xs_p_readMark {S : ms} {t : X6} {K : Int32 → ms → Prop} {k_K : Nat → X6 → Bool} (h : x_p_readMark t k_K = true) (hS : RM S t) (hK : ∀ {y0 : Int32} {b0 : Nat} {yS : ms} {yt : X6}, k_K b0 yt = true → y0 = Int32.ofNat b0 → RM yS yt → K y0 yS) : p_readMark S K := by
  unfold p_readMark
  unfold x_p_readMark at h
  refine xs_p_next h hS (fun h e_v6 h_S6 => ?_)
  obtain ⟨v1, h, q2⟩ := rfi_ok h h_S6
  have hc3 := c_eq' q2 ((rfl : (0 : Int32) = Int32.ofNat 0))
  refine ⟨fun hc => ?_, fun hc => ?_⟩
  · have h := x_neg h (fun q => hc (hc3.mpr q))
    exact xs_e_readMark_31 h e_v6 h_S6 hK
  · have h := x_pos h (hc3.mp hc)
    have hc4 := c_eq' e_v6 ((rfl : (255 : Int32) = Int32.ofNat 255))
    refine ⟨fun hc => ?_, fun hc => ?_⟩
    · have h := x_pos h (hc4.mp hc)
      exact xs_e_readMark_31 h e_v6 h_S6 hK
    · have h := x_neg h (fun q => hc (hc4.mpr q))
      obtain ⟨v5, h, q6⟩ := rfi_ok h hS
      refine xs_p_fail h ((rfl : (2 : Int32) = Int32.ofNat 2)) q6 h_S6 (fun h e_v27 h_S27 => ?_)
      exact xs_e_readMark_31 h e_v6 h_S27 hK
noncomputable def x_b_unpack_148 (t : X6) (k_K : Nat → X6 → Bool) : Bool :=
  rfi t 35 fun v1 => k_K v1 t
set_option maxRecDepth 20000 in
set_option maxHeartbeats 1000000 in
theorem xs_b_unpack_148 {S : ms} {t : X6} {K : Int32 → ms → Prop} {k_K : Nat → X6 → Bool} (h : x_b_unpack_148 t k_K = true) (hS : RM S t) (hK : ∀ {y0 : Int32} {b0 : Nat} {yS : ms} {yt : X6}, k_K b0 yt = true → y0 = Int32.ofNat b0 → RM yS yt → K y0 yS) : b_unpack_148 S K := by
  unfold b_unpack_148
  unfold x_b_unpack_148 at h
  obtain ⟨v1, h, q2⟩ := rfi_ok h hS
  exact hK h q2 hS
noncomputable def x_b_unpack_137 (t : X6) (k_K : Nat → X6 → Bool) : Bool :=
  rfi t 35 fun v1 => cond (w_eq v1 0) (false) (x_b_unpack_148 t k_K)
set_option maxRecDepth 20000 in
set_option maxHeartbeats 1000000 in
theorem xs_b_unpack_137 {S : ms} {t : X6} {K : Int32 → ms → Prop} {k_K : Nat → X6 → Bool} (h : x_b_unpack_137 t k_K = true) (hS : RM S t) (hK : ∀ {y0 : Int32} {b0 : Nat} {yS : ms} {yt : X6}, k_K b0 yt = true → y0 = Int32.ofNat b0 → RM yS yt → K y0 yS) : b_unpack_137 S K := by
  unfold b_unpack_137
  unfold x_b_unpack_137 at h
  obtain ⟨v1, h, q2⟩ := rfi_ok h hS
  have hc3 := c_eq' q2 ((rfl : (0 : Int32) = Int32.ofNat 0))
  refine ⟨fun hc => ?_, fun hc => ?_⟩
  · have h := x_neg h (fun q => hc (hc3.mpr q))
    exact xs_b_unpack_148 h hS hK
  · have h := x_pos h (hc3.mp hc)
    exact absurd h Bool.false_ne_true
noncomputable def x_b_unpack_108 (t : X6) (k_K : Nat → X6 → Bool) : Bool :=
  rfi t 35 fun v1 => cond (w_eq v1 0) (rfi t 7 fun v4 => rfi t 34 fun v6 => cond (!(w_lt v6 v4)) (x_b_unpack_137 t k_K) (x_p_fail 8 v6 t (fun v133_ t_S133 => x_b_unpack_137 t_S133 k_K))) (x_b_unpack_137 t k_K)
set_option maxRecDepth 20000 in
set_option maxHeartbeats 1000000 in
theorem xs_b_unpack_108 {S : ms} {t : X6} {K : Int32 → ms → Prop} {k_K : Nat → X6 → Bool} (h : x_b_unpack_108 t k_K = true) (hS : RM S t) (hK : ∀ {y0 : Int32} {b0 : Nat} {yS : ms} {yt : X6}, k_K b0 yt = true → y0 = Int32.ofNat b0 → RM yS yt → K y0 yS) : b_unpack_108 S K := by
  unfold b_unpack_108
  unfold x_b_unpack_108 at h
  obtain ⟨v1, h, q2⟩ := rfi_ok h hS
  have hc3 := c_eq' q2 ((rfl : (0 : Int32) = Int32.ofNat 0))
  refine ⟨fun hc => ?_, fun hc => ?_⟩
  · have h := x_neg h (fun q => hc (hc3.mpr q))
    exact xs_b_unpack_137 h hS hK
  · have h := x_pos h (hc3.mp hc)
    obtain ⟨v4, h, q5⟩ := rfi_ok h hS
    obtain ⟨v6, h, q7⟩ := rfi_ok h hS
    have hc8 := c_le' q5 q7
    refine ⟨fun hc => ?_, fun hc => ?_⟩
    · have h := x_pos h (hc8.mp hc)
      exact xs_b_unpack_137 h hS hK
    · have h := x_neg h (fun q => hc (hc8.mpr q))
      refine xs_p_fail h ((rfl : (8 : Int32) = Int32.ofNat 8)) q7 hS (fun h e_v133 h_S133 => ?_)
      exact xs_b_unpack_137 h h_S133 hK
noncomputable def x_b_unpack_86 (a_x1 : Nat) (t : X6) (r_R40 : Nat → X6 → Bool) (k_K : Nat → X6 → Bool) : Bool :=
  rfi t 35 fun v1 => cond (w_eq v1 0) (cond (w_eq a_x1 217) (r_R40 a_x1 t) (false)) (r_R40 a_x1 t)
set_option maxRecDepth 20000 in
set_option maxHeartbeats 1000000 in
theorem xs_b_unpack_86 {x1 : Int32} {a_x1 : Nat} {S : ms} {t : X6} {R40 : Int32 → ms → Prop} {r_R40 : Nat → X6 → Bool} {K : Int32 → ms → Prop} {k_K : Nat → X6 → Bool} (h : x_b_unpack_86 a_x1 t r_R40 k_K = true) (e_x1 : x1 = Int32.ofNat a_x1) (hS : RM S t) (hR40 : ∀ {y0 : Int32} {b0 : Nat} {yS : ms} {yt : X6}, r_R40 b0 yt = true → y0 = Int32.ofNat b0 → RM yS yt → R40 y0 yS) (hK : ∀ {y0 : Int32} {b0 : Nat} {yS : ms} {yt : X6}, k_K b0 yt = true → y0 = Int32.ofNat b0 → RM yS yt → K y0 yS) : b_unpack_86 x1 S R40 K := by
  unfold b_unpack_86
  unfold x_b_unpack_86 at h
  obtain ⟨v1, h, q2⟩ := rfi_ok h hS
  have hc3 := c_eq' q2 ((rfl : (0 : Int32) = Int32.ofNat 0))
  refine ⟨fun hc => ?_, fun hc => ?_⟩
  · have h := x_neg h (fun q => hc (hc3.mpr q))
    exact hR40 h e_x1 hS
  · have h := x_pos h (hc3.mp hc)
    have hc4 := c_eq' e_x1 ((rfl : (217 : Int32) = Int32.ofNat 217))
    refine ⟨fun hc => ?_, fun hc => ?_⟩
    · have h := x_pos h (hc4.mp hc)
      exact hR40 h e_x1 hS
    · have h := x_neg h (fun q => hc (hc4.mpr q))
      exact absurd h Bool.false_ne_true
noncomputable def x_b_unpack_40 (a_x1 : Nat) (t : X6) (r_R40 : Nat → X6 → Bool) (k_K : Nat → X6 → Bool) : Bool :=
  rfi t 35 fun v1 => cond (w_eq v1 0) (cond (w_eq a_x1 217) (x_b_unpack_108 t k_K) (x_p_readMark t (fun v55_ t_S55 => rfi t_S55 35 fun v5 => cond (w_eq v5 0) (false) (x_b_unpack_86 v55_ t_S55 r_R40 k_K)))) (x_b_unpack_108 t k_K)
set_option maxRecDepth 20000 in
set_option maxHeartbeats 1000000 in
theorem xs_b_unpack_40 {x1 : Int32} {a_x1 : Nat} {S : ms} {t : X6} {R40 : Int32 → ms → Prop} {r_R40 : Nat → X6 → Bool} {K : Int32 → ms → Prop} {k_K : Nat → X6 → Bool} (h : x_b_unpack_40 a_x1 t r_R40 k_K = true) (e_x1 : x1 = Int32.ofNat a_x1) (hS : RM S t) (hR40 : ∀ {y0 : Int32} {b0 : Nat} {yS : ms} {yt : X6}, r_R40 b0 yt = true → y0 = Int32.ofNat b0 → RM yS yt → R40 y0 yS) (hK : ∀ {y0 : Int32} {b0 : Nat} {yS : ms} {yt : X6}, k_K b0 yt = true → y0 = Int32.ofNat b0 → RM yS yt → K y0 yS) : b_unpack_40 x1 S R40 K := by
  unfold b_unpack_40
  unfold x_b_unpack_40 at h
  obtain ⟨v1, h, q2⟩ := rfi_ok h hS
  have hc3 := c_eq' q2 ((rfl : (0 : Int32) = Int32.ofNat 0))
  refine ⟨fun hc => ?_, fun hc => ?_⟩
  · have h := x_neg h (fun q => hc (hc3.mpr q))
    exact xs_b_unpack_108 h hS hK
  · have h := x_pos h (hc3.mp hc)
    have hc4 := c_eq' e_x1 ((rfl : (217 : Int32) = Int32.ofNat 217))
    refine ⟨fun hc => ?_, fun hc => ?_⟩
    · have h := x_pos h (hc4.mp hc)
      exact xs_b_unpack_108 h hS hK
    · have h := x_neg h (fun q => hc (hc4.mpr q))
      refine xs_p_readMark h hS (fun h e_v55 h_S55 => ?_)
      obtain ⟨v5, h, q6⟩ := rfi_ok h h_S55
      have hc7 := c_eq' q6 ((rfl : (0 : Int32) = Int32.ofNat 0))
      refine ⟨fun hc => ?_, fun hc => ?_⟩
      · have h := x_neg h (fun q => hc (hc7.mpr q))
        exact xs_b_unpack_86 h e_v55 h_S55 hR40 hK
      · have h := x_pos h (hc7.mp hc)
        exact absurd h Bool.false_ne_true
noncomputable def xl_e_unpack_40 (k_K : Nat → X6 → Bool) (n : Nat) : Nat → X6 → Bool := Nat.rec (motive := fun _ => Nat → X6 → Bool) (fun _ _ => false) (fun _ ih b_x1 bt => x_b_unpack_40 b_x1 bt ih k_K) n
noncomputable def x_e_unpack_40 (a_x1 : Nat) (t : X6) (k_K : Nat → X6 → Bool) : Bool := xl_e_unpack_40 k_K 200000 a_x1 t
def xq_e_unpack_40 (k_K : Nat → X6 → Bool) (n : Nat) (y_x1 : Int32) (yS : ms) : Prop := ∃ (b_x1 : Nat) (bt : X6), y_x1 = Int32.ofNat b_x1 ∧ RM yS bt ∧ xl_e_unpack_40 k_K n b_x1 bt = true
set_option maxRecDepth 20000 in
theorem xs_e_unpack_40 {x1 : Int32} {a_x1 : Nat} {S : ms} {t : X6} {K : Int32 → ms → Prop} {k_K : Nat → X6 → Bool} (h : x_e_unpack_40 a_x1 t k_K = true) (e_x1 : x1 = Int32.ofNat a_x1) (hS : RM S t) (hK : ∀ {y0 : Int32} {b0 : Nat} {yS : ms} {yt : X6}, k_K b0 yt = true → y0 = Int32.ofNat b0 → RM yS yt → K y0 yS) : e_unpack_40 x1 S K := by
  refine ⟨fun y_x1 yS => ∃ n, xq_e_unpack_40 k_K n y_x1 yS, fun y_x1 yS => mf (fun n => xq_e_unpack_40 k_K n y_x1 yS), ⟨200000, a_x1, t, e_x1, hS, h⟩, fun y_x1 yS hI => ?_⟩
  obtain ⟨m, hm, hq⟩ := mf_ok hI
  obtain ⟨b_x1, bt, c_x1, cS, h⟩ := hq
  cases m with
  | zero => exact absurd h Bool.false_ne_true
  | succ n => exact xs_b_unpack_40 h c_x1 cS (fun h d_x1 dS => ⟨⟨n, _, _, d_x1, dS, h⟩, Nat.lt_of_le_of_lt (mf_le ⟨_, _, d_x1, dS, h⟩) (Nat.lt_of_lt_of_eq (Nat.lt_succ_self n) hm.symm)⟩) hK
noncomputable def x_p_unpack (t : X6) (k_K : Nat → X6 → Bool) : Bool :=
  wfi t 0 0 fun t1 => x_p_begin t1 (fun t_S6 => x_p_readMark t_S6 (fun v10_ t_S10 => rfi t_S10 35 fun v3 => cond (w_eq v3 0) (cond (w_eq v10_ 216) (x_e_unpack_40 v10_ t_S10 k_K) (rfi t_S10 34 fun v7 => frc (w_sub v7 1) fun f9 => x_p_fail 3 f9 t_S10 (fun v36_ t_S36 => x_e_unpack_40 v10_ t_S36 k_K))) (x_e_unpack_40 v10_ t_S10 k_K)))
set_option maxRecDepth 20000 in
set_option maxHeartbeats 1000000 in
theorem xs_p_unpack {S : ms} {t : X6} {K : Int32 → ms → Prop} {k_K : Nat → X6 → Bool} (h : x_p_unpack t k_K = true) (hS : RM S t) (hK : ∀ {y0 : Int32} {b0 : Nat} {yS : ms} {yt : X6}, k_K b0 yt = true → y0 = Int32.ofNat b0 → RM yS yt → K y0 yS) : p_unpack S K := by
  unfold p_unpack
  unfold x_p_unpack at h
  obtain ⟨t1, h, hS2⟩ := wfi_ok h hS  ((rfl : (0 : Int32) = Int32.ofNat 0))
  refine xs_p_begin h hS2 (fun h h_S6 => ?_)
  refine xs_p_readMark h h_S6 (fun h e_v10 h_S10 => ?_)
  obtain ⟨v3, h, q4⟩ := rfi_ok h h_S10
  have hc5 := c_eq' q4 ((rfl : (0 : Int32) = Int32.ofNat 0))
  refine ⟨fun hc => ?_, fun hc => ?_⟩
  · have h := x_neg h (fun q => hc (hc5.mpr q))
    exact xs_e_unpack_40 h e_v10 h_S10 hK
  · have h := x_pos h (hc5.mp hc)
    have hc6 := c_eq' e_v10 ((rfl : (216 : Int32) = Int32.ofNat 216))
    refine ⟨fun hc => ?_, fun hc => ?_⟩
    · have h := x_pos h (hc6.mp hc)
      exact xs_e_unpack_40 h e_v10 h_S10 hK
    · have h := x_neg h (fun q => hc (hc6.mpr q))
      obtain ⟨v7, h, q8⟩ := rfi_ok h h_S10
      have h := frc_ok h
      have p10 := n_sub q8 ((rfl : (1 : Int32) = Int32.ofNat 1))
      refine xs_p_fail h ((rfl : (3 : Int32) = Int32.ofNat 3)) p10 h_S10 (fun h e_v36 h_S36 => ?_)
      exact xs_e_unpack_40 h e_v10 h_S36 hK
noncomputable def x_b_turn2_29 (a_x1 : Nat) (t : X6) (r_R29 : Nat → X6 → Bool) (k_K : Nat → X6 → Bool) : Bool :=
  rfi t 9 fun v1 => cond (!(w_lt a_x1 v1)) (wfi t 7 v1 fun t4 => rfi t4 7 fun v6 => k_K v6 t4) (and (Nat.blt a_x1 65536) <| and (Nat.blt a_x1 32768) <| frc (w_add a_x1 1) fun f10 => rrw t 8 a_x1 fun v14 => wrw t 6 a_x1 v14 fun t12 => r_R29 f10 t12)
set_option maxRecDepth 20000 in
set_option maxHeartbeats 1000000 in
theorem xs_b_turn2_29 {x1 : Int32} {a_x1 : Nat} {S : ms} {t : X6} {R29 : Int32 → ms → Prop} {r_R29 : Nat → X6 → Bool} {K : Int32 → ms → Prop} {k_K : Nat → X6 → Bool} (h : x_b_turn2_29 a_x1 t r_R29 k_K = true) (e_x1 : x1 = Int32.ofNat a_x1) (hS : RM S t) (hR29 : ∀ {y0 : Int32} {b0 : Nat} {yS : ms} {yt : X6}, r_R29 b0 yt = true → y0 = Int32.ofNat b0 → RM yS yt → R29 y0 yS) (hK : ∀ {y0 : Int32} {b0 : Nat} {yS : ms} {yt : X6}, k_K b0 yt = true → y0 = Int32.ofNat b0 → RM yS yt → K y0 yS) : b_turn2_29 x1 S R29 K := by
  unfold b_turn2_29
  unfold x_b_turn2_29 at h
  obtain ⟨v1, h, q2⟩ := rfi_ok h hS
  have hc3 := c_le' q2 e_x1
  refine ⟨fun hc => ?_, fun hc => ?_⟩
  · have h := x_pos h (hc3.mp hc)
    obtain ⟨t4, h, hS5⟩ := wfi_ok h hS  q2
    obtain ⟨v6, h, q7⟩ := rfi_ok h hS5
    exact hK h q7 hS5
  · have h := x_neg h (fun q => hc (hc3.mpr q))
    obtain ⟨n8, h⟩ := an_ok h
    refine ⟨n_vp e_x1 n8 (by decide), ?_⟩
    obtain ⟨n9, h⟩ := an_ok h
    refine ⟨n_vp e_x1 n9 (by decide), ?_⟩
    have h := frc_ok h
    have p11 := n_add e_x1 ((rfl : (1 : Int32) = Int32.ofNat 1))
    obtain ⟨v14, h, q15⟩ := rrw_ok h hS (by decide) e_x1
    obtain ⟨t12, h, hS13⟩ := wrw_ok h hS (by decide) e_x1 q15
    exact hR29 h p11 hS13
noncomputable def xl_e_turn2_29 (k_K : Nat → X6 → Bool) (n : Nat) : Nat → X6 → Bool := Nat.rec (motive := fun _ => Nat → X6 → Bool) (fun _ _ => false) (fun _ ih b_x1 bt => x_b_turn2_29 b_x1 bt ih k_K) n
noncomputable def x_e_turn2_29 (a_x1 : Nat) (t : X6) (k_K : Nat → X6 → Bool) : Bool := xl_e_turn2_29 k_K 200000 a_x1 t
def xq_e_turn2_29 (k_K : Nat → X6 → Bool) (n : Nat) (y_x1 : Int32) (yS : ms) : Prop := ∃ (b_x1 : Nat) (bt : X6), y_x1 = Int32.ofNat b_x1 ∧ RM yS bt ∧ xl_e_turn2_29 k_K n b_x1 bt = true
set_option maxRecDepth 20000 in
theorem xs_e_turn2_29 {x1 : Int32} {a_x1 : Nat} {S : ms} {t : X6} {K : Int32 → ms → Prop} {k_K : Nat → X6 → Bool} (h : x_e_turn2_29 a_x1 t k_K = true) (e_x1 : x1 = Int32.ofNat a_x1) (hS : RM S t) (hK : ∀ {y0 : Int32} {b0 : Nat} {yS : ms} {yt : X6}, k_K b0 yt = true → y0 = Int32.ofNat b0 → RM yS yt → K y0 yS) : e_turn2_29 x1 S K := by
  refine ⟨fun y_x1 yS => ∃ n, xq_e_turn2_29 k_K n y_x1 yS, fun y_x1 yS => mf (fun n => xq_e_turn2_29 k_K n y_x1 yS), ⟨200000, a_x1, t, e_x1, hS, h⟩, fun y_x1 yS hI => ?_⟩
  obtain ⟨m, hm, hq⟩ := mf_ok hI
  obtain ⟨b_x1, bt, c_x1, cS, h⟩ := hq
  cases m with
  | zero => exact absurd h Bool.false_ne_true
  | succ n => exact xs_b_turn2_29 h c_x1 cS (fun h d_x1 dS => ⟨⟨n, _, _, d_x1, dS, h⟩, Nat.lt_of_le_of_lt (mf_le ⟨_, _, d_x1, dS, h⟩) (Nat.lt_of_lt_of_eq (Nat.lt_succ_self n) hm.symm)⟩) hK
noncomputable def x_b_turn2_15 (a_s1 : Nat) (t : X6) (k_K : Nat → X6 → Bool) : Bool :=
  wfi t 0 a_s1 fun t1 => rfi t1 0 fun v3 => cond (!(w_lt 0 v3)) (x_e_turn2_29 0 t1 k_K) (k_K 0 t1)
set_option maxRecDepth 20000 in
set_option maxHeartbeats 1000000 in
theorem xs_b_turn2_15 {s1 : Int32} {a_s1 : Nat} {S : ms} {t : X6} {K : Int32 → ms → Prop} {k_K : Nat → X6 → Bool} (h : x_b_turn2_15 a_s1 t k_K = true) (e_s1 : s1 = Int32.ofNat a_s1) (hS : RM S t) (hK : ∀ {y0 : Int32} {b0 : Nat} {yS : ms} {yt : X6}, k_K b0 yt = true → y0 = Int32.ofNat b0 → RM yS yt → K y0 yS) : b_turn2_15 s1 S K := by
  unfold b_turn2_15
  unfold x_b_turn2_15 at h
  obtain ⟨t1, h, hS2⟩ := wfi_ok h hS  e_s1
  obtain ⟨v3, h, q4⟩ := rfi_ok h hS2
  have hc5 := c_le' q4 ((rfl : (0 : Int32) = Int32.ofNat 0))
  refine ⟨fun hc => ?_, fun hc => ?_⟩
  · have h := x_pos h (hc5.mp hc)
    exact xs_e_turn2_29 h ((rfl : (0 : Int32) = Int32.ofNat 0)) hS2 hK
  · have h := x_neg h (fun q => hc (hc5.mpr q))
    exact hK h ((rfl : (0 : Int32) = Int32.ofNat 0)) hS2
noncomputable def x_p_turn2 (t : X6) (k_K : Nat → X6 → Bool) : Bool :=
  rfi t 9 fun v1 => cond (!(w_lt 32768 v1)) (x_b_turn2_15 0 t k_K) (x_b_turn2_15 1 t k_K)
set_option maxRecDepth 20000 in
set_option maxHeartbeats 1000000 in
theorem xs_p_turn2 {S : ms} {t : X6} {K : Int32 → ms → Prop} {k_K : Nat → X6 → Bool} (h : x_p_turn2 t k_K = true) (hS : RM S t) (hK : ∀ {y0 : Int32} {b0 : Nat} {yS : ms} {yt : X6}, k_K b0 yt = true → y0 = Int32.ofNat b0 → RM yS yt → K y0 yS) : p_turn2 S K := by
  unfold p_turn2
  unfold x_p_turn2 at h
  obtain ⟨v1, h, q2⟩ := rfi_ok h hS
  have hc3 := c_le' q2 ((rfl : (32768 : Int32) = Int32.ofNat 32768))
  refine ⟨fun hc => ?_, fun hc => ?_⟩
  · have h := x_pos h (hc3.mp hc)
    exact xs_b_turn2_15 h ((rfl : (0 : Int32) = Int32.ofNat 0)) hS hK
  · have h := x_neg h (fun q => hc (hc3.mpr q))
    exact xs_b_turn2_15 h ((rfl : (1 : Int32) = Int32.ofNat 1)) hS hK
noncomputable def x_p_size (t : X6) (k_K : Nat → X6 → Bool) : Bool :=
  wfi t 0 0 fun t1 => rfi t1 9 fun v3 => k_K v3 t1
set_option maxRecDepth 20000 in
set_option maxHeartbeats 1000000 in
theorem xs_p_size {S : ms} {t : X6} {K : Int32 → ms → Prop} {k_K : Nat → X6 → Bool} (h : x_p_size t k_K = true) (hS : RM S t) (hK : ∀ {y0 : Int32} {b0 : Nat} {yS : ms} {yt : X6}, k_K b0 yt = true → y0 = Int32.ofNat b0 → RM yS yt → K y0 yS) : p_size S K := by
  unfold p_size
  unfold x_p_size at h
  obtain ⟨t1, h, hS2⟩ := wfi_ok h hS  ((rfl : (0 : Int32) = Int32.ofNat 0))
  obtain ⟨v3, h, q4⟩ := rfi_ok h hS2
  exact hK h q4 hS2
noncomputable def x_p_place (t : X6) (k_K : Nat → X6 → Bool) : Bool :=
  wfi t 0 0 fun t1 => rfi t1 10 fun v3 => k_K v3 t1
set_option maxRecDepth 20000 in
set_option maxHeartbeats 1000000 in
theorem xs_p_place {S : ms} {t : X6} {K : Int32 → ms → Prop} {k_K : Nat → X6 → Bool} (h : x_p_place t k_K = true) (hS : RM S t) (hK : ∀ {y0 : Int32} {b0 : Nat} {yS : ms} {yt : X6}, k_K b0 yt = true → y0 = Int32.ofNat b0 → RM yS yt → K y0 yS) : p_place S K := by
  unfold p_place
  unfold x_p_place at h
  obtain ⟨t1, h, hS2⟩ := wfi_ok h hS  ((rfl : (0 : Int32) = Int32.ofNat 0))
  obtain ⟨v3, h, q4⟩ := rfi_ok h hS2
  exact hK h q4 hS2
noncomputable def x_b_take_15 (a_s1 : Nat) (t : X6) (k_K : X6 → Bool) : Bool :=
  wfi t 0 a_s1 fun t1 => rfi t1 0 fun v3 => cond (!(w_lt 0 v3)) (and (Nat.blt 1 3) <| false) (k_K t1)
set_option maxRecDepth 20000 in
set_option maxHeartbeats 1000000 in
theorem xs_b_take_15 {s1 : Int32} {a_s1 : Nat} {S : ms} {t : X6} {K : ms → Prop} {k_K : X6 → Bool} (h : x_b_take_15 a_s1 t k_K = true) (e_s1 : s1 = Int32.ofNat a_s1) (hS : RM S t) (hK : ∀ {yS : ms} {yt : X6}, k_K yt = true → RM yS yt → K yS) : b_take_15 s1 S K := by
  unfold b_take_15
  unfold x_b_take_15 at h
  obtain ⟨t1, h, hS2⟩ := wfi_ok h hS  e_s1
  obtain ⟨v3, h, q4⟩ := rfi_ok h hS2
  have hc5 := c_le' q4 ((rfl : (0 : Int32) = Int32.ofNat 0))
  refine ⟨fun hc => ?_, fun hc => ?_⟩
  · have h := x_pos h (hc5.mp hc)
    obtain ⟨n6, h⟩ := an_ok h
    refine ⟨n_vp ((rfl : (1 : Int32) = Int32.ofNat 1)) n6 (by decide), ?_⟩
    refine ⟨n_vp ((rfl : (1 : Int32) = Int32.ofNat 1)) n6 (by decide), ?_⟩
    refine ⟨n_vp ((rfl : (1 : Int32) = Int32.ofNat 1)) n6 (by decide), ?_⟩
    exact absurd h Bool.false_ne_true
  · have h := x_neg h (fun q => hc (hc5.mpr q))
    exact hK h hS2
noncomputable def x_p_take (t : X6) (k_K : X6 → Bool) : Bool :=
  and (Nat.blt 1 3) <| rrw t 11 1 fun v2 => cond (w_eq v2 0) (x_b_take_15 1 t k_K) (x_b_take_15 0 t k_K)
set_option maxRecDepth 20000 in
set_option maxHeartbeats 1000000 in
theorem xs_p_take {S : ms} {t : X6} {K : ms → Prop} {k_K : X6 → Bool} (h : x_p_take t k_K = true) (hS : RM S t) (hK : ∀ {yS : ms} {yt : X6}, k_K yt = true → RM yS yt → K yS) : p_take S K := by
  unfold p_take
  unfold x_p_take at h
  obtain ⟨n1, h⟩ := an_ok h
  refine ⟨n_vp ((rfl : (1 : Int32) = Int32.ofNat 1)) n1 (by decide), ?_⟩
  obtain ⟨v2, h, q3⟩ := rrw_ok h hS (by decide) ((rfl : (1 : Int32) = Int32.ofNat 1))
  have hc4 := c_eq' q3 ((rfl : (0 : Int32) = Int32.ofNat 0))
  refine ⟨fun hc => ?_, fun hc => ?_⟩
  · have h := x_pos h (hc4.mp hc)
    exact xs_b_take_15 h ((rfl : (1 : Int32) = Int32.ofNat 1)) hS hK
  · have h := x_neg h (fun q => hc (hc4.mpr q))
    exact xs_b_take_15 h ((rfl : (0 : Int32) = Int32.ofNat 0)) hS hK
noncomputable def x_b_feed_86_s0_x1_x2_x3_x4_x5 (a_x6 : Nat) (t : X6) (r_R33 : Nat → X6 → Bool) (k_K : Nat → X6 → Bool) : Bool :=
  rfi t 7 fun v1 => and (Nat.blt v1 32768) <| frc (w_add a_x6 1) fun f4 => wrw_h t 6 v1 fun t6 => rfi t6 7 fun v10 => frc (w_add v10 1) fun f12 => wfi t6 7 f12 fun t8 => r_R33 f4 t8
set_option maxRecDepth 20000 in
set_option maxHeartbeats 1000000 in
theorem xs_b_feed_86_s0_x1_x2_x3_x4_x5 {x1 : Int32} {x2 : Int32} {x3 : Int32} {x4 : Int32} {x5 : Int32} {x6 : Int32} {a_x6 : Nat} {s0 : Int32} {S : ms} {t : X6} {R33 : Int32 → Int32 → Int32 → Int32 → Int32 → Int32 → ms → Prop} {r_R33 : Nat → X6 → Bool} {K : Int32 → ms → Prop} {k_K : Nat → X6 → Bool} (h : x_b_feed_86_s0_x1_x2_x3_x4_x5 a_x6 t r_R33 k_K = true) (g_x1 : True) (g_x2 : True) (g_x3 : True) (g_x4 : True) (g_x5 : True) (e_x6 : x6 = Int32.ofNat a_x6) (g_s0 : True) (hS : RM S t) (hR33 : ∀ {y0 : Int32} {y1 : Int32} {y2 : Int32} {y3 : Int32} {y4 : Int32} {y5 : Int32} {b5 : Nat} {yS : ms} {yt : X6}, r_R33 b5 yt = true → True → True → True → True → True → y5 = Int32.ofNat b5 → RM yS yt → R33 y0 y1 y2 y3 y4 y5 yS) (hK : ∀ {y0 : Int32} {b0 : Nat} {yS : ms} {yt : X6}, k_K b0 yt = true → y0 = Int32.ofNat b0 → RM yS yt → K y0 yS) : b_feed_86 x1 x2 x3 x4 x5 x6 s0 S R33 K := by
  unfold b_feed_86
  unfold x_b_feed_86_s0_x1_x2_x3_x4_x5 at h
  obtain ⟨v1, h, q2⟩ := rfi_ok h hS
  obtain ⟨n3, h⟩ := an_ok h
  refine ⟨n_vp q2 n3 (by decide), ?_⟩
  have h := frc_ok h
  have p5 := n_add e_x6 ((rfl : (1 : Int32) = Int32.ofNat 1))
  obtain ⟨t6, h, hS7⟩ := wrw_h_ok h hS (by decide) q2
  obtain ⟨v10, h, q11⟩ := rfi_ok h hS7
  have h := frc_ok h
  have p13 := n_add q11 ((rfl : (1 : Int32) = Int32.ofNat 1))
  obtain ⟨t8, h, hS9⟩ := wfi_ok h hS7  p13
  exact hR33 h g_x1 g_x2 g_x3 g_x4 g_x5 p5 hS9
noncomputable def x_b_feed_33_s0_x1_x2_x3_x4_x5 (a_x6 : Nat) (t : X6) (r_R33 : Nat → X6 → Bool) (k_K : Nat → X6 → Bool) : Bool :=
  cond (!(w_lt a_x6 20)) (rfi t 7 fun v2 => k_K v2 t) (cond (!(w_lt a_x6 4)) (cond (!(w_lt a_x6 8)) (cond (!(w_lt a_x6 12)) (cond (!(w_lt a_x6 16)) (x_b_feed_86_s0_x1_x2_x3_x4_x5 a_x6 t r_R33 k_K) (x_b_feed_86_s0_x1_x2_x3_x4_x5 a_x6 t r_R33 k_K)) (x_b_feed_86_s0_x1_x2_x3_x4_x5 a_x6 t r_R33 k_K)) (x_b_feed_86_s0_x1_x2_x3_x4_x5 a_x6 t r_R33 k_K)) (x_b_feed_86_s0_x1_x2_x3_x4_x5 a_x6 t r_R33 k_K))
set_option maxRecDepth 20000 in
set_option maxHeartbeats 1000000 in
theorem xs_b_feed_33_s0_x1_x2_x3_x4_x5 {x1 : Int32} {x2 : Int32} {x3 : Int32} {x4 : Int32} {x5 : Int32} {x6 : Int32} {a_x6 : Nat} {S : ms} {t : X6} {R33 : Int32 → Int32 → Int32 → Int32 → Int32 → Int32 → ms → Prop} {r_R33 : Nat → X6 → Bool} {K : Int32 → ms → Prop} {k_K : Nat → X6 → Bool} (h : x_b_feed_33_s0_x1_x2_x3_x4_x5 a_x6 t r_R33 k_K = true) (g_x1 : True) (g_x2 : True) (g_x3 : True) (g_x4 : True) (g_x5 : True) (e_x6 : x6 = Int32.ofNat a_x6) (hS : RM S t) (hR33 : ∀ {y0 : Int32} {y1 : Int32} {y2 : Int32} {y3 : Int32} {y4 : Int32} {y5 : Int32} {b5 : Nat} {yS : ms} {yt : X6}, r_R33 b5 yt = true → True → True → True → True → True → y5 = Int32.ofNat b5 → RM yS yt → R33 y0 y1 y2 y3 y4 y5 yS) (hK : ∀ {y0 : Int32} {b0 : Nat} {yS : ms} {yt : X6}, k_K b0 yt = true → y0 = Int32.ofNat b0 → RM yS yt → K y0 yS) : b_feed_33 x1 x2 x3 x4 x5 x6 S R33 K := by
  unfold b_feed_33
  unfold x_b_feed_33_s0_x1_x2_x3_x4_x5 at h
  have hc1 := c_le' ((rfl : (20 : Int32) = Int32.ofNat 20)) e_x6
  refine ⟨fun hc => ?_, fun hc => ?_⟩
  · have h := x_pos h (hc1.mp hc)
    obtain ⟨v2, h, q3⟩ := rfi_ok h hS
    exact hK h q3 hS
  · have h := x_neg h (fun q => hc (hc1.mpr q))
    have hc4 := c_le' ((rfl : (4 : Int32) = Int32.ofNat 4)) e_x6
    refine ⟨fun hc => ?_, fun hc => ?_⟩
    · have h := x_pos h (hc4.mp hc)
      have hc5 := c_le' ((rfl : (8 : Int32) = Int32.ofNat 8)) e_x6
      refine ⟨fun hc => ?_, fun hc => ?_⟩
      · have h := x_pos h (hc5.mp hc)
        have hc6 := c_le' ((rfl : (12 : Int32) = Int32.ofNat 12)) e_x6
        refine ⟨fun hc => ?_, fun hc => ?_⟩
        · have h := x_pos h (hc6.mp hc)
          have hc7 := c_le' ((rfl : (16 : Int32) = Int32.ofNat 16)) e_x6
          refine ⟨fun hc => ?_, fun hc => ?_⟩
          · have h := x_pos h (hc7.mp hc)
            exact xs_b_feed_86_s0_x1_x2_x3_x4_x5 h trivial trivial trivial trivial trivial e_x6 trivial hS hR33 hK
          · have h := x_neg h (fun q => hc (hc7.mpr q))
            exact xs_b_feed_86_s0_x1_x2_x3_x4_x5 h trivial trivial trivial trivial trivial e_x6 trivial hS hR33 hK
        · have h := x_neg h (fun q => hc (hc6.mpr q))
          exact xs_b_feed_86_s0_x1_x2_x3_x4_x5 h trivial trivial trivial trivial trivial e_x6 trivial hS hR33 hK
      · have h := x_neg h (fun q => hc (hc5.mpr q))
        exact xs_b_feed_86_s0_x1_x2_x3_x4_x5 h trivial trivial trivial trivial trivial e_x6 trivial hS hR33 hK
    · have h := x_neg h (fun q => hc (hc4.mpr q))
      exact xs_b_feed_86_s0_x1_x2_x3_x4_x5 h trivial trivial trivial trivial trivial e_x6 trivial hS hR33 hK
noncomputable def xl_e_feed_33_s0_x1_x2_x3_x4_x5 (k_K : Nat → X6 → Bool) (n : Nat) : Nat → X6 → Bool := Nat.rec (motive := fun _ => Nat → X6 → Bool) (fun _ _ => false) (fun _ ih b_x6 bt => x_b_feed_33_s0_x1_x2_x3_x4_x5 b_x6 bt ih k_K) n
noncomputable def x_e_feed_33_s0_x1_x2_x3_x4_x5 (a_x6 : Nat) (t : X6) (k_K : Nat → X6 → Bool) : Bool := xl_e_feed_33_s0_x1_x2_x3_x4_x5 k_K 200000 a_x6 t
def xq_e_feed_33_s0_x1_x2_x3_x4_x5 (k_K : Nat → X6 → Bool) (n : Nat) (y_x1 : Int32) (y_x2 : Int32) (y_x3 : Int32) (y_x4 : Int32) (y_x5 : Int32) (y_x6 : Int32) (yS : ms) : Prop := ∃ (b_x6 : Nat) (bt : X6), True ∧ True ∧ True ∧ True ∧ True ∧ y_x6 = Int32.ofNat b_x6 ∧ RM yS bt ∧ xl_e_feed_33_s0_x1_x2_x3_x4_x5 k_K n b_x6 bt = true
set_option maxRecDepth 20000 in
theorem xs_e_feed_33_s0_x1_x2_x3_x4_x5 {x1 : Int32} {x2 : Int32} {x3 : Int32} {x4 : Int32} {x5 : Int32} {x6 : Int32} {a_x6 : Nat} {S : ms} {t : X6} {K : Int32 → ms → Prop} {k_K : Nat → X6 → Bool} (h : x_e_feed_33_s0_x1_x2_x3_x4_x5 a_x6 t k_K = true) (g_x1 : True) (g_x2 : True) (g_x3 : True) (g_x4 : True) (g_x5 : True) (e_x6 : x6 = Int32.ofNat a_x6) (hS : RM S t) (hK : ∀ {y0 : Int32} {b0 : Nat} {yS : ms} {yt : X6}, k_K b0 yt = true → y0 = Int32.ofNat b0 → RM yS yt → K y0 yS) : e_feed_33 x1 x2 x3 x4 x5 x6 S K := by
  refine ⟨fun y_x1 y_x2 y_x3 y_x4 y_x5 y_x6 yS => ∃ n, xq_e_feed_33_s0_x1_x2_x3_x4_x5 k_K n y_x1 y_x2 y_x3 y_x4 y_x5 y_x6 yS, fun y_x1 y_x2 y_x3 y_x4 y_x5 y_x6 yS => mf (fun n => xq_e_feed_33_s0_x1_x2_x3_x4_x5 k_K n y_x1 y_x2 y_x3 y_x4 y_x5 y_x6 yS), ⟨200000, a_x6, t, g_x1, g_x2, g_x3, g_x4, g_x5, e_x6, hS, h⟩, fun y_x1 y_x2 y_x3 y_x4 y_x5 y_x6 yS hI => ?_⟩
  obtain ⟨m, hm, hq⟩ := mf_ok hI
  obtain ⟨b_x6, bt, c_x1, c_x2, c_x3, c_x4, c_x5, c_x6, cS, h⟩ := hq
  cases m with
  | zero => exact absurd h Bool.false_ne_true
  | succ n => exact xs_b_feed_33_s0_x1_x2_x3_x4_x5 h c_x1 c_x2 c_x3 c_x4 c_x5 c_x6 cS (fun h d_x1 d_x2 d_x3 d_x4 d_x5 d_x6 dS => ⟨⟨n, _, _, d_x1, d_x2, d_x3, d_x4, d_x5, d_x6, dS, h⟩, Nat.lt_of_le_of_lt (mf_le ⟨_, _, d_x1, d_x2, d_x3, d_x4, d_x5, d_x6, dS, h⟩) (Nat.lt_of_lt_of_eq (Nat.lt_succ_self n) hm.symm)⟩) hK
noncomputable def x_b_feed_18_s0_x1_x2_x3_x4_x5 (a_s1 : Nat) (t : X6) (k_K : Nat → X6 → Bool) : Bool :=
  wfi t 0 a_s1 fun t1 => rfi t1 0 fun v3 => cond (!(w_lt 0 v3)) (x_e_feed_33_s0_x1_x2_x3_x4_x5 0 t1 k_K) (k_K 0 t1)
set_option maxRecDepth 20000 in
set_option maxHeartbeats 1000000 in
theorem xs_b_feed_18_s0_x1_x2_x3_x4_x5 {x1 : Int32} {x2 : Int32} {x3 : Int32} {x4 : Int32} {x5 : Int32} {s1 : Int32} {a_s1 : Nat} {S : ms} {t : X6} {K : Int32 → ms → Prop} {k_K : Nat → X6 → Bool} (h : x_b_feed_18_s0_x1_x2_x3_x4_x5 a_s1 t k_K = true) (g_x1 : True) (g_x2 : True) (g_x3 : True) (g_x4 : True) (g_x5 : True) (e_s1 : s1 = Int32.ofNat a_s1) (hS : RM S t) (hK : ∀ {y0 : Int32} {b0 : Nat} {yS : ms} {yt : X6}, k_K b0 yt = true → y0 = Int32.ofNat b0 → RM yS yt → K y0 yS) : b_feed_18 x1 x2 x3 x4 x5 s1 S K := by
  unfold b_feed_18
  unfold x_b_feed_18_s0_x1_x2_x3_x4_x5 at h
  obtain ⟨t1, h, hS2⟩ := wfi_ok h hS  e_s1
  obtain ⟨v3, h, q4⟩ := rfi_ok h hS2
  have hc5 := c_le' q4 ((rfl : (0 : Int32) = Int32.ofNat 0))
  refine ⟨fun hc => ?_, fun hc => ?_⟩
  · have h := x_pos h (hc5.mp hc)
    exact xs_e_feed_33_s0_x1_x2_x3_x4_x5 h trivial trivial trivial trivial trivial ((rfl : (0 : Int32) = Int32.ofNat 0)) hS2 hK
  · have h := x_neg h (fun q => hc (hc5.mpr q))
    exact hK h ((rfl : (0 : Int32) = Int32.ofNat 0)) hS2
noncomputable def x_p_feed_x1_x2_x3_x4_x5 (t : X6) (k_K : Nat → X6 → Bool) : Bool :=
  rfi t 7 fun v1 => cond (!(w_lt 32768 (w_add v1 20))) (x_b_feed_18_s0_x1_x2_x3_x4_x5 0 t k_K) (x_b_feed_18_s0_x1_x2_x3_x4_x5 1 t k_K)
set_option maxRecDepth 20000 in
set_option maxHeartbeats 1000000 in
theorem xs_p_feed_x1_x2_x3_x4_x5 {x1 : Int32} {x2 : Int32} {x3 : Int32} {x4 : Int32} {x5 : Int32} {S : ms} {t : X6} {K : Int32 → ms → Prop} {k_K : Nat → X6 → Bool} (h : x_p_feed_x1_x2_x3_x4_x5 t k_K = true) (g_x1 : True) (g_x2 : True) (g_x3 : True) (g_x4 : True) (g_x5 : True) (hS : RM S t) (hK : ∀ {y0 : Int32} {b0 : Nat} {yS : ms} {yt : X6}, k_K b0 yt = true → y0 = Int32.ofNat b0 → RM yS yt → K y0 yS) : p_feed x1 x2 x3 x4 x5 S K := by
  unfold p_feed
  unfold x_p_feed_x1_x2_x3_x4_x5 at h
  obtain ⟨v1, h, q2⟩ := rfi_ok h hS
  have hc3 := c_le' (n_add q2 ((rfl : (20 : Int32) = Int32.ofNat 20))) ((rfl : (32768 : Int32) = Int32.ofNat 32768))
  refine ⟨fun hc => ?_, fun hc => ?_⟩
  · have h := x_pos h (hc3.mp hc)
    exact xs_b_feed_18_s0_x1_x2_x3_x4_x5 h trivial trivial trivial trivial trivial ((rfl : (0 : Int32) = Int32.ofNat 0)) hS hK
  · have h := x_neg h (fun q => hc (hc3.mpr q))
    exact xs_b_feed_18_s0_x1_x2_x3_x4_x5 h trivial trivial trivial trivial trivial ((rfl : (1 : Int32) = Int32.ofNat 1)) hS hK
