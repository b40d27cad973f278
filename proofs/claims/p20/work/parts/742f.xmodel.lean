noncomputable def xl_e_init_442 (r_R434 : Nat → X6 → Bool) (k_K : X6 → Bool) (n : Nat) : Nat → Nat → X6 → Bool := Nat.rec (motive := fun _ => Nat → Nat → X6 → Bool) (fun _ _ _ => false) (fun _ ih b_x2 b_x3 bt => x_b_init_442 b_x2 b_x3 bt r_R434 ih k_K) n
noncomputable def x_e_init_442 (a_x2 : Nat) (a_x3 : Nat) (t : X6) (r_R434 : Nat → X6 → Bool) (k_K : X6 → Bool) : Bool := xl_e_init_442 r_R434 k_K 200000 a_x2 a_x3 t
def xq_e_init_442 (r_R434 : Nat → X6 → Bool) (k_K : X6 → Bool) (n : Nat) (y_x2 : Int32) (y_x3 : Int32) (yS : ms) : Prop := ∃ (b_x2 : Nat) (b_x3 : Nat) (bt : X6), y_x2 = Int32.ofNat b_x2 ∧ y_x3 = Int32.ofNat b_x3 ∧ RM yS bt ∧ xl_e_init_442 r_R434 k_K n b_x2 b_x3 bt = true
set_option maxRecDepth 20000 in
theorem xs_e_init_442 {x2 : Int32} {a_x2 : Nat} {x3 : Int32} {a_x3 : Nat} {S : ms} {t : X6} {R434 : Int32 → ms → Prop} {r_R434 : Nat → X6 → Bool} {K : ms → Prop} {k_K : X6 → Bool} (h : x_e_init_442 a_x2 a_x3 t r_R434 k_K = true) (e_x2 : x2 = Int32.ofNat a_x2) (e_x3 : x3 = Int32.ofNat a_x3) (hS : RM S t) (hR434 : ∀ {y0 : Int32} {b0 : Nat} {yS : ms} {yt : X6}, r_R434 b0 yt = true → y0 = Int32.ofNat b0 → RM yS yt → R434 y0 yS) (hK : ∀ {yS : ms} {yt : X6}, k_K yt = true → RM yS yt → K yS) : e_init_442 x2 x3 S R434 K := by
  refine ⟨fun y_x2 y_x3 yS => ∃ n, xq_e_init_442 r_R434 k_K n y_x2 y_x3 yS, fun y_x2 y_x3 yS => mf (fun n => xq_e_init_442 r_R434 k_K n y_x2 y_x3 yS), ⟨200000, a_x2, a_x3, t, e_x2, e_x3, hS, h⟩, fun y_x2 y_x3 yS hI => ?_⟩
  obtain ⟨m, hm, hq⟩ := mf_ok hI
  obtain ⟨b_x2, b_x3, bt, c_x2, c_x3, cS, h⟩ := hq
  cases m with
  | zero => exact absurd h Bool.false_ne_true
  | succ n => exact xs_b_init_442 h c_x2 c_x3 cS hR434 (fun h d_x2 d_x3 dS => ⟨⟨n, _, _, _, d_x2, d_x3, dS, h⟩, Nat.lt_of_le_of_lt (mf_le ⟨_, _, _, d_x2, d_x3, dS, h⟩) (Nat.lt_of_lt_of_eq (Nat.lt_succ_self n) hm.symm)⟩) hK
noncomputable def x_b_init_434 (a_x2 : Nat) (t : X6) (r_R434 : Nat → X6 → Bool) (k_K : X6 → Bool) : Bool :=
  cond (!(w_lt a_x2 8)) (k_K t) (x_e_init_442 a_x2 0 t r_R434 k_K)
set_option maxRecDepth 20000 in
set_option maxHeartbeats 1000000 in
theorem xs_b_init_434 {x2 : Int32} {a_x2 : Nat} {S : ms} {t : X6} {R434 : Int32 → ms → Prop} {r_R434 : Nat → X6 → Bool} {K : ms → Prop} {k_K : X6 → Bool} (h : x_b_init_434 a_x2 t r_R434 k_K = true) (e_x2 : x2 = Int32.ofNat a_x2) (hS : RM S t) (hR434 : ∀ {y0 : Int32} {b0 : Nat} {yS : ms} {yt : X6}, r_R434 b0 yt = true → y0 = Int32.ofNat b0 → RM yS yt → R434 y0 yS) (hK : ∀ {yS : ms} {yt : X6}, k_K yt = true → RM yS yt → K yS) : b_init_434 x2 S R434 K := by
  unfold b_init_434
  unfold x_b_init_434 at h
  have hc1 := c_le' ((rfl : (8 : Int32) = Int32.ofNat 8)) e_x2
  refine ⟨fun hc => ?_, fun hc => ?_⟩
  · have h := x_pos h (hc1.mp hc)
    exact hK h hS
  · have h := x_neg h (fun q => hc (hc1.mpr q))
    exact xs_e_init_442 h e_x2 ((rfl : (0 : Int32) = Int32.ofNat 0)) hS hR434 hK
noncomputable def xl_e_init_434 (k_K : X6 → Bool) (n : Nat) : Nat → X6 → Bool := Nat.rec (motive := fun _ => Nat → X6 → Bool) (fun _ _ => false) (fun _ ih b_x2 bt => x_b_init_434 b_x2 bt ih k_K) n
noncomputable def x_e_init_434 (a_x2 : Nat) (t : X6) (k_K : X6 → Bool) : Bool := xl_e_init_434 k_K 200000 a_x2 t
def xq_e_init_434 (k_K : X6 → Bool) (n : Nat) (y_x2 : Int32) (yS : ms) : Prop := ∃ (b_x2 : Nat) (bt : X6), y_x2 = Int32.ofNat b_x2 ∧ RM yS bt ∧ xl_e_init_434 k_K n b_x2 bt = true
set_option maxRecDepth 20000 in
theorem xs_e_init_434 {x2 : Int32} {a_x2 : Nat} {S : ms} {t : X6} {K : ms → Prop} {k_K : X6 → Bool} (h : x_e_init_434 a_x2 t k_K = true) (e_x2 : x2 = Int32.ofNat a_x2) (hS : RM S t) (hK : ∀ {yS : ms} {yt : X6}, k_K yt = true → RM yS yt → K yS) : e_init_434 x2 S K := by
  refine ⟨fun y_x2 yS => ∃ n, xq_e_init_434 k_K n y_x2 yS, fun y_x2 yS => mf (fun n => xq_e_init_434 k_K n y_x2 yS), ⟨200000, a_x2, t, e_x2, hS, h⟩, fun y_x2 yS hI => ?_⟩
  obtain ⟨m, hm, hq⟩ := mf_ok hI
  obtain ⟨b_x2, bt, c_x2, cS, h⟩ := hq
  cases m with
  | zero => exact absurd h Bool.false_ne_true
  | succ n => exact xs_b_init_434 h c_x2 cS (fun h d_x2 dS => ⟨⟨n, _, _, d_x2, dS, h⟩, Nat.lt_of_le_of_lt (mf_le ⟨_, _, d_x2, dS, h⟩) (Nat.lt_of_lt_of_eq (Nat.lt_succ_self n) hm.symm)⟩) hK
noncomputable def x_b_init_420 (a_x1 : Nat) (a_x2 : Nat) (a_x3 : Nat) (t : X6) (r_R356 : Nat → Nat → X6 → Bool) (r_R364 : Nat → Nat → Nat → X6 → Bool) (k_K : X6 → Bool) : Bool :=
  frc (w_add a_x3 1) fun f1 => r_R364 a_x1 a_x2 f1 t
set_option maxRecDepth 20000 in
set_option maxHeartbeats 1000000 in
theorem xs_b_init_420 {x1 : Int32} {a_x1 : Nat} {x2 : Int32} {a_x2 : Nat} {x3 : Int32} {a_x3 : Nat} {S : ms} {t : X6} {R356 : Int32 → Int32 → ms → Prop} {r_R356 : Nat → Nat → X6 → Bool} {R364 : Int32 → Int32 → Int32 → ms → Prop} {r_R364 : Nat → Nat → Nat → X6 → Bool} {K : ms → Prop} {k_K : X6 → Bool} (h : x_b_init_420 a_x1 a_x2 a_x3 t r_R356 r_R364 k_K = true) (e_x1 : x1 = Int32.ofNat a_x1) (e_x2 : x2 = Int32.ofNat a_x2) (e_x3 : x3 = Int32.ofNat a_x3) (hS : RM S t) (hR356 : ∀ {y0 : Int32} {b0 : Nat} {y1 : Int32} {b1 : Nat} {yS : ms} {yt : X6}, r_R356 b0 b1 yt = true → y0 = Int32.ofNat b0 → y1 = Int32.ofNat b1 → RM yS yt → R356 y0 y1 yS) (hR364 : ∀ {y0 : Int32} {b0 : Nat} {y1 : Int32} {b1 : Nat} {y2 : Int32} {b2 : Nat} {yS : ms} {yt : X6}, r_R364 b0 b1 b2 yt = true → y0 = Int32.ofNat b0 → y1 = Int32.ofNat b1 → y2 = Int32.ofNat b2 → RM yS yt → R364 y0 y1 y2 yS) (hK : ∀ {yS : ms} {yt : X6}, k_K yt = true → RM yS yt → K yS) : b_init_420 x1 x2 x3 S R356 R364 K := by
  unfold b_init_420
  unfold x_b_init_420 at h
  have h := frc_ok h
  have p2 := n_add e_x3 ((rfl : (1 : Int32) = Int32.ofNat 1))
  exact hR364 h e_x1 e_x2 p2 hS
noncomputable def x_b_init_383 (a_x1 : Nat) (a_x2 : Nat) (a_x3 : Nat) (a_s0 : Nat) (t : X6) (r_R356 : Nat → Nat → X6 → Bool) (r_R364 : Nat → Nat → Nat → X6 → Bool) (k_K : X6 → Bool) : Bool :=
  cond (!(w_lt a_s0 8)) (x_b_init_420 a_x1 a_x2 a_x3 t r_R356 r_R364 k_K) (cond (!(w_lt (w_sub a_x2 a_s0) 8)) (x_b_init_420 a_x1 a_x2 a_x3 t r_R356 r_R364 k_K) (and (Nat.blt a_x1 64) <| frc (w_add a_x1 1) fun f4 => frc (w_sub (w_add (w_mul 8 a_s0) a_x2) a_s0) fun f8 => wrw t 22 a_x1 f8 fun t6 => x_b_init_420 f4 a_x2 a_x3 t6 r_R356 r_R364 k_K))
set_option maxRecDepth 20000 in
set_option maxHeartbeats 1000000 in
theorem xs_b_init_383 {x1 : Int32} {a_x1 : Nat} {x2 : Int32} {a_x2 : Nat} {x3 : Int32} {a_x3 : Nat} {s0 : Int32} {a_s0 : Nat} {S : ms} {t : X6} {R356 : Int32 → Int32 → ms → Prop} {r_R356 : Nat → Nat → X6 → Bool} {R364 : Int32 → Int32 → Int32 → ms → Prop} {r_R364 : Nat → Nat → Nat → X6 → Bool} {K : ms → Prop} {k_K : X6 → Bool} (h : x_b_init_383 a_x1 a_x2 a_x3 a_s0 t r_R356 r_R364 k_K = true) (e_x1 : x1 = Int32.ofNat a_x1) (e_x2 : x2 = Int32.ofNat a_x2) (e_x3 : x3 = Int32.ofNat a_x3) (e_s0 : s0 = Int32.ofNat a_s0) (hS : RM S t) (hR356 : ∀ {y0 : Int32} {b0 : Nat} {y1 : Int32} {b1 : Nat} {yS : ms} {yt : X6}, r_R356 b0 b1 yt = true → y0 = Int32.ofNat b0 → y1 = Int32.ofNat b1 → RM yS yt → R356 y0 y1 yS) (hR364 : ∀ {y0 : Int32} {b0 : Nat} {y1 : Int32} {b1 : Nat} {y2 : Int32} {b2 : Nat} {yS : ms} {yt : X6}, r_R364 b0 b1 b2 yt = true → y0 = Int32.ofNat b0 → y1 = Int32.ofNat b1 → y2 = Int32.ofNat b2 → RM yS yt → R364 y0 y1 y2 yS) (hK : ∀ {yS : ms} {yt : X6}, k_K yt = true → RM yS yt → K yS) : b_init_383 x1 x2 x3 s0 S R356 R364 K := by
  unfold b_init_383
  unfold x_b_init_383 at h
  have hc1 := c_le' ((rfl : (8 : Int32) = Int32.ofNat 8)) e_s0
  refine ⟨fun hc => ?_, fun hc => ?_⟩
  · have h := x_pos h (hc1.mp hc)
    exact xs_b_init_420 h e_x1 e_x2 e_x3 hS hR356 hR364 hK
  · have h := x_neg h (fun q => hc (hc1.mpr q))
    have hc2 := c_le' ((rfl : (8 : Int32) = Int32.ofNat 8)) (n_sub e_x2 e_s0)
    refine ⟨fun hc => ?_, fun hc => ?_⟩
    · have h := x_pos h (hc2.mp hc)
      exact xs_b_init_420 h e_x1 e_x2 e_x3 hS hR356 hR364 hK
    · have h := x_neg h (fun q => hc (hc2.mpr q))
      obtain ⟨n3, h⟩ := an_ok h
      refine ⟨n_vp e_x1 n3 (by decide), ?_⟩
      have h := frc_ok h
      have p5 := n_add e_x1 ((rfl : (1 : Int32) = Int32.ofNat 1))
      have h := frc_ok h
      have p9 := n_sub (n_add (n_mul ((rfl : (8 : Int32) = Int32.ofNat 8)) e_s0) e_x2) e_s0
      obtain ⟨t6, h, hS7⟩ := wrw_ok h hS (by decide) e_x1 p9
      exact xs_b_init_420 h p5 e_x2 e_x3 hS7 hR356 hR364 hK
noncomputable def x_b_init_364 (a_x1 : Nat) (a_x2 : Nat) (a_x3 : Nat) (t : X6) (r_R356 : Nat → Nat → X6 → Bool) (r_R364 : Nat → Nat → Nat → X6 → Bool) (k_K : X6 → Bool) : Bool :=
  cond (w_lt a_x2 a_x3) (frc (w_add a_x2 1) fun f2 => r_R356 a_x1 f2 t) (cond (w_eq (w_sub a_x2 (w_mul (w_div a_x2 2) 2)) 1) (x_b_init_383 a_x1 a_x2 a_x3 a_x3 t r_R356 r_R364 k_K) (frc (w_sub a_x2 a_x3) fun f5 => x_b_init_383 a_x1 a_x2 a_x3 f5 t r_R356 r_R364 k_K))
set_option maxRecDepth 20000 in
set_option maxHeartbeats 1000000 in
theorem xs_b_init_364 {x1 : Int32} {a_x1 : Nat} {x2 : Int32} {a_x2 : Nat} {x3 : Int32} {a_x3 : Nat} {S : ms} {t : X6} {R356 : Int32 → Int32 → ms → Prop} {r_R356 : Nat → Nat → X6 → Bool} {R364 : Int32 → Int32 → Int32 → ms → Prop} {r_R364 : Nat → Nat → Nat → X6 → Bool} {K : ms → Prop} {k_K : X6 → Bool} (h : x_b_init_364 a_x1 a_x2 a_x3 t r_R356 r_R364 k_K = true) (e_x1 : x1 = Int32.ofNat a_x1) (e_x2 : x2 = Int32.ofNat a_x2) (e_x3 : x3 = Int32.ofNat a_x3) (hS : RM S t) (hR356 : ∀ {y0 : Int32} {b0 : Nat} {y1 : Int32} {b1 : Nat} {yS : ms} {yt : X6}, r_R356 b0 b1 yt = true → y0 = Int32.ofNat b0 → y1 = Int32.ofNat b1 → RM yS yt → R356 y0 y1 yS) (hR364 : ∀ {y0 : Int32} {b0 : Nat} {y1 : Int32} {b1 : Nat} {y2 : Int32} {b2 : Nat} {yS : ms} {yt : X6}, r_R364 b0 b1 b2 yt = true → y0 = Int32.ofNat b0 → y1 = Int32.ofNat b1 → y2 = Int32.ofNat b2 → RM yS yt → R364 y0 y1 y2 yS) (hK : ∀ {yS : ms} {yt : X6}, k_K yt = true → RM yS yt → K yS) : b_init_364 x1 x2 x3 S R356 R364 K := by
  unfold b_init_364
  unfold x_b_init_364 at h
  have hc1 := c_lt' e_x2 e_x3
  refine ⟨fun hc => ?_, fun hc => ?_⟩
  · have h := x_pos h (hc1.mp hc)
    have h := frc_ok h
    have p3 := n_add e_x2 ((rfl : (1 : Int32) = Int32.ofNat 1))
    exact hR356 h e_x1 p3 hS
  · have h := x_neg h (fun q => hc (hc1.mpr q))
    have hc4 := c_eq' (n_sub e_x2 (n_mul (n_div e_x2 ((rfl : (2 : Int32) = Int32.ofNat 2))) ((rfl : (2 : Int32) = Int32.ofNat 2)))) ((rfl : (1 : Int32) = Int32.ofNat 1))
    refine ⟨fun hc => ?_, fun hc => ?_⟩
    · have h := x_neg h (fun q => hc (hc4.mpr q))
      have h := frc_ok h
      have p6 := n_sub e_x2 e_x3
      exact xs_b_init_383 h e_x1 e_x2 e_x3 p6 hS hR356 hR364 hK
    · have h := x_pos h (hc4.mp hc)
      exact xs_b_init_383 h e_x1 e_x2 e_x3 e_x3 hS hR356 hR364 hK
noncomputable def xl_e_init_364 (r_R356 : Nat → Nat → X6 → Bool) (k_K : X6 → Bool) (n : Nat) : Nat → Nat → Nat → X6 → Bool := Nat.rec (motive := fun _ => Nat → Nat → Nat → X6 → Bool) (fun _ _ _ _ => false) (fun _ ih b_x1 b_x2 b_x3 bt => x_b_init_364 b_x1 b_x2 b_x3 bt r_R356 ih k_K) n
noncomputable def x_e_init_364 (a_x1 : Nat) (a_x2 : Nat) (a_x3 : Nat) (t : X6) (r_R356 : Nat → Nat → X6 → Bool) (k_K : X6 → Bool) : Bool := xl_e_init_364 r_R356 k_K 200000 a_x1 a_x2 a_x3 t
def xq_e_init_364 (r_R356 : Nat → Nat → X6 → Bool) (k_K : X6 → Bool) (n : Nat) (y_x1 : Int32) (y_x2 : Int32) (y_x3 : Int32) (yS : ms) : Prop := ∃ (b_x1 : Nat) (b_x2 : Nat) (b_x3 : Nat) (bt : X6), y_x1 = Int32.ofNat b_x1 ∧ y_x2 = Int32.ofNat b_x2 ∧ y_x3 = Int32.ofNat b_x3 ∧ RM yS bt ∧ xl_e_init_364 r_R356 k_K n b_x1 b_x2 b_x3 bt = true
set_option maxRecDepth 20000 in
theorem xs_e_init_364 {x1 : Int32} {a_x1 : Nat} {x2 : Int32} {a_x2 : Nat} {x3 : Int32} {a_x3 : Nat} {S : ms} {t : X6} {R356 : Int32 → Int32 → ms → Prop} {r_R356 : Nat → Nat → X6 → Bool} {K : ms → Prop} {k_K : X6 → Bool} (h : x_e_init_364 a_x1 a_x2 a_x3 t r_R356 k_K = true) (e_x1 : x1 = Int32.ofNat a_x1) (e_x2 : x2 = Int32.ofNat a_x2) (e_x3 : x3 = Int32.ofNat a_x3) (hS : RM S t) (hR356 : ∀ {y0 : Int32} {b0 : Nat} {y1 : Int32} {b1 : Nat} {yS : ms} {yt : X6}, r_R356 b0 b1 yt = true → y0 = Int32.ofNat b0 → y1 = Int32.ofNat b1 → RM yS yt → R356 y0 y1 yS) (hK : ∀ {yS : ms} {yt : X6}, k_K yt = true → RM yS yt → K yS) : e_init_364 x1 x2 x3 S R356 K := by
  refine ⟨fun y_x1 y_x2 y_x3 yS => ∃ n, xq_e_init_364 r_R356 k_K n y_x1 y_x2 y_x3 yS, fun y_x1 y_x2 y_x3 yS => mf (fun n => xq_e_init_364 r_R356 k_K n y_x1 y_x2 y_x3 yS), ⟨200000, a_x1, a_x2, a_x3, t, e_x1, e_x2, e_x3, hS, h⟩, fun y_x1 y_x2 y_x3 yS hI => ?_⟩
  obtain ⟨m, hm, hq⟩ := mf_ok hI
  obtain ⟨b_x1, b_x2, b_x3, bt, c_x1, c_x2, c_x3, cS, h⟩ := hq
  cases m with
  | zero => exact absurd h Bool.false_ne_true
  | succ n => exact xs_b_init_364 h c_x1 c_x2 c_x3 cS hR356 (fun h d_x1 d_x2 d_x3 dS => ⟨⟨n, _, _, _, _, d_x1, d_x2, d_x3, dS, h⟩, Nat.lt_of_le_of_lt (mf_le ⟨_, _, _, _, d_x1, d_x2, d_x3, dS, h⟩) (Nat.lt_of_lt_of_eq (Nat.lt_succ_self n) hm.symm)⟩) hK
noncomputable def x_b_init_356 (a_x1 : Nat) (a_x2 : Nat) (t : X6) (r_R356 : Nat → Nat → X6 → Bool) (k_K : X6 → Bool) : Bool :=
  cond (!(w_lt a_x2 15)) (x_e_init_434 0 t k_K) (x_e_init_364 a_x1 a_x2 0 t r_R356 k_K)
set_option maxRecDepth 20000 in
set_option maxHeartbeats 1000000 in
theorem xs_b_init_356 {x1 : Int32} {a_x1 : Nat} {x2 : Int32} {a_x2 : Nat} {S : ms} {t : X6} {R356 : Int32 → Int32 → ms → Prop} {r_R356 : Nat → Nat → X6 → Bool} {K : ms → Prop} {k_K : X6 → Bool} (h : x_b_init_356 a_x1 a_x2 t r_R356 k_K = true) (e_x1 : x1 = Int32.ofNat a_x1) (e_x2 : x2 = Int32.ofNat a_x2) (hS : RM S t) (hR356 : ∀ {y0 : Int32} {b0 : Nat} {y1 : Int32} {b1 : Nat} {yS : ms} {yt : X6}, r_R356 b0 b1 yt = true → y0 = Int32.ofNat b0 → y1 = Int32.ofNat b1 → RM yS yt → R356 y0 y1 yS) (hK : ∀ {yS : ms} {yt : X6}, k_K yt = true → RM yS yt → K yS) : b_init_356 x1 x2 S R356 K := by
  unfold b_init_356
  unfold x_b_init_356 at h
  have hc1 := c_le' ((rfl : (15 : Int32) = Int32.ofNat 15)) e_x2
  refine ⟨fun hc => ?_, fun hc => ?_⟩
  · have h := x_pos h (hc1.mp hc)
    exact xs_e_init_434 h ((rfl : (0 : Int32) = Int32.ofNat 0)) hS hK
  · have h := x_neg h (fun q => hc (hc1.mpr q))
    exact xs_e_init_364 h e_x1 e_x2 ((rfl : (0 : Int32) = Int32.ofNat 0)) hS hR356 hK
noncomputable def xl_e_init_356 (k_K : X6 → Bool) (n : Nat) : Nat → Nat → X6 → Bool := Nat.rec (motive := fun _ => Nat → Nat → X6 → Bool) (fun _ _ _ => false) (fun _ ih b_x1 b_x2 bt => x_b_init_356 b_x1 b_x2 bt ih k_K) n
noncomputable def x_e_init_356 (a_x1 : Nat) (a_x2 : Nat) (t : X6) (k_K : X6 → Bool) : Bool := xl_e_init_356 k_K 200000 a_x1 a_x2 t
def xq_e_init_356 (k_K : X6 → Bool) (n : Nat) (y_x1 : Int32) (y_x2 : Int32) (yS : ms) : Prop := ∃ (b_x1 : Nat) (b_x2 : Nat) (bt : X6), y_x1 = Int32.ofNat b_x1 ∧ y_x2 = Int32.ofNat b_x2 ∧ RM yS bt ∧ xl_e_init_356 k_K n b_x1 b_x2 bt = true
set_option maxRecDepth 20000 in
theorem xs_e_init_356 {x1 : Int32} {a_x1 : Nat} {x2 : Int32} {a_x2 : Nat} {S : ms} {t : X6} {K : ms → Prop} {k_K : X6 → Bool} (h : x_e_init_356 a_x1 a_x2 t k_K = true) (e_x1 : x1 = Int32.ofNat a_x1) (e_x2 : x2 = Int32.ofNat a_x2) (hS : RM S t) (hK : ∀ {yS : ms} {yt : X6}, k_K yt = true → RM yS yt → K yS) : e_init_356 x1 x2 S K := by
  refine ⟨fun y_x1 y_x2 yS => ∃ n, xq_e_init_356 k_K n y_x1 y_x2 yS, fun y_x1 y_x2 yS => mf (fun n => xq_e_init_356 k_K n y_x1 y_x2 yS), ⟨200000, a_x1, a_x2, t, e_x1, e_x2, hS, h⟩, fun y_x1 y_x2 yS hI => ?_⟩
  obtain ⟨m, hm, hq⟩ := mf_ok hI
  obtain ⟨b_x1, b_x2, bt, c_x1, c_x2, cS, h⟩ := hq
  cases m with
  | zero => exact absurd h Bool.false_ne_true
  | succ n => exact xs_b_init_356 h c_x1 c_x2 cS (fun h d_x1 d_x2 dS => ⟨⟨n, _, _, _, d_x1, d_x2, dS, h⟩, Nat.lt_of_le_of_lt (mf_le ⟨_, _, _, d_x1, d_x2, dS, h⟩) (Nat.lt_of_lt_of_eq (Nat.lt_succ_self n) hm.symm)⟩) hK
noncomputable def x_b_init_332 (a_x1 : Nat) (t : X6) (r_R332 : Nat → X6 → Bool) (k_K : X6 → Bool) : Bool :=
  cond (!(w_lt a_x1 128)) (x_e_init_356 0 0 t k_K) (and (Nat.blt a_x1 128) <| frc (w_add a_x1 1) fun f3 => wrw t 5 a_x1 1 fun t5 => r_R332 f3 t5)
set_option maxRecDepth 20000 in
set_option maxHeartbeats 1000000 in
theorem xs_b_init_332 {x1 : Int32} {a_x1 : Nat} {S : ms} {t : X6} {R332 : Int32 → ms → Prop} {r_R332 : Nat → X6 → Bool} {K : ms → Prop} {k_K : X6 → Bool} (h : x_b_init_332 a_x1 t r_R332 k_K = true) (e_x1 : x1 = Int32.ofNat a_x1) (hS : RM S t) (hR332 : ∀ {y0 : Int32} {b0 : Nat} {yS : ms} {yt : X6}, r_R332 b0 yt = true → y0 = Int32.ofNat b0 → RM yS yt → R332 y0 yS) (hK : ∀ {yS : ms} {yt : X6}, k_K yt = true → RM yS yt → K yS) : b_init_332 x1 S R332 K := by
  unfold b_init_332
  unfold x_b_init_332 at h
  have hc1 := c_le' ((rfl : (128 : Int32) = Int32.ofNat 128)) e_x1
  refine ⟨fun hc => ?_, fun hc => ?_⟩
  · have h := x_pos h (hc1.mp hc)
    exact xs_e_init_356 h ((rfl : (0 : Int32) = Int32.ofNat 0)) ((rfl : (0 : Int32) = Int32.ofNat 0)) hS hK
  · have h := x_neg h (fun q => hc (hc1.mpr q))
    obtain ⟨n2, h⟩ := an_ok h
    refine ⟨n_vp e_x1 n2 (by decide), ?_⟩
    have h := frc_ok h
    have p4 := n_add e_x1 ((rfl : (1 : Int32) = Int32.ofNat 1))
    obtain ⟨t5, h, hS6⟩ := wrw_ok h hS (by decide) e_x1 ((rfl : (1 : Int32) = Int32.ofNat 1))
    exact hR332 h p4 hS6
noncomputable def xl_e_init_332 (k_K : X6 → Bool) (n : Nat) : Nat → X6 → Bool := Nat.rec (motive := fun _ => Nat → X6 → Bool) (fun _ _ => false) (fun _ ih b_x1 bt => x_b_init_332 b_x1 bt ih k_K) n
noncomputable def x_e_init_332 (a_x1 : Nat) (t : X6) (k_K : X6 → Bool) : Bool := xl_e_init_332 k_K 200000 a_x1 t
def xq_e_init_332 (k_K : X6 → Bool) (n : Nat) (y_x1 : Int32) (yS : ms) : Prop := ∃ (b_x1 : Nat) (bt : X6), y_x1 = Int32.ofNat b_x1 ∧ RM yS bt ∧ xl_e_init_332 k_K n b_x1 bt = true
set_option maxRecDepth 20000 in
theorem xs_e_init_332 {x1 : Int32} {a_x1 : Nat} {S : ms} {t : X6} {K : ms → Prop} {k_K : X6 → Bool} (h : x_e_init_332 a_x1 t k_K = true) (e_x1 : x1 = Int32.ofNat a_x1) (hS : RM S t) (hK : ∀ {yS : ms} {yt : X6}, k_K yt = true → RM yS yt → K yS) : e_init_332 x1 S K := by
  refine ⟨fun y_x1 yS => ∃ n, xq_e_init_332 k_K n y_x1 yS, fun y_x1 yS => mf (fun n => xq_e_init_332 k_K n y_x1 yS), ⟨200000, a_x1, t, e_x1, hS, h⟩, fun y_x1 yS hI => ?_⟩
  obtain ⟨m, hm, hq⟩ := mf_ok hI
  obtain ⟨b_x1, bt, c_x1, cS, h⟩ := hq
  cases m with
  | zero => exact absurd h Bool.false_ne_true
  | succ n => exact xs_b_init_332 h c_x1 cS (fun h d_x1 dS => ⟨⟨n, _, _, d_x1, dS, h⟩, Nat.lt_of_le_of_lt (mf_le ⟨_, _, d_x1, dS, h⟩) (Nat.lt_of_lt_of_eq (Nat.lt_succ_self n) hm.symm)⟩) hK
noncomputable def x_p_init (t : X6) (k_K : X6 → Bool) : Bool :=
  x_e_init_332 0 t k_K
set_option maxRecDepth 20000 in
set_option maxHeartbeats 1000000 in
theorem xs_p_init {S : ms} {t : X6} {K : ms → Prop} {k_K : X6 → Bool} (h : x_p_init t k_K = true) (hS : RM S t) (hK : ∀ {yS : ms} {yt : X6}, k_K yt = true → RM yS yt → K yS) : p_init S K := by
  unfold p_init
  unfold x_p_init at h
  exact xs_e_init_332 h ((rfl : (0 : Int32) = Int32.ofNat 0)) hS hK
