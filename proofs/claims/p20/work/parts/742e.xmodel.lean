noncomputable def x_b_turn1_133 (a_s0 : Nat) (k_K : Nat → Bool) : Bool :=
  k_K a_s0
set_option maxRecDepth 20000 in
set_option maxHeartbeats 1000000 in
theorem xs_b_turn1_133 {s0 : Int32} {a_s0 : Nat} {K : Int32 → Prop} {k_K : Nat → Bool} (h : x_b_turn1_133 a_s0 k_K = true) (e_s0 : s0 = Int32.ofNat a_s0) (hK : ∀ {y0 : Int32} {b0 : Nat}, k_K b0 = true → y0 = Int32.ofNat b0 → K y0) : b_turn1_133 s0 K := by
  unfold b_turn1_133
  unfold x_b_turn1_133 at h
  exact hK h e_s0
noncomputable def x_b_turn1_120 (a_x1 : Nat) (a_s0 : Nat) (k_K : Nat → Bool) : Bool :=
  cond (!(w_lt 8 a_x1)) (x_b_turn1_133 a_s0 k_K) (frc (w_neg a_s0) fun f2 => x_b_turn1_133 f2 k_K)
set_option maxRecDepth 20000 in
set_option maxHeartbeats 1000000 in
theorem xs_b_turn1_120 {x1 : Int32} {a_x1 : Nat} {s0 : Int32} {a_s0 : Nat} {K : Int32 → Prop} {k_K : Nat → Bool} (h : x_b_turn1_120 a_x1 a_s0 k_K = true) (e_x1 : x1 = Int32.ofNat a_x1) (e_s0 : s0 = Int32.ofNat a_s0) (hK : ∀ {y0 : Int32} {b0 : Nat}, k_K b0 = true → y0 = Int32.ofNat b0 → K y0) : b_turn1_120 x1 s0 K := by
  unfold b_turn1_120
  unfold x_b_turn1_120 at h
  have hc1 := c_le' e_x1 ((rfl : (8 : Int32) = Int32.ofNat 8))
  refine ⟨fun hc => ?_, fun hc => ?_⟩
  · have h := x_pos h (hc1.mp hc)
    exact xs_b_turn1_133 h e_s0 hK
  · have h := x_neg h (fun q => hc (hc1.mpr q))
    have h := frc_ok h
    have p3 := n_neg e_s0
    exact xs_b_turn1_133 h p3 hK
noncomputable def x_b_turn1_29 (a_x1 : Nat) (a_s0 : Nat) (k_K : Nat → Bool) : Bool :=
  cond (w_eq a_s0 0) (x_b_turn1_120 a_x1 4096 k_K) (cond (w_eq a_s0 1) (x_b_turn1_120 a_x1 4017 k_K) (cond (w_eq a_s0 2) (x_b_turn1_120 a_x1 3784 k_K) (cond (w_eq a_s0 3) (x_b_turn1_120 a_x1 3406 k_K) (cond (w_eq a_s0 4) (x_b_turn1_120 a_x1 2896 k_K) (cond (w_eq a_s0 5) (x_b_turn1_120 a_x1 2276 k_K) (cond (w_eq a_s0 6) (x_b_turn1_120 a_x1 1567 k_K) (cond (w_eq a_s0 7) (x_b_turn1_120 a_x1 799 k_K) (x_b_turn1_120 a_x1 0 k_K))))))))
set_option maxRecDepth 20000 in
set_option maxHeartbeats 1000000 in
theorem xs_b_turn1_29 {x1 : Int32} {a_x1 : Nat} {s0 : Int32} {a_s0 : Nat} {K : Int32 → Prop} {k_K : Nat → Bool} (h : x_b_turn1_29 a_x1 a_s0 k_K = true) (e_x1 : x1 = Int32.ofNat a_x1) (e_s0 : s0 = Int32.ofNat a_s0) (hK : ∀ {y0 : Int32} {b0 : Nat}, k_K b0 = true → y0 = Int32.ofNat b0 → K y0) : b_turn1_29 x1 s0 K := by
  unfold b_turn1_29
  unfold x_b_turn1_29 at h
  have hc1 := c_eq' e_s0 ((rfl : (0 : Int32) = Int32.ofNat 0))
  refine ⟨fun hc => ?_, fun hc => ?_⟩
  · have h := x_neg h (fun q => hc (hc1.mpr q))
    have hc2 := c_eq' e_s0 ((rfl : (1 : Int32) = Int32.ofNat 1))
    refine ⟨fun hc => ?_, fun hc => ?_⟩
    · have h := x_neg h (fun q => hc (hc2.mpr q))
      have hc3 := c_eq' e_s0 ((rfl : (2 : Int32) = Int32.ofNat 2))
      refine ⟨fun hc => ?_, fun hc => ?_⟩
      · have h := x_neg h (fun q => hc (hc3.mpr q))
        have hc4 := c_eq' e_s0 ((rfl : (3 : Int32) = Int32.ofNat 3))
        refine ⟨fun hc => ?_, fun hc => ?_⟩
        · have h := x_neg h (fun q => hc (hc4.mpr q))
          have hc5 := c_eq' e_s0 ((rfl : (4 : Int32) = Int32.ofNat 4))
          refine ⟨fun hc => ?_, fun hc => ?_⟩
          · have h := x_neg h (fun q => hc (hc5.mpr q))
            have hc6 := c_eq' e_s0 ((rfl : (5 : Int32) = Int32.ofNat 5))
            refine ⟨fun hc => ?_, fun hc => ?_⟩
            · have h := x_neg h (fun q => hc (hc6.mpr q))
              have hc7 := c_eq' e_s0 ((rfl : (6 : Int32) = Int32.ofNat 6))
              refine ⟨fun hc => ?_, fun hc => ?_⟩
              · have h := x_neg h (fun q => hc (hc7.mpr q))
                have hc8 := c_eq' e_s0 ((rfl : (7 : Int32) = Int32.ofNat 7))
                refine ⟨fun hc => ?_, fun hc => ?_⟩
                · have h := x_neg h (fun q => hc (hc8.mpr q))
                  exact xs_b_turn1_120 h e_x1 ((rfl : (0 : Int32) = Int32.ofNat 0)) hK
                · have h := x_pos h (hc8.mp hc)
                  exact xs_b_turn1_120 h e_x1 ((rfl : (799 : Int32) = Int32.ofNat 799)) hK
              · have h := x_pos h (hc7.mp hc)
                exact xs_b_turn1_120 h e_x1 ((rfl : (1567 : Int32) = Int32.ofNat 1567)) hK
            · have h := x_pos h (hc6.mp hc)
              exact xs_b_turn1_120 h e_x1 ((rfl : (2276 : Int32) = Int32.ofNat 2276)) hK
          · have h := x_pos h (hc5.mp hc)
            exact xs_b_turn1_120 h e_x1 ((rfl : (2896 : Int32) = Int32.ofNat 2896)) hK
        · have h := x_pos h (hc4.mp hc)
          exact xs_b_turn1_120 h e_x1 ((rfl : (3406 : Int32) = Int32.ofNat 3406)) hK
      · have h := x_pos h (hc3.mp hc)
        exact xs_b_turn1_120 h e_x1 ((rfl : (3784 : Int32) = Int32.ofNat 3784)) hK
    · have h := x_pos h (hc2.mp hc)
      exact xs_b_turn1_120 h e_x1 ((rfl : (4017 : Int32) = Int32.ofNat 4017)) hK
  · have h := x_pos h (hc1.mp hc)
    exact xs_b_turn1_120 h e_x1 ((rfl : (4096 : Int32) = Int32.ofNat 4096)) hK
noncomputable def x_b_turn1_14 (a_s0 : Nat) (k_K : Nat → Bool) : Bool :=
  cond (!(w_lt 8 a_s0)) (x_b_turn1_29 a_s0 a_s0 k_K) (frc (w_sub 16 a_s0) fun f2 => x_b_turn1_29 a_s0 f2 k_K)
set_option maxRecDepth 20000 in
set_option maxHeartbeats 1000000 in
theorem xs_b_turn1_14 {s0 : Int32} {a_s0 : Nat} {K : Int32 → Prop} {k_K : Nat → Bool} (h : x_b_turn1_14 a_s0 k_K = true) (e_s0 : s0 = Int32.ofNat a_s0) (hK : ∀ {y0 : Int32} {b0 : Nat}, k_K b0 = true → y0 = Int32.ofNat b0 → K y0) : b_turn1_14 s0 K := by
  unfold b_turn1_14
  unfold x_b_turn1_14 at h
  have hc1 := c_le' e_s0 ((rfl : (8 : Int32) = Int32.ofNat 8))
  refine ⟨fun hc => ?_, fun hc => ?_⟩
  · have h := x_pos h (hc1.mp hc)
    exact xs_b_turn1_29 h e_s0 e_s0 hK
  · have h := x_neg h (fun q => hc (hc1.mpr q))
    have h := frc_ok h
    have p3 := n_sub ((rfl : (16 : Int32) = Int32.ofNat 16)) e_s0
    exact xs_b_turn1_29 h e_s0 p3 hK
noncomputable def x_p_turn1 (a_x0 : Nat) (k_K : Nat → Bool) : Bool :=
  cond (!(w_lt 16 a_x0)) (x_b_turn1_14 a_x0 k_K) (frc (w_sub 32 a_x0) fun f2 => x_b_turn1_14 f2 k_K)
set_option maxRecDepth 20000 in
set_option maxHeartbeats 1000000 in
theorem xs_p_turn1 {x0 : Int32} {a_x0 : Nat} {K : Int32 → Prop} {k_K : Nat → Bool} (h : x_p_turn1 a_x0 k_K = true) (e_x0 : x0 = Int32.ofNat a_x0) (hK : ∀ {y0 : Int32} {b0 : Nat}, k_K b0 = true → y0 = Int32.ofNat b0 → K y0) : p_turn1 x0 K := by
  unfold p_turn1
  unfold x_p_turn1 at h
  have hc1 := c_le' e_x0 ((rfl : (16 : Int32) = Int32.ofNat 16))
  refine ⟨fun hc => ?_, fun hc => ?_⟩
  · have h := x_pos h (hc1.mp hc)
    exact xs_b_turn1_14 h e_x0 hK
  · have h := x_neg h (fun q => hc (hc1.mpr q))
    have h := frc_ok h
    have p3 := n_sub ((rfl : (32 : Int32) = Int32.ofNat 32)) e_x0
    exact xs_b_turn1_14 h p3 hK
noncomputable def x_b_init_481 (a_x2 : Nat) (a_x3 : Nat) (a_s1 : Nat) (a_s2 : Nat) (t : X6) (r_R434 : Nat → X6 → Bool) (r_R442 : Nat → Nat → X6 → Bool) (k_K : X6 → Bool) : Bool :=
  and (Nat.blt a_s1 64) <| frc (w_add a_x3 1) fun f2 => wrw t 23 a_s1 a_s2 fun t4 => r_R442 a_x2 f2 t4
set_option maxRecDepth 20000 in
set_option maxHeartbeats 1000000 in
theorem xs_b_init_481 {x2 : Int32} {a_x2 : Nat} {x3 : Int32} {a_x3 : Nat} {s1 : Int32} {a_s1 : Nat} {s2 : Int32} {a_s2 : Nat} {S : ms} {t : X6} {R434 : Int32 → ms → Prop} {r_R434 : Nat → X6 → Bool} {R442 : Int32 → Int32 → ms → Prop} {r_R442 : Nat → Nat → X6 → Bool} {K : ms → Prop} {k_K : X6 → Bool} (h : x_b_init_481 a_x2 a_x3 a_s1 a_s2 t r_R434 r_R442 k_K = true) (e_x2 : x2 = Int32.ofNat a_x2) (e_x3 : x3 = Int32.ofNat a_x3) (e_s1 : s1 = Int32.ofNat a_s1) (e_s2 : s2 = Int32.ofNat a_s2) (hS : RM S t) (hR434 : ∀ {y0 : Int32} {b0 : Nat} {yS : ms} {yt : X6}, r_R434 b0 yt = true → y0 = Int32.ofNat b0 → RM yS yt → R434 y0 yS) (hR442 : ∀ {y0 : Int32} {b0 : Nat} {y1 : Int32} {b1 : Nat} {yS : ms} {yt : X6}, r_R442 b0 b1 yt = true → y0 = Int32.ofNat b0 → y1 = Int32.ofNat b1 → RM yS yt → R442 y0 y1 yS) (hK : ∀ {yS : ms} {yt : X6}, k_K yt = true → RM yS yt → K yS) : b_init_481 x2 x3 s1 s2 S R434 R442 K := by
  unfold b_init_481
  unfold x_b_init_481 at h
  obtain ⟨n1, h⟩ := an_ok h
  refine ⟨n_vp e_s1 n1 (by decide), ?_⟩
  have h := frc_ok h
  have p3 := n_add e_x3 ((rfl : (1 : Int32) = Int32.ofNat 1))
  obtain ⟨t4, h, hS5⟩ := wrw_ok h hS (by decide) e_s1 e_s2
  exact hR442 h e_x2 p3 hS5
noncomputable def x_b_init_442 (a_x2 : Nat) (a_x3 : Nat) (t : X6) (r_R434 : Nat → X6 → Bool) (r_R442 : Nat → Nat → X6 → Bool) (k_K : X6 → Bool) : Bool :=
  cond (!(w_lt a_x3 8)) (frc (w_add a_x2 1) fun f2 => r_R434 f2 t) (cond (w_eq a_x3 0) (frc (w_add (w_mul 8 a_x2) a_x3) fun f9 => x_b_init_481 a_x2 a_x3 f9 2896 t r_R434 r_R442 k_K) (frc (w_sub (w_mul (w_add (w_mul 2 a_x2) 1) a_x3) (w_mul (w_div (w_mul (w_add (w_mul 2 a_x2) 1) a_x3) 32) 32)) fun f5 => x_p_turn1 f5 (fun v478_ => frc (w_add (w_mul 8 a_x2) a_x3) fun f7 => x_b_init_481 a_x2 a_x3 f7 v478_ t r_R434 r_R442 k_K)))
set_option maxRecDepth 20000 in
set_option maxHeartbeats 1000000 in
theorem xs_b_init_442 {x2 : Int32} {a_x2 : Nat} {x3 : Int32} {a_x3 : Nat} {S : ms} {t : X6} {R434 : Int32 → ms → Prop} {r_R434 : Nat → X6 → Bool} {R442 : Int32 → Int32 → ms → Prop} {r_R442 : Nat → Nat → X6 → Bool} {K : ms → Prop} {k_K : X6 → Bool} (h : x_b_init_442 a_x2 a_x3 t r_R434 r_R442 k_K = true) (e_x2 : x2 = Int32.ofNat a_x2) (e_x3 : x3 = Int32.ofNat a_x3) (hS : RM S t) (hR434 : ∀ {y0 : Int32} {b0 : Nat} {yS : ms} {yt : X6}, r_R434 b0 yt = true → y0 = Int32.ofNat b0 → RM yS yt → R434 y0 yS) (hR442 : ∀ {y0 : Int32} {b0 : Nat} {y1 : Int32} {b1 : Nat} {yS : ms} {yt : X6}, r_R442 b0 b1 yt = true → y0 = Int32.ofNat b0 → y1 = Int32.ofNat b1 → RM yS yt → R442 y0 y1 yS) (hK : ∀ {yS : ms} {yt : X6}, k_K yt = true → RM yS yt → K yS) : b_init_442 x2 x3 S R434 R442 K := by
  unfold b_init_442
  unfold x_b_init_442 at h
  have hc1 := c_le' ((rfl : (8 : Int32) = Int32.ofNat 8)) e_x3
  refine ⟨fun hc => ?_, fun hc => ?_⟩
  · have h := x_pos h (hc1.mp hc)
    have h := frc_ok h
    have p3 := n_add e_x2 ((rfl : (1 : Int32) = Int32.ofNat 1))
    exact hR434 h p3 hS
  · have h := x_neg h (fun q => hc (hc1.mpr q))
    have hc4 := c_eq' e_x3 ((rfl : (0 : Int32) = Int32.ofNat 0))
    refine ⟨fun hc => ?_, fun hc => ?_⟩
    · have h := x_neg h (fun q => hc (hc4.mpr q))
      have h := frc_ok h
      have p6 := n_sub (n_mul (n_add (n_mul ((rfl : (2 : Int32) = Int32.ofNat 2)) e_x2) ((rfl : (1 : Int32) = Int32.ofNat 1))) e_x3) (n_mul (n_div (n_mul (n_add (n_mul ((rfl : (2 : Int32) = Int32.ofNat 2)) e_x2) ((rfl : (1 : Int32) = Int32.ofNat 1))) e_x3) ((rfl : (32 : Int32) = Int32.ofNat 32))) ((rfl : (32 : Int32) = Int32.ofNat 32)))
      refine xs_p_turn1 h p6 (fun h e_v478 => ?_)
      have h := frc_ok h
      have p8 := n_add (n_mul ((rfl : (8 : Int32) = Int32.ofNat 8)) e_x2) e_x3
      exact xs_b_init_481 h e_x2 e_x3 p8 e_v478 hS hR434 hR442 hK
    · have h := x_pos h (hc4.mp hc)
      have h := frc_ok h
      have p10 := n_add (n_mul ((rfl : (8 : Int32) = Int32.ofNat 8)) e_x2) e_x3
      exact xs_b_init_481 h e_x2 e_x3 p10 ((rfl : (2896 : Int32) = Int32.ofNat 2896)) hS hR434 hR442 hK

