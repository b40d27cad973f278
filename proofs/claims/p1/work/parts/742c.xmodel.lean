noncomputable def x_b_makeCode_394 (a_x1 : Nat) (a_x2 : Nat) (a_x4 : Nat) (t : X6) (r_R394 : Nat → Nat → Nat → X6 → Bool) (k_K : X6 → Bool) : Bool :=
  cond (!(w_lt a_x4 8320)) (x_e_makeCode_446 a_x1 15 t k_K) (cond (w_lt a_x4 7800) (x_b_makeCode_434 a_x1 a_x2 a_x4 a_x4 t r_R394 k_K) (cond (!(w_lt a_x4 (w_sub (w_add 7800 (w_mul 2 a_x2)) 2))) (x_b_makeCode_434 a_x1 a_x2 a_x4 a_x4 t r_R394 k_K) (x_b_makeCode_435 a_x1 a_x2 a_x4 a_x4 1 t r_R394 k_K)))
set_option maxRecDepth 20000 in
set_option maxHeartbeats 1000000 in
theorem xs_b_makeCode_394 {x1 : Int32} {a_x1 : Nat} {x2 : Int32} {a_x2 : Nat} {x4 : Int32} {a_x4 : Nat} {S : ms} {t : X6} {R394 : Int32 → Int32 → Int32 → ms → Prop} {r_R394 : Nat → Nat → Nat → X6 → Bool} {K : ms → Prop} {k_K : X6 → Bool} (h : x_b_makeCode_394 a_x1 a_x2 a_x4 t r_R394 k_K = true) (e_x1 : x1 = Int32.ofNat a_x1) (e_x2 : x2 = Int32.ofNat a_x2) (e_x4 : x4 = Int32.ofNat a_x4) (hS : RM S t) (hR394 : ∀ {y0 : Int32} {b0 : Nat} {y1 : Int32} {b1 : Nat} {y2 : Int32} {b2 : Nat} {yS : ms} {yt : X6}, r_R394 b0 b1 b2 yt = true → y0 = Int32.ofNat b0 → y1 = Int32.ofNat b1 → y2 = Int32.ofNat b2 → RM yS yt → R394 y0 y1 y2 yS) (hK : ∀ {yS : ms} {yt : X6}, k_K yt = true → RM yS yt → K yS) : b_makeCode_394 x1 x2 x4 S R394 K := by
  unfold b_makeCode_394
  unfold x_b_makeCode_394 at h
  have hc1 := c_le' ((rfl : (8320 : Int32) = Int32.ofNat 8320)) e_x4
  refine ⟨fun hc => ?_, fun hc => ?_⟩
  · have h := x_pos h (hc1.mp hc)
    exact xs_e_makeCode_446 h e_x1 ((rfl : (15 : Int32) = Int32.ofNat 15)) hS hK
  · have h := x_neg h (fun q => hc (hc1.mpr q))
    have hc2 := c_lt' e_x4 ((rfl : (7800 : Int32) = Int32.ofNat 7800))
    refine ⟨fun hc => ?_, fun hc => ?_⟩
    · have h := x_pos h (hc2.mp hc)
      exact xs_b_makeCode_434 h e_x1 e_x2 e_x4 e_x4 hS hR394 hK
    · have h := x_neg h (fun q => hc (hc2.mpr q))
      have hc3 := c_le' (n_sub (n_add ((rfl : (7800 : Int32) = Int32.ofNat 7800)) (n_mul ((rfl : (2 : Int32) = Int32.ofNat 2)) e_x2)) ((rfl : (2 : Int32) = Int32.ofNat 2))) e_x4
      refine ⟨fun hc => ?_, fun hc => ?_⟩
      · have h := x_pos h (hc3.mp hc)
        exact xs_b_makeCode_434 h e_x1 e_x2 e_x4 e_x4 hS hR394 hK
      · have h := x_neg h (fun q => hc (hc3.mpr q))
        exact xs_b_makeCode_435 h e_x1 e_x2 e_x4 e_x4 ((rfl : (1 : Int32) = Int32.ofNat 1)) hS hR394 hK
noncomputable def xl_e_makeCode_394 (k_K : X6 → Bool) (n : Nat) : Nat → Nat → Nat → X6 → Bool := Nat.rec (motive := fun _ => Nat → Nat → Nat → X6 → Bool) (fun _ _ _ _ => false) (fun _ ih b_x1 b_x2 b_x4 bt => x_b_makeCode_394 b_x1 b_x2 b_x4 bt ih k_K) n
noncomputable def x_e_makeCode_394 (a_x1 : Nat) (a_x2 : Nat) (a_x4 : Nat) (t : X6) (k_K : X6 → Bool) : Bool := xl_e_makeCode_394 k_K 200000 a_x1 a_x2 a_x4 t
def xq_e_makeCode_394 (k_K : X6 → Bool) (n : Nat) (y_x1 : Int32) (y_x2 : Int32) (y_x4 : Int32) (yS : ms) : Prop := ∃ (b_x1 : Nat) (b_x2 : Nat) (b_x4 : Nat) (bt : X6), y_x1 = Int32.ofNat b_x1 ∧ y_x2 = Int32.ofNat b_x2 ∧ y_x4 = Int32.ofNat b_x4 ∧ RM yS bt ∧ xl_e_makeCode_394 k_K n b_x1 b_x2 b_x4 bt = true
set_option maxRecDepth 20000 in
theorem xs_e_makeCode_394 {x1 : Int32} {a_x1 : Nat} {x2 : Int32} {a_x2 : Nat} {x4 : Int32} {a_x4 : Nat} {S : ms} {t : X6} {K : ms → Prop} {k_K : X6 → Bool} (h : x_e_makeCode_394 a_x1 a_x2 a_x4 t k_K = true) (e_x1 : x1 = Int32.ofNat a_x1) (e_x2 : x2 = Int32.ofNat a_x2) (e_x4 : x4 = Int32.ofNat a_x4) (hS : RM S t) (hK : ∀ {yS : ms} {yt : X6}, k_K yt = true → RM yS yt → K yS) : e_makeCode_394 x1 x2 x4 S K := by
  refine ⟨fun y_x1 y_x2 y_x4 yS => ∃ n, xq_e_makeCode_394 k_K n y_x1 y_x2 y_x4 yS, fun y_x1 y_x2 y_x4 yS => mf (fun n => xq_e_makeCode_394 k_K n y_x1 y_x2 y_x4 yS), ⟨200000, a_x1, a_x2, a_x4, t, e_x1, e_x2, e_x4, hS, h⟩, fun y_x1 y_x2 y_x4 yS hI => ?_⟩
  obtain ⟨m, hm, hq⟩ := mf_ok hI
  obtain ⟨b_x1, b_x2, b_x4, bt, c_x1, c_x2, c_x4, cS, h⟩ := hq
  cases m with
  | zero => exact absurd h Bool.false_ne_true
  | succ n => exact xs_b_makeCode_394 h c_x1 c_x2 c_x4 cS (fun h d_x1 d_x2 d_x4 dS => ⟨⟨n, _, _, _, _, d_x1, d_x2, d_x4, dS, h⟩, Nat.lt_of_le_of_lt (mf_le ⟨_, _, _, _, d_x1, d_x2, d_x4, dS, h⟩) (Nat.lt_of_lt_of_eq (Nat.lt_succ_self n) hm.symm)⟩) hK
noncomputable def x_b_makeCode_375 (a_x1 : Nat) (a_x2 : Nat) (a_x4 : Nat) (a_x5 : Nat) (a_x6 : Nat) (a_x8 : Nat) (a_s0 : Nat) (t : X6) (r_R162 : Nat → Nat → Nat → Nat → X6 → Bool) (r_R190 : Nat → Nat → Nat → Nat → Nat → Nat → Nat → X6 → Bool) (k_K : X6 → Bool) : Bool :=
  r_R190 a_x1 a_x2 a_x4 a_x5 a_x6 a_s0 a_x8 t
set_option maxRecDepth 20000 in
set_option maxHeartbeats 1000000 in
theorem xs_b_makeCode_375 {x1 : Int32} {a_x1 : Nat} {x2 : Int32} {a_x2 : Nat} {x4 : Int32} {a_x4 : Nat} {x5 : Int32} {a_x5 : Nat} {x6 : Int32} {a_x6 : Nat} {x8 : Int32} {a_x8 : Nat} {s0 : Int32} {a_s0 : Nat} {S : ms} {t : X6} {R162 : Int32 → Int32 → Int32 → Int32 → ms → Prop} {r_R162 : Nat → Nat → Nat → Nat → X6 → Bool} {R190 : Int32 → Int32 → Int32 → Int32 → Int32 → Int32 → Int32 → ms → Prop} {r_R190 : Nat → Nat → Nat → Nat → Nat → Nat → Nat → X6 → Bool} {K : ms → Prop} {k_K : X6 → Bool} (h : x_b_makeCode_375 a_x1 a_x2 a_x4 a_x5 a_x6 a_x8 a_s0 t r_R162 r_R190 k_K = true) (e_x1 : x1 = Int32.ofNat a_x1) (e_x2 : x2 = Int32.ofNat a_x2) (e_x4 : x4 = Int32.ofNat a_x4) (e_x5 : x5 = Int32.ofNat a_x5) (e_x6 : x6 = Int32.ofNat a_x6) (e_x8 : x8 = Int32.ofNat a_x8) (e_s0 : s0 = Int32.ofNat a_s0) (hS : RM S t) (hR162 : ∀ {y0 : Int32} {b0 : Nat} {y1 : Int32} {b1 : Nat} {y2 : Int32} {b2 : Nat} {y3 : Int32} {b3 : Nat} {yS : ms} {yt : X6}, r_R162 b0 b1 b2 b3 yt = true → y0 = Int32.ofNat b0 → y1 = Int32.ofNat b1 → y2 = Int32.ofNat b2 → y3 = Int32.ofNat b3 → RM yS yt → R162 y0 y1 y2 y3 yS) (hR190 : ∀ {y0 : Int32} {b0 : Nat} {y1 : Int32} {b1 : Nat} {y2 : Int32} {b2 : Nat} {y3 : Int32} {b3 : Nat} {y4 : Int32} {b4 : Nat} {y5 : Int32} {b5 : Nat} {y6 : Int32} {b6 : Nat} {yS : ms} {yt : X6}, r_R190 b0 b1 b2 b3 b4 b5 b6 yt = true → y0 = Int32.ofNat b0 → y1 = Int32.ofNat b1 → y2 = Int32.ofNat b2 → y3 = Int32.ofNat b3 → y4 = Int32.ofNat b4 → y5 = Int32.ofNat b5 → y6 = Int32.ofNat b6 → RM yS yt → R190 y0 y1 y2 y3 y4 y5 y6 yS) (hK : ∀ {yS : ms} {yt : X6}, k_K yt = true → RM yS yt → K yS) : b_makeCode_375 x1 x2 x4 x5 x6 x8 s0 S R162 R190 K := by
  unfold b_makeCode_375
  unfold x_b_makeCode_375 at h
  exact hR190 h e_x1 e_x2 e_x4 e_x5 e_x6 e_s0 e_x8 hS
noncomputable def x_b_makeCode_359 (a_x1 : Nat) (a_x2 : Nat) (a_x4 : Nat) (a_x5 : Nat) (a_x7 : Nat) (a_x8 : Nat) (a_x10 : Nat) (a_s0 : Nat) (t : X6) (r_R162 : Nat → Nat → Nat → Nat → X6 → Bool) (r_R190 : Nat → Nat → Nat → Nat → Nat → Nat → Nat → X6 → Bool) (k_K : X6 → Bool) : Bool :=
  cond (w_eq a_x10 0) (frc (w_add a_x7 1) fun f2 => x_b_makeCode_375 a_x1 a_x2 a_x4 a_x5 a_s0 a_x8 f2 t r_R162 r_R190 k_K) (x_b_makeCode_375 a_x1 a_x2 a_x4 a_x5 a_s0 a_x8 a_x7 t r_R162 r_R190 k_K)
set_option maxRecDepth 20000 in
set_option maxHeartbeats 1000000 in
theorem xs_b_makeCode_359 {x1 : Int32} {a_x1 : Nat} {x2 : Int32} {a_x2 : Nat} {x4 : Int32} {a_x4 : Nat} {x5 : Int32} {a_x5 : Nat} {x7 : Int32} {a_x7 : Nat} {x8 : Int32} {a_x8 : Nat} {x10 : Int32} {a_x10 : Nat} {s0 : Int32} {a_s0 : Nat} {S : ms} {t : X6} {R162 : Int32 → Int32 → Int32 → Int32 → ms → Prop} {r_R162 : Nat → Nat → Nat → Nat → X6 → Bool} {R190 : Int32 → Int32 → Int32 → Int32 → Int32 → Int32 → Int32 → ms → Prop} {r_R190 : Nat → Nat → Nat → Nat → Nat → Nat → Nat → X6 → Bool} {K : ms → Prop} {k_K : X6 → Bool} (h : x_b_makeCode_359 a_x1 a_x2 a_x4 a_x5 a_x7 a_x8 a_x10 a_s0 t r_R162 r_R190 k_K = true) (e_x1 : x1 = Int32.ofNat a_x1) (e_x2 : x2 = Int32.ofNat a_x2) (e_x4 : x4 = Int32.ofNat a_x4) (e_x5 : x5 = Int32.ofNat a_x5) (e_x7 : x7 = Int32.ofNat a_x7) (e_x8 : x8 = Int32.ofNat a_x8) (e_x10 : x10 = Int32.ofNat a_x10) (e_s0 : s0 = Int32.ofNat a_s0) (hS : RM S t) (hR162 : ∀ {y0 : Int32} {b0 : Nat} {y1 : Int32} {b1 : Nat} {y2 : Int32} {b2 : Nat} {y3 : Int32} {b3 : Nat} {yS : ms} {yt : X6}, r_R162 b0 b1 b2 b3 yt = true → y0 = Int32.ofNat b0 → y1 = Int32.ofNat b1 → y2 = Int32.ofNat b2 → y3 = Int32.ofNat b3 → RM yS yt → R162 y0 y1 y2 y3 yS) (hR190 : ∀ {y0 : Int32} {b0 : Nat} {y1 : Int32} {b1 : Nat} {y2 : Int32} {b2 : Nat} {y3 : Int32} {b3 : Nat} {y4 : Int32} {b4 : Nat} {y5 : Int32} {b5 : Nat} {y6 : Int32} {b6 : Nat} {yS : ms} {yt : X6}, r_R190 b0 b1 b2 b3 b4 b5 b6 yt = true → y0 = Int32.ofNat b0 → y1 = Int32.ofNat b1 → y2 = Int32.ofNat b2 → y3 = Int32.ofNat b3 → y4 = Int32.ofNat b4 → y5 = Int32.ofNat b5 → y6 = Int32.ofNat b6 → RM yS yt → R190 y0 y1 y2 y3 y4 y5 y6 yS) (hK : ∀ {yS : ms} {yt : X6}, k_K yt = true → RM yS yt → K yS) : b_makeCode_359 x1 x2 x4 x5 x7 x8 x10 s0 S R162 R190 K := by
  unfold b_makeCode_359
  unfold x_b_makeCode_359 at h
  have hc1 := c_eq' e_x10 ((rfl : (0 : Int32) = Int32.ofNat 0))
  refine ⟨fun hc => ?_, fun hc => ?_⟩
  · have h := x_pos h (hc1.mp hc)
    have h := frc_ok h
    have p3 := n_add e_x7 ((rfl : (1 : Int32) = Int32.ofNat 1))
    exact xs_b_makeCode_375 h e_x1 e_x2 e_x4 e_x5 e_s0 e_x8 p3 hS hR162 hR190 hK
  · have h := x_neg h (fun q => hc (hc1.mpr q))
    exact xs_b_makeCode_375 h e_x1 e_x2 e_x4 e_x5 e_s0 e_x8 e_x7 hS hR162 hR190 hK
noncomputable def x_b_makeCode_344 (a_x1 : Nat) (a_x2 : Nat) (a_x4 : Nat) (a_x5 : Nat) (a_x6 : Nat) (a_x7 : Nat) (a_x8 : Nat) (a_x10 : Nat) (a_s1 : Nat) (a_s2 : Nat) (t : X6) (r_R162 : Nat → Nat → Nat → Nat → X6 → Bool) (r_R190 : Nat → Nat → Nat → Nat → Nat → Nat → Nat → X6 → Bool) (k_K : X6 → Bool) : Bool :=
  and (Nat.blt a_s1 8320) <| cond (w_eq a_x10 0) (wrw t 30 a_s1 a_s2 fun t3 => x_b_makeCode_359 a_x1 a_x2 a_x4 a_x5 a_x7 a_x8 a_x10 a_x6 t3 r_R162 r_R190 k_K) (frc (w_add a_x6 1) fun f5 => wrw t 30 a_s1 a_s2 fun t7 => x_b_makeCode_359 a_x1 a_x2 a_x4 a_x5 a_x7 a_x8 a_x10 f5 t7 r_R162 r_R190 k_K)
set_option maxRecDepth 20000 in
set_option maxHeartbeats 1000000 in
theorem xs_b_makeCode_344 {x1 : Int32} {a_x1 : Nat} {x2 : Int32} {a_x2 : Nat} {x4 : Int32} {a_x4 : Nat} {x5 : Int32} {a_x5 : Nat} {x6 : Int32} {a_x6 : Nat} {x7 : Int32} {a_x7 : Nat} {x8 : Int32} {a_x8 : Nat} {x10 : Int32} {a_x10 : Nat} {s1 : Int32} {a_s1 : Nat} {s2 : Int32} {a_s2 : Nat} {S : ms} {t : X6} {R162 : Int32 → Int32 → Int32 → Int32 → ms → Prop} {r_R162 : Nat → Nat → Nat → Nat → X6 → Bool} {R190 : Int32 → Int32 → Int32 → Int32 → Int32 → Int32 → Int32 → ms → Prop} {r_R190 : Nat → Nat → Nat → Nat → Nat → Nat → Nat → X6 → Bool} {K : ms → Prop} {k_K : X6 → Bool} (h : x_b_makeCode_344 a_x1 a_x2 a_x4 a_x5 a_x6 a_x7 a_x8 a_x10 a_s1 a_s2 t r_R162 r_R190 k_K = true) (e_x1 : x1 = Int32.ofNat a_x1) (e_x2 : x2 = Int32.ofNat a_x2) (e_x4 : x4 = Int32.ofNat a_x4) (e_x5 : x5 = Int32.ofNat a_x5) (e_x6 : x6 = Int32.ofNat a_x6) (e_x7 : x7 = Int32.ofNat a_x7) (e_x8 : x8 = Int32.ofNat a_x8) (e_x10 : x10 = Int32.ofNat a_x10) (e_s1 : s1 = Int32.ofNat a_s1) (e_s2 : s2 = Int32.ofNat a_s2) (hS : RM S t) (hR162 : ∀ {y0 : Int32} {b0 : Nat} {y1 : Int32} {b1 : Nat} {y2 : Int32} {b2 : Nat} {y3 : Int32} {b3 : Nat} {yS : ms} {yt : X6}, r_R162 b0 b1 b2 b3 yt = true → y0 = Int32.ofNat b0 → y1 = Int32.ofNat b1 → y2 = Int32.ofNat b2 → y3 = Int32.ofNat b3 → RM yS yt → R162 y0 y1 y2 y3 yS) (hR190 : ∀ {y0 : Int32} {b0 : Nat} {y1 : Int32} {b1 : Nat} {y2 : Int32} {b2 : Nat} {y3 : Int32} {b3 : Nat} {y4 : Int32} {b4 : Nat} {y5 : Int32} {b5 : Nat} {y6 : Int32} {b6 : Nat} {yS : ms} {yt : X6}, r_R190 b0 b1 b2 b3 b4 b5 b6 yt = true → y0 = Int32.ofNat b0 → y1 = Int32.ofNat b1 → y2 = Int32.ofNat b2 → y3 = Int32.ofNat b3 → y4 = Int32.ofNat b4 → y5 = Int32.ofNat b5 → y6 = Int32.ofNat b6 → RM yS yt → R190 y0 y1 y2 y3 y4 y5 y6 yS) (hK : ∀ {yS : ms} {yt : X6}, k_K yt = true → RM yS yt → K yS) : b_makeCode_344 x1 x2 x4 x5 x6 x7 x8 x10 s1 s2 S R162 R190 K := by
  unfold b_makeCode_344
  unfold x_b_makeCode_344 at h
  obtain ⟨n1, h⟩ := an_ok h
  refine ⟨n_vp e_s1 n1 (by decide), ?_⟩
  have hc2 := c_eq' e_x10 ((rfl : (0 : Int32) = Int32.ofNat 0))
  refine ⟨fun hc => ?_, fun hc => ?_⟩
  · have h := x_pos h (hc2.mp hc)
    obtain ⟨t3, h, hS4⟩ := wrw_ok h hS (by decide) e_s1 e_s2
    exact xs_b_makeCode_359 h e_x1 e_x2 e_x4 e_x5 e_x7 e_x8 e_x10 e_x6 hS4 hR162 hR190 hK
  · have h := x_neg h (fun q => hc (hc2.mpr q))
    have h := frc_ok h
    have p6 := n_add e_x6 ((rfl : (1 : Int32) = Int32.ofNat 1))
    obtain ⟨t7, h, hS8⟩ := wrw_ok h hS (by decide) e_s1 e_s2
    exact xs_b_makeCode_359 h e_x1 e_x2 e_x4 e_x5 e_x7 e_x8 e_x10 p6 hS8 hR162 hR190 hK
noncomputable def x_b_makeCode_308 (a_x1 : Nat) (a_x2 : Nat) (a_x4 : Nat) (a_x5 : Nat) (a_x6 : Nat) (a_x7 : Nat) (a_x8 : Nat) (a_x10 : Nat) (a_s1 : Nat) (a_s2 : Nat) (t : X6) (r_R162 : Nat → Nat → Nat → Nat → X6 → Bool) (r_R190 : Nat → Nat → Nat → Nat → Nat → Nat → Nat → X6 → Bool) (k_K : X6 → Bool) : Bool :=
  and (Nat.blt a_s1 8320) <| cond (w_eq a_x10 0) (frc (w_add (w_add (w_mul 520 a_x4) a_x6) a_x7) fun f3 => frc (w_sub 4294967295 a_x7) fun f5 => wrw t 29 a_s1 a_s2 fun t7 => x_b_makeCode_344 a_x1 a_x2 a_x4 a_x5 a_x6 a_x7 a_x8 a_x10 f3 f5 t7 r_R162 r_R190 k_K) (and (Nat.blt a_x6 8320) <| wrw t 29 a_s1 a_s2 fun t10 => rrw t10 30 a_x6 fun v12 => frc (w_add (w_add (w_mul 520 a_x4) a_x6) a_x7) fun f14 => x_b_makeCode_344 a_x1 a_x2 a_x4 a_x5 a_x6 a_x7 a_x8 a_x10 f14 v12 t10 r_R162 r_R190 k_K)
set_option maxRecDepth 20000 in
set_option maxHeartbeats 1000000 in
theorem xs_b_makeCode_308 {x1 : Int32} {a_x1 : Nat} {x2 : Int32} {a_x2 : Nat} {x4 : Int32} {a_x4 : Nat} {x5 : Int32} {a_x5 : Nat} {x6 : Int32} {a_x6 : Nat} {x7 : Int32} {a_x7 : Nat} {x8 : Int32} {a_x8 : Nat} {x10 : Int32} {a_x10 : Nat} {s1 : Int32} {a_s1 : Nat} {s2 : Int32} {a_s2 : Nat} {S : ms} {t : X6} {R162 : Int32 → Int32 → Int32 → Int32 → ms → Prop} {r_R162 : Nat → Nat → Nat → Nat → X6 → Bool} {R190 : Int32 → Int32 → Int32 → Int32 → Int32 → Int32 → Int32 → ms → Prop} {r_R190 : Nat → Nat → Nat → Nat → Nat → Nat → Nat → X6 → Bool} {K : ms → Prop} {k_K : X6 → Bool} (h : x_b_makeCode_308 a_x1 a_x2 a_x4 a_x5 a_x6 a_x7 a_x8 a_x10 a_s1 a_s2 t r_R162 r_R190 k_K = true) (e_x1 : x1 = Int32.ofNat a_x1) (e_x2 : x2 = Int32.ofNat a_x2) (e_x4 : x4 = Int32.ofNat a_x4) (e_x5 : x5 = Int32.ofNat a_x5) (e_x6 : x6 = Int32.ofNat a_x6) (e_x7 : x7 = Int32.ofNat a_x7) (e_x8 : x8 = Int32.ofNat a_x8) (e_x10 : x10 = Int32.ofNat a_x10) (e_s1 : s1 = Int32.ofNat a_s1) (e_s2 : s2 = Int32.ofNat a_s2) (hS : RM S t) (hR162 : ∀ {y0 : Int32} {b0 : Nat} {y1 : Int32} {b1 : Nat} {y2 : Int32} {b2 : Nat} {y3 : Int32} {b3 : Nat} {yS : ms} {yt : X6}, r_R162 b0 b1 b2 b3 yt = true → y0 = Int32.ofNat b0 → y1 = Int32.ofNat b1 → y2 = Int32.ofNat b2 → y3 = Int32.ofNat b3 → RM yS yt → R162 y0 y1 y2 y3 yS) (hR190 : ∀ {y0 : Int32} {b0 : Nat} {y1 : Int32} {b1 : Nat} {y2 : Int32} {b2 : Nat} {y3 : Int32} {b3 : Nat} {y4 : Int32} {b4 : Nat} {y5 : Int32} {b5 : Nat} {y6 : Int32} {b6 : Nat} {yS : ms} {yt : X6}, r_R190 b0 b1 b2 b3 b4 b5 b6 yt = true → y0 = Int32.ofNat b0 → y1 = Int32.ofNat b1 → y2 = Int32.ofNat b2 → y3 = Int32.ofNat b3 → y4 = Int32.ofNat b4 → y5 = Int32.ofNat b5 → y6 = Int32.ofNat b6 → RM yS yt → R190 y0 y1 y2 y3 y4 y5 y6 yS) (hK : ∀ {yS : ms} {yt : X6}, k_K yt = true → RM yS yt → K yS) : b_makeCode_308 x1 x2 x4 x5 x6 x7 x8 x10 s1 s2 S R162 R190 K := by
  unfold b_makeCode_308
  unfold x_b_makeCode_308 at h
  obtain ⟨n1, h⟩ := an_ok h
  refine ⟨n_vp e_s1 n1 (by decide), ?_⟩
  have hc2 := c_eq' e_x10 ((rfl : (0 : Int32) = Int32.ofNat 0))
  refine ⟨fun hc => ?_, fun hc => ?_⟩
  · have h := x_pos h (hc2.mp hc)
    have h := frc_ok h
    have p4 := n_add (n_add (n_mul ((rfl : (520 : Int32) = Int32.ofNat 520)) e_x4) e_x6) e_x7
    have h := frc_ok h
    have p6 := n_sub (((by decide) : (-1 : Int32) = Int32.ofNat 4294967295)) e_x7
    obtain ⟨t7, h, hS8⟩ := wrw_ok h hS (by decide) e_s1 e_s2
    exact xs_b_makeCode_344 h e_x1 e_x2 e_x4 e_x5 e_x6 e_x7 e_x8 e_x10 p4 p6 hS8 hR162 hR190 hK
  · have h := x_neg h (fun q => hc (hc2.mpr q))
    obtain ⟨n9, h⟩ := an_ok h
    refine ⟨n_vp e_x6 n9 (by decide), ?_⟩
    obtain ⟨t10, h, hS11⟩ := wrw_ok h hS (by decide) e_s1 e_s2
    obtain ⟨v12, h, q13⟩ := rrw_ok h hS11 (by decide) e_x6
    have h := frc_ok h
    have p15 := n_add (n_add (n_mul ((rfl : (520 : Int32) = Int32.ofNat 520)) e_x4) e_x6) e_x7
    exact xs_b_makeCode_344 h e_x1 e_x2 e_x4 e_x5 e_x6 e_x7 e_x8 e_x10 p15 q13 hS11 hR162 hR190 hK
noncomputable def x_b_makeCode_273 (a_x1 : Nat) (a_x2 : Nat) (a_x4 : Nat) (a_x5 : Nat) (a_x6 : Nat) (a_x7 : Nat) (a_x8 : Nat) (a_x9 : Nat) (a_s0 : Nat) (t : X6) (r_R162 : Nat → Nat → Nat → Nat → X6 → Bool) (r_R190 : Nat → Nat → Nat → Nat → Nat → Nat → Nat → X6 → Bool) (k_K : X6 → Bool) : Bool :=
  cond (w_eq a_s0 0) (frc (w_add (w_add (w_mul 520 a_x4) a_x6) a_x7) fun f2 => x_b_makeCode_308 a_x1 a_x2 a_x4 a_x5 a_x6 a_x7 a_x8 a_s0 f2 a_x9 t r_R162 r_R190 k_K) (and (Nat.blt a_x6 8320) <| rrw t 29 a_x6 fun v5 => frc (w_add (w_add (w_mul 520 a_x4) a_x6) a_x7) fun f7 => x_b_makeCode_308 a_x1 a_x2 a_x4 a_x5 a_x6 a_x7 a_x8 a_s0 f7 v5 t r_R162 r_R190 k_K)
set_option maxRecDepth 20000 in
set_option maxHeartbeats 1000000 in
theorem xs_b_makeCode_273 {x1 : Int32} {a_x1 : Nat} {x2 : Int32} {a_x2 : Nat} {x4 : Int32} {a_x4 : Nat} {x5 : Int32} {a_x5 : Nat} {x6 : Int32} {a_x6 : Nat} {x7 : Int32} {a_x7 : Nat} {x8 : Int32} {a_x8 : Nat} {x9 : Int32} {a_x9 : Nat} {s0 : Int32} {a_s0 : Nat} {S : ms} {t : X6} {R162 : Int32 → Int32 → Int32 → Int32 → ms → Prop} {r_R162 : Nat → Nat → Nat → Nat → X6 → Bool} {R190 : Int32 → Int32 → Int32 → Int32 → Int32 → Int32 → Int32 → ms → Prop} {r_R190 : Nat → Nat → Nat → Nat → Nat → Nat → Nat → X6 → Bool} {K : ms → Prop} {k_K : X6 → Bool} (h : x_b_makeCode_273 a_x1 a_x2 a_x4 a_x5 a_x6 a_x7 a_x8 a_x9 a_s0 t r_R162 r_R190 k_K = true) (e_x1 : x1 = Int32.ofNat a_x1) (e_x2 : x2 = Int32.ofNat a_x2) (e_x4 : x4 = Int32.ofNat a_x4) (e_x5 : x5 = Int32.ofNat a_x5) (e_x6 : x6 = Int32.ofNat a_x6) (e_x7 : x7 = Int32.ofNat a_x7) (e_x8 : x8 = Int32.ofNat a_x8) (e_x9 : x9 = Int32.ofNat a_x9) (e_s0 : s0 = Int32.ofNat a_s0) (hS : RM S t) (hR162 : ∀ {y0 : Int32} {b0 : Nat} {y1 : Int32} {b1 : Nat} {y2 : Int32} {b2 : Nat} {y3 : Int32} {b3 : Nat} {yS : ms} {yt : X6}, r_R162 b0 b1 b2 b3 yt = true → y0 = Int32.ofNat b0 → y1 = Int32.ofNat b1 → y2 = Int32.ofNat b2 → y3 = Int32.ofNat b3 → RM yS yt → R162 y0 y1 y2 y3 yS) (hR190 : ∀ {y0 : Int32} {b0 : Nat} {y1 : Int32} {b1 : Nat} {y2 : Int32} {b2 : Nat} {y3 : Int32} {b3 : Nat} {y4 : Int32} {b4 : Nat} {y5 : Int32} {b5 : Nat} {y6 : Int32} {b6 : Nat} {yS : ms} {yt : X6}, r_R190 b0 b1 b2 b3 b4 b5 b6 yt = true → y0 = Int32.ofNat b0 → y1 = Int32.ofNat b1 → y2 = Int32.ofNat b2 → y3 = Int32.ofNat b3 → y4 = Int32.ofNat b4 → y5 = Int32.ofNat b5 → y6 = Int32.ofNat b6 → RM yS yt → R190 y0 y1 y2 y3 y4 y5 y6 yS) (hK : ∀ {yS : ms} {yt : X6}, k_K yt = true → RM yS yt → K yS) : b_makeCode_273 x1 x2 x4 x5 x6 x7 x8 x9 s0 S R162 R190 K := by
  unfold b_makeCode_273
  unfold x_b_makeCode_273 at h
  have hc1 := c_eq' e_s0 ((rfl : (0 : Int32) = Int32.ofNat 0))
  refine ⟨fun hc => ?_, fun hc => ?_⟩
  · have h := x_pos h (hc1.mp hc)
    have h := frc_ok h
    have p3 := n_add (n_add (n_mul ((rfl : (520 : Int32) = Int32.ofNat 520)) e_x4) e_x6) e_x7
    exact xs_b_makeCode_308 h e_x1 e_x2 e_x4 e_x5 e_x6 e_x7 e_x8 e_s0 p3 e_x9 hS hR162 hR190 hK
  · have h := x_neg h (fun q => hc (hc1.mpr q))
    obtain ⟨n4, h⟩ := an_ok h
    refine ⟨n_vp e_x6 n4 (by decide), ?_⟩
    obtain ⟨v5, h, q6⟩ := rrw_ok h hS (by decide) e_x6
    have h := frc_ok h
    have p8 := n_add (n_add (n_mul ((rfl : (520 : Int32) = Int32.ofNat 520)) e_x4) e_x6) e_x7
    exact xs_b_makeCode_308 h e_x1 e_x2 e_x4 e_x5 e_x6 e_x7 e_x8 e_s0 p8 q6 hS hR162 hR190 hK
noncomputable def x_b_makeCode_268 (a_x1 : Nat) (a_x2 : Nat) (a_x4 : Nat) (a_x5 : Nat) (a_x6 : Nat) (a_x7 : Nat) (a_x8 : Nat) (a_x9 : Nat) (t : X6) (r_R162 : Nat → Nat → Nat → Nat → X6 → Bool) (r_R190 : Nat → Nat → Nat → Nat → Nat → Nat → Nat → X6 → Bool) (k_K : X6 → Bool) : Bool :=
  x_b_makeCode_273 a_x1 a_x2 a_x4 a_x5 a_x6 a_x7 a_x8 a_x9 1 t r_R162 r_R190 k_K
set_option maxRecDepth 20000 in
set_option maxHeartbeats 1000000 in
theorem xs_b_makeCode_268 {x1 : Int32} {a_x1 : Nat} {x2 : Int32} {a_x2 : Nat} {x4 : Int32} {a_x4 : Nat} {x5 : Int32} {a_x5 : Nat} {x6 : Int32} {a_x6 : Nat} {x7 : Int32} {a_x7 : Nat} {x8 : Int32} {a_x8 : Nat} {x9 : Int32} {a_x9 : Nat} {S : ms} {t : X6} {R162 : Int32 → Int32 → Int32 → Int32 → ms → Prop} {r_R162 : Nat → Nat → Nat → Nat → X6 → Bool} {R190 : Int32 → Int32 → Int32 → Int32 → Int32 → Int32 → Int32 → ms → Prop} {r_R190 : Nat → Nat → Nat → Nat → Nat → Nat → Nat → X6 → Bool} {K : ms → Prop} {k_K : X6 → Bool} (h : x_b_makeCode_268 a_x1 a_x2 a_x4 a_x5 a_x6 a_x7 a_x8 a_x9 t r_R162 r_R190 k_K = true) (e_x1 : x1 = Int32.ofNat a_x1) (e_x2 : x2 = Int32.ofNat a_x2) (e_x4 : x4 = Int32.ofNat a_x4) (e_x5 : x5 = Int32.ofNat a_x5) (e_x6 : x6 = Int32.ofNat a_x6) (e_x7 : x7 = Int32.ofNat a_x7) (e_x8 : x8 = Int32.ofNat a_x8) (e_x9 : x9 = Int32.ofNat a_x9) (hS : RM S t) (hR162 : ∀ {y0 : Int32} {b0 : Nat} {y1 : Int32} {b1 : Nat} {y2 : Int32} {b2 : Nat} {y3 : Int32} {b3 : Nat} {yS : ms} {yt : X6}, r_R162 b0 b1 b2 b3 yt = true → y0 = Int32.ofNat b0 → y1 = Int32.ofNat b1 → y2 = Int32.ofNat b2 → y3 = Int32.ofNat b3 → RM yS yt → R162 y0 y1 y2 y3 yS) (hR190 : ∀ {y0 : Int32} {b0 : Nat} {y1 : Int32} {b1 : Nat} {y2 : Int32} {b2 : Nat} {y3 : Int32} {b3 : Nat} {y4 : Int32} {b4 : Nat} {y5 : Int32} {b5 : Nat} {y6 : Int32} {b6 : Nat} {yS : ms} {yt : X6}, r_R190 b0 b1 b2 b3 b4 b5 b6 yt = true → y0 = Int32.ofNat b0 → y1 = Int32.ofNat b1 → y2 = Int32.ofNat b2 → y3 = Int32.ofNat b3 → y4 = Int32.ofNat b4 → y5 = Int32.ofNat b5 → y6 = Int32.ofNat b6 → RM yS yt → R190 y0 y1 y2 y3 y4 y5 y6 yS) (hK : ∀ {yS : ms} {yt : X6}, k_K yt = true → RM yS yt → K yS) : b_makeCode_268 x1 x2 x4 x5 x6 x7 x8 x9 S R162 R190 K := by
  unfold b_makeCode_268
  unfold x_b_makeCode_268 at h
  exact xs_b_makeCode_273 h e_x1 e_x2 e_x4 e_x5 e_x6 e_x7 e_x8 e_x9 ((rfl : (1 : Int32) = Int32.ofNat 1)) hS hR162 hR190 hK
noncomputable def x_b_makeCode_272 (a_x1 : Nat) (a_x2 : Nat) (a_x4 : Nat) (a_x5 : Nat) (a_x6 : Nat) (a_x7 : Nat) (a_x8 : Nat) (a_x9 : Nat) (t : X6) (r_R162 : Nat → Nat → Nat → Nat → X6 → Bool) (r_R190 : Nat → Nat → Nat → Nat → Nat → Nat → Nat → X6 → Bool) (k_K : X6 → Bool) : Bool :=
  x_b_makeCode_273 a_x1 a_x2 a_x4 a_x5 a_x6 a_x7 a_x8 a_x9 0 t r_R162 r_R190 k_K
set_option maxRecDepth 20000 in
set_option maxHeartbeats 1000000 in
theorem xs_b_makeCode_272 {x1 : Int32} {a_x1 : Nat} {x2 : Int32} {a_x2 : Nat} {x4 : Int32} {a_x4 : Nat} {x5 : Int32} {a_x5 : Nat} {x6 : Int32} {a_x6 : Nat} {x7 : Int32} {a_x7 : Nat} {x8 : Int32} {a_x8 : Nat} {x9 : Int32} {a_x9 : Nat} {S : ms} {t : X6} {R162 : Int32 → Int32 → Int32 → Int32 → ms → Prop} {r_R162 : Nat → Nat → Nat → Nat → X6 → Bool} {R190 : Int32 → Int32 → Int32 → Int32 → Int32 → Int32 → Int32 → ms → Prop} {r_R190 : Nat → Nat → Nat → Nat → Nat → Nat → Nat → X6 → Bool} {K : ms → Prop} {k_K : X6 → Bool} (h : x_b_makeCode_272 a_x1 a_x2 a_x4 a_x5 a_x6 a_x7 a_x8 a_x9 t r_R162 r_R190 k_K = true) (e_x1 : x1 = Int32.ofNat a_x1) (e_x2 : x2 = Int32.ofNat a_x2) (e_x4 : x4 = Int32.ofNat a_x4) (e_x5 : x5 = Int32.ofNat a_x5) (e_x6 : x6 = Int32.ofNat a_x6) (e_x7 : x7 = Int32.ofNat a_x7) (e_x8 : x8 = Int32.ofNat a_x8) (e_x9 : x9 = Int32.ofNat a_x9) (hS : RM S t) (hR162 : ∀ {y0 : Int32} {b0 : Nat} {y1 : Int32} {b1 : Nat} {y2 : Int32} {b2 : Nat} {y3 : Int32} {b3 : Nat} {yS : ms} {yt : X6}, r_R162 b0 b1 b2 b3 yt = true → y0 = Int32.ofNat b0 → y1 = Int32.ofNat b1 → y2 = Int32.ofNat b2 → y3 = Int32.ofNat b3 → RM yS yt → R162 y0 y1 y2 y3 yS) (hR190 : ∀ {y0 : Int32} {b0 : Nat} {y1 : Int32} {b1 : Nat} {y2 : Int32} {b2 : Nat} {y3 : Int32} {b3 : Nat} {y4 : Int32} {b4 : Nat} {y5 : Int32} {b5 : Nat} {y6 : Int32} {b6 : Nat} {yS : ms} {yt : X6}, r_R190 b0 b1 b2 b3 b4 b5 b6 yt = true → y0 = Int32.ofNat b0 → y1 = Int32.ofNat b1 → y2 = Int32.ofNat b2 → y3 = Int32.ofNat b3 → y4 = Int32.ofNat b4 → y5 = Int32.ofNat b5 → y6 = Int32.ofNat b6 → RM yS yt → R190 y0 y1 y2 y3 y4 y5 y6 yS) (hK : ∀ {yS : ms} {yt : X6}, k_K yt = true → RM yS yt → K yS) : b_makeCode_272 x1 x2 x4 x5 x6 x7 x8 x9 S R162 R190 K := by
  unfold b_makeCode_272
  unfold x_b_makeCode_272 at h
  exact xs_b_makeCode_273 h e_x1 e_x2 e_x4 e_x5 e_x6 e_x7 e_x8 e_x9 ((rfl : (0 : Int32) = Int32.ofNat 0)) hS hR162 hR190 hK
noncomputable def x_b_makeCode_241 (a_x1 : Nat) (a_x2 : Nat) (a_x4 : Nat) (a_x5 : Nat) (a_x6 : Nat) (a_x7 : Nat) (a_x8 : Nat) (a_s0 : Nat) (t : X6) (r_R162 : Nat → Nat → Nat → Nat → X6 → Bool) (r_R190 : Nat → Nat → Nat → Nat → Nat → Nat → Nat → X6 → Bool) (k_K : X6 → Bool) : Bool :=
  cond (w_eq a_x7 a_x5) (x_b_makeCode_268 a_x1 a_x2 a_x4 a_x5 a_x6 a_x7 a_x8 a_s0 t r_R162 r_R190 k_K) (cond (!(w_lt a_x6 a_x2)) (x_b_makeCode_272 a_x1 a_x2 a_x4 a_x5 a_x6 a_x7 a_x8 a_s0 t r_R162 r_R190 k_K) (and (Nat.blt a_x6 8320) <| rrw t 29 a_x6 fun v4 => cond (w_lt a_s0 v4) (x_b_makeCode_272 a_x1 a_x2 a_x4 a_x5 a_x6 a_x7 a_x8 a_s0 t r_R162 r_R190 k_K) (x_b_makeCode_268 a_x1 a_x2 a_x4 a_x5 a_x6 a_x7 a_x8 a_s0 t r_R162 r_R190 k_K)))
set_option maxRecDepth 20000 in
set_option maxHeartbeats 1000000 in
theorem xs_b_makeCode_241 {x1 : Int32} {a_x1 : Nat} {x2 : Int32} {a_x2 : Nat} {x4 : Int32} {a_x4 : Nat} {x5 : Int32} {a_x5 : Nat} {x6 : Int32} {a_x6 : Nat} {x7 : Int32} {a_x7 : Nat} {x8 : Int32} {a_x8 : Nat} {s0 : Int32} {a_s0 : Nat} {S : ms} {t : X6} {R162 : Int32 → Int32 → Int32 → Int32 → ms → Prop} {r_R162 : Nat → Nat → Nat → Nat → X6 → Bool} {R190 : Int32 → Int32 → Int32 → Int32 → Int32 → Int32 → Int32 → ms → Prop} {r_R190 : Nat → Nat → Nat → Nat → Nat → Nat → Nat → X6 → Bool} {K : ms → Prop} {k_K : X6 → Bool} (h : x_b_makeCode_241 a_x1 a_x2 a_x4 a_x5 a_x6 a_x7 a_x8 a_s0 t r_R162 r_R190 k_K = true) (e_x1 : x1 = Int32.ofNat a_x1) (e_x2 : x2 = Int32.ofNat a_x2) (e_x4 : x4 = Int32.ofNat a_x4) (e_x5 : x5 = Int32.ofNat a_x5) (e_x6 : x6 = Int32.ofNat a_x6) (e_x7 : x7 = Int32.ofNat a_x7) (e_x8 : x8 = Int32.ofNat a_x8) (e_s0 : s0 = Int32.ofNat a_s0) (hS : RM S t) (hR162 : ∀ {y0 : Int32} {b0 : Nat} {y1 : Int32} {b1 : Nat} {y2 : Int32} {b2 : Nat} {y3 : Int32} {b3 : Nat} {yS : ms} {yt : X6}, r_R162 b0 b1 b2 b3 yt = true → y0 = Int32.ofNat b0 → y1 = Int32.ofNat b1 → y2 = Int32.ofNat b2 → y3 = Int32.ofNat b3 → RM yS yt → R162 y0 y1 y2 y3 yS) (hR190 : ∀ {y0 : Int32} {b0 : Nat} {y1 : Int32} {b1 : Nat} {y2 : Int32} {b2 : Nat} {y3 : Int32} {b3 : Nat} {y4 : Int32} {b4 : Nat} {y5 : Int32} {b5 : Nat} {y6 : Int32} {b6 : Nat} {yS : ms} {yt : X6}, r_R190 b0 b1 b2 b3 b4 b5 b6 yt = true → y0 = Int32.ofNat b0 → y1 = Int32.ofNat b1 → y2 = Int32.ofNat b2 → y3 = Int32.ofNat b3 → y4 = Int32.ofNat b4 → y5 = Int32.ofNat b5 → y6 = Int32.ofNat b6 → RM yS yt → R190 y0 y1 y2 y3 y4 y5 y6 yS) (hK : ∀ {yS : ms} {yt : X6}, k_K yt = true → RM yS yt → K yS) : b_makeCode_241 x1 x2 x4 x5 x6 x7 x8 s0 S R162 R190 K := by
  unfold b_makeCode_241
  unfold x_b_makeCode_241 at h
  have hc1 := c_eq' e_x7 e_x5
  refine ⟨fun hc => ?_, fun hc => ?_⟩
  · have h := x_pos h (hc1.mp hc)
    exact xs_b_makeCode_268 h e_x1 e_x2 e_x4 e_x5 e_x6 e_x7 e_x8 e_s0 hS hR162 hR190 hK
  · have h := x_neg h (fun q => hc (hc1.mpr q))
    have hc2 := c_le' e_x2 e_x6
    refine ⟨fun hc => ?_, fun hc => ?_⟩
    · have h := x_pos h (hc2.mp hc)
      exact xs_b_makeCode_272 h e_x1 e_x2 e_x4 e_x5 e_x6 e_x7 e_x8 e_s0 hS hR162 hR190 hK
    · have h := x_neg h (fun q => hc (hc2.mpr q))
      obtain ⟨n3, h⟩ := an_ok h
      refine ⟨n_vp e_x6 n3 (by decide), ?_⟩
      obtain ⟨v4, h, q5⟩ := rrw_ok h hS (by decide) e_x6
      have hc6 := c_lt' e_s0 q5
      refine ⟨fun hc => ?_, fun hc => ?_⟩
      · have h := x_pos h (hc6.mp hc)
        exact xs_b_makeCode_272 h e_x1 e_x2 e_x4 e_x5 e_x6 e_x7 e_x8 e_s0 hS hR162 hR190 hK
      · have h := x_neg h (fun q => hc (hc6.mpr q))
        exact xs_b_makeCode_268 h e_x1 e_x2 e_x4 e_x5 e_x6 e_x7 e_x8 e_s0 hS hR162 hR190 hK
noncomputable def x_b_makeCode_203 (a_x1 : Nat) (a_x2 : Nat) (a_x4 : Nat) (a_x5 : Nat) (a_x6 : Nat) (a_x7 : Nat) (a_x8 : Nat) (t : X6) (r_R162 : Nat → Nat → Nat → Nat → X6 → Bool) (r_R190 : Nat → Nat → Nat → Nat → Nat → Nat → Nat → X6 → Bool) (k_K : X6 → Bool) : Bool :=
  cond (!(w_lt a_x7 a_x5)) (x_b_makeCode_241 a_x1 a_x2 a_x4 a_x5 a_x6 a_x7 a_x8 0 t r_R162 r_R190 k_K) (frc (w_add a_x8 (w_mul 2 a_x7)) fun f2 => and (Nat.blt f2 8320) <| frc (w_add (w_add a_x8 (w_mul 2 a_x7)) 1) fun f5 => and (Nat.blt f5 8320) <| rrw t 29 f2 fun v8 => rrw t 29 f5 fun v10 => frc (w_add v8 v10) fun f12 => x_b_makeCode_241 a_x1 a_x2 a_x4 a_x5 a_x6 a_x7 a_x8 f12 t r_R162 r_R190 k_K)
set_option maxRecDepth 20000 in
set_option maxHeartbeats 1000000 in
theorem xs_b_makeCode_203 {x1 : Int32} {a_x1 : Nat} {x2 : Int32} {a_x2 : Nat} {x4 : Int32} {a_x4 : Nat} {x5 : Int32} {a_x5 : Nat} {x6 : Int32} {a_x6 : Nat} {x7 : Int32} {a_x7 : Nat} {x8 : Int32} {a_x8 : Nat} {S : ms} {t : X6} {R162 : Int32 → Int32 → Int32 → Int32 → ms → Prop} {r_R162 : Nat → Nat → Nat → Nat → X6 → Bool} {R190 : Int32 → Int32 → Int32 → Int32 → Int32 → Int32 → Int32 → ms → Prop} {r_R190 : Nat → Nat → Nat → Nat → Nat → Nat → Nat → X6 → Bool} {K : ms → Prop} {k_K : X6 → Bool} (h : x_b_makeCode_203 a_x1 a_x2 a_x4 a_x5 a_x6 a_x7 a_x8 t r_R162 r_R190 k_K = true) (e_x1 : x1 = Int32.ofNat a_x1) (e_x2 : x2 = Int32.ofNat a_x2) (e_x4 : x4 = Int32.ofNat a_x4) (e_x5 : x5 = Int32.ofNat a_x5) (e_x6 : x6 = Int32.ofNat a_x6) (e_x7 : x7 = Int32.ofNat a_x7) (e_x8 : x8 = Int32.ofNat a_x8) (hS : RM S t) (hR162 : ∀ {y0 : Int32} {b0 : Nat} {y1 : Int32} {b1 : Nat} {y2 : Int32} {b2 : Nat} {y3 : Int32} {b3 : Nat} {yS : ms} {yt : X6}, r_R162 b0 b1 b2 b3 yt = true → y0 = Int32.ofNat b0 → y1 = Int32.ofNat b1 → y2 = Int32.ofNat b2 → y3 = Int32.ofNat b3 → RM yS yt → R162 y0 y1 y2 y3 yS) (hR190 : ∀ {y0 : Int32} {b0 : Nat} {y1 : Int32} {b1 : Nat} {y2 : Int32} {b2 : Nat} {y3 : Int32} {b3 : Nat} {y4 : Int32} {b4 : Nat} {y5 : Int32} {b5 : Nat} {y6 : Int32} {b6 : Nat} {yS : ms} {yt : X6}, r_R190 b0 b1 b2 b3 b4 b5 b6 yt = true → y0 = Int32.ofNat b0 → y1 = Int32.ofNat b1 → y2 = Int32.ofNat b2 → y3 = Int32.ofNat b3 → y4 = Int32.ofNat b4 → y5 = Int32.ofNat b5 → y6 = Int32.ofNat b6 → RM yS yt → R190 y0 y1 y2 y3 y4 y5 y6 yS) (hK : ∀ {yS : ms} {yt : X6}, k_K yt = true → RM yS yt → K yS) : b_makeCode_203 x1 x2 x4 x5 x6 x7 x8 S R162 R190 K := by
  unfold b_makeCode_203
  unfold x_b_makeCode_203 at h
  have hc1 := c_le' e_x5 e_x7
  refine ⟨fun hc => ?_, fun hc => ?_⟩
  · have h := x_pos h (hc1.mp hc)
    exact xs_b_makeCode_241 h e_x1 e_x2 e_x4 e_x5 e_x6 e_x7 e_x8 ((rfl : (0 : Int32) = Int32.ofNat 0)) hS hR162 hR190 hK
  · have h := x_neg h (fun q => hc (hc1.mpr q))
    have h := frc_ok h
    have p3 := n_add e_x8 (n_mul ((rfl : (2 : Int32) = Int32.ofNat 2)) e_x7)
    obtain ⟨n4, h⟩ := an_ok h
    refine ⟨n_vp p3 n4 (by decide), ?_⟩
    have h := frc_ok h
    have p6 := n_add (n_add e_x8 (n_mul ((rfl : (2 : Int32) = Int32.ofNat 2)) e_x7)) ((rfl : (1 : Int32) = Int32.ofNat 1))
    obtain ⟨n7, h⟩ := an_ok h
    refine ⟨n_vp p6 n7 (by decide), ?_⟩
    obtain ⟨v8, h, q9⟩ := rrw_ok h hS (by decide) p3
    obtain ⟨v10, h, q11⟩ := rrw_ok h hS (by decide) p6
    have h := frc_ok h
    have p13 := n_add q9 q11
    exact xs_b_makeCode_241 h e_x1 e_x2 e_x4 e_x5 e_x6 e_x7 e_x8 p13 hS hR162 hR190 hK
noncomputable def x_b_makeCode_190 (a_x1 : Nat) (a_x2 : Nat) (a_x4 : Nat) (a_x5 : Nat) (a_x6 : Nat) (a_x7 : Nat) (a_x8 : Nat) (t : X6) (r_R162 : Nat → Nat → Nat → Nat → X6 → Bool) (r_R190 : Nat → Nat → Nat → Nat → Nat → Nat → Nat → X6 → Bool) (k_K : X6 → Bool) : Bool :=
  cond (w_lt a_x6 a_x2) (x_b_makeCode_203 a_x1 a_x2 a_x4 a_x5 a_x6 a_x7 a_x8 t r_R162 r_R190 k_K) (cond (!(w_lt a_x7 a_x5)) (frc (w_add a_x2 a_x5) fun f3 => frc (w_add a_x4 1) fun f5 => r_R162 a_x1 a_x2 f3 f5 t) (x_b_makeCode_203 a_x1 a_x2 a_x4 a_x5 a_x6 a_x7 a_x8 t r_R162 r_R190 k_K))
set_option maxRecDepth 20000 in
set_option maxHeartbeats 1000000 in
theorem xs_b_makeCode_190 {x1 : Int32} {a_x1 : Nat} {x2 : Int32} {a_x2 : Nat} {x4 : Int32} {a_x4 : Nat} {x5 : Int32} {a_x5 : Nat} {x6 : Int32} {a_x6 : Nat} {x7 : Int32} {a_x7 : Nat} {x8 : Int32} {a_x8 : Nat} {S : ms} {t : X6} {R162 : Int32 → Int32 → Int32 → Int32 → ms → Prop} {r_R162 : Nat → Nat → Nat → Nat → X6 → Bool} {R190 : Int32 → Int32 → Int32 → Int32 → Int32 → Int32 → Int32 → ms → Prop} {r_R190 : Nat → Nat → Nat → Nat → Nat → Nat → Nat → X6 → Bool} {K : ms → Prop} {k_K : X6 → Bool} (h : x_b_makeCode_190 a_x1 a_x2 a_x4 a_x5 a_x6 a_x7 a_x8 t r_R162 r_R190 k_K = true) (e_x1 : x1 = Int32.ofNat a_x1) (e_x2 : x2 = Int32.ofNat a_x2) (e_x4 : x4 = Int32.ofNat a_x4) (e_x5 : x5 = Int32.ofNat a_x5) (e_x6 : x6 = Int32.ofNat a_x6) (e_x7 : x7 = Int32.ofNat a_x7) (e_x8 : x8 = Int32.ofNat a_x8) (hS : RM S t) (hR162 : ∀ {y0 : Int32} {b0 : Nat} {y1 : Int32} {b1 : Nat} {y2 : Int32} {b2 : Nat} {y3 : Int32} {b3 : Nat} {yS : ms} {yt : X6}, r_R162 b0 b1 b2 b3 yt = true → y0 = Int32.ofNat b0 → y1 = Int32.ofNat b1 → y2 = Int32.ofNat b2 → y3 = Int32.ofNat b3 → RM yS yt → R162 y0 y1 y2 y3 yS) (hR190 : ∀ {y0 : Int32} {b0 : Nat} {y1 : Int32} {b1 : Nat} {y2 : Int32} {b2 : Nat} {y3 : Int32} {b3 : Nat} {y4 : Int32} {b4 : Nat} {y5 : Int32} {b5 : Nat} {y6 : Int32} {b6 : Nat} {yS : ms} {yt : X6}, r_R190 b0 b1 b2 b3 b4 b5 b6 yt = true → y0 = Int32.ofNat b0 → y1 = Int32.ofNat b1 → y2 = Int32.ofNat b2 → y3 = Int32.ofNat b3 → y4 = Int32.ofNat b4 → y5 = Int32.ofNat b5 → y6 = Int32.ofNat b6 → RM yS yt → R190 y0 y1 y2 y3 y4 y5 y6 yS) (hK : ∀ {yS : ms} {yt : X6}, k_K yt = true → RM yS yt → K yS) : b_makeCode_190 x1 x2 x4 x5 x6 x7 x8 S R162 R190 K := by
  unfold b_makeCode_190
  unfold x_b_makeCode_190 at h
  have hc1 := c_lt' e_x6 e_x2
  refine ⟨fun hc => ?_, fun hc => ?_⟩
  · have h := x_pos h (hc1.mp hc)
    exact xs_b_makeCode_203 h e_x1 e_x2 e_x4 e_x5 e_x6 e_x7 e_x8 hS hR162 hR190 hK
  · have h := x_neg h (fun q => hc (hc1.mpr q))
    have hc2 := c_le' e_x5 e_x7
    refine ⟨fun hc => ?_, fun hc => ?_⟩
    · have h := x_pos h (hc2.mp hc)
      have h := frc_ok h
      have p4 := n_add e_x2 e_x5
      have h := frc_ok h
      have p6 := n_add e_x4 ((rfl : (1 : Int32) = Int32.ofNat 1))
      exact hR162 h e_x1 e_x2 p4 p6 hS
    · have h := x_neg h (fun q => hc (hc2.mpr q))
      exact xs_b_makeCode_203 h e_x1 e_x2 e_x4 e_x5 e_x6 e_x7 e_x8 hS hR162 hR190 hK
noncomputable def xl_e_makeCode_190 (r_R162 : Nat → Nat → Nat → Nat → X6 → Bool) (k_K : X6 → Bool) (n : Nat) : Nat → Nat → Nat → Nat → Nat → Nat → Nat → X6 → Bool := Nat.rec (motive := fun _ => Nat → Nat → Nat → Nat → Nat → Nat → Nat → X6 → Bool) (fun _ _ _ _ _ _ _ _ => false) (fun _ ih b_x1 b_x2 b_x4 b_x5 b_x6 b_x7 b_x8 bt => x_b_makeCode_190 b_x1 b_x2 b_x4 b_x5 b_x6 b_x7 b_x8 bt r_R162 ih k_K) n
noncomputable def x_e_makeCode_190 (a_x1 : Nat) (a_x2 : Nat) (a_x4 : Nat) (a_x5 : Nat) (a_x6 : Nat) (a_x7 : Nat) (a_x8 : Nat) (t : X6) (r_R162 : Nat → Nat → Nat → Nat → X6 → Bool) (k_K : X6 → Bool) : Bool := xl_e_makeCode_190 r_R162 k_K 200000 a_x1 a_x2 a_x4 a_x5 a_x6 a_x7 a_x8 t
def xq_e_makeCode_190 (r_R162 : Nat → Nat → Nat → Nat → X6 → Bool) (k_K : X6 → Bool) (n : Nat) (y_x1 : Int32) (y_x2 : Int32) (y_x4 : Int32) (y_x5 : Int32) (y_x6 : Int32) (y_x7 : Int32) (y_x8 : Int32) (yS : ms) : Prop := ∃ (b_x1 : Nat) (b_x2 : Nat) (b_x4 : Nat) (b_x5 : Nat) (b_x6 : Nat) (b_x7 : Nat) (b_x8 : Nat) (bt : X6), y_x1 = Int32.ofNat b_x1 ∧ y_x2 = Int32.ofNat b_x2 ∧ y_x4 = Int32.ofNat b_x4 ∧ y_x5 = Int32.ofNat b_x5 ∧ y_x6 = Int32.ofNat b_x6 ∧ y_x7 = Int32.ofNat b_x7 ∧ y_x8 = Int32.ofNat b_x8 ∧ RM yS bt ∧ xl_e_makeCode_190 r_R162 k_K n b_x1 b_x2 b_x4 b_x5 b_x6 b_x7 b_x8 bt = true
set_option maxRecDepth 20000 in
theorem xs_e_makeCode_190 {x1 : Int32} {a_x1 : Nat} {x2 : Int32} {a_x2 : Nat} {x4 : Int32} {a_x4 : Nat} {x5 : Int32} {a_x5 : Nat} {x6 : Int32} {a_x6 : Nat} {x7 : Int32} {a_x7 : Nat} {x8 : Int32} {a_x8 : Nat} {S : ms} {t : X6} {R162 : Int32 → Int32 → Int32 → Int32 → ms → Prop} {r_R162 : Nat → Nat → Nat → Nat → X6 → Bool} {K : ms → Prop} {k_K : X6 → Bool} (h : x_e_makeCode_190 a_x1 a_x2 a_x4 a_x5 a_x6 a_x7 a_x8 t r_R162 k_K = true) (e_x1 : x1 = Int32.ofNat a_x1) (e_x2 : x2 = Int32.ofNat a_x2) (e_x4 : x4 = Int32.ofNat a_x4) (e_x5 : x5 = Int32.ofNat a_x5) (e_x6 : x6 = Int32.ofNat a_x6) (e_x7 : x7 = Int32.ofNat a_x7) (e_x8 : x8 = Int32.ofNat a_x8) (hS : RM S t) (hR162 : ∀ {y0 : Int32} {b0 : Nat} {y1 : Int32} {b1 : Nat} {y2 : Int32} {b2 : Nat} {y3 : Int32} {b3 : Nat} {yS : ms} {yt : X6}, r_R162 b0 b1 b2 b3 yt = true → y0 = Int32.ofNat b0 → y1 = Int32.ofNat b1 → y2 = Int32.ofNat b2 → y3 = Int32.ofNat b3 → RM yS yt → R162 y0 y1 y2 y3 yS) (hK : ∀ {yS : ms} {yt : X6}, k_K yt = true → RM yS yt → K yS) : e_makeCode_190 x1 x2 x4 x5 x6 x7 x8 S R162 K := by
  refine ⟨fun y_x1 y_x2 y_x4 y_x5 y_x6 y_x7 y_x8 yS => ∃ n, xq_e_makeCode_190 r_R162 k_K n y_x1 y_x2 y_x4 y_x5 y_x6 y_x7 y_x8 yS, fun y_x1 y_x2 y_x4 y_x5 y_x6 y_x7 y_x8 yS => mf (fun n => xq_e_makeCode_190 r_R162 k_K n y_x1 y_x2 y_x4 y_x5 y_x6 y_x7 y_x8 yS), ⟨200000, a_x1, a_x2, a_x4, a_x5, a_x6, a_x7, a_x8, t, e_x1, e_x2, e_x4, e_x5, e_x6, e_x7, e_x8, hS, h⟩, fun y_x1 y_x2 y_x4 y_x5 y_x6 y_x7 y_x8 yS hI => ?_⟩
  obtain ⟨m, hm, hq⟩ := mf_ok hI
  obtain ⟨b_x1, b_x2, b_x4, b_x5, b_x6, b_x7, b_x8, bt, c_x1, c_x2, c_x4, c_x5, c_x6, c_x7, c_x8, cS, h⟩ := hq
  cases m with
  | zero => exact absurd h Bool.false_ne_true
  | succ n => exact xs_b_makeCode_190 h c_x1 c_x2 c_x4 c_x5 c_x6 c_x7 c_x8 cS hR162 (fun h d_x1 d_x2 d_x4 d_x5 d_x6 d_x7 d_x8 dS => ⟨⟨n, _, _, _, _, _, _, _, _, d_x1, d_x2, d_x4, d_x5, d_x6, d_x7, d_x8, dS, h⟩, Nat.lt_of_le_of_lt (mf_le ⟨_, _, _, _, _, _, _, _, d_x1, d_x2, d_x4, d_x5, d_x6, d_x7, d_x8, dS, h⟩) (Nat.lt_of_lt_of_eq (Nat.lt_succ_self n) hm.symm)⟩) hK
noncomputable def x_b_makeCode_162 (a_x1 : Nat) (a_x2 : Nat) (a_x3 : Nat) (a_x4 : Nat) (t : X6) (r_R162 : Nat → Nat → Nat → Nat → X6 → Bool) (k_K : X6 → Bool) : Bool :=
  cond (!(w_lt a_x4 16)) (x_e_makeCode_394 a_x1 a_x2 0 t k_K) (frc (w_div a_x3 2) fun f2 => frc (w_mul 520 (w_sub a_x4 1)) fun f4 => x_e_makeCode_190 a_x1 a_x2 a_x4 f2 0 0 f4 t r_R162 k_K)
set_option maxRecDepth 20000 in
set_option maxHeartbeats 1000000 in
theorem xs_b_makeCode_162 {x1 : Int32} {a_x1 : Nat} {x2 : Int32} {a_x2 : Nat} {x3 : Int32} {a_x3 : Nat} {x4 : Int32} {a_x4 : Nat} {S : ms} {t : X6} {R162 : Int32 → Int32 → Int32 → Int32 → ms → Prop} {r_R162 : Nat → Nat → Nat → Nat → X6 → Bool} {K : ms → Prop} {k_K : X6 → Bool} (h : x_b_makeCode_162 a_x1 a_x2 a_x3 a_x4 t r_R162 k_K = true) (e_x1 : x1 = Int32.ofNat a_x1) (e_x2 : x2 = Int32.ofNat a_x2) (e_x3 : x3 = Int32.ofNat a_x3) (e_x4 : x4 = Int32.ofNat a_x4) (hS : RM S t) (hR162 : ∀ {y0 : Int32} {b0 : Nat} {y1 : Int32} {b1 : Nat} {y2 : Int32} {b2 : Nat} {y3 : Int32} {b3 : Nat} {yS : ms} {yt : X6}, r_R162 b0 b1 b2 b3 yt = true → y0 = Int32.ofNat b0 → y1 = Int32.ofNat b1 → y2 = Int32.ofNat b2 → y3 = Int32.ofNat b3 → RM yS yt → R162 y0 y1 y2 y3 yS) (hK : ∀ {yS : ms} {yt : X6}, k_K yt = true → RM yS yt → K yS) : b_makeCode_162 x1 x2 x3 x4 S R162 K := by
  unfold b_makeCode_162
  unfold x_b_makeCode_162 at h
  have hc1 := c_le' ((rfl : (16 : Int32) = Int32.ofNat 16)) e_x4
  refine ⟨fun hc => ?_, fun hc => ?_⟩
  · have h := x_pos h (hc1.mp hc)
    exact xs_e_makeCode_394 h e_x1 e_x2 ((rfl : (0 : Int32) = Int32.ofNat 0)) hS hK
  · have h := x_neg h (fun q => hc (hc1.mpr q))
    have h := frc_ok h
    have p3 := n_div e_x3 ((rfl : (2 : Int32) = Int32.ofNat 2))
    have h := frc_ok h
    have p5 := n_mul ((rfl : (520 : Int32) = Int32.ofNat 520)) (n_sub e_x4 ((rfl : (1 : Int32) = Int32.ofNat 1)))
    exact xs_e_makeCode_190 h e_x1 e_x2 e_x4 p3 ((rfl : (0 : Int32) = Int32.ofNat 0)) ((rfl : (0 : Int32) = Int32.ofNat 0)) p5 hS hR162 hK
noncomputable def xl_e_makeCode_162 (k_K : X6 → Bool) (n : Nat) : Nat → Nat → Nat → Nat → X6 → Bool := Nat.rec (motive := fun _ => Nat → Nat → Nat → Nat → X6 → Bool) (fun _ _ _ _ _ => false) (fun _ ih b_x1 b_x2 b_x3 b_x4 bt => x_b_makeCode_162 b_x1 b_x2 b_x3 b_x4 bt ih k_K) n
noncomputable def x_e_makeCode_162 (a_x1 : Nat) (a_x2 : Nat) (a_x3 : Nat) (a_x4 : Nat) (t : X6) (k_K : X6 → Bool) : Bool := xl_e_makeCode_162 k_K 200000 a_x1 a_x2 a_x3 a_x4 t
def xq_e_makeCode_162 (k_K : X6 → Bool) (n : Nat) (y_x1 : Int32) (y_x2 : Int32) (y_x3 : Int32) (y_x4 : Int32) (yS : ms) : Prop := ∃ (b_x1 : Nat) (b_x2 : Nat) (b_x3 : Nat) (b_x4 : Nat) (bt : X6), y_x1 = Int32.ofNat b_x1 ∧ y_x2 = Int32.ofNat b_x2 ∧ y_x3 = Int32.ofNat b_x3 ∧ y_x4 = Int32.ofNat b_x4 ∧ RM yS bt ∧ xl_e_makeCode_162 k_K n b_x1 b_x2 b_x3 b_x4 bt = true
set_option maxRecDepth 20000 in
theorem xs_e_makeCode_162 {x1 : Int32} {a_x1 : Nat} {x2 : Int32} {a_x2 : Nat} {x3 : Int32} {a_x3 : Nat} {x4 : Int32} {a_x4 : Nat} {S : ms} {t : X6} {K : ms → Prop} {k_K : X6 → Bool} (h : x_e_makeCode_162 a_x1 a_x2 a_x3 a_x4 t k_K = true) (e_x1 : x1 = Int32.ofNat a_x1) (e_x2 : x2 = Int32.ofNat a_x2) (e_x3 : x3 = Int32.ofNat a_x3) (e_x4 : x4 = Int32.ofNat a_x4) (hS : RM S t) (hK : ∀ {yS : ms} {yt : X6}, k_K yt = true → RM yS yt → K yS) : e_makeCode_162 x1 x2 x3 x4 S K := by
  refine ⟨fun y_x1 y_x2 y_x3 y_x4 yS => ∃ n, xq_e_makeCode_162 k_K n y_x1 y_x2 y_x3 y_x4 yS, fun y_x1 y_x2 y_x3 y_x4 yS => mf (fun n => xq_e_makeCode_162 k_K n y_x1 y_x2 y_x3 y_x4 yS), ⟨200000, a_x1, a_x2, a_x3, a_x4, t, e_x1, e_x2, e_x3, e_x4, hS, h⟩, fun y_x1 y_x2 y_x3 y_x4 yS hI => ?_⟩
  obtain ⟨m, hm, hq⟩ := mf_ok hI
  obtain ⟨b_x1, b_x2, b_x3, b_x4, bt, c_x1, c_x2, c_x3, c_x4, cS, h⟩ := hq
  cases m with
  | zero => exact absurd h Bool.false_ne_true
  | succ n => exact xs_b_makeCode_162 h c_x1 c_x2 c_x3 c_x4 cS (fun h d_x1 d_x2 d_x3 d_x4 dS => ⟨⟨n, _, _, _, _, _, d_x1, d_x2, d_x3, d_x4, dS, h⟩, Nat.lt_of_le_of_lt (mf_le ⟨_, _, _, _, _, d_x1, d_x2, d_x3, d_x4, dS, h⟩) (Nat.lt_of_lt_of_eq (Nat.lt_succ_self n) hm.symm)⟩) hK
noncomputable def x_b_makeCode_151 (a_x1 : Nat) (a_x2 : Nat) (a_x3 : Nat) (t : X6) (r_R4 : Nat → Nat → Nat → X6 → Bool) (k_K : X6 → Bool) : Bool :=
  frc (w_add a_x3 1) fun f1 => r_R4 a_x1 a_x2 f1 t
set_option maxRecDepth 20000 in
set_option maxHeartbeats 1000000 in
theorem xs_b_makeCode_151 {x1 : Int32} {a_x1 : Nat} {x2 : Int32} {a_x2 : Nat} {x3 : Int32} {a_x3 : Nat} {S : ms} {t : X6} {R4 : Int32 → Int32 → Int32 → ms → Prop} {r_R4 : Nat → Nat → Nat → X6 → Bool} {K : ms → Prop} {k_K : X6 → Bool} (h : x_b_makeCode_151 a_x1 a_x2 a_x3 t r_R4 k_K = true) (e_x1 : x1 = Int32.ofNat a_x1) (e_x2 : x2 = Int32.ofNat a_x2) (e_x3 : x3 = Int32.ofNat a_x3) (hS : RM S t) (hR4 : ∀ {y0 : Int32} {b0 : Nat} {y1 : Int32} {b1 : Nat} {y2 : Int32} {b2 : Nat} {yS : ms} {yt : X6}, r_R4 b0 b1 b2 yt = true → y0 = Int32.ofNat b0 → y1 = Int32.ofNat b1 → y2 = Int32.ofNat b2 → RM yS yt → R4 y0 y1 y2 yS) (hK : ∀ {yS : ms} {yt : X6}, k_K yt = true → RM yS yt → K yS) : b_makeCode_151 x1 x2 x3 S R4 K := by
  unfold b_makeCode_151
  unfold x_b_makeCode_151 at h
  have h := frc_ok h
  have p2 := n_add e_x3 ((rfl : (1 : Int32) = Int32.ofNat 1))
  exact hR4 h e_x1 e_x2 p2 hS
noncomputable def x_b_makeCode_131 (a_x1 : Nat) (a_x2 : Nat) (a_x3 : Nat) (a_x4 : Nat) (a_x5 : Nat) (t : X6) (r_R4 : Nat → Nat → Nat → X6 → Bool) (k_K : X6 → Bool) : Bool :=
  and (Nat.blt a_x4 8320) <| frc (w_add a_x2 1) fun f2 => wrw t 29 a_x4 a_x5 fun t4 => wrw t4 30 a_x4 a_x3 fun t6 => x_b_makeCode_151 a_x1 f2 a_x3 t6 r_R4 k_K
set_option maxRecDepth 20000 in
set_option maxHeartbeats 1000000 in
theorem xs_b_makeCode_131 {x1 : Int32} {a_x1 : Nat} {x2 : Int32} {a_x2 : Nat} {x3 : Int32} {a_x3 : Nat} {x4 : Int32} {a_x4 : Nat} {x5 : Int32} {a_x5 : Nat} {S : ms} {t : X6} {R4 : Int32 → Int32 → Int32 → ms → Prop} {r_R4 : Nat → Nat → Nat → X6 → Bool} {K : ms → Prop} {k_K : X6 → Bool} (h : x_b_makeCode_131 a_x1 a_x2 a_x3 a_x4 a_x5 t r_R4 k_K = true) (e_x1 : x1 = Int32.ofNat a_x1) (e_x2 : x2 = Int32.ofNat a_x2) (e_x3 : x3 = Int32.ofNat a_x3) (e_x4 : x4 = Int32.ofNat a_x4) (e_x5 : x5 = Int32.ofNat a_x5) (hS : RM S t) (hR4 : ∀ {y0 : Int32} {b0 : Nat} {y1 : Int32} {b1 : Nat} {y2 : Int32} {b2 : Nat} {yS : ms} {yt : X6}, r_R4 b0 b1 b2 yt = true → y0 = Int32.ofNat b0 → y1 = Int32.ofNat b1 → y2 = Int32.ofNat b2 → RM yS yt → R4 y0 y1 y2 yS) (hK : ∀ {yS : ms} {yt : X6}, k_K yt = true → RM yS yt → K yS) : b_makeCode_131 x1 x2 x3 x4 x5 S R4 K := by
  unfold b_makeCode_131
  unfold x_b_makeCode_131 at h
  obtain ⟨n1, h⟩ := an_ok h
  refine ⟨n_vp e_x4 n1 (by decide), ?_⟩
  refine ⟨n_vp e_x4 n1 (by decide), ?_⟩
  have h := frc_ok h
  have p3 := n_add e_x2 ((rfl : (1 : Int32) = Int32.ofNat 1))
  obtain ⟨t4, h, hS5⟩ := wrw_ok h hS (by decide) e_x4 e_x5
  obtain ⟨t6, h, hS7⟩ := wrw_ok h hS5 (by decide) e_x4 e_x3
  exact xs_b_makeCode_151 h e_x1 p3 e_x3 hS7 hR4 hK
noncomputable def x_b_makeCode_74 (a_x1 : Nat) (a_x2 : Nat) (a_x3 : Nat) (a_x4 : Nat) (a_x5 : Nat) (t : X6) (r_R4 : Nat → Nat → Nat → X6 → Bool) (r_R74 : Nat → Nat → Nat → Nat → Nat → X6 → Bool) (k_K : X6 → Bool) : Bool :=
  cond (!(w_lt 0 a_x4)) (x_b_makeCode_131 a_x1 a_x2 a_x3 a_x4 a_x5 t r_R4 k_K) (frc (w_sub a_x4 1) fun f2 => and (Nat.blt f2 8320) <| rrw t 29 f2 fun v5 => cond (!(w_lt a_x5 v5)) (x_b_makeCode_131 a_x1 a_x2 a_x3 a_x4 a_x5 t r_R4 k_K) (and (Nat.blt a_x4 8320) <| frc (w_add a_x4 4294967295) fun f9 => wrw t 29 a_x4 v5 fun t11 => rrw t11 30 f2 fun v15 => wrw t11 30 a_x4 v15 fun t13 => r_R74 a_x1 a_x2 a_x3 f9 a_x5 t13))
set_option maxRecDepth 20000 in
set_option maxHeartbeats 1000000 in
theorem xs_b_makeCode_74 {x1 : Int32} {a_x1 : Nat} {x2 : Int32} {a_x2 : Nat} {x3 : Int32} {a_x3 : Nat} {x4 : Int32} {a_x4 : Nat} {x5 : Int32} {a_x5 : Nat} {S : ms} {t : X6} {R4 : Int32 → Int32 → Int32 → ms → Prop} {r_R4 : Nat → Nat → Nat → X6 → Bool} {R74 : Int32 → Int32 → Int32 → Int32 → Int32 → ms → Prop} {r_R74 : Nat → Nat → Nat → Nat → Nat → X6 → Bool} {K : ms → Prop} {k_K : X6 → Bool} (h : x_b_makeCode_74 a_x1 a_x2 a_x3 a_x4 a_x5 t r_R4 r_R74 k_K = true) (e_x1 : x1 = Int32.ofNat a_x1) (e_x2 : x2 = Int32.ofNat a_x2) (e_x3 : x3 = Int32.ofNat a_x3) (e_x4 : x4 = Int32.ofNat a_x4) (e_x5 : x5 = Int32.ofNat a_x5) (hS : RM S t) (hR4 : ∀ {y0 : Int32} {b0 : Nat} {y1 : Int32} {b1 : Nat} {y2 : Int32} {b2 : Nat} {yS : ms} {yt : X6}, r_R4 b0 b1 b2 yt = true → y0 = Int32.ofNat b0 → y1 = Int32.ofNat b1 → y2 = Int32.ofNat b2 → RM yS yt → R4 y0 y1 y2 yS) (hR74 : ∀ {y0 : Int32} {b0 : Nat} {y1 : Int32} {b1 : Nat} {y2 : Int32} {b2 : Nat} {y3 : Int32} {b3 : Nat} {y4 : Int32} {b4 : Nat} {yS : ms} {yt : X6}, r_R74 b0 b1 b2 b3 b4 yt = true → y0 = Int32.ofNat b0 → y1 = Int32.ofNat b1 → y2 = Int32.ofNat b2 → y3 = Int32.ofNat b3 → y4 = Int32.ofNat b4 → RM yS yt → R74 y0 y1 y2 y3 y4 yS) (hK : ∀ {yS : ms} {yt : X6}, k_K yt = true → RM yS yt → K yS) : b_makeCode_74 x1 x2 x3 x4 x5 S R4 R74 K := by
  unfold b_makeCode_74
  unfold x_b_makeCode_74 at h
  have hc1 := c_le' e_x4 ((rfl : (0 : Int32) = Int32.ofNat 0))
  refine ⟨fun hc => ?_, fun hc => ?_⟩
  · have h := x_pos h (hc1.mp hc)
    exact xs_b_makeCode_131 h e_x1 e_x2 e_x3 e_x4 e_x5 hS hR4 hK
  · have h := x_neg h (fun q => hc (hc1.mpr q))
    have h := frc_ok h
    have p3 := n_sub e_x4 ((rfl : (1 : Int32) = Int32.ofNat 1))
    obtain ⟨n4, h⟩ := an_ok h
    refine ⟨n_vp p3 n4 (by decide), ?_⟩
    obtain ⟨v5, h, q6⟩ := rrw_ok h hS (by decide) p3
    have hc7 := c_le' q6 e_x5
    refine ⟨fun hc => ?_, fun hc => ?_⟩
    · have h := x_pos h (hc7.mp hc)
      exact xs_b_makeCode_131 h e_x1 e_x2 e_x3 e_x4 e_x5 hS hR4 hK
    · have h := x_neg h (fun q => hc (hc7.mpr q))
      refine ⟨n_vp p3 n4 (by decide), ?_⟩
      obtain ⟨n8, h⟩ := an_ok h
      refine ⟨n_vp e_x4 n8 (by decide), ?_⟩
      refine ⟨n_vp p3 n4 (by decide), ?_⟩
      refine ⟨n_vp e_x4 n8 (by decide), ?_⟩
      have h := frc_ok h
      have p10 := n_add e_x4 (((by decide) : (-1 : Int32) = Int32.ofNat 4294967295))
      obtain ⟨t11, h, hS12⟩ := wrw_ok h hS (by decide) e_x4 q6
      obtain ⟨v15, h, q16⟩ := rrw_ok h hS12 (by decide) p3
      obtain ⟨t13, h, hS14⟩ := wrw_ok h hS12 (by decide) e_x4 q16
      exact hR74 h e_x1 e_x2 e_x3 p10 e_x5 hS14
noncomputable def xl_e_makeCode_74 (r_R4 : Nat → Nat → Nat → X6 → Bool) (k_K : X6 → Bool) (n : Nat) : Nat → Nat → Nat → Nat → Nat → X6 → Bool := Nat.rec (motive := fun _ => Nat → Nat → Nat → Nat → Nat → X6 → Bool) (fun _ _ _ _ _ _ => false) (fun _ ih b_x1 b_x2 b_x3 b_x4 b_x5 bt => x_b_makeCode_74 b_x1 b_x2 b_x3 b_x4 b_x5 bt r_R4 ih k_K) n
noncomputable def x_e_makeCode_74 (a_x1 : Nat) (a_x2 : Nat) (a_x3 : Nat) (a_x4 : Nat) (a_x5 : Nat) (t : X6) (r_R4 : Nat → Nat → Nat → X6 → Bool) (k_K : X6 → Bool) : Bool := xl_e_makeCode_74 r_R4 k_K 200000 a_x1 a_x2 a_x3 a_x4 a_x5 t
def xq_e_makeCode_74 (r_R4 : Nat → Nat → Nat → X6 → Bool) (k_K : X6 → Bool) (n : Nat) (y_x1 : Int32) (y_x2 : Int32) (y_x3 : Int32) (y_x4 : Int32) (y_x5 : Int32) (yS : ms) : Prop := ∃ (b_x1 : Nat) (b_x2 : Nat) (b_x3 : Nat) (b_x4 : Nat) (b_x5 : Nat) (bt : X6), y_x1 = Int32.ofNat b_x1 ∧ y_x2 = Int32.ofNat b_x2 ∧ y_x3 = Int32.ofNat b_x3 ∧ y_x4 = Int32.ofNat b_x4 ∧ y_x5 = Int32.ofNat b_x5 ∧ RM yS bt ∧ xl_e_makeCode_74 r_R4 k_K n b_x1 b_x2 b_x3 b_x4 b_x5 bt = true
set_option maxRecDepth 20000 in
theorem xs_e_makeCode_74 {x1 : Int32} {a_x1 : Nat} {x2 : Int32} {a_x2 : Nat} {x3 : Int32} {a_x3 : Nat} {x4 : Int32} {a_x4 : Nat} {x5 : Int32} {a_x5 : Nat} {S : ms} {t : X6} {R4 : Int32 → Int32 → Int32 → ms → Prop} {r_R4 : Nat → Nat → Nat → X6 → Bool} {K : ms → Prop} {k_K : X6 → Bool} (h : x_e_makeCode_74 a_x1 a_x2 a_x3 a_x4 a_x5 t r_R4 k_K = true) (e_x1 : x1 = Int32.ofNat a_x1) (e_x2 : x2 = Int32.ofNat a_x2) (e_x3 : x3 = Int32.ofNat a_x3) (e_x4 : x4 = Int32.ofNat a_x4) (e_x5 : x5 = Int32.ofNat a_x5) (hS : RM S t) (hR4 : ∀ {y0 : Int32} {b0 : Nat} {y1 : Int32} {b1 : Nat} {y2 : Int32} {b2 : Nat} {yS : ms} {yt : X6}, r_R4 b0 b1 b2 yt = true → y0 = Int32.ofNat b0 → y1 = Int32.ofNat b1 → y2 = Int32.ofNat b2 → RM yS yt → R4 y0 y1 y2 yS) (hK : ∀ {yS : ms} {yt : X6}, k_K yt = true → RM yS yt → K yS) : e_makeCode_74 x1 x2 x3 x4 x5 S R4 K := by
  refine ⟨fun y_x1 y_x2 y_x3 y_x4 y_x5 yS => ∃ n, xq_e_makeCode_74 r_R4 k_K n y_x1 y_x2 y_x3 y_x4 y_x5 yS, fun y_x1 y_x2 y_x3 y_x4 y_x5 yS => mf (fun n => xq_e_makeCode_74 r_R4 k_K n y_x1 y_x2 y_x3 y_x4 y_x5 yS), ⟨200000, a_x1, a_x2, a_x3, a_x4, a_x5, t, e_x1, e_x2, e_x3, e_x4, e_x5, hS, h⟩, fun y_x1 y_x2 y_x3 y_x4 y_x5 yS hI => ?_⟩
  obtain ⟨m, hm, hq⟩ := mf_ok hI
  obtain ⟨b_x1, b_x2, b_x3, b_x4, b_x5, bt, c_x1, c_x2, c_x3, c_x4, c_x5, cS, h⟩ := hq
  cases m with
  | zero => exact absurd h Bool.false_ne_true
  | succ n => exact xs_b_makeCode_74 h c_x1 c_x2 c_x3 c_x4 c_x5 cS hR4 (fun h d_x1 d_x2 d_x3 d_x4 d_x5 dS => ⟨⟨n, _, _, _, _, _, _, d_x1, d_x2, d_x3, d_x4, d_x5, dS, h⟩, Nat.lt_of_le_of_lt (mf_le ⟨_, _, _, _, _, _, d_x1, d_x2, d_x3, d_x4, d_x5, dS, h⟩) (Nat.lt_of_lt_of_eq (Nat.lt_succ_self n) hm.symm)⟩) hK
noncomputable def x_b_makeCode_72 (a_x1 : Nat) (a_x2 : Nat) (a_x3 : Nat) (a_x4 : Nat) (a_s0 : Nat) (t : X6) (r_R4 : Nat → Nat → Nat → X6 → Bool) (k_K : X6 → Bool) : Bool :=
  x_e_makeCode_74 a_x1 a_x2 a_x3 a_x4 a_s0 t r_R4 k_K
set_option maxRecDepth 20000 in
set_option maxHeartbeats 1000000 in
theorem xs_b_makeCode_72 {x1 : Int32} {a_x1 : Nat} {x2 : Int32} {a_x2 : Nat} {x3 : Int32} {a_x3 : Nat} {x4 : Int32} {a_x4 : Nat} {s0 : Int32} {a_s0 : Nat} {S : ms} {t : X6} {R4 : Int32 → Int32 → Int32 → ms → Prop} {r_R4 : Nat → Nat → Nat → X6 → Bool} {K : ms → Prop} {k_K : X6 → Bool} (h : x_b_makeCode_72 a_x1 a_x2 a_x3 a_x4 a_s0 t r_R4 k_K = true) (e_x1 : x1 = Int32.ofNat a_x1) (e_x2 : x2 = Int32.ofNat a_x2) (e_x3 : x3 = Int32.ofNat a_x3) (e_x4 : x4 = Int32.ofNat a_x4) (e_s0 : s0 = Int32.ofNat a_s0) (hS : RM S t) (hR4 : ∀ {y0 : Int32} {b0 : Nat} {y1 : Int32} {b1 : Nat} {y2 : Int32} {b2 : Nat} {yS : ms} {yt : X6}, r_R4 b0 b1 b2 yt = true → y0 = Int32.ofNat b0 → y1 = Int32.ofNat b1 → y2 = Int32.ofNat b2 → RM yS yt → R4 y0 y1 y2 yS) (hK : ∀ {yS : ms} {yt : X6}, k_K yt = true → RM yS yt → K yS) : b_makeCode_72 x1 x2 x3 x4 s0 S R4 K := by
  unfold b_makeCode_72
  unfold x_b_makeCode_72 at h
  exact xs_e_makeCode_74 h e_x1 e_x2 e_x3 e_x4 e_s0 hS hR4 hK
noncomputable def x_b_makeCode_46 (a_x1 : Nat) (a_x2 : Nat) (a_x3 : Nat) (t : X6) (r_R4 : Nat → Nat → Nat → X6 → Bool) (k_K : X6 → Bool) : Bool :=
  cond (w_eq a_x3 256) (x_b_makeCode_72 a_x1 a_x2 a_x3 a_x2 0 t r_R4 k_K) (frc (w_add (w_mul 257 a_x1) a_x3) fun f2 => and (Nat.blt f2 1028) <| rrw t 26 f2 fun v5 => x_b_makeCode_72 a_x1 a_x2 a_x3 a_x2 v5 t r_R4 k_K)
set_option maxRecDepth 20000 in
set_option maxHeartbeats 1000000 in
theorem xs_b_makeCode_46 {x1 : Int32} {a_x1 : Nat} {x2 : Int32} {a_x2 : Nat} {x3 : Int32} {a_x3 : Nat} {S : ms} {t : X6} {R4 : Int32 → Int32 → Int32 → ms → Prop} {r_R4 : Nat → Nat → Nat → X6 → Bool} {K : ms → Prop} {k_K : X6 → Bool} (h : x_b_makeCode_46 a_x1 a_x2 a_x3 t r_R4 k_K = true) (e_x1 : x1 = Int32.ofNat a_x1) (e_x2 : x2 = Int32.ofNat a_x2) (e_x3 : x3 = Int32.ofNat a_x3) (hS : RM S t) (hR4 : ∀ {y0 : Int32} {b0 : Nat} {y1 : Int32} {b1 : Nat} {y2 : Int32} {b2 : Nat} {yS : ms} {yt : X6}, r_R4 b0 b1 b2 yt = true → y0 = Int32.ofNat b0 → y1 = Int32.ofNat b1 → y2 = Int32.ofNat b2 → RM yS yt → R4 y0 y1 y2 yS) (hK : ∀ {yS : ms} {yt : X6}, k_K yt = true → RM yS yt → K yS) : b_makeCode_46 x1 x2 x3 S R4 K := by
  unfold b_makeCode_46
  unfold x_b_makeCode_46 at h
  have hc1 := c_eq' e_x3 ((rfl : (256 : Int32) = Int32.ofNat 256))
  refine ⟨fun hc => ?_, fun hc => ?_⟩
  · have h := x_neg h (fun q => hc (hc1.mpr q))
    have h := frc_ok h
    have p3 := n_add (n_mul ((rfl : (257 : Int32) = Int32.ofNat 257)) e_x1) e_x3
    obtain ⟨n4, h⟩ := an_ok h
    refine ⟨n_vp p3 n4 (by decide), ?_⟩
    obtain ⟨v5, h, q6⟩ := rrw_ok h hS (by decide) p3
    exact xs_b_makeCode_72 h e_x1 e_x2 e_x3 e_x2 q6 hS hR4 hK
  · have h := x_pos h (hc1.mp hc)
    exact xs_b_makeCode_72 h e_x1 e_x2 e_x3 e_x2 ((rfl : (0 : Int32) = Int32.ofNat 0)) hS hR4 hK
noncomputable def x_b_makeCode_4 (a_x1 : Nat) (a_x2 : Nat) (a_x3 : Nat) (t : X6) (r_R4 : Nat → Nat → Nat → X6 → Bool) (k_K : X6 → Bool) : Bool :=
  cond (w_lt 256 a_x3) (x_e_makeCode_162 a_x1 a_x2 a_x2 1 t k_K) (frc (w_add (w_mul 257 a_x1) a_x3) fun f2 => and (Nat.blt f2 1028) <| cond (w_eq a_x3 256) (wrw t 27 f2 0 fun t6 => x_b_makeCode_46 a_x1 a_x2 a_x3 t6 r_R4 k_K) (wrw t 27 f2 0 fun t8 => rrw t8 26 f2 fun v10 => cond (!(w_lt 0 v10)) (x_b_makeCode_151 a_x1 a_x2 a_x3 t8 r_R4 k_K) (x_b_makeCode_46 a_x1 a_x2 a_x3 t8 r_R4 k_K)))
set_option maxRecDepth 20000 in
set_option maxHeartbeats 1000000 in
theorem xs_b_makeCode_4 {x1 : Int32} {a_x1 : Nat} {x2 : Int32} {a_x2 : Nat} {x3 : Int32} {a_x3 : Nat} {S : ms} {t : X6} {R4 : Int32 → Int32 → Int32 → ms → Prop} {r_R4 : Nat → Nat → Nat → X6 → Bool} {K : ms → Prop} {k_K : X6 → Bool} (h : x_b_makeCode_4 a_x1 a_x2 a_x3 t r_R4 k_K = true) (e_x1 : x1 = Int32.ofNat a_x1) (e_x2 : x2 = Int32.ofNat a_x2) (e_x3 : x3 = Int32.ofNat a_x3) (hS : RM S t) (hR4 : ∀ {y0 : Int32} {b0 : Nat} {y1 : Int32} {b1 : Nat} {y2 : Int32} {b2 : Nat} {yS : ms} {yt : X6}, r_R4 b0 b1 b2 yt = true → y0 = Int32.ofNat b0 → y1 = Int32.ofNat b1 → y2 = Int32.ofNat b2 → RM yS yt → R4 y0 y1 y2 yS) (hK : ∀ {yS : ms} {yt : X6}, k_K yt = true → RM yS yt → K yS) : b_makeCode_4 x1 x2 x3 S R4 K := by
  unfold b_makeCode_4
  unfold x_b_makeCode_4 at h
  have hc1 := c_lt' ((rfl : (256 : Int32) = Int32.ofNat 256)) e_x3
  refine ⟨fun hc => ?_, fun hc => ?_⟩
  · have h := x_pos h (hc1.mp hc)
    exact xs_e_makeCode_162 h e_x1 e_x2 e_x2 ((rfl : (1 : Int32) = Int32.ofNat 1)) hS hK
  · have h := x_neg h (fun q => hc (hc1.mpr q))
    have h := frc_ok h
    have p3 := n_add (n_mul ((rfl : (257 : Int32) = Int32.ofNat 257)) e_x1) e_x3
    obtain ⟨n4, h⟩ := an_ok h
    refine ⟨n_vp p3 n4 (by decide), ?_⟩
    have hc5 := c_eq' e_x3 ((rfl : (256 : Int32) = Int32.ofNat 256))
    refine ⟨fun hc => ?_, fun hc => ?_⟩
    · have h := x_pos h (hc5.mp hc)
      obtain ⟨t6, h, hS7⟩ := wrw_ok h hS (by decide) p3 ((rfl : (0 : Int32) = Int32.ofNat 0))
      exact xs_b_makeCode_46 h e_x1 e_x2 e_x3 hS7 hR4 hK
    · have h := x_neg h (fun q => hc (hc5.mpr q))
      refine ⟨n_vp p3 n4 (by decide), ?_⟩
      obtain ⟨t8, h, hS9⟩ := wrw_ok h hS (by decide) p3 ((rfl : (0 : Int32) = Int32.ofNat 0))
      obtain ⟨v10, h, q11⟩ := rrw_ok h hS9 (by decide) p3
      have hc12 := c_le' q11 ((rfl : (0 : Int32) = Int32.ofNat 0))
      refine ⟨fun hc => ?_, fun hc => ?_⟩
      · have h := x_pos h (hc12.mp hc)
        exact xs_b_makeCode_151 h e_x1 e_x2 e_x3 hS9 hR4 hK
      · have h := x_neg h (fun q => hc (hc12.mpr q))
        exact xs_b_makeCode_46 h e_x1 e_x2 e_x3 hS9 hR4 hK
noncomputable def xl_e_makeCode_4 (k_K : X6 → Bool) (n : Nat) : Nat → Nat → Nat → X6 → Bool := Nat.rec (motive := fun _ => Nat → Nat → Nat → X6 → Bool) (fun _ _ _ _ => false) (fun _ ih b_x1 b_x2 b_x3 bt => x_b_makeCode_4 b_x1 b_x2 b_x3 bt ih k_K) n
noncomputable def x_e_makeCode_4 (a_x1 : Nat) (a_x2 : Nat) (a_x3 : Nat) (t : X6) (k_K : X6 → Bool) : Bool := xl_e_makeCode_4 k_K 200000 a_x1 a_x2 a_x3 t
def xq_e_makeCode_4 (k_K : X6 → Bool) (n : Nat) (y_x1 : Int32) (y_x2 : Int32) (y_x3 : Int32) (yS : ms) : Prop := ∃ (b_x1 : Nat) (b_x2 : Nat) (b_x3 : Nat) (bt : X6), y_x1 = Int32.ofNat b_x1 ∧ y_x2 = Int32.ofNat b_x2 ∧ y_x3 = Int32.ofNat b_x3 ∧ RM yS bt ∧ xl_e_makeCode_4 k_K n b_x1 b_x2 b_x3 bt = true
set_option maxRecDepth 20000 in
theorem xs_e_makeCode_4 {x1 : Int32} {a_x1 : Nat} {x2 : Int32} {a_x2 : Nat} {x3 : Int32} {a_x3 : Nat} {S : ms} {t : X6} {K : ms → Prop} {k_K : X6 → Bool} (h : x_e_makeCode_4 a_x1 a_x2 a_x3 t k_K = true) (e_x1 : x1 = Int32.ofNat a_x1) (e_x2 : x2 = Int32.ofNat a_x2) (e_x3 : x3 = Int32.ofNat a_x3) (hS : RM S t) (hK : ∀ {yS : ms} {yt : X6}, k_K yt = true → RM yS yt → K yS) : e_makeCode_4 x1 x2 x3 S K := by
  refine ⟨fun y_x1 y_x2 y_x3 yS => ∃ n, xq_e_makeCode_4 k_K n y_x1 y_x2 y_x3 yS, fun y_x1 y_x2 y_x3 yS => mf (fun n => xq_e_makeCode_4 k_K n y_x1 y_x2 y_x3 yS), ⟨200000, a_x1, a_x2, a_x3, t, e_x1, e_x2, e_x3, hS, h⟩, fun y_x1 y_x2 y_x3 yS hI => ?_⟩
  obtain ⟨m, hm, hq⟩ := mf_ok hI
  obtain ⟨b_x1, b_x2, b_x3, bt, c_x1, c_x2, c_x3, cS, h⟩ := hq
  cases m with
  | zero => exact absurd h Bool.false_ne_true
  | succ n => exact xs_b_makeCode_4 h c_x1 c_x2 c_x3 cS (fun h d_x1 d_x2 d_x3 dS => ⟨⟨n, _, _, _, _, d_x1, d_x2, d_x3, dS, h⟩, Nat.lt_of_le_of_lt (mf_le ⟨_, _, _, _, d_x1, d_x2, d_x3, dS, h⟩) (Nat.lt_of_lt_of_eq (Nat.lt_succ_self n) hm.symm)⟩) hK
noncomputable def x_p_makeCode (a_x1 : Nat) (t : X6) (k_K : X6 → Bool) : Bool :=
  x_e_makeCode_4 a_x1 0 0 t k_K
set_option maxRecDepth 20000 in
set_option maxHeartbeats 1000000 in
theorem xs_p_makeCode {x1 : Int32} {a_x1 : Nat} {S : ms} {t : X6} {K : ms → Prop} {k_K : X6 → Bool} (h : x_p_makeCode a_x1 t k_K = true) (e_x1 : x1 = Int32.ofNat a_x1) (hS : RM S t) (hK : ∀ {yS : ms} {yt : X6}, k_K yt = true → RM yS yt → K yS) : p_makeCode x1 S K := by
  unfold p_makeCode
  unfold x_p_makeCode at h
  exact xs_e_makeCode_4 h e_x1 ((rfl : (0 : Int32) = Int32.ofNat 0)) ((rfl : (0 : Int32) = Int32.ofNat 0)) hS hK
noncomputable def x_b_pack_321 (a_x3 : Nat) (a_x4 : Nat) (a_s0 : Nat) (a_s1 : Nat) (t : X6) (r_R306 : Nat → Nat → X6 → Bool) (k_K : Nat → X6 → Bool) : Bool :=
  cond (!(w_lt a_s0 a_s1)) (wfi t 9 0 fun t2 => wfi t2 32 0 fun t4 => wfi t4 33 0 fun t6 => x_p_mark 216 t6 (fun t_S355 => x_p_putSections a_x3 t_S355 (fun t_S360 => x_p_units 0 a_x3 t_S360 (fun t_S366 => x_p_fillUp t_S366 (fun t_S370 => x_p_mark 217 t_S370 (fun t_S377 => rfi t_S377 9 fun v8 => k_K v8 t_S377)))))) (x_p_makeCode a_x4 t (fun t_S327 => frc (w_add a_x4 1) fun f10 => r_R306 a_x3 f10 t_S327))
set_option maxRecDepth 20000 in
set_option maxHeartbeats 1000000 in
theorem xs_b_pack_321 {x3 : Int32} {a_x3 : Nat} {x4 : Int32} {a_x4 : Nat} {s0 : Int32} {a_s0 : Nat} {s1 : Int32} {a_s1 : Nat} {S : ms} {t : X6} {R306 : Int32 → Int32 → ms → Prop} {r_R306 : Nat → Nat → X6 → Bool} {K : Int32 → ms → Prop} {k_K : Nat → X6 → Bool} (h : x_b_pack_321 a_x3 a_x4 a_s0 a_s1 t r_R306 k_K = true) (e_x3 : x3 = Int32.ofNat a_x3) (e_x4 : x4 = Int32.ofNat a_x4) (e_s0 : s0 = Int32.ofNat a_s0) (e_s1 : s1 = Int32.ofNat a_s1) (hS : RM S t) (hR306 : ∀ {y0 : Int32} {b0 : Nat} {y1 : Int32} {b1 : Nat} {yS : ms} {yt : X6}, r_R306 b0 b1 yt = true → y0 = Int32.ofNat b0 → y1 = Int32.ofNat b1 → RM yS yt → R306 y0 y1 yS) (hK : ∀ {y0 : Int32} {b0 : Nat} {yS : ms} {yt : X6}, k_K b0 yt = true → y0 = Int32.ofNat b0 → RM yS yt → K y0 yS) : b_pack_321 x3 x4 s0 s1 S R306 K := by
  unfold b_pack_321
  unfold x_b_pack_321 at h
  have hc1 := c_le' e_s1 e_s0
  refine ⟨fun hc => ?_, fun hc => ?_⟩
  · have h := x_pos h (hc1.mp hc)
    obtain ⟨t2, h, hS3⟩ := wfi_ok h hS  ((rfl : (0 : Int32) = Int32.ofNat 0))
    obtain ⟨t4, h, hS5⟩ := wfi_ok h hS3  ((rfl : (0 : Int32) = Int32.ofNat 0))
    obtain ⟨t6, h, hS7⟩ := wfi_ok h hS5  ((rfl : (0 : Int32) = Int32.ofNat 0))
    refine xs_p_mark h ((rfl : (216 : Int32) = Int32.ofNat 216)) hS7 (fun h h_S355 => ?_)
    refine xs_p_putSections h e_x3 h_S355 (fun h h_S360 => ?_)
    refine xs_p_units h ((rfl : (0 : Int32) = Int32.ofNat 0)) e_x3 h_S360 (fun h h_S366 => ?_)
    refine xs_p_fillUp h h_S366 (fun h h_S370 => ?_)
    refine xs_p_mark h ((rfl : (217 : Int32) = Int32.ofNat 217)) h_S370 (fun h h_S377 => ?_)
    obtain ⟨v8, h, q9⟩ := rfi_ok h h_S377
    exact hK h q9 h_S377
  · have h := x_neg h (fun q => hc (hc1.mpr q))
    refine xs_p_makeCode h e_x4 hS (fun h h_S327 => ?_)
    have h := frc_ok h
    have p11 := n_add e_x4 ((rfl : (1 : Int32) = Int32.ofNat 1))
    exact hR306 h e_x3 p11 h_S327
noncomputable def x_b_pack_306 (a_x3 : Nat) (a_x4 : Nat) (t : X6) (r_R306 : Nat → Nat → X6 → Bool) (k_K : Nat → X6 → Bool) : Bool :=
  rfi t 3 fun v1 => cond (w_eq v1 1) (x_b_pack_321 a_x3 a_x4 a_x4 2 t r_R306 k_K) (x_b_pack_321 a_x3 a_x4 a_x4 4 t r_R306 k_K)
set_option maxRecDepth 20000 in
set_option maxHeartbeats 1000000 in
theorem xs_b_pack_306 {x3 : Int32} {a_x3 : Nat} {x4 : Int32} {a_x4 : Nat} {S : ms} {t : X6} {R306 : Int32 → Int32 → ms → Prop} {r_R306 : Nat → Nat → X6 → Bool} {K : Int32 → ms → Prop} {k_K : Nat → X6 → Bool} (h : x_b_pack_306 a_x3 a_x4 t r_R306 k_K = true) (e_x3 : x3 = Int32.ofNat a_x3) (e_x4 : x4 = Int32.ofNat a_x4) (hS : RM S t) (hR306 : ∀ {y0 : Int32} {b0 : Nat} {y1 : Int32} {b1 : Nat} {yS : ms} {yt : X6}, r_R306 b0 b1 yt = true → y0 = Int32.ofNat b0 → y1 = Int32.ofNat b1 → RM yS yt → R306 y0 y1 yS) (hK : ∀ {y0 : Int32} {b0 : Nat} {yS : ms} {yt : X6}, k_K b0 yt = true → y0 = Int32.ofNat b0 → RM yS yt → K y0 yS) : b_pack_306 x3 x4 S R306 K := by
  unfold b_pack_306
  unfold x_b_pack_306 at h
  obtain ⟨v1, h, q2⟩ := rfi_ok h hS
  have hc3 := c_eq' q2 ((rfl : (1 : Int32) = Int32.ofNat 1))
  refine ⟨fun hc => ?_, fun hc => ?_⟩
  · have h := x_neg h (fun q => hc (hc3.mpr q))
    exact xs_b_pack_321 h e_x3 e_x4 e_x4 ((rfl : (4 : Int32) = Int32.ofNat 4)) hS hR306 hK
  · have h := x_pos h (hc3.mp hc)
    exact xs_b_pack_321 h e_x3 e_x4 e_x4 ((rfl : (2 : Int32) = Int32.ofNat 2)) hS hR306 hK
noncomputable def xl_e_pack_306 (k_K : Nat → X6 → Bool) (n : Nat) : Nat → Nat → X6 → Bool := Nat.rec (motive := fun _ => Nat → Nat → X6 → Bool) (fun _ _ _ => false) (fun _ ih b_x3 b_x4 bt => x_b_pack_306 b_x3 b_x4 bt ih k_K) n
noncomputable def x_e_pack_306 (a_x3 : Nat) (a_x4 : Nat) (t : X6) (k_K : Nat → X6 → Bool) : Bool := xl_e_pack_306 k_K 200000 a_x3 a_x4 t
def xq_e_pack_306 (k_K : Nat → X6 → Bool) (n : Nat) (y_x3 : Int32) (y_x4 : Int32) (yS : ms) : Prop := ∃ (b_x3 : Nat) (b_x4 : Nat) (bt : X6), y_x3 = Int32.ofNat b_x3 ∧ y_x4 = Int32.ofNat b_x4 ∧ RM yS bt ∧ xl_e_pack_306 k_K n b_x3 b_x4 bt = true
set_option maxRecDepth 20000 in
theorem xs_e_pack_306 {x3 : Int32} {a_x3 : Nat} {x4 : Int32} {a_x4 : Nat} {S : ms} {t : X6} {K : Int32 → ms → Prop} {k_K : Nat → X6 → Bool} (h : x_e_pack_306 a_x3 a_x4 t k_K = true) (e_x3 : x3 = Int32.ofNat a_x3) (e_x4 : x4 = Int32.ofNat a_x4) (hS : RM S t) (hK : ∀ {y0 : Int32} {b0 : Nat} {yS : ms} {yt : X6}, k_K b0 yt = true → y0 = Int32.ofNat b0 → RM yS yt → K y0 yS) : e_pack_306 x3 x4 S K := by
  refine ⟨fun y_x3 y_x4 yS => ∃ n, xq_e_pack_306 k_K n y_x3 y_x4 yS, fun y_x3 y_x4 yS => mf (fun n => xq_e_pack_306 k_K n y_x3 y_x4 yS), ⟨200000, a_x3, a_x4, t, e_x3, e_x4, hS, h⟩, fun y_x3 y_x4 yS hI => ?_⟩
  obtain ⟨m, hm, hq⟩ := mf_ok hI
  obtain ⟨b_x3, b_x4, bt, c_x3, c_x4, cS, h⟩ := hq
  cases m with
  | zero => exact absurd h Bool.false_ne_true
  | succ n => exact xs_b_pack_306 h c_x3 c_x4 cS (fun h d_x3 d_x4 dS => ⟨⟨n, _, _, _, d_x3, d_x4, dS, h⟩, Nat.lt_of_le_of_lt (mf_le ⟨_, _, _, d_x3, d_x4, dS, h⟩) (Nat.lt_of_lt_of_eq (Nat.lt_succ_self n) hm.symm)⟩) hK
noncomputable def x_b_pack_275 (a_x3 : Nat) (a_x4 : Nat) (t : X6) (r_R275 : Nat → Nat → X6 → Bool) (k_K : Nat → X6 → Bool) : Bool :=
  cond (!(w_lt a_x4 1028)) (x_p_units 1 a_x3 t (fun t_S300 => x_e_pack_306 a_x3 0 t_S300 k_K)) (and (Nat.blt a_x4 1028) <| frc (w_add a_x4 1) fun f3 => wrw t 26 a_x4 0 fun t5 => r_R275 a_x3 f3 t5)
set_option maxRecDepth 20000 in
set_option maxHeartbeats 1000000 in
theorem xs_b_pack_275 {x3 : Int32} {a_x3 : Nat} {x4 : Int32} {a_x4 : Nat} {S : ms} {t : X6} {R275 : Int32 → Int32 → ms → Prop} {r_R275 : Nat → Nat → X6 → Bool} {K : Int32 → ms → Prop} {k_K : Nat → X6 → Bool} (h : x_b_pack_275 a_x3 a_x4 t r_R275 k_K = true) (e_x3 : x3 = Int32.ofNat a_x3) (e_x4 : x4 = Int32.ofNat a_x4) (hS : RM S t) (hR275 : ∀ {y0 : Int32} {b0 : Nat} {y1 : Int32} {b1 : Nat} {yS : ms} {yt : X6}, r_R275 b0 b1 yt = true → y0 = Int32.ofNat b0 → y1 = Int32.ofNat b1 → RM yS yt → R275 y0 y1 yS) (hK : ∀ {y0 : Int32} {b0 : Nat} {yS : ms} {yt : X6}, k_K b0 yt = true → y0 = Int32.ofNat b0 → RM yS yt → K y0 yS) : b_pack_275 x3 x4 S R275 K := by
  unfold b_pack_275
  unfold x_b_pack_275 at h
  have hc1 := c_le' ((rfl : (1028 : Int32) = Int32.ofNat 1028)) e_x4
  refine ⟨fun hc => ?_, fun hc => ?_⟩
  · have h := x_pos h (hc1.mp hc)
    refine xs_p_units h ((rfl : (1 : Int32) = Int32.ofNat 1)) e_x3 hS (fun h h_S300 => ?_)
    exact xs_e_pack_306 h e_x3 ((rfl : (0 : Int32) = Int32.ofNat 0)) h_S300 hK
  · have h := x_neg h (fun q => hc (hc1.mpr q))
    obtain ⟨n2, h⟩ := an_ok h
    refine ⟨n_vp e_x4 n2 (by decide), ?_⟩
    have h := frc_ok h
    have p4 := n_add e_x4 ((rfl : (1 : Int32) = Int32.ofNat 1))
    obtain ⟨t5, h, hS6⟩ := wrw_ok h hS (by decide) e_x4 ((rfl : (0 : Int32) = Int32.ofNat 0))
    exact hR275 h e_x3 p4 hS6
noncomputable def xl_e_pack_275 (k_K : Nat → X6 → Bool) (n : Nat) : Nat → Nat → X6 → Bool := Nat.rec (motive := fun _ => Nat → Nat → X6 → Bool) (fun _ _ _ => false) (fun _ ih b_x3 b_x4 bt => x_b_pack_275 b_x3 b_x4 bt ih k_K) n
noncomputable def x_e_pack_275 (a_x3 : Nat) (a_x4 : Nat) (t : X6) (k_K : Nat → X6 → Bool) : Bool := xl_e_pack_275 k_K 200000 a_x3 a_x4 t
def xq_e_pack_275 (k_K : Nat → X6 → Bool) (n : Nat) (y_x3 : Int32) (y_x4 : Int32) (yS : ms) : Prop := ∃ (b_x3 : Nat) (b_x4 : Nat) (bt : X6), y_x3 = Int32.ofNat b_x3 ∧ y_x4 = Int32.ofNat b_x4 ∧ RM yS bt ∧ xl_e_pack_275 k_K n b_x3 b_x4 bt = true
set_option maxRecDepth 20000 in
theorem xs_e_pack_275 {x3 : Int32} {a_x3 : Nat} {x4 : Int32} {a_x4 : Nat} {S : ms} {t : X6} {K : Int32 → ms → Prop} {k_K : Nat → X6 → Bool} (h : x_e_pack_275 a_x3 a_x4 t k_K = true) (e_x3 : x3 = Int32.ofNat a_x3) (e_x4 : x4 = Int32.ofNat a_x4) (hS : RM S t) (hK : ∀ {y0 : Int32} {b0 : Nat} {yS : ms} {yt : X6}, k_K b0 yt = true → y0 = Int32.ofNat b0 → RM yS yt → K y0 yS) : e_pack_275 x3 x4 S K := by
  refine ⟨fun y_x3 y_x4 yS => ∃ n, xq_e_pack_275 k_K n y_x3 y_x4 yS, fun y_x3 y_x4 yS => mf (fun n => xq_e_pack_275 k_K n y_x3 y_x4 yS), ⟨200000, a_x3, a_x4, t, e_x3, e_x4, hS, h⟩, fun y_x3 y_x4 yS hI => ?_⟩
  obtain ⟨m, hm, hq⟩ := mf_ok hI
  obtain ⟨b_x3, b_x4, bt, c_x3, c_x4, cS, h⟩ := hq
  cases m with
  | zero => exact absurd h Bool.false_ne_true
  | succ n => exact xs_b_pack_275 h c_x3 c_x4 cS (fun h d_x3 d_x4 dS => ⟨⟨n, _, _, _, d_x3, d_x4, dS, h⟩, Nat.lt_of_le_of_lt (mf_le ⟨_, _, _, d_x3, d_x4, dS, h⟩) (Nat.lt_of_lt_of_eq (Nat.lt_succ_self n) hm.symm)⟩) hK
noncomputable def x_p_cell (a_x0 : Nat) (a_x1 : Nat) (a_x2 : Nat) (k_K : Nat → Bool) : Bool :=
  frc (w_add (w_mul 3 (w_add (w_mul 64 a_x1) a_x0)) a_x2) fun f1 => k_K f1
set_option maxRecDepth 20000 in
set_option maxHeartbeats 1000000 in
theorem xs_p_cell {x0 : Int32} {a_x0 : Nat} {x1 : Int32} {a_x1 : Nat} {x2 : Int32} {a_x2 : Nat} {K : Int32 → Prop} {k_K : Nat → Bool} (h : x_p_cell a_x0 a_x1 a_x2 k_K = true) (e_x0 : x0 = Int32.ofNat a_x0) (e_x1 : x1 = Int32.ofNat a_x1) (e_x2 : x2 = Int32.ofNat a_x2) (hK : ∀ {y0 : Int32} {b0 : Nat}, k_K b0 = true → y0 = Int32.ofNat b0 → K y0) : p_cell x0 x1 x2 K := by
  unfold p_cell
  unfold x_p_cell at h
  have h := frc_ok h
  have p2 := n_add (n_mul ((rfl : (3 : Int32) = Int32.ofNat 3)) (n_add (n_mul ((rfl : (64 : Int32) = Int32.ofNat 64)) e_x1) e_x0)) e_x2
  exact hK h p2
noncomputable def x_b_sampleOf_166 (a_s0 : Nat) (t : X6) (k_K : Nat → X6 → Bool) : Bool :=
  k_K a_s0 t
set_option maxRecDepth 20000 in
set_option maxHeartbeats 1000000 in
theorem xs_b_sampleOf_166 {s0 : Int32} {a_s0 : Nat} {S : ms} {t : X6} {K : Int32 → ms → Prop} {k_K : Nat → X6 → Bool} (h : x_b_sampleOf_166 a_s0 t k_K = true) (e_s0 : s0 = Int32.ofNat a_s0) (hS : RM S t) (hK : ∀ {y0 : Int32} {b0 : Nat} {yS : ms} {yt : X6}, k_K b0 yt = true → y0 = Int32.ofNat b0 → RM yS yt → K y0 yS) : b_sampleOf_166 s0 S K := by
  unfold b_sampleOf_166
  unfold x_b_sampleOf_166 at h
  exact hK h e_s0 hS
noncomputable def x_b_sampleOf_148 (a_s0 : Nat) (t : X6) (k_K : Nat → X6 → Bool) : Bool :=
  cond (!(w_lt 255 a_s0)) (x_b_sampleOf_166 a_s0 t k_K) (x_b_sampleOf_166 255 t k_K)
set_option maxRecDepth 20000 in
set_option maxHeartbeats 1000000 in
theorem xs_b_sampleOf_148 {s0 : Int32} {a_s0 : Nat} {S : ms} {t : X6} {K : Int32 → ms → Prop} {k_K : Nat → X6 → Bool} (h : x_b_sampleOf_148 a_s0 t k_K = true) (e_s0 : s0 = Int32.ofNat a_s0) (hS : RM S t) (hK : ∀ {y0 : Int32} {b0 : Nat} {yS : ms} {yt : X6}, k_K b0 yt = true → y0 = Int32.ofNat b0 → RM yS yt → K y0 yS) : b_sampleOf_148 s0 S K := by
  unfold b_sampleOf_148
  unfold x_b_sampleOf_148 at h
  have hc1 := c_le' e_s0 ((rfl : (255 : Int32) = Int32.ofNat 255))
  refine ⟨fun hc => ?_, fun hc => ?_⟩
  · have h := x_pos h (hc1.mp hc)
    exact xs_b_sampleOf_166 h e_s0 hS hK
  · have h := x_neg h (fun q => hc (hc1.mpr q))
    exact xs_b_sampleOf_166 h ((rfl : (255 : Int32) = Int32.ofNat 255)) hS hK
noncomputable def x_p_sampleOf (a_x1 : Nat) (a_x2 : Nat) (a_x3 : Nat) (t : X6) (k_K : Nat → X6 → Bool) : Bool :=
  x_p_cell a_x1 a_x2 0 (fun v7_ => and (Nat.blt v7_ 12288) <| rfi t 3 fun v2 => cond (w_eq v2 1) (rrw t 4 v7_ fun v33 => k_K v33 t) (x_p_cell a_x1 a_x2 1 (fun v31_ => and (Nat.blt v31_ 12288) <| x_p_cell a_x1 a_x2 2 (fun v44_ => and (Nat.blt v44_ 12288) <| cond (w_eq a_x3 0) (rrw t 4 v7_ fun v25 => rrw t 4 v31_ fun v27 => rrw t 4 v44_ fun v29 => frc (w_shr (w_add (w_add (w_add (w_mul 19595 v25) (w_mul 38470 v27)) (w_mul 7471 v29)) 32768) 16) fun f31 => x_b_sampleOf_148 f31 t k_K) (cond (w_eq a_x3 1) (rrw t 4 v7_ fun v17 => rrw t 4 v31_ fun v19 => rrw t 4 v44_ fun v21 => frc (w_add 128 (w_shr (w_add (w_add (w_sub (w_mul 4294956237 v17) (w_mul 21709 v19)) (w_mul 32768 v21)) 32768) 16)) fun f23 => x_b_sampleOf_148 f23 t k_K) (rrw t 4 v7_ fun v9 => rrw t 4 v31_ fun v11 => rrw t 4 v44_ fun v13 => frc (w_add 128 (w_shr (w_add (w_sub (w_sub (w_mul 32768 v9) (w_mul 27439 v11)) (w_mul 5329 v13)) 32768) 16)) fun f15 => x_b_sampleOf_148 f15 t k_K))))))
set_option maxRecDepth 20000 in
set_option maxHeartbeats 1000000 in
theorem xs_p_sampleOf {x1 : Int32} {a_x1 : Nat} {x2 : Int32} {a_x2 : Nat} {x3 : Int32} {a_x3 : Nat} {S : ms} {t : X6} {K : Int32 → ms → Prop} {k_K : Nat → X6 → Bool} (h : x_p_sampleOf a_x1 a_x2 a_x3 t k_K = true) (e_x1 : x1 = Int32.ofNat a_x1) (e_x2 : x2 = Int32.ofNat a_x2) (e_x3 : x3 = Int32.ofNat a_x3) (hS : RM S t) (hK : ∀ {y0 : Int32} {b0 : Nat} {yS : ms} {yt : X6}, k_K b0 yt = true → y0 = Int32.ofNat b0 → RM yS yt → K y0 yS) : p_sampleOf x1 x2 x3 S K := by
  unfold p_sampleOf
  unfold x_p_sampleOf at h
  refine xs_p_cell h e_x1 e_x2 ((rfl : (0 : Int32) = Int32.ofNat 0)) (fun h e_v7 => ?_)
  obtain ⟨n1, h⟩ := an_ok h
  refine ⟨n_vp e_v7 n1 (by decide), ?_⟩
  obtain ⟨v2, h, q3⟩ := rfi_ok h hS
  have hc4 := c_eq' q3 ((rfl : (1 : Int32) = Int32.ofNat 1))
  refine ⟨fun hc => ?_, fun hc => ?_⟩
  · have h := x_neg h (fun q => hc (hc4.mpr q))
    refine xs_p_cell h e_x1 e_x2 ((rfl : (1 : Int32) = Int32.ofNat 1)) (fun h e_v31 => ?_)
    obtain ⟨n5, h⟩ := an_ok h
    refine ⟨n_vp e_v31 n5 (by decide), ?_⟩
    refine xs_p_cell h e_x1 e_x2 ((rfl : (2 : Int32) = Int32.ofNat 2)) (fun h e_v44 => ?_)
    obtain ⟨n6, h⟩ := an_ok h
    refine ⟨n_vp e_v44 n6 (by decide), ?_⟩
    have hc7 := c_eq' e_x3 ((rfl : (0 : Int32) = Int32.ofNat 0))
    refine ⟨fun hc => ?_, fun hc => ?_⟩
    · have h := x_neg h (fun q => hc (hc7.mpr q))
      have hc8 := c_eq' e_x3 ((rfl : (1 : Int32) = Int32.ofNat 1))
      refine ⟨fun hc => ?_, fun hc => ?_⟩
      · have h := x_neg h (fun q => hc (hc8.mpr q))
        obtain ⟨v9, h, q10⟩ := rrw_ok h hS (by decide) e_v7
        obtain ⟨v11, h, q12⟩ := rrw_ok h hS (by decide) e_v31
        obtain ⟨v13, h, q14⟩ := rrw_ok h hS (by decide) e_v44
        have h := frc_ok h
        have p16 := n_add ((rfl : (128 : Int32) = Int32.ofNat 128)) (n_shr (n_add (n_sub (n_sub (n_mul ((rfl : (32768 : Int32) = Int32.ofNat 32768)) q10) (n_mul ((rfl : (27439 : Int32) = Int32.ofNat 27439)) q12)) (n_mul ((rfl : (5329 : Int32) = Int32.ofNat 5329)) q14)) ((rfl : (32768 : Int32) = Int32.ofNat 32768))) ((rfl : (16 : Int32) = Int32.ofNat 16)))
        exact xs_b_sampleOf_148 h p16 hS hK
      · have h := x_pos h (hc8.mp hc)
        obtain ⟨v17, h, q18⟩ := rrw_ok h hS (by decide) e_v7
        obtain ⟨v19, h, q20⟩ := rrw_ok h hS (by decide) e_v31
        obtain ⟨v21, h, q22⟩ := rrw_ok h hS (by decide) e_v44
        have h := frc_ok h
        have p24 := n_add ((rfl : (128 : Int32) = Int32.ofNat 128)) (n_shr (n_add (n_add (n_sub (n_mul (((by decide) : (-11059 : Int32) = Int32.ofNat 4294956237)) q18) (n_mul ((rfl : (21709 : Int32) = Int32.ofNat 21709)) q20)) (n_mul ((rfl : (32768 : Int32) = Int32.ofNat 32768)) q22)) ((rfl : (32768 : Int32) = Int32.ofNat 32768))) ((rfl : (16 : Int32) = Int32.ofNat 16)))
        exact xs_b_sampleOf_148 h p24 hS hK
    · have h := x_pos h (hc7.mp hc)
      obtain ⟨v25, h, q26⟩ := rrw_ok h hS (by decide) e_v7
      obtain ⟨v27, h, q28⟩ := rrw_ok h hS (by decide) e_v31
      obtain ⟨v29, h, q30⟩ := rrw_ok h hS (by decide) e_v44
      have h := frc_ok h
      have p32 := n_shr (n_add (n_add (n_add (n_mul ((rfl : (19595 : Int32) = Int32.ofNat 19595)) q26) (n_mul ((rfl : (38470 : Int32) = Int32.ofNat 38470)) q28)) (n_mul ((rfl : (7471 : Int32) = Int32.ofNat 7471)) q30)) ((rfl : (32768 : Int32) = Int32.ofNat 32768))) ((rfl : (16 : Int32) = Int32.ofNat 16))
      exact xs_b_sampleOf_148 h p32 hS hK
  · have h := x_pos h (hc4.mp hc)
    obtain ⟨v33, h, q34⟩ := rrw_ok h hS (by decide) e_v7
    exact hK h q34 hS
noncomputable def x_b_makeRaster_146 (a_x1 : Nat) (a_x2 : Nat) (a_x3 : Nat) (a_x4 : Nat) (a_x5 : Nat) (a_x6 : Nat) (a_x8 : Nat) (a_x9 : Nat) (a_s0 : Nat) (a_s2 : Nat) (a_s3 : Nat) (t : X6) (r_R36 : Nat → Nat → Nat → Nat → Nat → X6 → Bool) (r_R50 : Nat → Nat → Nat → Nat → Nat → Nat → X6 → Bool) (r_R70 : Nat → Nat → Nat → Nat → Nat → Nat → Nat → Nat → X6 → Bool) (r_R79 : Nat → Nat → Nat → Nat → Nat → Nat → Nat → Nat → Nat → X6 → Bool) (k_K : X6 → Bool) : Bool :=
  x_p_sampleOf a_s2 a_s3 a_x1 t (fun v147_ t_S147 => frc (w_add a_s0 v147_) fun f1 => frc (w_add a_x9 1) fun f3 => r_R79 a_x1 a_x2 a_x3 a_x4 a_x5 a_x6 f1 a_x8 f3 t_S147)
set_option maxRecDepth 20000 in
set_option maxHeartbeats 1000000 in
theorem xs_b_makeRaster_146 {x1 : Int32} {a_x1 : Nat} {x2 : Int32} {a_x2 : Nat} {x3 : Int32} {a_x3 : Nat} {x4 : Int32} {a_x4 : Nat} {x5 : Int32} {a_x5 : Nat} {x6 : Int32} {a_x6 : Nat} {x8 : Int32} {a_x8 : Nat} {x9 : Int32} {a_x9 : Nat} {s0 : Int32} {a_s0 : Nat} {s2 : Int32} {a_s2 : Nat} {s3 : Int32} {a_s3 : Nat} {S : ms} {t : X6} {R36 : Int32 → Int32 → Int32 → Int32 → Int32 → ms → Prop} {r_R36 : Nat → Nat → Nat → Nat → Nat → X6 → Bool} {R50 : Int32 → Int32 → Int32 → Int32 → Int32 → Int32 → ms → Prop} {r_R50 : Nat → Nat → Nat → Nat → Nat → Nat → X6 → Bool} {R70 : Int32 → Int32 → Int32 → Int32 → Int32 → Int32 → Int32 → Int32 → ms → Prop} {r_R70 : Nat → Nat → Nat → Nat → Nat → Nat → Nat → Nat → X6 → Bool} {R79 : Int32 → Int32 → Int32 → Int32 → Int32 → Int32 → Int32 → Int32 → Int32 → ms → Prop} {r_R79 : Nat → Nat → Nat → Nat → Nat → Nat → Nat → Nat → Nat → X6 → Bool} {K : ms → Prop} {k_K : X6 → Bool} (h : x_b_makeRaster_146 a_x1 a_x2 a_x3 a_x4 a_x5 a_x6 a_x8 a_x9 a_s0 a_s2 a_s3 t r_R36 r_R50 r_R70 r_R79 k_K = true) (e_x1 : x1 = Int32.ofNat a_x1) (e_x2 : x2 = Int32.ofNat a_x2) (e_x3 : x3 = Int32.ofNat a_x3) (e_x4 : x4 = Int32.ofNat a_x4) (e_x5 : x5 = Int32.ofNat a_x5) (e_x6 : x6 = Int32.ofNat a_x6) (e_x8 : x8 = Int32.ofNat a_x8) (e_x9 : x9 = Int32.ofNat a_x9) (e_s0 : s0 = Int32.ofNat a_s0) (e_s2 : s2 = Int32.ofNat a_s2) (e_s3 : s3 = Int32.ofNat a_s3) (hS : RM S t) (hR36 : ∀ {y0 : Int32} {b0 : Nat} {y1 : Int32} {b1 : Nat} {y2 : Int32} {b2 : Nat} {y3 : Int32} {b3 : Nat} {y4 : Int32} {b4 : Nat} {yS : ms} {yt : X6}, r_R36 b0 b1 b2 b3 b4 yt = true → y0 = Int32.ofNat b0 → y1 = Int32.ofNat b1 → y2 = Int32.ofNat b2 → y3 = Int32.ofNat b3 → y4 = Int32.ofNat b4 → RM yS yt → R36 y0 y1 y2 y3 y4 yS) (hR50 : ∀ {y0 : Int32} {b0 : Nat} {y1 : Int32} {b1 : Nat} {y2 : Int32} {b2 : Nat} {y3 : Int32} {b3 : Nat} {y4 : Int32} {b4 : Nat} {y5 : Int32} {b5 : Nat} {yS : ms} {yt : X6}, r_R50 b0 b1 b2 b3 b4 b5 yt = true → y0 = Int32.ofNat b0 → y1 = Int32.ofNat b1 → y2 = Int32.ofNat b2 → y3 = Int32.ofNat b3 → y4 = Int32.ofNat b4 → y5 = Int32.ofNat b5 → RM yS yt → R50 y0 y1 y2 y3 y4 y5 yS) (hR70 : ∀ {y0 : Int32} {b0 : Nat} {y1 : Int32} {b1 : Nat} {y2 : Int32} {b2 : Nat} {y3 : Int32} {b3 : Nat} {y4 : Int32} {b4 : Nat} {y5 : Int32} {b5 : Nat} {y6 : Int32} {b6 : Nat} {y7 : Int32} {b7 : Nat} {yS : ms} {yt : X6}, r_R70 b0 b1 b2 b3 b4 b5 b6 b7 yt = true → y0 = Int32.ofNat b0 → y1 = Int32.ofNat b1 → y2 = Int32.ofNat b2 → y3 = Int32.ofNat b3 → y4 = Int32.ofNat b4 → y5 = Int32.ofNat b5 → y6 = Int32.ofNat b6 → y7 = Int32.ofNat b7 → RM yS yt → R70 y0 y1 y2 y3 y4 y5 y6 y7 yS) (hR79 : ∀ {y0 : Int32} {b0 : Nat} {y1 : Int32} {b1 : Nat} {y2 : Int32} {b2 : Nat} {y3 : Int32} {b3 : Nat} {y4 : Int32} {b4 : Nat} {y5 : Int32} {b5 : Nat} {y6 : Int32} {b6 : Nat} {y7 : Int32} {b7 : Nat} {y8 : Int32} {b8 : Nat} {yS : ms} {yt : X6}, r_R79 b0 b1 b2 b3 b4 b5 b6 b7 b8 yt = true → y0 = Int32.ofNat b0 → y1 = Int32.ofNat b1 → y2 = Int32.ofNat b2 → y3 = Int32.ofNat b3 → y4 = Int32.ofNat b4 → y5 = Int32.ofNat b5 → y6 = Int32.ofNat b6 → y7 = Int32.ofNat b7 → y8 = Int32.ofNat b8 → RM yS yt → R79 y0 y1 y2 y3 y4 y5 y6 y7 y8 yS) (hK : ∀ {yS : ms} {yt : X6}, k_K yt = true → RM yS yt → K yS) : b_makeRaster_146 x1 x2 x3 x4 x5 x6 x8 x9 s0 s2 s3 S R36 R50 R70 R79 K := by
  unfold b_makeRaster_146
  unfold x_b_makeRaster_146 at h
  refine xs_p_sampleOf h e_s2 e_s3 e_x1 hS (fun h e_v147 h_S147 => ?_)
  have h := frc_ok h
  have p2 := n_add e_s0 e_v147
  have h := frc_ok h
  have p4 := n_add e_x9 ((rfl : (1 : Int32) = Int32.ofNat 1))
  exact hR79 h e_x1 e_x2 e_x3 e_x4 e_x5 e_x6 p2 e_x8 p4 h_S147
noncomputable def x_b_makeRaster_126 (a_x1 : Nat) (a_x2 : Nat) (a_x3 : Nat) (a_x4 : Nat) (a_x5 : Nat) (a_x6 : Nat) (a_x8 : Nat) (a_x9 : Nat) (a_x11 : Nat) (a_s0 : Nat) (a_s2 : Nat) (t : X6) (r_R36 : Nat → Nat → Nat → Nat → Nat → X6 → Bool) (r_R50 : Nat → Nat → Nat → Nat → Nat → Nat → X6 → Bool) (r_R70 : Nat → Nat → Nat → Nat → Nat → Nat → Nat → Nat → X6 → Bool) (r_R79 : Nat → Nat → Nat → Nat → Nat → Nat → Nat → Nat → Nat → X6 → Bool) (k_K : X6 → Bool) : Bool :=
  rfi t 2 fun v1 => cond (!(w_lt a_x11 v1)) (frc (w_sub v1 1) fun f4 => x_b_makeRaster_146 a_x1 a_x2 a_x3 a_x4 a_x5 a_x6 a_x8 a_x9 a_s0 a_s2 f4 t r_R36 r_R50 r_R70 r_R79 k_K) (x_b_makeRaster_146 a_x1 a_x2 a_x3 a_x4 a_x5 a_x6 a_x8 a_x9 a_s0 a_s2 a_x11 t r_R36 r_R50 r_R70 r_R79 k_K)
set_option maxRecDepth 20000 in
set_option maxHeartbeats 1000000 in
theorem xs_b_makeRaster_126 {x1 : Int32} {a_x1 : Nat} {x2 : Int32} {a_x2 : Nat} {x3 : Int32} {a_x3 : Nat} {x4 : Int32} {a_x4 : Nat} {x5 : Int32} {a_x5 : Nat} {x6 : Int32} {a_x6 : Nat} {x8 : Int32} {a_x8 : Nat} {x9 : Int32} {a_x9 : Nat} {x11 : Int32} {a_x11 : Nat} {s0 : Int32} {a_s0 : Nat} {s2 : Int32} {a_s2 : Nat} {S : ms} {t : X6} {R36 : Int32 → Int32 → Int32 → Int32 → Int32 → ms → Prop} {r_R36 : Nat → Nat → Nat → Nat → Nat → X6 → Bool} {R50 : Int32 → Int32 → Int32 → Int32 → Int32 → Int32 → ms → Prop} {r_R50 : Nat → Nat → Nat → Nat → Nat → Nat → X6 → Bool} {R70 : Int32 → Int32 → Int32 → Int32 → Int32 → Int32 → Int32 → Int32 → ms → Prop} {r_R70 : Nat → Nat → Nat → Nat → Nat → Nat → Nat → Nat → X6 → Bool} {R79 : Int32 → Int32 → Int32 → Int32 → Int32 → Int32 → Int32 → Int32 → Int32 → ms → Prop} {r_R79 : Nat → Nat → Nat → Nat → Nat → Nat → Nat → Nat → Nat → X6 → Bool} {K : ms → Prop} {k_K : X6 → Bool} (h : x_b_makeRaster_126 a_x1 a_x2 a_x3 a_x4 a_x5 a_x6 a_x8 a_x9 a_x11 a_s0 a_s2 t r_R36 r_R50 r_R70 r_R79 k_K = true) (e_x1 : x1 = Int32.ofNat a_x1) (e_x2 : x2 = Int32.ofNat a_x2) (e_x3 : x3 = Int32.ofNat a_x3) (e_x4 : x4 = Int32.ofNat a_x4) (e_x5 : x5 = Int32.ofNat a_x5) (e_x6 : x6 = Int32.ofNat a_x6) (e_x8 : x8 = Int32.ofNat a_x8) (e_x9 : x9 = Int32.ofNat a_x9) (e_x11 : x11 = Int32.ofNat a_x11) (e_s0 : s0 = Int32.ofNat a_s0) (e_s2 : s2 = Int32.ofNat a_s2) (hS : RM S t) (hR36 : ∀ {y0 : Int32} {b0 : Nat} {y1 : Int32} {b1 : Nat} {y2 : Int32} {b2 : Nat} {y3 : Int32} {b3 : Nat} {y4 : Int32} {b4 : Nat} {yS : ms} {yt : X6}, r_R36 b0 b1 b2 b3 b4 yt = true → y0 = Int32.ofNat b0 → y1 = Int32.ofNat b1 → y2 = Int32.ofNat b2 → y3 = Int32.ofNat b3 → y4 = Int32.ofNat b4 → RM yS yt → R36 y0 y1 y2 y3 y4 yS) (hR50 : ∀ {y0 : Int32} {b0 : Nat} {y1 : Int32} {b1 : Nat} {y2 : Int32} {b2 : Nat} {y3 : Int32} {b3 : Nat} {y4 : Int32} {b4 : Nat} {y5 : Int32} {b5 : Nat} {yS : ms} {yt : X6}, r_R50 b0 b1 b2 b3 b4 b5 yt = true → y0 = Int32.ofNat b0 → y1 = Int32.ofNat b1 → y2 = Int32.ofNat b2 → y3 = Int32.ofNat b3 → y4 = Int32.ofNat b4 → y5 = Int32.ofNat b5 → RM yS yt → R50 y0 y1 y2 y3 y4 y5 yS) (hR70 : ∀ {y0 : Int32} {b0 : Nat} {y1 : Int32} {b1 : Nat} {y2 : Int32} {b2 : Nat} {y3 : Int32} {b3 : Nat} {y4 : Int32} {b4 : Nat} {y5 : Int32} {b5 : Nat} {y6 : Int32} {b6 : Nat} {y7 : Int32} {b7 : Nat} {yS : ms} {yt : X6}, r_R70 b0 b1 b2 b3 b4 b5 b6 b7 yt = true → y0 = Int32.ofNat b0 → y1 = Int32.ofNat b1 → y2 = Int32.ofNat b2 → y3 = Int32.ofNat b3 → y4 = Int32.ofNat b4 → y5 = Int32.ofNat b5 → y6 = Int32.ofNat b6 → y7 = Int32.ofNat b7 → RM yS yt → R70 y0 y1 y2 y3 y4 y5 y6 y7 yS) (hR79 : ∀ {y0 : Int32} {b0 : Nat} {y1 : Int32} {b1 : Nat} {y2 : Int32} {b2 : Nat} {y3 : Int32} {b3 : Nat} {y4 : Int32} {b4 : Nat} {y5 : Int32} {b5 : Nat} {y6 : Int32} {b6 : Nat} {y7 : Int32} {b7 : Nat} {y8 : Int32} {b8 : Nat} {yS : ms} {yt : X6}, r_R79 b0 b1 b2 b3 b4 b5 b6 b7 b8 yt = true → y0 = Int32.ofNat b0 → y1 = Int32.ofNat b1 → y2 = Int32.ofNat b2 → y3 = Int32.ofNat b3 → y4 = Int32.ofNat b4 → y5 = Int32.ofNat b5 → y6 = Int32.ofNat b6 → y7 = Int32.ofNat b7 → y8 = Int32.ofNat b8 → RM yS yt → R79 y0 y1 y2 y3 y4 y5 y6 y7 y8 yS) (hK : ∀ {yS : ms} {yt : X6}, k_K yt = true → RM yS yt → K yS) : b_makeRaster_126 x1 x2 x3 x4 x5 x6 x8 x9 x11 s0 s2 S R36 R50 R70 R79 K := by
  unfold b_makeRaster_126
  unfold x_b_makeRaster_126 at h
  obtain ⟨v1, h, q2⟩ := rfi_ok h hS
  have hc3 := c_le' q2 e_x11
  refine ⟨fun hc => ?_, fun hc => ?_⟩
  · have h := x_pos h (hc3.mp hc)
    have h := frc_ok h
    have p5 := n_sub q2 ((rfl : (1 : Int32) = Int32.ofNat 1))
    exact xs_b_makeRaster_146 h e_x1 e_x2 e_x3 e_x4 e_x5 e_x6 e_x8 e_x9 e_s0 e_s2 p5 hS hR36 hR50 hR70 hR79 hK
  · have h := x_neg h (fun q => hc (hc3.mpr q))
    exact xs_b_makeRaster_146 h e_x1 e_x2 e_x3 e_x4 e_x5 e_x6 e_x8 e_x9 e_s0 e_s2 e_x11 hS hR36 hR50 hR70 hR79 hK
noncomputable def x_b_makeRaster_79 (a_x1 : Nat) (a_x2 : Nat) (a_x3 : Nat) (a_x4 : Nat) (a_x5 : Nat) (a_x6 : Nat) (a_x7 : Nat) (a_x8 : Nat) (a_x9 : Nat) (t : X6) (r_R36 : Nat → Nat → Nat → Nat → Nat → X6 → Bool) (r_R50 : Nat → Nat → Nat → Nat → Nat → Nat → X6 → Bool) (r_R70 : Nat → Nat → Nat → Nat → Nat → Nat → Nat → Nat → X6 → Bool) (r_R79 : Nat → Nat → Nat → Nat → Nat → Nat → Nat → Nat → Nat → X6 → Bool) (k_K : X6 → Bool) : Bool :=
  cond (!(w_lt a_x9 a_x2)) (frc (w_add a_x8 1) fun f2 => r_R70 a_x1 a_x2 a_x3 a_x4 a_x5 a_x6 a_x7 f2 t) (rfi t 1 fun v4 => cond (!(w_lt (w_add (w_mul a_x6 a_x2) a_x9) v4)) (frc (w_add (w_mul a_x5 a_x3) a_x8) fun f7 => frc (w_sub v4 1) fun f9 => x_b_makeRaster_126 a_x1 a_x2 a_x3 a_x4 a_x5 a_x6 a_x8 a_x9 f7 a_x7 f9 t r_R36 r_R50 r_R70 r_R79 k_K) (frc (w_add (w_mul a_x5 a_x3) a_x8) fun f11 => frc (w_add (w_mul a_x6 a_x2) a_x9) fun f13 => x_b_makeRaster_126 a_x1 a_x2 a_x3 a_x4 a_x5 a_x6 a_x8 a_x9 f11 a_x7 f13 t r_R36 r_R50 r_R70 r_R79 k_K))
set_option maxRecDepth 20000 in
set_option maxHeartbeats 1000000 in
theorem xs_b_makeRaster_79 {x1 : Int32} {a_x1 : Nat} {x2 : Int32} {a_x2 : Nat} {x3 : Int32} {a_x3 : Nat} {x4 : Int32} {a_x4 : Nat} {x5 : Int32} {a_x5 : Nat} {x6 : Int32} {a_x6 : Nat} {x7 : Int32} {a_x7 : Nat} {x8 : Int32} {a_x8 : Nat} {x9 : Int32} {a_x9 : Nat} {S : ms} {t : X6} {R36 : Int32 → Int32 → Int32 → Int32 → Int32 → ms → Prop} {r_R36 : Nat → Nat → Nat → Nat → Nat → X6 → Bool} {R50 : Int32 → Int32 → Int32 → Int32 → Int32 → Int32 → ms → Prop} {r_R50 : Nat → Nat → Nat → Nat → Nat → Nat → X6 → Bool} {R70 : Int32 → Int32 → Int32 → Int32 → Int32 → Int32 → Int32 → Int32 → ms → Prop} {r_R70 : Nat → Nat → Nat → Nat → Nat → Nat → Nat → Nat → X6 → Bool} {R79 : Int32 → Int32 → Int32 → Int32 → Int32 → Int32 → Int32 → Int32 → Int32 → ms → Prop} {r_R79 : Nat → Nat → Nat → Nat → Nat → Nat → Nat → Nat → Nat → X6 → Bool} {K : ms → Prop} {k_K : X6 → Bool} (h : x_b_makeRaster_79 a_x1 a_x2 a_x3 a_x4 a_x5 a_x6 a_x7 a_x8 a_x9 t r_R36 r_R50 r_R70 r_R79 k_K = true) (e_x1 : x1 = Int32.ofNat a_x1) (e_x2 : x2 = Int32.ofNat a_x2) (e_x3 : x3 = Int32.ofNat a_x3) (e_x4 : x4 = Int32.ofNat a_x4) (e_x5 : x5 = Int32.ofNat a_x5) (e_x6 : x6 = Int32.ofNat a_x6) (e_x7 : x7 = Int32.ofNat a_x7) (e_x8 : x8 = Int32.ofNat a_x8) (e_x9 : x9 = Int32.ofNat a_x9) (hS : RM S t) (hR36 : ∀ {y0 : Int32} {b0 : Nat} {y1 : Int32} {b1 : Nat} {y2 : Int32} {b2 : Nat} {y3 : Int32} {b3 : Nat} {y4 : Int32} {b4 : Nat} {yS : ms} {yt : X6}, r_R36 b0 b1 b2 b3 b4 yt = true → y0 = Int32.ofNat b0 → y1 = Int32.ofNat b1 → y2 = Int32.ofNat b2 → y3 = Int32.ofNat b3 → y4 = Int32.ofNat b4 → RM yS yt → R36 y0 y1 y2 y3 y4 yS) (hR50 : ∀ {y0 : Int32} {b0 : Nat} {y1 : Int32} {b1 : Nat} {y2 : Int32} {b2 : Nat} {y3 : Int32} {b3 : Nat} {y4 : Int32} {b4 : Nat} {y5 : Int32} {b5 : Nat} {yS : ms} {yt : X6}, r_R50 b0 b1 b2 b3 b4 b5 yt = true → y0 = Int32.ofNat b0 → y1 = Int32.ofNat b1 → y2 = Int32.ofNat b2 → y3 = Int32.ofNat b3 → y4 = Int32.ofNat b4 → y5 = Int32.ofNat b5 → RM yS yt → R50 y0 y1 y2 y3 y4 y5 yS) (hR70 : ∀ {y0 : Int32} {b0 : Nat} {y1 : Int32} {b1 : Nat} {y2 : Int32} {b2 : Nat} {y3 : Int32} {b3 : Nat} {y4 : Int32} {b4 : Nat} {y5 : Int32} {b5 : Nat} {y6 : Int32} {b6 : Nat} {y7 : Int32} {b7 : Nat} {yS : ms} {yt : X6}, r_R70 b0 b1 b2 b3 b4 b5 b6 b7 yt = true → y0 = Int32.ofNat b0 → y1 = Int32.ofNat b1 → y2 = Int32.ofNat b2 → y3 = Int32.ofNat b3 → y4 = Int32.ofNat b4 → y5 = Int32.ofNat b5 → y6 = Int32.ofNat b6 → y7 = Int32.ofNat b7 → RM yS yt → R70 y0 y1 y2 y3 y4 y5 y6 y7 yS) (hR79 : ∀ {y0 : Int32} {b0 : Nat} {y1 : Int32} {b1 : Nat} {y2 : Int32} {b2 : Nat} {y3 : Int32} {b3 : Nat} {y4 : Int32} {b4 : Nat} {y5 : Int32} {b5 : Nat} {y6 : Int32} {b6 : Nat} {y7 : Int32} {b7 : Nat} {y8 : Int32} {b8 : Nat} {yS : ms} {yt : X6}, r_R79 b0 b1 b2 b3 b4 b5 b6 b7 b8 yt = true → y0 = Int32.ofNat b0 → y1 = Int32.ofNat b1 → y2 = Int32.ofNat b2 → y3 = Int32.ofNat b3 → y4 = Int32.ofNat b4 → y5 = Int32.ofNat b5 → y6 = Int32.ofNat b6 → y7 = Int32.ofNat b7 → y8 = Int32.ofNat b8 → RM yS yt → R79 y0 y1 y2 y3 y4 y5 y6 y7 y8 yS) (hK : ∀ {yS : ms} {yt : X6}, k_K yt = true → RM yS yt → K yS) : b_makeRaster_79 x1 x2 x3 x4 x5 x6 x7 x8 x9 S R36 R50 R70 R79 K := by
  unfold b_makeRaster_79
  unfold x_b_makeRaster_79 at h
  have hc1 := c_le' e_x2 e_x9
  refine ⟨fun hc => ?_, fun hc => ?_⟩
  · have h := x_pos h (hc1.mp hc)
    have h := frc_ok h
    have p3 := n_add e_x8 ((rfl : (1 : Int32) = Int32.ofNat 1))
    exact hR70 h e_x1 e_x2 e_x3 e_x4 e_x5 e_x6 e_x7 p3 hS
  · have h := x_neg h (fun q => hc (hc1.mpr q))
    obtain ⟨v4, h, q5⟩ := rfi_ok h hS
    have hc6 := c_le' q5 (n_add (n_mul e_x6 e_x2) e_x9)
    refine ⟨fun hc => ?_, fun hc => ?_⟩
    · have h := x_pos h (hc6.mp hc)
      have h := frc_ok h
      have p8 := n_add (n_mul e_x5 e_x3) e_x8
      have h := frc_ok h
      have p10 := n_sub q5 ((rfl : (1 : Int32) = Int32.ofNat 1))
      exact xs_b_makeRaster_126 h e_x1 e_x2 e_x3 e_x4 e_x5 e_x6 e_x8 e_x9 p8 e_x7 p10 hS hR36 hR50 hR70 hR79 hK
    · have h := x_neg h (fun q => hc (hc6.mpr q))
      have h := frc_ok h
      have p12 := n_add (n_mul e_x5 e_x3) e_x8
      have h := frc_ok h
      have p14 := n_add (n_mul e_x6 e_x2) e_x9
      exact xs_b_makeRaster_126 h e_x1 e_x2 e_x3 e_x4 e_x5 e_x6 e_x8 e_x9 p12 e_x7 p14 hS hR36 hR50 hR70 hR79 hK
noncomputable def xl_e_makeRaster_79 (r_R36 : Nat → Nat → Nat → Nat → Nat → X6 → Bool) (r_R50 : Nat → Nat → Nat → Nat → Nat → Nat → X6 → Bool) (r_R70 : Nat → Nat → Nat → Nat → Nat → Nat → Nat → Nat → X6 → Bool) (k_K : X6 → Bool) (n : Nat) : Nat → Nat → Nat → Nat → Nat → Nat → Nat → Nat → Nat → X6 → Bool := Nat.rec (motive := fun _ => Nat → Nat → Nat → Nat → Nat → Nat → Nat → Nat → Nat → X6 → Bool) (fun _ _ _ _ _ _ _ _ _ _ => false) (fun _ ih b_x1 b_x2 b_x3 b_x4 b_x5 b_x6 b_x7 b_x8 b_x9 bt => x_b_makeRaster_79 b_x1 b_x2 b_x3 b_x4 b_x5 b_x6 b_x7 b_x8 b_x9 bt r_R36 r_R50 r_R70 ih k_K) n
noncomputable def x_e_makeRaster_79 (a_x1 : Nat) (a_x2 : Nat) (a_x3 : Nat) (a_x4 : Nat) (a_x5 : Nat) (a_x6 : Nat) (a_x7 : Nat) (a_x8 : Nat) (a_x9 : Nat) (t : X6) (r_R36 : Nat → Nat → Nat → Nat → Nat → X6 → Bool) (r_R50 : Nat → Nat → Nat → Nat → Nat → Nat → X6 → Bool) (r_R70 : Nat → Nat → Nat → Nat → Nat → Nat → Nat → Nat → X6 → Bool) (k_K : X6 → Bool) : Bool := xl_e_makeRaster_79 r_R36 r_R50 r_R70 k_K 200000 a_x1 a_x2 a_x3 a_x4 a_x5 a_x6 a_x7 a_x8 a_x9 t
def xq_e_makeRaster_79 (r_R36 : Nat → Nat → Nat → Nat → Nat → X6 → Bool) (r_R50 : Nat → Nat → Nat → Nat → Nat → Nat → X6 → Bool) (r_R70 : Nat → Nat → Nat → Nat → Nat → Nat → Nat → Nat → X6 → Bool) (k_K : X6 → Bool) (n : Nat) (y_x1 : Int32) (y_x2 : Int32) (y_x3 : Int32) (y_x4 : Int32) (y_x5 : Int32) (y_x6 : Int32) (y_x7 : Int32) (y_x8 : Int32) (y_x9 : Int32) (yS : ms) : Prop := ∃ (b_x1 : Nat) (b_x2 : Nat) (b_x3 : Nat) (b_x4 : Nat) (b_x5 : Nat) (b_x6 : Nat) (b_x7 : Nat) (b_x8 : Nat) (b_x9 : Nat) (bt : X6), y_x1 = Int32.ofNat b_x1 ∧ y_x2 = Int32.ofNat b_x2 ∧ y_x3 = Int32.ofNat b_x3 ∧ y_x4 = Int32.ofNat b_x4 ∧ y_x5 = Int32.ofNat b_x5 ∧ y_x6 = Int32.ofNat b_x6 ∧ y_x7 = Int32.ofNat b_x7 ∧ y_x8 = Int32.ofNat b_x8 ∧ y_x9 = Int32.ofNat b_x9 ∧ RM yS bt ∧ xl_e_makeRaster_79 r_R36 r_R50 r_R70 k_K n b_x1 b_x2 b_x3 b_x4 b_x5 b_x6 b_x7 b_x8 b_x9 bt = true
set_option maxRecDepth 20000 in
theorem xs_e_makeRaster_79 {x1 : Int32} {a_x1 : Nat} {x2 : Int32} {a_x2 : Nat} {x3 : Int32} {a_x3 : Nat} {x4 : Int32} {a_x4 : Nat} {x5 : Int32} {a_x5 : Nat} {x6 : Int32} {a_x6 : Nat} {x7 : Int32} {a_x7 : Nat} {x8 : Int32} {a_x8 : Nat} {x9 : Int32} {a_x9 : Nat} {S : ms} {t : X6} {R36 : Int32 → Int32 → Int32 → Int32 → Int32 → ms → Prop} {r_R36 : Nat → Nat → Nat → Nat → Nat → X6 → Bool} {R50 : Int32 → Int32 → Int32 → Int32 → Int32 → Int32 → ms → Prop} {r_R50 : Nat → Nat → Nat → Nat → Nat → Nat → X6 → Bool} {R70 : Int32 → Int32 → Int32 → Int32 → Int32 → Int32 → Int32 → Int32 → ms → Prop} {r_R70 : Nat → Nat → Nat → Nat → Nat → Nat → Nat → Nat → X6 → Bool} {K : ms → Prop} {k_K : X6 → Bool} (h : x_e_makeRaster_79 a_x1 a_x2 a_x3 a_x4 a_x5 a_x6 a_x7 a_x8 a_x9 t r_R36 r_R50 r_R70 k_K = true) (e_x1 : x1 = Int32.ofNat a_x1) (e_x2 : x2 = Int32.ofNat a_x2) (e_x3 : x3 = Int32.ofNat a_x3) (e_x4 : x4 = Int32.ofNat a_x4) (e_x5 : x5 = Int32.ofNat a_x5) (e_x6 : x6 = Int32.ofNat a_x6) (e_x7 : x7 = Int32.ofNat a_x7) (e_x8 : x8 = Int32.ofNat a_x8) (e_x9 : x9 = Int32.ofNat a_x9) (hS : RM S t) (hR36 : ∀ {y0 : Int32} {b0 : Nat} {y1 : Int32} {b1 : Nat} {y2 : Int32} {b2 : Nat} {y3 : Int32} {b3 : Nat} {y4 : Int32} {b4 : Nat} {yS : ms} {yt : X6}, r_R36 b0 b1 b2 b3 b4 yt = true → y0 = Int32.ofNat b0 → y1 = Int32.ofNat b1 → y2 = Int32.ofNat b2 → y3 = Int32.ofNat b3 → y4 = Int32.ofNat b4 → RM yS yt → R36 y0 y1 y2 y3 y4 yS) (hR50 : ∀ {y0 : Int32} {b0 : Nat} {y1 : Int32} {b1 : Nat} {y2 : Int32} {b2 : Nat} {y3 : Int32} {b3 : Nat} {y4 : Int32} {b4 : Nat} {y5 : Int32} {b5 : Nat} {yS : ms} {yt : X6}, r_R50 b0 b1 b2 b3 b4 b5 yt = true → y0 = Int32.ofNat b0 → y1 = Int32.ofNat b1 → y2 = Int32.ofNat b2 → y3 = Int32.ofNat b3 → y4 = Int32.ofNat b4 → y5 = Int32.ofNat b5 → RM yS yt → R50 y0 y1 y2 y3 y4 y5 yS) (hR70 : ∀ {y0 : Int32} {b0 : Nat} {y1 : Int32} {b1 : Nat} {y2 : Int32} {b2 : Nat} {y3 : Int32} {b3 : Nat} {y4 : Int32} {b4 : Nat} {y5 : Int32} {b5 : Nat} {y6 : Int32} {b6 : Nat} {y7 : Int32} {b7 : Nat} {yS : ms} {yt : X6}, r_R70 b0 b1 b2 b3 b4 b5 b6 b7 yt = true → y0 = Int32.ofNat b0 → y1 = Int32.ofNat b1 → y2 = Int32.ofNat b2 → y3 = Int32.ofNat b3 → y4 = Int32.ofNat b4 → y5 = Int32.ofNat b5 → y6 = Int32.ofNat b6 → y7 = Int32.ofNat b7 → RM yS yt → R70 y0 y1 y2 y3 y4 y5 y6 y7 yS) (hK : ∀ {yS : ms} {yt : X6}, k_K yt = true → RM yS yt → K yS) : e_makeRaster_79 x1 x2 x3 x4 x5 x6 x7 x8 x9 S R36 R50 R70 K := by
  refine ⟨fun y_x1 y_x2 y_x3 y_x4 y_x5 y_x6 y_x7 y_x8 y_x9 yS => ∃ n, xq_e_makeRaster_79 r_R36 r_R50 r_R70 k_K n y_x1 y_x2 y_x3 y_x4 y_x5 y_x6 y_x7 y_x8 y_x9 yS, fun y_x1 y_x2 y_x3 y_x4 y_x5 y_x6 y_x7 y_x8 y_x9 yS => mf (fun n => xq_e_makeRaster_79 r_R36 r_R50 r_R70 k_K n y_x1 y_x2 y_x3 y_x4 y_x5 y_x6 y_x7 y_x8 y_x9 yS), ⟨200000, a_x1, a_x2, a_x3, a_x4, a_x5, a_x6, a_x7, a_x8, a_x9, t, e_x1, e_x2, e_x3, e_x4, e_x5, e_x6, e_x7, e_x8, e_x9, hS, h⟩, fun y_x1 y_x2 y_x3 y_x4 y_x5 y_x6 y_x7 y_x8 y_x9 yS hI => ?_⟩
  obtain ⟨m, hm, hq⟩ := mf_ok hI
  obtain ⟨b_x1, b_x2, b_x3, b_x4, b_x5, b_x6, b_x7, b_x8, b_x9, bt, c_x1, c_x2, c_x3, c_x4, c_x5, c_x6, c_x7, c_x8, c_x9, cS, h⟩ := hq
  cases m with
  | zero => exact absurd h Bool.false_ne_true
  | succ n => exact xs_b_makeRaster_79 h c_x1 c_x2 c_x3 c_x4 c_x5 c_x6 c_x7 c_x8 c_x9 cS hR36 hR50 hR70 (fun h d_x1 d_x2 d_x3 d_x4 d_x5 d_x6 d_x7 d_x8 d_x9 dS => ⟨⟨n, _, _, _, _, _, _, _, _, _, _, d_x1, d_x2, d_x3, d_x4, d_x5, d_x6, d_x7, d_x8, d_x9, dS, h⟩, Nat.lt_of_le_of_lt (mf_le ⟨_, _, _, _, _, _, _, _, _, _, d_x1, d_x2, d_x3, d_x4, d_x5, d_x6, d_x7, d_x8, d_x9, dS, h⟩) (Nat.lt_of_lt_of_eq (Nat.lt_succ_self n) hm.symm)⟩) hK
noncomputable def x_b_makeRaster_70 (a_x1 : Nat) (a_x2 : Nat) (a_x3 : Nat) (a_x4 : Nat) (a_x5 : Nat) (a_x6 : Nat) (a_x7 : Nat) (a_x8 : Nat) (t : X6) (r_R36 : Nat → Nat → Nat → Nat → Nat → X6 → Bool) (r_R50 : Nat → Nat → Nat → Nat → Nat → Nat → X6 → Bool) (r_R70 : Nat → Nat → Nat → Nat → Nat → Nat → Nat → Nat → X6 → Bool) (k_K : X6 → Bool) : Bool :=
  cond (!(w_lt a_x8 a_x3)) (cond (w_eq a_x4 0) false <| frc (w_add (w_mul 64 a_x5) a_x6) fun f3 => and (Nat.blt f3 4096) <| frc (w_add a_x6 1) fun f6 => frc (w_div a_x7 a_x4) fun f10 => wrw t 21 f3 f10 fun t8 => r_R50 a_x1 a_x2 a_x3 a_x4 a_x5 f6 t8) (x_e_makeRaster_79 a_x1 a_x2 a_x3 a_x4 a_x5 a_x6 a_x7 a_x8 0 t r_R36 r_R50 r_R70 k_K)
set_option maxRecDepth 20000 in
set_option maxHeartbeats 1000000 in
theorem xs_b_makeRaster_70 {x1 : Int32} {a_x1 : Nat} {x2 : Int32} {a_x2 : Nat} {x3 : Int32} {a_x3 : Nat} {x4 : Int32} {a_x4 : Nat} {x5 : Int32} {a_x5 : Nat} {x6 : Int32} {a_x6 : Nat} {x7 : Int32} {a_x7 : Nat} {x8 : Int32} {a_x8 : Nat} {S : ms} {t : X6} {R36 : Int32 → Int32 → Int32 → Int32 → Int32 → ms → Prop} {r_R36 : Nat → Nat → Nat → Nat → Nat → X6 → Bool} {R50 : Int32 → Int32 → Int32 → Int32 → Int32 → Int32 → ms → Prop} {r_R50 : Nat → Nat → Nat → Nat → Nat → Nat → X6 → Bool} {R70 : Int32 → Int32 → Int32 → Int32 → Int32 → Int32 → Int32 → Int32 → ms → Prop} {r_R70 : Nat → Nat → Nat → Nat → Nat → Nat → Nat → Nat → X6 → Bool} {K : ms → Prop} {k_K : X6 → Bool} (h : x_b_makeRaster_70 a_x1 a_x2 a_x3 a_x4 a_x5 a_x6 a_x7 a_x8 t r_R36 r_R50 r_R70 k_K = true) (e_x1 : x1 = Int32.ofNat a_x1) (e_x2 : x2 = Int32.ofNat a_x2) (e_x3 : x3 = Int32.ofNat a_x3) (e_x4 : x4 = Int32.ofNat a_x4) (e_x5 : x5 = Int32.ofNat a_x5) (e_x6 : x6 = Int32.ofNat a_x6) (e_x7 : x7 = Int32.ofNat a_x7) (e_x8 : x8 = Int32.ofNat a_x8) (hS : RM S t) (hR36 : ∀ {y0 : Int32} {b0 : Nat} {y1 : Int32} {b1 : Nat} {y2 : Int32} {b2 : Nat} {y3 : Int32} {b3 : Nat} {y4 : Int32} {b4 : Nat} {yS : ms} {yt : X6}, r_R36 b0 b1 b2 b3 b4 yt = true → y0 = Int32.ofNat b0 → y1 = Int32.ofNat b1 → y2 = Int32.ofNat b2 → y3 = Int32.ofNat b3 → y4 = Int32.ofNat b4 → RM yS yt → R36 y0 y1 y2 y3 y4 yS) (hR50 : ∀ {y0 : Int32} {b0 : Nat} {y1 : Int32} {b1 : Nat} {y2 : Int32} {b2 : Nat} {y3 : Int32} {b3 : Nat} {y4 : Int32} {b4 : Nat} {y5 : Int32} {b5 : Nat} {yS : ms} {yt : X6}, r_R50 b0 b1 b2 b3 b4 b5 yt = true → y0 = Int32.ofNat b0 → y1 = Int32.ofNat b1 → y2 = Int32.ofNat b2 → y3 = Int32.ofNat b3 → y4 = Int32.ofNat b4 → y5 = Int32.ofNat b5 → RM yS yt → R50 y0 y1 y2 y3 y4 y5 yS) (hR70 : ∀ {y0 : Int32} {b0 : Nat} {y1 : Int32} {b1 : Nat} {y2 : Int32} {b2 : Nat} {y3 : Int32} {b3 : Nat} {y4 : Int32} {b4 : Nat} {y5 : Int32} {b5 : Nat} {y6 : Int32} {b6 : Nat} {y7 : Int32} {b7 : Nat} {yS : ms} {yt : X6}, r_R70 b0 b1 b2 b3 b4 b5 b6 b7 yt = true → y0 = Int32.ofNat b0 → y1 = Int32.ofNat b1 → y2 = Int32.ofNat b2 → y3 = Int32.ofNat b3 → y4 = Int32.ofNat b4 → y5 = Int32.ofNat b5 → y6 = Int32.ofNat b6 → y7 = Int32.ofNat b7 → RM yS yt → R70 y0 y1 y2 y3 y4 y5 y6 y7 yS) (hK : ∀ {yS : ms} {yt : X6}, k_K yt = true → RM yS yt → K yS) : b_makeRaster_70 x1 x2 x3 x4 x5 x6 x7 x8 S R36 R50 R70 K := by
  unfold b_makeRaster_70
  unfold x_b_makeRaster_70 at h
  have hc1 := c_le' e_x3 e_x8
  refine ⟨fun hc => ?_, fun hc => ?_⟩
  · have h := x_pos h (hc1.mp hc)
    obtain ⟨n2, h⟩ := nu_ok h
    refine ⟨fun q => absurd ((c_eq' e_x4 ((rfl : (0 : Int32) = Int32.ofNat 0))).mp q) (by rw [n2]; exact Bool.false_ne_true), ?_⟩
    have h := frc_ok h
    have p4 := n_add (n_mul ((rfl : (64 : Int32) = Int32.ofNat 64)) e_x5) e_x6
    obtain ⟨n5, h⟩ := an_ok h
    refine ⟨n_vp p4 n5 (by decide), ?_⟩
    have h := frc_ok h
    have p7 := n_add e_x6 ((rfl : (1 : Int32) = Int32.ofNat 1))
    have h := frc_ok h
    have p11 := n_div e_x7 e_x4
    obtain ⟨t8, h, hS9⟩ := wrw_ok h hS (by decide) p4 p11
    exact hR50 h e_x1 e_x2 e_x3 e_x4 e_x5 p7 hS9
  · have h := x_neg h (fun q => hc (hc1.mpr q))
    exact xs_e_makeRaster_79 h e_x1 e_x2 e_x3 e_x4 e_x5 e_x6 e_x7 e_x8 ((rfl : (0 : Int32) = Int32.ofNat 0)) hS hR36 hR50 hR70 hK
noncomputable def xl_e_makeRaster_70 (r_R36 : Nat → Nat → Nat → Nat → Nat → X6 → Bool) (r_R50 : Nat → Nat → Nat → Nat → Nat → Nat → X6 → Bool) (k_K : X6 → Bool) (n : Nat) : Nat → Nat → Nat → Nat → Nat → Nat → Nat → Nat → X6 → Bool := Nat.rec (motive := fun _ => Nat → Nat → Nat → Nat → Nat → Nat → Nat → Nat → X6 → Bool) (fun _ _ _ _ _ _ _ _ _ => false) (fun _ ih b_x1 b_x2 b_x3 b_x4 b_x5 b_x6 b_x7 b_x8 bt => x_b_makeRaster_70 b_x1 b_x2 b_x3 b_x4 b_x5 b_x6 b_x7 b_x8 bt r_R36 r_R50 ih k_K) n
noncomputable def x_e_makeRaster_70 (a_x1 : Nat) (a_x2 : Nat) (a_x3 : Nat) (a_x4 : Nat) (a_x5 : Nat) (a_x6 : Nat) (a_x7 : Nat) (a_x8 : Nat) (t : X6) (r_R36 : Nat → Nat → Nat → Nat → Nat → X6 → Bool) (r_R50 : Nat → Nat → Nat → Nat → Nat → Nat → X6 → Bool) (k_K : X6 → Bool) : Bool := xl_e_makeRaster_70 r_R36 r_R50 k_K 200000 a_x1 a_x2 a_x3 a_x4 a_x5 a_x6 a_x7 a_x8 t
def xq_e_makeRaster_70 (r_R36 : Nat → Nat → Nat → Nat → Nat → X6 → Bool) (r_R50 : Nat → Nat → Nat → Nat → Nat → Nat → X6 → Bool) (k_K : X6 → Bool) (n : Nat) (y_x1 : Int32) (y_x2 : Int32) (y_x3 : Int32) (y_x4 : Int32) (y_x5 : Int32) (y_x6 : Int32) (y_x7 : Int32) (y_x8 : Int32) (yS : ms) : Prop := ∃ (b_x1 : Nat) (b_x2 : Nat) (b_x3 : Nat) (b_x4 : Nat) (b_x5 : Nat) (b_x6 : Nat) (b_x7 : Nat) (b_x8 : Nat) (bt : X6), y_x1 = Int32.ofNat b_x1 ∧ y_x2 = Int32.ofNat b_x2 ∧ y_x3 = Int32.ofNat b_x3 ∧ y_x4 = Int32.ofNat b_x4 ∧ y_x5 = Int32.ofNat b_x5 ∧ y_x6 = Int32.ofNat b_x6 ∧ y_x7 = Int32.ofNat b_x7 ∧ y_x8 = Int32.ofNat b_x8 ∧ RM yS bt ∧ xl_e_makeRaster_70 r_R36 r_R50 k_K n b_x1 b_x2 b_x3 b_x4 b_x5 b_x6 b_x7 b_x8 bt = true
set_option maxRecDepth 20000 in
theorem xs_e_makeRaster_70 {x1 : Int32} {a_x1 : Nat} {x2 : Int32} {a_x2 : Nat} {x3 : Int32} {a_x3 : Nat} {x4 : Int32} {a_x4 : Nat} {x5 : Int32} {a_x5 : Nat} {x6 : Int32} {a_x6 : Nat} {x7 : Int32} {a_x7 : Nat} {x8 : Int32} {a_x8 : Nat} {S : ms} {t : X6} {R36 : Int32 → Int32 → Int32 → Int32 → Int32 → ms → Prop} {r_R36 : Nat → Nat → Nat → Nat → Nat → X6 → Bool} {R50 : Int32 → Int32 → Int32 → Int32 → Int32 → Int32 → ms → Prop} {r_R50 : Nat → Nat → Nat → Nat → Nat → Nat → X6 → Bool} {K : ms → Prop} {k_K : X6 → Bool} (h : x_e_makeRaster_70 a_x1 a_x2 a_x3 a_x4 a_x5 a_x6 a_x7 a_x8 t r_R36 r_R50 k_K = true) (e_x1 : x1 = Int32.ofNat a_x1) (e_x2 : x2 = Int32.ofNat a_x2) (e_x3 : x3 = Int32.ofNat a_x3) (e_x4 : x4 = Int32.ofNat a_x4) (e_x5 : x5 = Int32.ofNat a_x5) (e_x6 : x6 = Int32.ofNat a_x6) (e_x7 : x7 = Int32.ofNat a_x7) (e_x8 : x8 = Int32.ofNat a_x8) (hS : RM S t) (hR36 : ∀ {y0 : Int32} {b0 : Nat} {y1 : Int32} {b1 : Nat} {y2 : Int32} {b2 : Nat} {y3 : Int32} {b3 : Nat} {y4 : Int32} {b4 : Nat} {yS : ms} {yt : X6}, r_R36 b0 b1 b2 b3 b4 yt = true → y0 = Int32.ofNat b0 → y1 = Int32.ofNat b1 → y2 = Int32.ofNat b2 → y3 = Int32.ofNat b3 → y4 = Int32.ofNat b4 → RM yS yt → R36 y0 y1 y2 y3 y4 yS) (hR50 : ∀ {y0 : Int32} {b0 : Nat} {y1 : Int32} {b1 : Nat} {y2 : Int32} {b2 : Nat} {y3 : Int32} {b3 : Nat} {y4 : Int32} {b4 : Nat} {y5 : Int32} {b5 : Nat} {yS : ms} {yt : X6}, r_R50 b0 b1 b2 b3 b4 b5 yt = true → y0 = Int32.ofNat b0 → y1 = Int32.ofNat b1 → y2 = Int32.ofNat b2 → y3 = Int32.ofNat b3 → y4 = Int32.ofNat b4 → y5 = Int32.ofNat b5 → RM yS yt → R50 y0 y1 y2 y3 y4 y5 yS) (hK : ∀ {yS : ms} {yt : X6}, k_K yt = true → RM yS yt → K yS) : e_makeRaster_70 x1 x2 x3 x4 x5 x6 x7 x8 S R36 R50 K := by
  refine ⟨fun y_x1 y_x2 y_x3 y_x4 y_x5 y_x6 y_x7 y_x8 yS => ∃ n, xq_e_makeRaster_70 r_R36 r_R50 k_K n y_x1 y_x2 y_x3 y_x4 y_x5 y_x6 y_x7 y_x8 yS, fun y_x1 y_x2 y_x3 y_x4 y_x5 y_x6 y_x7 y_x8 yS => mf (fun n => xq_e_makeRaster_70 r_R36 r_R50 k_K n y_x1 y_x2 y_x3 y_x4 y_x5 y_x6 y_x7 y_x8 yS), ⟨200000, a_x1, a_x2, a_x3, a_x4, a_x5, a_x6, a_x7, a_x8, t, e_x1, e_x2, e_x3, e_x4, e_x5, e_x6, e_x7, e_x8, hS, h⟩, fun y_x1 y_x2 y_x3 y_x4 y_x5 y_x6 y_x7 y_x8 yS hI => ?_⟩
  obtain ⟨m, hm, hq⟩ := mf_ok hI
  obtain ⟨b_x1, b_x2, b_x3, b_x4, b_x5, b_x6, b_x7, b_x8, bt, c_x1, c_x2, c_x3, c_x4, c_x5, c_x6, c_x7, c_x8, cS, h⟩ := hq
  cases m with
  | zero => exact absurd h Bool.false_ne_true
  | succ n => exact xs_b_makeRaster_70 h c_x1 c_x2 c_x3 c_x4 c_x5 c_x6 c_x7 c_x8 cS hR36 hR50 (fun h d_x1 d_x2 d_x3 d_x4 d_x5 d_x6 d_x7 d_x8 dS => ⟨⟨n, _, _, _, _, _, _, _, _, _, d_x1, d_x2, d_x3, d_x4, d_x5, d_x6, d_x7, d_x8, dS, h⟩, Nat.lt_of_le_of_lt (mf_le ⟨_, _, _, _, _, _, _, _, _, d_x1, d_x2, d_x3, d_x4, d_x5, d_x6, d_x7, d_x8, dS, h⟩) (Nat.lt_of_lt_of_eq (Nat.lt_succ_self n) hm.symm)⟩) hK
