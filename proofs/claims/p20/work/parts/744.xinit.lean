noncomputable def x_b_Wa_wave_38 (a_s0 : Nat) (k_K : Nat → Bool) : Bool :=
  k_K a_s0
set_option maxRecDepth 20000 in
set_option maxHeartbeats 1000000 in
theorem xs_b_Wa_wave_38 {s0 : Int32} {a_s0 : Nat} {K : Int32 → Prop} {k_K : Nat → Bool} (h : x_b_Wa_wave_38 a_s0 k_K = true) (e_s0 : s0 = Int32.ofNat a_s0) (hK : ∀ {y0 : Int32} {b0 : Nat}, k_K b0 = true → y0 = Int32.ofNat b0 → K y0) : b_Wa_wave_38 s0 K := by
  unfold b_Wa_wave_38
  unfold x_b_Wa_wave_38 at h
  exact hK h e_s0
noncomputable def x_b_Wa_wave_14 (a_s0 : Nat) (k_K : Nat → Bool) : Bool :=
  cond (!(w_lt 8 a_s0)) (and (Nat.blt a_s0 9) <| rd_qu a_s0 fun v3 => x_b_Wa_wave_38 v3 k_K) (frc (w_sub 16 a_s0) fun f5 => and (Nat.blt f5 9) <| rd_qu f5 fun v8 => frc (w_neg v8) fun f10 => x_b_Wa_wave_38 f10 k_K)
set_option maxRecDepth 20000 in
set_option maxHeartbeats 1000000 in
theorem xs_b_Wa_wave_14 {s0 : Int32} {a_s0 : Nat} {K : Int32 → Prop} {k_K : Nat → Bool} (h : x_b_Wa_wave_14 a_s0 k_K = true) (e_s0 : s0 = Int32.ofNat a_s0) (hK : ∀ {y0 : Int32} {b0 : Nat}, k_K b0 = true → y0 = Int32.ofNat b0 → K y0) : b_Wa_wave_14 s0 K := by
  unfold b_Wa_wave_14
  unfold x_b_Wa_wave_14 at h
  have hc1 := c_le' e_s0 ((rfl : (8 : Int32) = Int32.ofNat 8))
  refine ⟨fun hc => ?_, fun hc => ?_⟩
  · have h := x_pos h (hc1.mp hc)
    obtain ⟨n2, h⟩ := an_ok h
    refine ⟨n_vp e_s0 n2 (by decide), ?_⟩
    obtain ⟨v3, h, q4⟩ := rd_qu_ok h e_s0
    exact xs_b_Wa_wave_38 h q4 hK
  · have h := x_neg h (fun q => hc (hc1.mpr q))
    have h := frc_ok h
    have p6 := n_sub ((rfl : (16 : Int32) = Int32.ofNat 16)) e_s0
    obtain ⟨n7, h⟩ := an_ok h
    refine ⟨n_vp p6 n7 (by decide), ?_⟩
    obtain ⟨v8, h, q9⟩ := rd_qu_ok h p6
    have h := frc_ok h
    have p11 := n_neg q9
    exact xs_b_Wa_wave_38 h p11 hK
noncomputable def x_p_Wa_wave (a_x0 : Nat) (k_K : Nat → Bool) : Bool :=
  cond (!(w_lt 16 a_x0)) (x_b_Wa_wave_14 a_x0 k_K) (frc (w_sub 32 a_x0) fun f2 => x_b_Wa_wave_14 f2 k_K)
set_option maxRecDepth 20000 in
set_option maxHeartbeats 1000000 in
theorem xs_p_Wa_wave {x0 : Int32} {a_x0 : Nat} {K : Int32 → Prop} {k_K : Nat → Bool} (h : x_p_Wa_wave a_x0 k_K = true) (e_x0 : x0 = Int32.ofNat a_x0) (hK : ∀ {y0 : Int32} {b0 : Nat}, k_K b0 = true → y0 = Int32.ofNat b0 → K y0) : p_Wa_wave x0 K := by
  unfold p_Wa_wave
  unfold x_p_Wa_wave at h
  have hc1 := c_le' e_x0 ((rfl : (16 : Int32) = Int32.ofNat 16))
  refine ⟨fun hc => ?_, fun hc => ?_⟩
  · have h := x_pos h (hc1.mp hc)
    exact xs_b_Wa_wave_14 h e_x0 hK
  · have h := x_neg h (fun q => hc (hc1.mpr q))
    have h := frc_ok h
    have p3 := n_sub ((rfl : (32 : Int32) = Int32.ofNat 32)) e_x0
    exact xs_b_Wa_wave_14 h p3 hK
noncomputable def x_b_Wa_init_82_v (nU : Nat) (a_u : Nat) (a_x1 : Nat) (a_s0 : Nat) (a_s1 : Nat) (a_s2 : Nat) (t : X8) (r_R38 : Nat → X8 → Bool) (k_K : X8 → Bool) : Bool :=
  and (Nat.beq (clx a_s0) 902) <| and (Nat.blt a_s0 nU) <| and (Nat.blt a_s1 (lnx a_s0)) <| frc (w_add a_x1 1) fun f4 => wra t a_s0 a_s1 a_s2 fun t6 => r_R38 f4 t6
set_option maxRecDepth 20000 in
set_option maxHeartbeats 1000000 in
theorem xs_b_Wa_init_82_v {U : ut} {nU : Nat} {u a_u : Nat} {x1 : Int32} {a_x1 : Nat} {s0 a_s0 : Nat} {s1 : Int32} {a_s1 : Nat} {s2 : Int32} {a_s2 : Nat} {S : cs} {t : X8} {R38 : Int32 → cs → Prop} {r_R38 : Nat → X8 → Bool} {K : cs → Prop} {k_K : X8 → Bool} (h : x_b_Wa_init_82_v nU a_u a_x1 a_s0 a_s1 a_s2 t r_R38 k_K = true) (hU : PX U nU) (e_u : u = a_u) (e_x1 : x1 = Int32.ofNat a_x1) (e_s0 : s0 = a_s0) (e_s1 : s1 = Int32.ofNat a_s1) (e_s2 : s2 = Int32.ofNat a_s2) (hS : RCV nU S t) (hR38 : ∀ {y0 : Int32} {b0 : Nat} {yS : cs} {yt : X8}, r_R38 b0 yt = true → y0 = Int32.ofNat b0 → RCV nU yS yt → R38 y0 yS) (hK : ∀ {yS : cs} {yt : X8}, k_K yt = true → RCV nU yS yt → K yS) : b_Wa_init_82 U u x1 s0 s1 s2 S R38 K := by
  unfold b_Wa_init_82
  unfold x_b_Wa_init_82_v at h
  obtain ⟨n1, h⟩ := an_ok h
  obtain ⟨n2, h⟩ := an_ok h
  refine ⟨cl_okU hU n2 n1 e_s0, ?_⟩
  obtain ⟨n3, h⟩ := an_ok h
  refine ⟨vpc_okU hU n2 n3 e_s1 e_s0, ?_⟩
  have h := frc_ok h
  have p5 := n_add e_x1 ((rfl : (1 : Int32) = Int32.ofNat 1))
  obtain ⟨t6, h, hS7⟩ := wra_okV h n2 hS e_s0 e_s1 e_s2
  exact hR38 h p5 hS7
noncomputable def x_b_Wa_init_38_v (nU : Nat) (a_u : Nat) (a_x1 : Nat) (t : X8) (r_R38 : Nat → X8 → Bool) (k_K : X8 → Bool) : Bool :=
  cond (!(w_lt a_x1 64)) (k_K t) (rdr t a_u 0 fun o2 => cond (Nat.beq o2 1000000) false <| cond (w_eq (w_div a_x1 8) 0) (and (Nat.blt 4 9) <| rd_qu 4 fun v9 => x_b_Wa_init_82_v nU a_u a_x1 o2 a_x1 v9 t r_R38 k_K) (frc (w_sub (w_mul (w_add (w_mul 2 (w_sub a_x1 (w_mul (w_div a_x1 8) 8))) 1) (w_div a_x1 8)) (w_mul (w_div (w_mul (w_add (w_mul 2 (w_sub a_x1 (w_mul (w_div a_x1 8) 8))) 1) (w_div a_x1 8)) 32) 32)) fun f6 => x_p_Wa_wave f6 (fun v79_ => x_b_Wa_init_82_v nU a_u a_x1 o2 a_x1 v79_ t r_R38 k_K)))
set_option maxRecDepth 20000 in
set_option maxHeartbeats 1000000 in
theorem xs_b_Wa_init_38_v {U : ut} {nU : Nat} {u a_u : Nat} {x1 : Int32} {a_x1 : Nat} {S : cs} {t : X8} {R38 : Int32 → cs → Prop} {r_R38 : Nat → X8 → Bool} {K : cs → Prop} {k_K : X8 → Bool} (h : x_b_Wa_init_38_v nU a_u a_x1 t r_R38 k_K = true) (hU : PX U nU) (e_u : u = a_u) (e_x1 : x1 = Int32.ofNat a_x1) (hS : RCV nU S t) (hR38 : ∀ {y0 : Int32} {b0 : Nat} {yS : cs} {yt : X8}, r_R38 b0 yt = true → y0 = Int32.ofNat b0 → RCV nU yS yt → R38 y0 yS) (hK : ∀ {yS : cs} {yt : X8}, k_K yt = true → RCV nU yS yt → K yS) : b_Wa_init_38 U u x1 S R38 K := by
  unfold b_Wa_init_38
  unfold x_b_Wa_init_38_v at h
  have hc1 := c_le' ((rfl : (64 : Int32) = Int32.ofNat 64)) e_x1
  refine ⟨fun hc => ?_, fun hc => ?_⟩
  · have h := x_pos h (hc1.mp hc)
    exact hK h hS
  · have h := x_neg h (fun q => hc (hc1.mpr q))
    obtain ⟨o2, h, q3⟩ := rdr_ok h hS.1 e_u
    obtain ⟨n4, h⟩ := nu_ok h
    refine ⟨nu_no n4 q3, ?_⟩
    have hc5 := c_eq' (n_div e_x1 ((rfl : (8 : Int32) = Int32.ofNat 8))) ((rfl : (0 : Int32) = Int32.ofNat 0))
    refine ⟨fun hc => ?_, fun hc => ?_⟩
    · have h := x_neg h (fun q => hc (hc5.mpr q))
      have h := frc_ok h
      have p7 := n_sub (n_mul (n_add (n_mul ((rfl : (2 : Int32) = Int32.ofNat 2)) (n_sub e_x1 (n_mul (n_div e_x1 ((rfl : (8 : Int32) = Int32.ofNat 8))) ((rfl : (8 : Int32) = Int32.ofNat 8))))) ((rfl : (1 : Int32) = Int32.ofNat 1))) (n_div e_x1 ((rfl : (8 : Int32) = Int32.ofNat 8)))) (n_mul (n_div (n_mul (n_add (n_mul ((rfl : (2 : Int32) = Int32.ofNat 2)) (n_sub e_x1 (n_mul (n_div e_x1 ((rfl : (8 : Int32) = Int32.ofNat 8))) ((rfl : (8 : Int32) = Int32.ofNat 8))))) ((rfl : (1 : Int32) = Int32.ofNat 1))) (n_div e_x1 ((rfl : (8 : Int32) = Int32.ofNat 8)))) ((rfl : (32 : Int32) = Int32.ofNat 32))) ((rfl : (32 : Int32) = Int32.ofNat 32)))
      refine xs_p_Wa_wave h p7 (fun h e_v79 => ?_)
      exact xs_b_Wa_init_82_v h hU e_u e_x1 q3 e_x1 e_v79 hS hR38 hK
    · have h := x_pos h (hc5.mp hc)
      obtain ⟨n8, h⟩ := an_ok h
      refine ⟨n_vp ((rfl : (4 : Int32) = Int32.ofNat 4)) n8 (by decide), ?_⟩
      obtain ⟨v9, h, q10⟩ := rd_qu_ok h ((rfl : (4 : Int32) = Int32.ofNat 4))
      exact xs_b_Wa_init_82_v h hU e_u e_x1 q3 e_x1 q10 hS hR38 hK
noncomputable def xl_e_Wa_init_38_v (nU : Nat) (a_u : Nat) (k_K : X8 → Bool) (n : Nat) : Nat → X8 → Bool := Nat.rec (motive := fun _ => Nat → X8 → Bool) (fun _ _ => false) (fun _ ih b_x1 bt => x_b_Wa_init_38_v nU a_u b_x1 bt ih k_K) n
noncomputable def x_e_Wa_init_38_v (nU : Nat) (a_u : Nat) (a_x1 : Nat) (t : X8) (k_K : X8 → Bool) : Bool := xl_e_Wa_init_38_v nU a_u k_K 200000 a_x1 t
def xq_e_Wa_init_38_v (nU : Nat) (a_u : Nat) (k_K : X8 → Bool) (n : Nat) (y_x1 : Int32) (yS : cs) : Prop := ∃ (b_x1 : Nat) (bt : X8), y_x1 = Int32.ofNat b_x1 ∧ RCV nU yS bt ∧ xl_e_Wa_init_38_v nU a_u k_K n b_x1 bt = true
set_option maxRecDepth 20000 in
theorem xs_e_Wa_init_38_v {U : ut} {nU : Nat} {u a_u : Nat} {x1 : Int32} {a_x1 : Nat} {S : cs} {t : X8} {K : cs → Prop} {k_K : X8 → Bool} (h : x_e_Wa_init_38_v nU a_u a_x1 t k_K = true) (hU : PX U nU) (e_u : u = a_u) (e_x1 : x1 = Int32.ofNat a_x1) (hS : RCV nU S t) (hK : ∀ {yS : cs} {yt : X8}, k_K yt = true → RCV nU yS yt → K yS) : e_Wa_init_38 U u x1 S K := by
  refine ⟨fun y_x1 yS => ∃ n, xq_e_Wa_init_38_v nU a_u k_K n y_x1 yS, fun y_x1 yS => mf (fun n => xq_e_Wa_init_38_v nU a_u k_K n y_x1 yS), ⟨200000, a_x1, t, e_x1, hS, h⟩, fun y_x1 yS hI => ?_⟩
  obtain ⟨m, hm, hq⟩ := mf_ok hI
  obtain ⟨b_x1, bt, c_x1, cS, h⟩ := hq
  cases m with
  | zero => exact absurd h Bool.false_ne_true
  | succ n => exact xs_b_Wa_init_38_v h hU e_u c_x1 cS (fun h d_x1 dS => ⟨⟨n, _, _, d_x1, dS, h⟩, Nat.lt_of_le_of_lt (mf_le ⟨_, _, d_x1, dS, h⟩) (Nat.lt_of_lt_of_eq (Nat.lt_succ_self n) hm.symm)⟩) hK
noncomputable def x_q_Wa_init_36_v (nU : Nat) (a_u : Nat) (t : X8) (k_K : X8 → Bool) : Bool :=
  x_e_Wa_init_38_v nU a_u 0 t k_K
set_option maxRecDepth 20000 in
set_option maxHeartbeats 1000000 in
theorem xs_q_Wa_init_36_v {U : ut} {nU : Nat} {u a_u : Nat} {S : cs} {t : X8} {K : cs → Prop} {k_K : X8 → Bool} (h : x_q_Wa_init_36_v nU a_u t k_K = true) (hU : PX U nU) (e_u : u = a_u) (hS : RCV nU S t) (hK : ∀ {yS : cs} {yt : X8}, k_K yt = true → RCV nU yS yt → K yS) : q_Wa_init_36 U u S K := by
  unfold q_Wa_init_36
  unfold x_q_Wa_init_36_v at h
  exact xs_e_Wa_init_38_v h hU e_u ((rfl : (0 : Int32) = Int32.ofNat 0)) hS hK
noncomputable def x_b_Ar_fillI_5_v (nU : Nat) (a_x0 : Nat) (a_x1 : Nat) (a_x2 : Nat) (a_x3 : Nat) (t : X8) (r_R5 : Nat → Nat → Nat → Nat → X8 → Bool) (k_K : X8 → Bool) : Bool :=
  cond (!(w_lt a_x2 a_x3)) (k_K t) (and (Nat.beq (clx a_x0) 902) <| and (Nat.blt a_x0 nU) <| and (Nat.blt a_x2 (lnx a_x0)) <| frc (w_add a_x2 1) fun f5 => wra t a_x0 a_x2 a_x1 fun t7 => r_R5 a_x0 a_x1 f5 a_x3 t7)
set_option maxRecDepth 20000 in
set_option maxHeartbeats 1000000 in
theorem xs_b_Ar_fillI_5_v {U : ut} {nU : Nat} {x0 a_x0 : Nat} {x1 : Int32} {a_x1 : Nat} {x2 : Int32} {a_x2 : Nat} {x3 : Int32} {a_x3 : Nat} {S : cs} {t : X8} {R5 : Nat → Int32 → Int32 → Int32 → cs → Prop} {r_R5 : Nat → Nat → Nat → Nat → X8 → Bool} {K : cs → Prop} {k_K : X8 → Bool} (h : x_b_Ar_fillI_5_v nU a_x0 a_x1 a_x2 a_x3 t r_R5 k_K = true) (hU : PX U nU) (e_x0 : x0 = a_x0) (e_x1 : x1 = Int32.ofNat a_x1) (e_x2 : x2 = Int32.ofNat a_x2) (e_x3 : x3 = Int32.ofNat a_x3) (hS : RCV nU S t) (hR5 : ∀ {y0 b0 : Nat} {y1 : Int32} {b1 : Nat} {y2 : Int32} {b2 : Nat} {y3 : Int32} {b3 : Nat} {yS : cs} {yt : X8}, r_R5 b0 b1 b2 b3 yt = true → y0 = b0 → y1 = Int32.ofNat b1 → y2 = Int32.ofNat b2 → y3 = Int32.ofNat b3 → RCV nU yS yt → R5 y0 y1 y2 y3 yS) (hK : ∀ {yS : cs} {yt : X8}, k_K yt = true → RCV nU yS yt → K yS) : b_Ar_fillI_5 U x0 x1 x2 x3 S R5 K := by
  unfold b_Ar_fillI_5
  unfold x_b_Ar_fillI_5_v at h
  have hc1 := c_le' e_x3 e_x2
  refine ⟨fun hc => ?_, fun hc => ?_⟩
  · have h := x_pos h (hc1.mp hc)
    exact hK h hS
  · have h := x_neg h (fun q => hc (hc1.mpr q))
    obtain ⟨n2, h⟩ := an_ok h
    obtain ⟨n3, h⟩ := an_ok h
    refine ⟨cl_okU hU n3 n2 e_x0, ?_⟩
    obtain ⟨n4, h⟩ := an_ok h
    refine ⟨vpc_okU hU n3 n4 e_x2 e_x0, ?_⟩
    have h := frc_ok h
    have p6 := n_add e_x2 ((rfl : (1 : Int32) = Int32.ofNat 1))
    obtain ⟨t7, h, hS8⟩ := wra_okV h n3 hS e_x0 e_x2 e_x1
    exact hR5 h e_x0 e_x1 p6 e_x3 hS8
noncomputable def xl_e_Ar_fillI_5_v (nU : Nat) (k_K : X8 → Bool) (n : Nat) : Nat → Nat → Nat → Nat → X8 → Bool := Nat.rec (motive := fun _ => Nat → Nat → Nat → Nat → X8 → Bool) (fun _ _ _ _ _ => false) (fun _ ih b_x0 b_x1 b_x2 b_x3 bt => x_b_Ar_fillI_5_v nU b_x0 b_x1 b_x2 b_x3 bt ih k_K) n
noncomputable def x_e_Ar_fillI_5_v (nU : Nat) (a_x0 : Nat) (a_x1 : Nat) (a_x2 : Nat) (a_x3 : Nat) (t : X8) (k_K : X8 → Bool) : Bool := xl_e_Ar_fillI_5_v nU k_K 200000 a_x0 a_x1 a_x2 a_x3 t
def xq_e_Ar_fillI_5_v (nU : Nat) (k_K : X8 → Bool) (n : Nat) (y_x0 : Nat) (y_x1 : Int32) (y_x2 : Int32) (y_x3 : Int32) (yS : cs) : Prop := ∃ (b_x0 : Nat) (b_x1 : Nat) (b_x2 : Nat) (b_x3 : Nat) (bt : X8), y_x0 = b_x0 ∧ y_x1 = Int32.ofNat b_x1 ∧ y_x2 = Int32.ofNat b_x2 ∧ y_x3 = Int32.ofNat b_x3 ∧ RCV nU yS bt ∧ xl_e_Ar_fillI_5_v nU k_K n b_x0 b_x1 b_x2 b_x3 bt = true
set_option maxRecDepth 20000 in
theorem xs_e_Ar_fillI_5_v {U : ut} {nU : Nat} {x0 a_x0 : Nat} {x1 : Int32} {a_x1 : Nat} {x2 : Int32} {a_x2 : Nat} {x3 : Int32} {a_x3 : Nat} {S : cs} {t : X8} {K : cs → Prop} {k_K : X8 → Bool} (h : x_e_Ar_fillI_5_v nU a_x0 a_x1 a_x2 a_x3 t k_K = true) (hU : PX U nU) (e_x0 : x0 = a_x0) (e_x1 : x1 = Int32.ofNat a_x1) (e_x2 : x2 = Int32.ofNat a_x2) (e_x3 : x3 = Int32.ofNat a_x3) (hS : RCV nU S t) (hK : ∀ {yS : cs} {yt : X8}, k_K yt = true → RCV nU yS yt → K yS) : e_Ar_fillI_5 U x0 x1 x2 x3 S K := by
  refine ⟨fun y_x0 y_x1 y_x2 y_x3 yS => ∃ n, xq_e_Ar_fillI_5_v nU k_K n y_x0 y_x1 y_x2 y_x3 yS, fun y_x0 y_x1 y_x2 y_x3 yS => mf (fun n => xq_e_Ar_fillI_5_v nU k_K n y_x0 y_x1 y_x2 y_x3 yS), ⟨200000, a_x0, a_x1, a_x2, a_x3, t, e_x0, e_x1, e_x2, e_x3, hS, h⟩, fun y_x0 y_x1 y_x2 y_x3 yS hI => ?_⟩
  obtain ⟨m, hm, hq⟩ := mf_ok hI
  obtain ⟨b_x0, b_x1, b_x2, b_x3, bt, c_x0, c_x1, c_x2, c_x3, cS, h⟩ := hq
  cases m with
  | zero => exact absurd h Bool.false_ne_true
  | succ n => exact xs_b_Ar_fillI_5_v h hU c_x0 c_x1 c_x2 c_x3 cS (fun h d_x0 d_x1 d_x2 d_x3 dS => ⟨⟨n, _, _, _, _, _, d_x0, d_x1, d_x2, d_x3, dS, h⟩, Nat.lt_of_le_of_lt (mf_le ⟨_, _, _, _, _, d_x0, d_x1, d_x2, d_x3, dS, h⟩) (Nat.lt_of_lt_of_eq (Nat.lt_succ_self n) hm.symm)⟩) hK
noncomputable def x_p_Ar_fillI_v (nU : Nat) (a_x0 : Nat) (a_x1 : Nat) (t : X8) (k_K : X8 → Bool) : Bool :=
  and (Nat.beq (clx a_x0) 902) <| and (Nat.blt a_x0 nU) <| frc (lnx a_x0) fun f3 => x_e_Ar_fillI_5_v nU a_x0 a_x1 0 f3 t k_K
set_option maxRecDepth 20000 in
set_option maxHeartbeats 1000000 in
theorem xs_p_Ar_fillI_v {U : ut} {nU : Nat} {x0 a_x0 : Nat} {x1 : Int32} {a_x1 : Nat} {S : cs} {t : X8} {K : cs → Prop} {k_K : X8 → Bool} (h : x_p_Ar_fillI_v nU a_x0 a_x1 t k_K = true) (hU : PX U nU) (e_x0 : x0 = a_x0) (e_x1 : x1 = Int32.ofNat a_x1) (hS : RCV nU S t) (hK : ∀ {yS : cs} {yt : X8}, k_K yt = true → RCV nU yS yt → K yS) : p_Ar_fillI U x0 x1 S K := by
  unfold p_Ar_fillI
  unfold x_p_Ar_fillI_v at h
  obtain ⟨n1, h⟩ := an_ok h
  obtain ⟨n2, h⟩ := an_ok h
  refine ⟨cl_okU hU n2 n1 e_x0, ?_⟩
  have h := frc_ok h
  have p4 := n_lnU hU n2 e_x0
  exact xs_e_Ar_fillI_5_v h hU e_x0 e_x1 ((rfl : (0 : Int32) = Int32.ofNat 0)) p4 hS hK
noncomputable def xi_Ro (n a_u : Nat) (t : X8) (κ : X8 → Bool) : Bool := and (Nat.blt n 116) <| and (Nat.blt a_u n) <| wrr t a_u 0 n fun t1 => κ t1
theorem xsi_Ro {U : ut} {u n a_u N : Nat} {x1 : Int32} {S : cs} {t : X8} {K : cs → Prop} {κ : X8 → Bool} (h : xi_Ro n a_u t κ = true) (hU : PX U n) (eu : u = a_u) (hF : FR S n) (hS : RC S t) (hK : ∀ {S' : cs} {t' : X8}, κ t' = true → FR S' (n + 1) → RC S' t' → K S') : p_Ro_init U u x1 S N K := by
  unfold p_Ro_init
  obtain ⟨q0, h⟩ := an_ok h
  obtain ⟨q9, h⟩ := an_ok h
  have hlu : u < n := by rw [eu]; exact ltb q9
  refine ⟨FR_fr hF (by have h1 := hU.1; omega) (by have h1 := hU.1; have h2 := ltb q0; show _ < 1000000; omega), ?_⟩
  refine ⟨(by have h1 := hU.1; have h2 := ltb q0; show ¬ _ = 1000000; omega), ?_⟩
  obtain ⟨t1, h, hS1⟩ := wrr_ok h hS eu hU.1
  exact hK h (FR_pr' hF hlu (fun j g1 g2 g3 => (by have h1 := hU.1; omega)) (by omega)) hS1
noncomputable def xi_Ca (n a_u : Nat) (t : X8) (κ : X8 → Bool) : Bool :=
  and (Nat.blt (n + 1) 117) <| and (Nat.blt a_u n) <| wri t a_u 0 8 fun t1 => wri t1 a_u 1 8 fun t3 => wri t3 a_u 2 1 fun t5 => wrr t5 a_u 3 n fun t7 => κ t7
set_option maxRecDepth 20000 in
set_option maxHeartbeats 4000000 in
theorem xsi_Ca {U : ut} {u n a_u : Nat} {S : cs} {t : X8} {K : cs → Prop} {κ : X8 → Bool} (h : xi_Ca n a_u t κ = true) (hU : PX U n) (eu : u = a_u) (hF : FR S n) (hS : RC S t) (hK : ∀ {S' : cs} {t' : X8}, κ t' = true → FR S' (n + 1) → RC S' t' → K S') : p_Ca_init U u S K := by
  unfold p_Ca_init
  unfold xi_Ca at h
  obtain ⟨q0, h⟩ := an_ok h
  obtain ⟨q9, h⟩ := an_ok h
  have hlu : u < n := by rw [eu]; exact ltb q9
  obtain ⟨t1, h, hS2⟩ := wri_ok h hS eu (rfl : (8 : Int32) = Int32.ofNat 8)
  obtain ⟨t3, h, hS4⟩ := wri_ok h hS2 eu (rfl : (8 : Int32) = Int32.ofNat 8)
  obtain ⟨t5, h, hS6⟩ := wri_ok h hS4 eu (rfl : (1 : Int32) = Int32.ofNat 1)
  refine ⟨FR_fr (FR_pi' (FR_pi' (FR_pi' hF (by have h1 := hU.1; have h2 := ltb q0; have h3 := hlu;  omega)) (by have h1 := hU.1; have h2 := ltb q0; have h3 := hlu;  omega)) (by have h1 := hU.1; have h2 := ltb q0; have h3 := hlu;  omega)) (by have h1 := hU.1; omega) (by have h1 := hU.1; have h2 := ltb q0; show _ < 1000000; omega), ?_⟩
  refine ⟨(by have h1 := hU.1; have h2 := ltb q0; show ¬ _ = 1000000; omega), ?_⟩
  obtain ⟨t7, h, hS8⟩ := wrr_ok h hS6 eu hU.1
  exact hK h (FR_le (FR_pr' (m' := n + 1) (FR_pi' (FR_pi' (FR_pi' hF (by have h1 := hU.1; have h2 := ltb q0; have h3 := hlu;  omega)) (by have h1 := hU.1; have h2 := ltb q0; have h3 := hlu;  omega)) (by have h1 := hU.1; have h2 := ltb q0; have h3 := hlu;  omega)) (by have h1 := hU.1; have h2 := ltb q0; have h3 := hlu;  omega) (fun j g1 g2 g3 => (by have h1 := hU.1; omega)) (by omega)) (by omega)) hS8
noncomputable def xi_Wa (n a_u : Nat) (t : X8) (κ : X8 → Bool) : Bool :=
  and (Nat.blt (n + 4) 117) <| and (Nat.blt a_u n) <| wrr t a_u 0 n fun t1 => wrr t1 a_u 1 (n + 1) fun t3 => wrr t3 a_u 2 (n + 2) fun t5 => and (chkU (n + 0) ext_Wa_init) <| wrr t5 a_u 3 (n + 3) fun t9 => x_q_Wa_init_36_v (n + 4) a_u t9 κ
set_option maxRecDepth 20000 in
set_option maxHeartbeats 4000000 in
theorem xsi_Wa {U : ut} {u n a_u : Nat} {S : cs} {t : X8} {K : cs → Prop} {κ : X8 → Bool} (h : xi_Wa n a_u t κ = true) (hU : PX U n) (eu : u = a_u) (hF : FR S n) (hS : RC S t) (hK : ∀ {S' : cs} {t' : X8}, κ t' = true → FR S' (n + 4) → RC S' t' → K S') : p_Wa_init U u S K := by
  unfold p_Wa_init
  unfold xi_Wa at h
  obtain ⟨q0, h⟩ := an_ok h
  obtain ⟨q9, h⟩ := an_ok h
  have hlu : u < n := by rw [eu]; exact ltb q9
  refine ⟨FR_fr hF (by have h1 := hU.1; omega) (by have h1 := hU.1; have h2 := ltb q0; show _ < 1000000; omega), ?_⟩
  refine ⟨(by have h1 := hU.1; have h2 := ltb q0; show ¬ _ = 1000000; omega), ?_⟩
  obtain ⟨t1, h, hS2⟩ := wrr_ok h hS eu hU.1
  refine ⟨FR_fr (FR_pr' (m' := n + 1) hF (by have h1 := hU.1; have h2 := ltb q0; have h3 := hlu;  omega) (fun j g1 g2 g3 => (by have h1 := hU.1; omega)) (by omega)) (by have h1 := hU.1; omega) (by have h1 := hU.1; have h2 := ltb q0; show _ < 1000000; omega), ?_⟩
  refine ⟨(by have h1 := hU.1; have h2 := ltb q0; show ¬ _ = 1000000; omega), ?_⟩
  obtain ⟨t3, h, hS4⟩ := wrr_ok h hS2 eu (ulen hU)
  refine ⟨FR_fr (FR_pr' (m' := n + 2) (FR_pr' (m' := n + 1) hF (by have h1 := hU.1; have h2 := ltb q0; have h3 := hlu;  omega) (fun j g1 g2 g3 => (by have h1 := hU.1; omega)) (by omega)) (by have h1 := hU.1; have h2 := ltb q0; have h3 := hlu;  omega) (fun j g1 g2 g3 => (by have h1 := hU.1; omega)) (by omega)) (by have h1 := hU.1; omega) (by have h1 := hU.1; have h2 := ltb q0; show _ < 1000000; omega), ?_⟩
  refine ⟨(by have h1 := hU.1; have h2 := ltb q0; show ¬ _ = 1000000; omega), ?_⟩
  obtain ⟨t5, h, hS6⟩ := wrr_ok h hS4 eu (ulen hU)
  refine ⟨FR_fr (FR_pr' (m' := n + 3) (FR_pr' (m' := n + 2) (FR_pr' (m' := n + 1) hF (by have h1 := hU.1; have h2 := ltb q0; have h3 := hlu;  omega) (fun j g1 g2 g3 => (by have h1 := hU.1; omega)) (by omega)) (by have h1 := hU.1; have h2 := ltb q0; have h3 := hlu;  omega) (fun j g1 g2 g3 => (by have h1 := hU.1; omega)) (by omega)) (by have h1 := hU.1; have h2 := ltb q0; have h3 := hlu;  omega) (fun j g1 g2 g3 => (by have h1 := hU.1; omega)) (by omega)) (by have h1 := hU.1; omega) (by have h1 := hU.1; have h2 := ltb q0; show _ < 1000000; omega), ?_⟩
  refine ⟨(by have h1 := hU.1; have h2 := ltb q0; show ¬ _ = 1000000; omega), ?_⟩
  obtain ⟨q7, h⟩ := an_ok h
  have hU8 : PX _ (n + 4) := PX_apps hU q7
  obtain ⟨t9, h, hS10⟩ := wrr_ok h hS6 eu (ulen hU)
  exact xs_q_Wa_init_36_v h hU8 eu ⟨hS10, FR_le (FR_pr' (m' := n + 4) (FR_pr' (m' := n + 3) (FR_pr' (m' := n + 2) (FR_pr' (m' := n + 1) hF (by have h1 := hU.1; have h2 := ltb q0; have h3 := hlu;  omega) (fun j g1 g2 g3 => (by have h1 := hU.1; omega)) (by omega)) (by have h1 := hU.1; have h2 := ltb q0; have h3 := hlu;  omega) (fun j g1 g2 g3 => (by have h1 := hU.1; omega)) (by omega)) (by have h1 := hU.1; have h2 := ltb q0; have h3 := hlu;  omega) (fun j g1 g2 g3 => (by have h1 := hU.1; omega)) (by omega)) (by have h1 := hU.1; have h2 := ltb q0; have h3 := hlu;  omega) (fun j g1 g2 g3 => (by have h1 := hU.1; omega)) (by omega)) (by omega)⟩ (fun h hV => hK h hV.2 hV.1)
noncomputable def xi_Pi (n a_u : Nat) (t : X8) (κ : X8 → Bool) : Bool :=
  and (Nat.blt (n + 9) 117) <| and (Nat.blt a_u n) <| wri t a_u 0 1 fun t1 => wri t1 a_u 1 1 fun t3 => wri t3 a_u 2 1 fun t5 => and (and (Nat.beq (clx (n + 0)) 902) (Nat.beq (lnx (n + 0)) 3)) <| and (Nat.blt n (n + 1)) <| and (Nat.blt 0 (lnx n)) <| and (Nat.blt n (n + 1)) <| and (Nat.blt 1 (lnx n)) <| and (Nat.blt n (n + 1)) <| and (Nat.blt 2 (lnx n)) <| wra t5 n 0 1 fun t15 => wra t15 n 1 1 fun t17 => wra t17 n 2 1 fun t19 => wrr t19 a_u 3 n fun t21 => and (and (Nat.beq (clx (n + 1)) 902) (Nat.beq (lnx (n + 1)) 3)) <| and (Nat.blt (n + 1) (n + 2)) <| and (Nat.blt 0 (lnx (n + 1))) <| and (Nat.blt (n + 1) (n + 2)) <| and (Nat.blt 1 (lnx (n + 1))) <| and (Nat.blt (n + 1) (n + 2)) <| and (Nat.blt 2 (lnx (n + 1))) <| wra t21 (n + 1) 0 1 fun t31 => wra t31 (n + 1) 1 1 fun t33 => wra t33 (n + 1) 2 1 fun t35 => wrr t35 a_u 4 (n + 1) fun t37 => wri t37 a_u 5 1 fun t39 => wri t39 a_u 6 1 fun t41 => wri t41 a_u 7 1 fun t43 => wri t43 a_u 8 1 fun t45 => wrr t45 a_u 9 (n + 2) fun t47 => wrr t47 a_u 10 (n + 3) fun t49 => wrr t49 a_u 11 (n + 4) fun t51 => wrr t51 a_u 12 (n + 5) fun t53 => wrr t53 a_u 13 (n + 6) fun t55 => wrr t55 a_u 14 (n + 7) fun t57 => wrr t57 a_u 15 (n + 8) fun t59 => κ t59
set_option maxRecDepth 20000 in
set_option maxHeartbeats 4000000 in
theorem xsi_Pi {U : ut} {u n a_u : Nat} {S : cs} {t : X8} {K : cs → Prop} {κ : X8 → Bool} (h : xi_Pi n a_u t κ = true) (hU : PX U n) (eu : u = a_u) (hF : FR S n) (hS : RC S t) (hK : ∀ {S' : cs} {t' : X8}, κ t' = true → FR S' (n + 9) → RC S' t' → K S') : p_Pi_init U u S K := by
  unfold p_Pi_init
  unfold xi_Pi at h
  obtain ⟨q0, h⟩ := an_ok h
  obtain ⟨q9, h⟩ := an_ok h
  have hlu : u < n := by rw [eu]; exact ltb q9
  obtain ⟨t1, h, hS2⟩ := wri_ok h hS eu (rfl : (1 : Int32) = Int32.ofNat 1)
  obtain ⟨t3, h, hS4⟩ := wri_ok h hS2 eu (rfl : (1 : Int32) = Int32.ofNat 1)
  obtain ⟨t5, h, hS6⟩ := wri_ok h hS4 eu (rfl : (1 : Int32) = Int32.ofNat 1)
  refine ⟨FR_fr (FR_pi' (FR_pi' (FR_pi' hF (by have h1 := hU.1; have h2 := ltb q0; have h3 := hlu;  omega)) (by have h1 := hU.1; have h2 := ltb q0; have h3 := hlu;  omega)) (by have h1 := hU.1; have h2 := ltb q0; have h3 := hlu;  omega)) (by have h1 := hU.1; omega) (by have h1 := hU.1; have h2 := ltb q0; show _ < 1000000; omega), ?_⟩
  obtain ⟨q7, h⟩ := an_ok h
  have hU8 : PX _ (n + 1) := PX_app hU q7
  obtain ⟨q9, h⟩ := an_ok h
  obtain ⟨q10, h⟩ := an_ok h
  refine ⟨vpc_okU hU8 q9 q10 (rfl : (0 : Int32) = Int32.ofNat 0) hU.1, ?_⟩
  obtain ⟨q11, h⟩ := an_ok h
  obtain ⟨q12, h⟩ := an_ok h
  refine ⟨vpc_okU hU8 q11 q12 (rfl : (1 : Int32) = Int32.ofNat 1) hU.1, ?_⟩
  obtain ⟨q13, h⟩ := an_ok h
  obtain ⟨q14, h⟩ := an_ok h
  refine ⟨vpc_okU hU8 q13 q14 (rfl : (2 : Int32) = Int32.ofNat 2) hU.1, ?_⟩
  refine ⟨(by have h1 := hU.1; have h2 := ltb q0; show ¬ _ = 1000000; omega), ?_⟩
  obtain ⟨t15, h, hS16⟩ := wra_ok h hS6 hU.1 (rfl : (0 : Int32) = Int32.ofNat 0) (rfl : (1 : Int32) = Int32.ofNat 1)
  obtain ⟨t17, h, hS18⟩ := wra_ok h hS16 hU.1 (rfl : (1 : Int32) = Int32.ofNat 1) (rfl : (1 : Int32) = Int32.ofNat 1)
  obtain ⟨t19, h, hS20⟩ := wra_ok h hS18 hU.1 (rfl : (2 : Int32) = Int32.ofNat 2) (rfl : (1 : Int32) = Int32.ofNat 1)
  obtain ⟨t21, h, hS22⟩ := wrr_ok h hS20 eu hU.1
  refine ⟨FR_fr (FR_pr' (m' := n + 1) (FR_pi' (FR_pi' (FR_pi' (FR_le (m' := n + 1) (FR_pi' (FR_pi' (FR_pi' hF (by have h1 := hU.1; have h2 := ltb q0; have h3 := hlu;  omega)) (by have h1 := hU.1; have h2 := ltb q0; have h3 := hlu;  omega)) (by have h1 := hU.1; have h2 := ltb q0; have h3 := hlu;  omega)) (by omega)) (by have h1 := hU.1; have h2 := ltb q0; have h3 := hlu;  omega)) (by have h1 := hU.1; have h2 := ltb q0; have h3 := hlu;  omega)) (by have h1 := hU.1; have h2 := ltb q0; have h3 := hlu;  omega)) (by have h1 := hU.1; have h2 := ltb q0; have h3 := hlu;  omega) (fun j g1 g2 g3 => (by have h1 := hU.1; omega)) (by omega)) (by have h1 := hU.1; omega) (by have h1 := hU.1; have h2 := ltb q0; show _ < 1000000; omega), ?_⟩
  obtain ⟨q23, h⟩ := an_ok h
  have hU24 : PX _ (n + 2) := PX_app hU8 q23
  obtain ⟨q25, h⟩ := an_ok h
  obtain ⟨q26, h⟩ := an_ok h
  refine ⟨vpc_okU hU24 q25 q26 (rfl : (0 : Int32) = Int32.ofNat 0) (ulen hU), ?_⟩
  obtain ⟨q27, h⟩ := an_ok h
  obtain ⟨q28, h⟩ := an_ok h
  refine ⟨vpc_okU hU24 q27 q28 (rfl : (1 : Int32) = Int32.ofNat 1) (ulen hU), ?_⟩
  obtain ⟨q29, h⟩ := an_ok h
  obtain ⟨q30, h⟩ := an_ok h
  refine ⟨vpc_okU hU24 q29 q30 (rfl : (2 : Int32) = Int32.ofNat 2) (ulen hU), ?_⟩
  refine ⟨(by have h1 := hU.1; have h2 := ltb q0; show ¬ _ = 1000000; omega), ?_⟩
  obtain ⟨t31, h, hS32⟩ := wra_ok h hS22 (ulen hU) (rfl : (0 : Int32) = Int32.ofNat 0) (rfl : (1 : Int32) = Int32.ofNat 1)
  obtain ⟨t33, h, hS34⟩ := wra_ok h hS32 (ulen hU) (rfl : (1 : Int32) = Int32.ofNat 1) (rfl : (1 : Int32) = Int32.ofNat 1)
  obtain ⟨t35, h, hS36⟩ := wra_ok h hS34 (ulen hU) (rfl : (2 : Int32) = Int32.ofNat 2) (rfl : (1 : Int32) = Int32.ofNat 1)
  obtain ⟨t37, h, hS38⟩ := wrr_ok h hS36 eu (ulen hU)
  obtain ⟨t39, h, hS40⟩ := wri_ok h hS38 eu (rfl : (1 : Int32) = Int32.ofNat 1)
  obtain ⟨t41, h, hS42⟩ := wri_ok h hS40 eu (rfl : (1 : Int32) = Int32.ofNat 1)
  obtain ⟨t43, h, hS44⟩ := wri_ok h hS42 eu (rfl : (1 : Int32) = Int32.ofNat 1)
  obtain ⟨t45, h, hS46⟩ := wri_ok h hS44 eu (rfl : (1 : Int32) = Int32.ofNat 1)
  refine ⟨FR_fr (FR_pi' (FR_pi' (FR_pi' (FR_pi' (FR_pr' (m' := n + 2) (FR_pi' (FR_pi' (FR_pi' (FR_le (m' := n + 2) (FR_pr' (m' := n + 1) (FR_pi' (FR_pi' (FR_pi' (FR_le (m' := n + 1) (FR_pi' (FR_pi' (FR_pi' hF (by have h1 := hU.1; have h2 := ltb q0; have h3 := hlu;  omega)) (by have h1 := hU.1; have h2 := ltb q0; have h3 := hlu;  omega)) (by have h1 := hU.1; have h2 := ltb q0; have h3 := hlu;  omega)) (by omega)) (by have h1 := hU.1; have h2 := ltb q0; have h3 := hlu;  omega)) (by have h1 := hU.1; have h2 := ltb q0; have h3 := hlu;  omega)) (by have h1 := hU.1; have h2 := ltb q0; have h3 := hlu;  omega)) (by have h1 := hU.1; have h2 := ltb q0; have h3 := hlu;  omega) (fun j g1 g2 g3 => (by have h1 := hU.1; omega)) (by omega)) (by omega)) (by have h1 := hU.1; have h2 := ltb q0; have h3 := hlu;  omega)) (by have h1 := hU.1; have h2 := ltb q0; have h3 := hlu;  omega)) (by have h1 := hU.1; have h2 := ltb q0; have h3 := hlu;  omega)) (by have h1 := hU.1; have h2 := ltb q0; have h3 := hlu;  omega) (fun j g1 g2 g3 => (by have h1 := hU.1; omega)) (by omega)) (by have h1 := hU.1; have h2 := ltb q0; have h3 := hlu;  omega)) (by have h1 := hU.1; have h2 := ltb q0; have h3 := hlu;  omega)) (by have h1 := hU.1; have h2 := ltb q0; have h3 := hlu;  omega)) (by have h1 := hU.1; have h2 := ltb q0; have h3 := hlu;  omega)) (by have h1 := hU.1; omega) (by have h1 := hU.1; have h2 := ltb q0; show _ < 1000000; omega), ?_⟩
  refine ⟨(by have h1 := hU.1; have h2 := ltb q0; show ¬ _ = 1000000; omega), ?_⟩
  obtain ⟨t47, h, hS48⟩ := wrr_ok h hS46 eu (ulen hU)
  refine ⟨FR_fr (FR_pr' (m' := n + 3) (FR_pi' (FR_pi' (FR_pi' (FR_pi' (FR_pr' (m' := n + 2) (FR_pi' (FR_pi' (FR_pi' (FR_le (m' := n + 2) (FR_pr' (m' := n + 1) (FR_pi' (FR_pi' (FR_pi' (FR_le (m' := n + 1) (FR_pi' (FR_pi' (FR_pi' hF (by have h1 := hU.1; have h2 := ltb q0; have h3 := hlu;  omega)) (by have h1 := hU.1; have h2 := ltb q0; have h3 := hlu;  omega)) (by have h1 := hU.1; have h2 := ltb q0; have h3 := hlu;  omega)) (by omega)) (by have h1 := hU.1; have h2 := ltb q0; have h3 := hlu;  omega)) (by have h1 := hU.1; have h2 := ltb q0; have h3 := hlu;  omega)) (by have h1 := hU.1; have h2 := ltb q0; have h3 := hlu;  omega)) (by have h1 := hU.1; have h2 := ltb q0; have h3 := hlu;  omega) (fun j g1 g2 g3 => (by have h1 := hU.1; omega)) (by omega)) (by omega)) (by have h1 := hU.1; have h2 := ltb q0; have h3 := hlu;  omega)) (by have h1 := hU.1; have h2 := ltb q0; have h3 := hlu;  omega)) (by have h1 := hU.1; have h2 := ltb q0; have h3 := hlu;  omega)) (by have h1 := hU.1; have h2 := ltb q0; have h3 := hlu;  omega) (fun j g1 g2 g3 => (by have h1 := hU.1; omega)) (by omega)) (by have h1 := hU.1; have h2 := ltb q0; have h3 := hlu;  omega)) (by have h1 := hU.1; have h2 := ltb q0; have h3 := hlu;  omega)) (by have h1 := hU.1; have h2 := ltb q0; have h3 := hlu;  omega)) (by have h1 := hU.1; have h2 := ltb q0; have h3 := hlu;  omega)) (by have h1 := hU.1; have h2 := ltb q0; have h3 := hlu;  omega) (fun j g1 g2 g3 => (by have h1 := hU.1; omega)) (by omega)) (by have h1 := hU.1; omega) (by have h1 := hU.1; have h2 := ltb q0; show _ < 1000000; omega), ?_⟩
  refine ⟨(by have h1 := hU.1; have h2 := ltb q0; show ¬ _ = 1000000; omega), ?_⟩
  obtain ⟨t49, h, hS50⟩ := wrr_ok h hS48 eu (ulen hU)
  refine ⟨FR_fr (FR_pr' (m' := n + 4) (FR_pr' (m' := n + 3) (FR_pi' (FR_pi' (FR_pi' (FR_pi' (FR_pr' (m' := n + 2) (FR_pi' (FR_pi' (FR_pi' (FR_le (m' := n + 2) (FR_pr' (m' := n + 1) (FR_pi' (FR_pi' (FR_pi' (FR_le (m' := n + 1) (FR_pi' (FR_pi' (FR_pi' hF (by have h1 := hU.1; have h2 := ltb q0; have h3 := hlu;  omega)) (by have h1 := hU.1; have h2 := ltb q0; have h3 := hlu;  omega)) (by have h1 := hU.1; have h2 := ltb q0; have h3 := hlu;  omega)) (by omega)) (by have h1 := hU.1; have h2 := ltb q0; have h3 := hlu;  omega)) (by have h1 := hU.1; have h2 := ltb q0; have h3 := hlu;  omega)) (by have h1 := hU.1; have h2 := ltb q0; have h3 := hlu;  omega)) (by have h1 := hU.1; have h2 := ltb q0; have h3 := hlu;  omega) (fun j g1 g2 g3 => (by have h1 := hU.1; omega)) (by omega)) (by omega)) (by have h1 := hU.1; have h2 := ltb q0; have h3 := hlu;  omega)) (by have h1 := hU.1; have h2 := ltb q0; have h3 := hlu;  omega)) (by have h1 := hU.1; have h2 := ltb q0; have h3 := hlu;  omega)) (by have h1 := hU.1; have h2 := ltb q0; have h3 := hlu;  omega) (fun j g1 g2 g3 => (by have h1 := hU.1; omega)) (by omega)) (by have h1 := hU.1; have h2 := ltb q0; have h3 := hlu;  omega)) (by have h1 := hU.1; have h2 := ltb q0; have h3 := hlu;  omega)) (by have h1 := hU.1; have h2 := ltb q0; have h3 := hlu;  omega)) (by have h1 := hU.1; have h2 := ltb q0; have h3 := hlu;  omega)) (by have h1 := hU.1; have h2 := ltb q0; have h3 := hlu;  omega) (fun j g1 g2 g3 => (by have h1 := hU.1; omega)) (by omega)) (by have h1 := hU.1; have h2 := ltb q0; have h3 := hlu;  omega) (fun j g1 g2 g3 => (by have h1 := hU.1; omega)) (by omega)) (by have h1 := hU.1; omega) (by have h1 := hU.1; have h2 := ltb q0; show _ < 1000000; omega), ?_⟩
  refine ⟨(by have h1 := hU.1; have h2 := ltb q0; show ¬ _ = 1000000; omega), ?_⟩
  obtain ⟨t51, h, hS52⟩ := wrr_ok h hS50 eu (ulen hU)
  refine ⟨FR_fr (FR_pr' (m' := n + 5) (FR_pr' (m' := n + 4) (FR_pr' (m' := n + 3) (FR_pi' (FR_pi' (FR_pi' (FR_pi' (FR_pr' (m' := n + 2) (FR_pi' (FR_pi' (FR_pi' (FR_le (m' := n + 2) (FR_pr' (m' := n + 1) (FR_pi' (FR_pi' (FR_pi' (FR_le (m' := n + 1) (FR_pi' (FR_pi' (FR_pi' hF (by have h1 := hU.1; have h2 := ltb q0; have h3 := hlu;  omega)) (by have h1 := hU.1; have h2 := ltb q0; have h3 := hlu;  omega)) (by have h1 := hU.1; have h2 := ltb q0; have h3 := hlu;  omega)) (by omega)) (by have h1 := hU.1; have h2 := ltb q0; have h3 := hlu;  omega)) (by have h1 := hU.1; have h2 := ltb q0; have h3 := hlu;  omega)) (by have h1 := hU.1; have h2 := ltb q0; have h3 := hlu;  omega)) (by have h1 := hU.1; have h2 := ltb q0; have h3 := hlu;  omega) (fun j g1 g2 g3 => (by have h1 := hU.1; omega)) (by omega)) (by omega)) (by have h1 := hU.1; have h2 := ltb q0; have h3 := hlu;  omega)) (by have h1 := hU.1; have h2 := ltb q0; have h3 := hlu;  omega)) (by have h1 := hU.1; have h2 := ltb q0; have h3 := hlu;  omega)) (by have h1 := hU.1; have h2 := ltb q0; have h3 := hlu;  omega) (fun j g1 g2 g3 => (by have h1 := hU.1; omega)) (by omega)) (by have h1 := hU.1; have h2 := ltb q0; have h3 := hlu;  omega)) (by have h1 := hU.1; have h2 := ltb q0; have h3 := hlu;  omega)) (by have h1 := hU.1; have h2 := ltb q0; have h3 := hlu;  omega)) (by have h1 := hU.1; have h2 := ltb q0; have h3 := hlu;  omega)) (by have h1 := hU.1; have h2 := ltb q0; have h3 := hlu;  omega) (fun j g1 g2 g3 => (by have h1 := hU.1; omega)) (by omega)) (by have h1 := hU.1; have h2 := ltb q0; have h3 := hlu;  omega) (fun j g1 g2 g3 => (by have h1 := hU.1; omega)) (by omega)) (by have h1 := hU.1; have h2 := ltb q0; have h3 := hlu;  omega) (fun j g1 g2 g3 => (by have h1 := hU.1; omega)) (by omega)) (by have h1 := hU.1; omega) (by have h1 := hU.1; have h2 := ltb q0; show _ < 1000000; omega), ?_⟩
  refine ⟨(by have h1 := hU.1; have h2 := ltb q0; show ¬ _ = 1000000; omega), ?_⟩
  obtain ⟨t53, h, hS54⟩ := wrr_ok h hS52 eu (ulen hU)
  refine ⟨FR_fr (FR_pr' (m' := n + 6) (FR_pr' (m' := n + 5) (FR_pr' (m' := n + 4) (FR_pr' (m' := n + 3) (FR_pi' (FR_pi' (FR_pi' (FR_pi' (FR_pr' (m' := n + 2) (FR_pi' (FR_pi' (FR_pi' (FR_le (m' := n + 2) (FR_pr' (m' := n + 1) (FR_pi' (FR_pi' (FR_pi' (FR_le (m' := n + 1) (FR_pi' (FR_pi' (FR_pi' hF (by have h1 := hU.1; have h2 := ltb q0; have h3 := hlu;  omega)) (by have h1 := hU.1; have h2 := ltb q0; have h3 := hlu;  omega)) (by have h1 := hU.1; have h2 := ltb q0; have h3 := hlu;  omega)) (by omega)) (by have h1 := hU.1; have h2 := ltb q0; have h3 := hlu;  omega)) (by have h1 := hU.1; have h2 := ltb q0; have h3 := hlu;  omega)) (by have h1 := hU.1; have h2 := ltb q0; have h3 := hlu;  omega)) (by have h1 := hU.1; have h2 := ltb q0; have h3 := hlu;  omega) (fun j g1 g2 g3 => (by have h1 := hU.1; omega)) (by omega)) (by omega)) (by have h1 := hU.1; have h2 := ltb q0; have h3 := hlu;  omega)) (by have h1 := hU.1; have h2 := ltb q0; have h3 := hlu;  omega)) (by have h1 := hU.1; have h2 := ltb q0; have h3 := hlu;  omega)) (by have h1 := hU.1; have h2 := ltb q0; have h3 := hlu;  omega) (fun j g1 g2 g3 => (by have h1 := hU.1; omega)) (by omega)) (by have h1 := hU.1; have h2 := ltb q0; have h3 := hlu;  omega)) (by have h1 := hU.1; have h2 := ltb q0; have h3 := hlu;  omega)) (by have h1 := hU.1; have h2 := ltb q0; have h3 := hlu;  omega)) (by have h1 := hU.1; have h2 := ltb q0; have h3 := hlu;  omega)) (by have h1 := hU.1; have h2 := ltb q0; have h3 := hlu;  omega) (fun j g1 g2 g3 => (by have h1 := hU.1; omega)) (by omega)) (by have h1 := hU.1; have h2 := ltb q0; have h3 := hlu;  omega) (fun j g1 g2 g3 => (by have h1 := hU.1; omega)) (by omega)) (by have h1 := hU.1; have h2 := ltb q0; have h3 := hlu;  omega) (fun j g1 g2 g3 => (by have h1 := hU.1; omega)) (by omega)) (by have h1 := hU.1; have h2 := ltb q0; have h3 := hlu;  omega) (fun j g1 g2 g3 => (by have h1 := hU.1; omega)) (by omega)) (by have h1 := hU.1; omega) (by have h1 := hU.1; have h2 := ltb q0; show _ < 1000000; omega), ?_⟩
  refine ⟨(by have h1 := hU.1; have h2 := ltb q0; show ¬ _ = 1000000; omega), ?_⟩
  obtain ⟨t55, h, hS56⟩ := wrr_ok h hS54 eu (ulen hU)
  refine ⟨FR_fr (FR_pr' (m' := n + 7) (FR_pr' (m' := n + 6) (FR_pr' (m' := n + 5) (FR_pr' (m' := n + 4) (FR_pr' (m' := n + 3) (FR_pi' (FR_pi' (FR_pi' (FR_pi' (FR_pr' (m' := n + 2) (FR_pi' (FR_pi' (FR_pi' (FR_le (m' := n + 2) (FR_pr' (m' := n + 1) (FR_pi' (FR_pi' (FR_pi' (FR_le (m' := n + 1) (FR_pi' (FR_pi' (FR_pi' hF (by have h1 := hU.1; have h2 := ltb q0; have h3 := hlu;  omega)) (by have h1 := hU.1; have h2 := ltb q0; have h3 := hlu;  omega)) (by have h1 := hU.1; have h2 := ltb q0; have h3 := hlu;  omega)) (by omega)) (by have h1 := hU.1; have h2 := ltb q0; have h3 := hlu;  omega)) (by have h1 := hU.1; have h2 := ltb q0; have h3 := hlu;  omega)) (by have h1 := hU.1; have h2 := ltb q0; have h3 := hlu;  omega)) (by have h1 := hU.1; have h2 := ltb q0; have h3 := hlu;  omega) (fun j g1 g2 g3 => (by have h1 := hU.1; omega)) (by omega)) (by omega)) (by have h1 := hU.1; have h2 := ltb q0; have h3 := hlu;  omega)) (by have h1 := hU.1; have h2 := ltb q0; have h3 := hlu;  omega)) (by have h1 := hU.1; have h2 := ltb q0; have h3 := hlu;  omega)) (by have h1 := hU.1; have h2 := ltb q0; have h3 := hlu;  omega) (fun j g1 g2 g3 => (by have h1 := hU.1; omega)) (by omega)) (by have h1 := hU.1; have h2 := ltb q0; have h3 := hlu;  omega)) (by have h1 := hU.1; have h2 := ltb q0; have h3 := hlu;  omega)) (by have h1 := hU.1; have h2 := ltb q0; have h3 := hlu;  omega)) (by have h1 := hU.1; have h2 := ltb q0; have h3 := hlu;  omega)) (by have h1 := hU.1; have h2 := ltb q0; have h3 := hlu;  omega) (fun j g1 g2 g3 => (by have h1 := hU.1; omega)) (by omega)) (by have h1 := hU.1; have h2 := ltb q0; have h3 := hlu;  omega) (fun j g1 g2 g3 => (by have h1 := hU.1; omega)) (by omega)) (by have h1 := hU.1; have h2 := ltb q0; have h3 := hlu;  omega) (fun j g1 g2 g3 => (by have h1 := hU.1; omega)) (by omega)) (by have h1 := hU.1; have h2 := ltb q0; have h3 := hlu;  omega) (fun j g1 g2 g3 => (by have h1 := hU.1; omega)) (by omega)) (by have h1 := hU.1; have h2 := ltb q0; have h3 := hlu;  omega) (fun j g1 g2 g3 => (by have h1 := hU.1; omega)) (by omega)) (by have h1 := hU.1; omega) (by have h1 := hU.1; have h2 := ltb q0; show _ < 1000000; omega), ?_⟩
  refine ⟨(by have h1 := hU.1; have h2 := ltb q0; show ¬ _ = 1000000; omega), ?_⟩
  obtain ⟨t57, h, hS58⟩ := wrr_ok h hS56 eu (ulen hU)
  refine ⟨FR_fr (FR_pr' (m' := n + 8) (FR_pr' (m' := n + 7) (FR_pr' (m' := n + 6) (FR_pr' (m' := n + 5) (FR_pr' (m' := n + 4) (FR_pr' (m' := n + 3) (FR_pi' (FR_pi' (FR_pi' (FR_pi' (FR_pr' (m' := n + 2) (FR_pi' (FR_pi' (FR_pi' (FR_le (m' := n + 2) (FR_pr' (m' := n + 1) (FR_pi' (FR_pi' (FR_pi' (FR_le (m' := n + 1) (FR_pi' (FR_pi' (FR_pi' hF (by have h1 := hU.1; have h2 := ltb q0; have h3 := hlu;  omega)) (by have h1 := hU.1; have h2 := ltb q0; have h3 := hlu;  omega)) (by have h1 := hU.1; have h2 := ltb q0; have h3 := hlu;  omega)) (by omega)) (by have h1 := hU.1; have h2 := ltb q0; have h3 := hlu;  omega)) (by have h1 := hU.1; have h2 := ltb q0; have h3 := hlu;  omega)) (by have h1 := hU.1; have h2 := ltb q0; have h3 := hlu;  omega)) (by have h1 := hU.1; have h2 := ltb q0; have h3 := hlu;  omega) (fun j g1 g2 g3 => (by have h1 := hU.1; omega)) (by omega)) (by omega)) (by have h1 := hU.1; have h2 := ltb q0; have h3 := hlu;  omega)) (by have h1 := hU.1; have h2 := ltb q0; have h3 := hlu;  omega)) (by have h1 := hU.1; have h2 := ltb q0; have h3 := hlu;  omega)) (by have h1 := hU.1; have h2 := ltb q0; have h3 := hlu;  omega) (fun j g1 g2 g3 => (by have h1 := hU.1; omega)) (by omega)) (by have h1 := hU.1; have h2 := ltb q0; have h3 := hlu;  omega)) (by have h1 := hU.1; have h2 := ltb q0; have h3 := hlu;  omega)) (by have h1 := hU.1; have h2 := ltb q0; have h3 := hlu;  omega)) (by have h1 := hU.1; have h2 := ltb q0; have h3 := hlu;  omega)) (by have h1 := hU.1; have h2 := ltb q0; have h3 := hlu;  omega) (fun j g1 g2 g3 => (by have h1 := hU.1; omega)) (by omega)) (by have h1 := hU.1; have h2 := ltb q0; have h3 := hlu;  omega) (fun j g1 g2 g3 => (by have h1 := hU.1; omega)) (by omega)) (by have h1 := hU.1; have h2 := ltb q0; have h3 := hlu;  omega) (fun j g1 g2 g3 => (by have h1 := hU.1; omega)) (by omega)) (by have h1 := hU.1; have h2 := ltb q0; have h3 := hlu;  omega) (fun j g1 g2 g3 => (by have h1 := hU.1; omega)) (by omega)) (by have h1 := hU.1; have h2 := ltb q0; have h3 := hlu;  omega) (fun j g1 g2 g3 => (by have h1 := hU.1; omega)) (by omega)) (by have h1 := hU.1; have h2 := ltb q0; have h3 := hlu;  omega) (fun j g1 g2 g3 => (by have h1 := hU.1; omega)) (by omega)) (by have h1 := hU.1; omega) (by have h1 := hU.1; have h2 := ltb q0; show _ < 1000000; omega), ?_⟩
  refine ⟨(by have h1 := hU.1; have h2 := ltb q0; show ¬ _ = 1000000; omega), ?_⟩
  obtain ⟨t59, h, hS60⟩ := wrr_ok h hS58 eu (ulen hU)
  exact hK h (FR_le (FR_pr' (m' := n + 9) (FR_pr' (m' := n + 8) (FR_pr' (m' := n + 7) (FR_pr' (m' := n + 6) (FR_pr' (m' := n + 5) (FR_pr' (m' := n + 4) (FR_pr' (m' := n + 3) (FR_pi' (FR_pi' (FR_pi' (FR_pi' (FR_pr' (m' := n + 2) (FR_pi' (FR_pi' (FR_pi' (FR_le (m' := n + 2) (FR_pr' (m' := n + 1) (FR_pi' (FR_pi' (FR_pi' (FR_le (m' := n + 1) (FR_pi' (FR_pi' (FR_pi' hF (by have h1 := hU.1; have h2 := ltb q0; have h3 := hlu;  omega)) (by have h1 := hU.1; have h2 := ltb q0; have h3 := hlu;  omega)) (by have h1 := hU.1; have h2 := ltb q0; have h3 := hlu;  omega)) (by omega)) (by have h1 := hU.1; have h2 := ltb q0; have h3 := hlu;  omega)) (by have h1 := hU.1; have h2 := ltb q0; have h3 := hlu;  omega)) (by have h1 := hU.1; have h2 := ltb q0; have h3 := hlu;  omega)) (by have h1 := hU.1; have h2 := ltb q0; have h3 := hlu;  omega) (fun j g1 g2 g3 => (by have h1 := hU.1; omega)) (by omega)) (by omega)) (by have h1 := hU.1; have h2 := ltb q0; have h3 := hlu;  omega)) (by have h1 := hU.1; have h2 := ltb q0; have h3 := hlu;  omega)) (by have h1 := hU.1; have h2 := ltb q0; have h3 := hlu;  omega)) (by have h1 := hU.1; have h2 := ltb q0; have h3 := hlu;  omega) (fun j g1 g2 g3 => (by have h1 := hU.1; omega)) (by omega)) (by have h1 := hU.1; have h2 := ltb q0; have h3 := hlu;  omega)) (by have h1 := hU.1; have h2 := ltb q0; have h3 := hlu;  omega)) (by have h1 := hU.1; have h2 := ltb q0; have h3 := hlu;  omega)) (by have h1 := hU.1; have h2 := ltb q0; have h3 := hlu;  omega)) (by have h1 := hU.1; have h2 := ltb q0; have h3 := hlu;  omega) (fun j g1 g2 g3 => (by have h1 := hU.1; omega)) (by omega)) (by have h1 := hU.1; have h2 := ltb q0; have h3 := hlu;  omega) (fun j g1 g2 g3 => (by have h1 := hU.1; omega)) (by omega)) (by have h1 := hU.1; have h2 := ltb q0; have h3 := hlu;  omega) (fun j g1 g2 g3 => (by have h1 := hU.1; omega)) (by omega)) (by have h1 := hU.1; have h2 := ltb q0; have h3 := hlu;  omega) (fun j g1 g2 g3 => (by have h1 := hU.1; omega)) (by omega)) (by have h1 := hU.1; have h2 := ltb q0; have h3 := hlu;  omega) (fun j g1 g2 g3 => (by have h1 := hU.1; omega)) (by omega)) (by have h1 := hU.1; have h2 := ltb q0; have h3 := hlu;  omega) (fun j g1 g2 g3 => (by have h1 := hU.1; omega)) (by omega)) (by have h1 := hU.1; have h2 := ltb q0; have h3 := hlu;  omega) (fun j g1 g2 g3 => (by have h1 := hU.1; omega)) (by omega)) (by omega)) hS60
noncomputable def xi_Sc (n a_u : Nat) (t : X8) (κ : X8 → Bool) : Bool :=
  and (Nat.blt (n + 4) 117) <| and (Nat.blt a_u n) <| wrr t a_u 1 n fun t1 => wrr t1 a_u 2 (n + 1) fun t3 => wrr t3 a_u 3 (n + 2) fun t5 => wrr t5 a_u 7 (n + 3) fun t7 => κ t7
set_option maxRecDepth 20000 in
set_option maxHeartbeats 4000000 in
theorem xsi_Sc {U : ut} {u n a_u : Nat} {S : cs} {t : X8} {K : cs → Prop} {κ : X8 → Bool} (h : xi_Sc n a_u t κ = true) (hU : PX U n) (eu : u = a_u) (hF : FR S n) (hS : RC S t) (hK : ∀ {S' : cs} {t' : X8}, κ t' = true → FR S' (n + 4) → RC S' t' → K S') : p_Sc_init U u S K := by
  unfold p_Sc_init
  unfold xi_Sc at h
  obtain ⟨q0, h⟩ := an_ok h
  obtain ⟨q9, h⟩ := an_ok h
  have hlu : u < n := by rw [eu]; exact ltb q9
  refine ⟨FR_fr hF (by have h1 := hU.1; omega) (by have h1 := hU.1; have h2 := ltb q0; show _ < 1000000; omega), ?_⟩
  refine ⟨(by have h1 := hU.1; have h2 := ltb q0; show ¬ _ = 1000000; omega), ?_⟩
  obtain ⟨t1, h, hS2⟩ := wrr_ok h hS eu hU.1
  refine ⟨FR_fr (FR_pr' (m' := n + 1) hF (by have h1 := hU.1; have h2 := ltb q0; have h3 := hlu;  omega) (fun j g1 g2 g3 => (by have h1 := hU.1; omega)) (by omega)) (by have h1 := hU.1; omega) (by have h1 := hU.1; have h2 := ltb q0; show _ < 1000000; omega), ?_⟩
  refine ⟨(by have h1 := hU.1; have h2 := ltb q0; show ¬ _ = 1000000; omega), ?_⟩
  obtain ⟨t3, h, hS4⟩ := wrr_ok h hS2 eu (ulen hU)
  refine ⟨FR_fr (FR_pr' (m' := n + 2) (FR_pr' (m' := n + 1) hF (by have h1 := hU.1; have h2 := ltb q0; have h3 := hlu;  omega) (fun j g1 g2 g3 => (by have h1 := hU.1; omega)) (by omega)) (by have h1 := hU.1; have h2 := ltb q0; have h3 := hlu;  omega) (fun j g1 g2 g3 => (by have h1 := hU.1; omega)) (by omega)) (by have h1 := hU.1; omega) (by have h1 := hU.1; have h2 := ltb q0; show _ < 1000000; omega), ?_⟩
  refine ⟨(by have h1 := hU.1; have h2 := ltb q0; show ¬ _ = 1000000; omega), ?_⟩
  obtain ⟨t5, h, hS6⟩ := wrr_ok h hS4 eu (ulen hU)
  refine ⟨FR_fr (FR_pr' (m' := n + 3) (FR_pr' (m' := n + 2) (FR_pr' (m' := n + 1) hF (by have h1 := hU.1; have h2 := ltb q0; have h3 := hlu;  omega) (fun j g1 g2 g3 => (by have h1 := hU.1; omega)) (by omega)) (by have h1 := hU.1; have h2 := ltb q0; have h3 := hlu;  omega) (fun j g1 g2 g3 => (by have h1 := hU.1; omega)) (by omega)) (by have h1 := hU.1; have h2 := ltb q0; have h3 := hlu;  omega) (fun j g1 g2 g3 => (by have h1 := hU.1; omega)) (by omega)) (by have h1 := hU.1; omega) (by have h1 := hU.1; have h2 := ltb q0; show _ < 1000000; omega), ?_⟩
  refine ⟨(by have h1 := hU.1; have h2 := ltb q0; show ¬ _ = 1000000; omega), ?_⟩
  obtain ⟨t7, h, hS8⟩ := wrr_ok h hS6 eu (ulen hU)
  exact hK h (FR_le (FR_pr' (m' := n + 4) (FR_pr' (m' := n + 3) (FR_pr' (m' := n + 2) (FR_pr' (m' := n + 1) hF (by have h1 := hU.1; have h2 := ltb q0; have h3 := hlu;  omega) (fun j g1 g2 g3 => (by have h1 := hU.1; omega)) (by omega)) (by have h1 := hU.1; have h2 := ltb q0; have h3 := hlu;  omega) (fun j g1 g2 g3 => (by have h1 := hU.1; omega)) (by omega)) (by have h1 := hU.1; have h2 := ltb q0; have h3 := hlu;  omega) (fun j g1 g2 g3 => (by have h1 := hU.1; omega)) (by omega)) (by have h1 := hU.1; have h2 := ltb q0; have h3 := hlu;  omega) (fun j g1 g2 g3 => (by have h1 := hU.1; omega)) (by omega)) (by omega)) hS8
noncomputable def xi_Li (n a_u : Nat) (t : X8) (κ : X8 → Bool) : Bool :=
  and (Nat.blt (n + 4) 117) <| and (Nat.blt a_u n) <| wrr t a_u 0 n fun t1 => wrr t1 a_u 2 (n + 1) fun t3 => wrr t3 a_u 3 (n + 2) fun t5 => wrr t5 a_u 4 (n + 3) fun t7 => κ t7
set_option maxRecDepth 20000 in
set_option maxHeartbeats 4000000 in
theorem xsi_Li {U : ut} {u n a_u : Nat} {S : cs} {t : X8} {K : cs → Prop} {κ : X8 → Bool} (h : xi_Li n a_u t κ = true) (hU : PX U n) (eu : u = a_u) (hF : FR S n) (hS : RC S t) (hK : ∀ {S' : cs} {t' : X8}, κ t' = true → FR S' (n + 4) → RC S' t' → K S') : p_Li_init U u S K := by
  unfold p_Li_init
  unfold xi_Li at h
  obtain ⟨q0, h⟩ := an_ok h
  obtain ⟨q9, h⟩ := an_ok h
  have hlu : u < n := by rw [eu]; exact ltb q9
  refine ⟨FR_fr hF (by have h1 := hU.1; omega) (by have h1 := hU.1; have h2 := ltb q0; show _ < 1000000; omega), ?_⟩
  refine ⟨(by have h1 := hU.1; have h2 := ltb q0; show ¬ _ = 1000000; omega), ?_⟩
  obtain ⟨t1, h, hS2⟩ := wrr_ok h hS eu hU.1
  refine ⟨FR_fr (FR_pr' (m' := n + 1) hF (by have h1 := hU.1; have h2 := ltb q0; have h3 := hlu;  omega) (fun j g1 g2 g3 => (by have h1 := hU.1; omega)) (by omega)) (by have h1 := hU.1; omega) (by have h1 := hU.1; have h2 := ltb q0; show _ < 1000000; omega), ?_⟩
  refine ⟨(by have h1 := hU.1; have h2 := ltb q0; show ¬ _ = 1000000; omega), ?_⟩
  obtain ⟨t3, h, hS4⟩ := wrr_ok h hS2 eu (ulen hU)
  refine ⟨FR_fr (FR_pr' (m' := n + 2) (FR_pr' (m' := n + 1) hF (by have h1 := hU.1; have h2 := ltb q0; have h3 := hlu;  omega) (fun j g1 g2 g3 => (by have h1 := hU.1; omega)) (by omega)) (by have h1 := hU.1; have h2 := ltb q0; have h3 := hlu;  omega) (fun j g1 g2 g3 => (by have h1 := hU.1; omega)) (by omega)) (by have h1 := hU.1; omega) (by have h1 := hU.1; have h2 := ltb q0; show _ < 1000000; omega), ?_⟩
  refine ⟨(by have h1 := hU.1; have h2 := ltb q0; show ¬ _ = 1000000; omega), ?_⟩
  obtain ⟨t5, h, hS6⟩ := wrr_ok h hS4 eu (ulen hU)
  refine ⟨FR_fr (FR_pr' (m' := n + 3) (FR_pr' (m' := n + 2) (FR_pr' (m' := n + 1) hF (by have h1 := hU.1; have h2 := ltb q0; have h3 := hlu;  omega) (fun j g1 g2 g3 => (by have h1 := hU.1; omega)) (by omega)) (by have h1 := hU.1; have h2 := ltb q0; have h3 := hlu;  omega) (fun j g1 g2 g3 => (by have h1 := hU.1; omega)) (by omega)) (by have h1 := hU.1; have h2 := ltb q0; have h3 := hlu;  omega) (fun j g1 g2 g3 => (by have h1 := hU.1; omega)) (by omega)) (by have h1 := hU.1; omega) (by have h1 := hU.1; have h2 := ltb q0; show _ < 1000000; omega), ?_⟩
  refine ⟨(by have h1 := hU.1; have h2 := ltb q0; show ¬ _ = 1000000; omega), ?_⟩
  obtain ⟨t7, h, hS8⟩ := wrr_ok h hS6 eu (ulen hU)
  exact hK h (FR_le (FR_pr' (m' := n + 4) (FR_pr' (m' := n + 3) (FR_pr' (m' := n + 2) (FR_pr' (m' := n + 1) hF (by have h1 := hU.1; have h2 := ltb q0; have h3 := hlu;  omega) (fun j g1 g2 g3 => (by have h1 := hU.1; omega)) (by omega)) (by have h1 := hU.1; have h2 := ltb q0; have h3 := hlu;  omega) (fun j g1 g2 g3 => (by have h1 := hU.1; omega)) (by omega)) (by have h1 := hU.1; have h2 := ltb q0; have h3 := hlu;  omega) (fun j g1 g2 g3 => (by have h1 := hU.1; omega)) (by omega)) (by have h1 := hU.1; have h2 := ltb q0; have h3 := hlu;  omega) (fun j g1 g2 g3 => (by have h1 := hU.1; omega)) (by omega)) (by omega)) hS8
noncomputable def xi_Oc (n a_u : Nat) (t : X8) (κ : X8 → Bool) : Bool :=
  and (Nat.blt (n + 5) 117) <| and (Nat.blt a_u n) <| wrr t a_u 0 n fun t1 => wrr t1 a_u 1 (n + 1) fun t3 => wrr t3 a_u 2 (n + 2) fun t5 => wrr t5 a_u 3 (n + 3) fun t7 => wrr t7 a_u 5 (n + 4) fun t9 => κ t9
set_option maxRecDepth 20000 in
set_option maxHeartbeats 4000000 in
theorem xsi_Oc {U : ut} {u n a_u : Nat} {S : cs} {t : X8} {K : cs → Prop} {κ : X8 → Bool} (h : xi_Oc n a_u t κ = true) (hU : PX U n) (eu : u = a_u) (hF : FR S n) (hS : RC S t) (hK : ∀ {S' : cs} {t' : X8}, κ t' = true → FR S' (n + 5) → RC S' t' → K S') : p_Oc_init U u S K := by
  unfold p_Oc_init
  unfold xi_Oc at h
  obtain ⟨q0, h⟩ := an_ok h
  obtain ⟨q9, h⟩ := an_ok h
  have hlu : u < n := by rw [eu]; exact ltb q9
  refine ⟨FR_fr hF (by have h1 := hU.1; omega) (by have h1 := hU.1; have h2 := ltb q0; show _ < 1000000; omega), ?_⟩
  refine ⟨(by have h1 := hU.1; have h2 := ltb q0; show ¬ _ = 1000000; omega), ?_⟩
  obtain ⟨t1, h, hS2⟩ := wrr_ok h hS eu hU.1
  refine ⟨FR_fr (FR_pr' (m' := n + 1) hF (by have h1 := hU.1; have h2 := ltb q0; have h3 := hlu;  omega) (fun j g1 g2 g3 => (by have h1 := hU.1; omega)) (by omega)) (by have h1 := hU.1; omega) (by have h1 := hU.1; have h2 := ltb q0; show _ < 1000000; omega), ?_⟩
  refine ⟨(by have h1 := hU.1; have h2 := ltb q0; show ¬ _ = 1000000; omega), ?_⟩
  obtain ⟨t3, h, hS4⟩ := wrr_ok h hS2 eu (ulen hU)
  refine ⟨FR_fr (FR_pr' (m' := n + 2) (FR_pr' (m' := n + 1) hF (by have h1 := hU.1; have h2 := ltb q0; have h3 := hlu;  omega) (fun j g1 g2 g3 => (by have h1 := hU.1; omega)) (by omega)) (by have h1 := hU.1; have h2 := ltb q0; have h3 := hlu;  omega) (fun j g1 g2 g3 => (by have h1 := hU.1; omega)) (by omega)) (by have h1 := hU.1; omega) (by have h1 := hU.1; have h2 := ltb q0; show _ < 1000000; omega), ?_⟩
  refine ⟨(by have h1 := hU.1; have h2 := ltb q0; show ¬ _ = 1000000; omega), ?_⟩
  obtain ⟨t5, h, hS6⟩ := wrr_ok h hS4 eu (ulen hU)
  refine ⟨FR_fr (FR_pr' (m' := n + 3) (FR_pr' (m' := n + 2) (FR_pr' (m' := n + 1) hF (by have h1 := hU.1; have h2 := ltb q0; have h3 := hlu;  omega) (fun j g1 g2 g3 => (by have h1 := hU.1; omega)) (by omega)) (by have h1 := hU.1; have h2 := ltb q0; have h3 := hlu;  omega) (fun j g1 g2 g3 => (by have h1 := hU.1; omega)) (by omega)) (by have h1 := hU.1; have h2 := ltb q0; have h3 := hlu;  omega) (fun j g1 g2 g3 => (by have h1 := hU.1; omega)) (by omega)) (by have h1 := hU.1; omega) (by have h1 := hU.1; have h2 := ltb q0; show _ < 1000000; omega), ?_⟩
  refine ⟨(by have h1 := hU.1; have h2 := ltb q0; show ¬ _ = 1000000; omega), ?_⟩
  obtain ⟨t7, h, hS8⟩ := wrr_ok h hS6 eu (ulen hU)
  refine ⟨FR_fr (FR_pr' (m' := n + 4) (FR_pr' (m' := n + 3) (FR_pr' (m' := n + 2) (FR_pr' (m' := n + 1) hF (by have h1 := hU.1; have h2 := ltb q0; have h3 := hlu;  omega) (fun j g1 g2 g3 => (by have h1 := hU.1; omega)) (by omega)) (by have h1 := hU.1; have h2 := ltb q0; have h3 := hlu;  omega) (fun j g1 g2 g3 => (by have h1 := hU.1; omega)) (by omega)) (by have h1 := hU.1; have h2 := ltb q0; have h3 := hlu;  omega) (fun j g1 g2 g3 => (by have h1 := hU.1; omega)) (by omega)) (by have h1 := hU.1; have h2 := ltb q0; have h3 := hlu;  omega) (fun j g1 g2 g3 => (by have h1 := hU.1; omega)) (by omega)) (by have h1 := hU.1; omega) (by have h1 := hU.1; have h2 := ltb q0; show _ < 1000000; omega), ?_⟩
  refine ⟨(by have h1 := hU.1; have h2 := ltb q0; show ¬ _ = 1000000; omega), ?_⟩
  obtain ⟨t9, h, hS10⟩ := wrr_ok h hS8 eu (ulen hU)
  exact hK h (FR_le (FR_pr' (m' := n + 5) (FR_pr' (m' := n + 4) (FR_pr' (m' := n + 3) (FR_pr' (m' := n + 2) (FR_pr' (m' := n + 1) hF (by have h1 := hU.1; have h2 := ltb q0; have h3 := hlu;  omega) (fun j g1 g2 g3 => (by have h1 := hU.1; omega)) (by omega)) (by have h1 := hU.1; have h2 := ltb q0; have h3 := hlu;  omega) (fun j g1 g2 g3 => (by have h1 := hU.1; omega)) (by omega)) (by have h1 := hU.1; have h2 := ltb q0; have h3 := hlu;  omega) (fun j g1 g2 g3 => (by have h1 := hU.1; omega)) (by omega)) (by have h1 := hU.1; have h2 := ltb q0; have h3 := hlu;  omega) (fun j g1 g2 g3 => (by have h1 := hU.1; omega)) (by omega)) (by have h1 := hU.1; have h2 := ltb q0; have h3 := hlu;  omega) (fun j g1 g2 g3 => (by have h1 := hU.1; omega)) (by omega)) (by omega)) hS10
noncomputable def xi_Pa (n a_u : Nat) (t : X8) (κ : X8 → Bool) : Bool :=
  and (Nat.blt (n + 54) 117) <| and (Nat.blt a_u n) <| and (and (Nat.beq (clx (n + 0)) 9) (Nat.beq (lnx (n + 0)) 0)) <| xi_Ro (n + 1) n t (fun t_S11 => wrr t_S11 a_u 0 n fun t3 => and (and (Nat.beq (clx (n + 1)) 902) (Nat.beq (lnx (n + 1)) 65536)) <| and (and (Nat.beq (clx (n + 2)) 12) (Nat.beq (lnx (n + 2)) 0)) <| xi_Wa (n + 3) (n + 2) t3 (fun t_S22 => wrr t_S22 a_u 1 (n + 2) fun t9 => and (chkU (n + 3) [(902, 64), (902, 64), (902, 64), (904, 64)]) <| and (and (Nat.beq (clx (n + 7)) 7) (Nat.beq (lnx (n + 7)) 0)) <| xi_Pi (n + 8) (n + 7) t9 (fun t_S33 => wrr t_S33 a_u 2 (n + 7) fun t15 => and (chkU (n + 8) [(902, 3), (902, 3), (902, 3), (902, 3), (902, 3), (902, 3), (902, 12288), (902, 192), (902, 12288)]) <| and (and (Nat.beq (clx (n + 17)) 10) (Nat.beq (lnx (n + 17)) 0)) <| xi_Sc (n + 18) (n + 17) t15 (fun t_S44 => wrr t_S44 a_u 3 (n + 17) fun t21 => and (chkU (n + 18) [(902, 3), (902, 3), (902, 3), (902, 192)]) <| and (and (Nat.beq (clx (n + 22)) 4) (Nat.beq (lnx (n + 22)) 0)) <| xi_Li (n + 23) (n + 22) t21 (fun t_S55 => wrr t_S55 a_u 4 (n + 22) fun t27 => and (chkU (n + 23) [(902, 257), (903, 8224), (902, 514), (902, 514)]) <| and (and (Nat.beq (clx (n + 27)) 950) (Nat.beq (lnx (n + 27)) 2)) <| and (and (Nat.beq (clx (n + 28)) 5) (Nat.beq (lnx (n + 28)) 0)) <| xi_Oc (n + 29) (n + 28) t27 (fun t_S72 => and (chkU (n + 29) [(902, 257), (902, 257), (902, 256), (902, 256), (902, 17)]) <| and (Nat.blt (n + 27) (n + 34)) <| and (Nat.blt 0 (lnx (n + 27))) <| wrr t_S72 (n + 27) 0 (n + 28) fun t39 => and (and (Nat.beq (clx (n + 34)) 5) (Nat.beq (lnx (n + 34)) 0)) <| xi_Oc (n + 35) (n + 34) t39 (fun t_S82 => and (chkU (n + 35) [(902, 257), (902, 257), (902, 256), (902, 256), (902, 17)]) <| and (Nat.blt (n + 27) (n + 40)) <| and (Nat.blt 1 (lnx (n + 27))) <| wrr t_S82 (n + 27) 1 (n + 34) fun t47 => wrr t47 a_u 5 (n + 27) fun t49 => and (and (Nat.beq (clx (n + 40)) 950) (Nat.beq (lnx (n + 40)) 2)) <| and (and (Nat.beq (clx (n + 41)) 5) (Nat.beq (lnx (n + 41)) 0)) <| xi_Oc (n + 42) (n + 41) t49 (fun t_S100 => and (chkU (n + 42) [(902, 257), (902, 257), (902, 256), (902, 256), (902, 17)]) <| and (Nat.blt (n + 40) (n + 47)) <| and (Nat.blt 0 (lnx (n + 40))) <| wrr t_S100 (n + 40) 0 (n + 41) fun t59 => and (and (Nat.beq (clx (n + 47)) 5) (Nat.beq (lnx (n + 47)) 0)) <| xi_Oc (n + 48) (n + 47) t59 (fun t_S110 => and (chkU (n + 48) [(902, 257), (902, 257), (902, 256), (902, 256), (902, 17)]) <| and (Nat.blt (n + 40) (n + 53)) <| and (Nat.blt 1 (lnx (n + 40))) <| wrr t_S110 (n + 40) 1 (n + 47) fun t67 => wrr t67 a_u 6 (n + 40) fun t69 => wrr t69 a_u 7 (n + 53) fun t71 => κ t71)))))))))
set_option maxRecDepth 20000 in
set_option maxHeartbeats 4000000 in
theorem xsi_Pa {U : ut} {u n a_u : Nat} {S : cs} {t : X8} {K : cs → Prop} {κ : X8 → Bool} (h : xi_Pa n a_u t κ = true) (hU : PX U n) (eu : u = a_u) (hF : FR S n) (hS : RC S t) (hK : ∀ {S' : cs} {t' : X8}, κ t' = true → FR S' (n + 54) → RC S' t' → K S') : p_Pa_init U u S K := by
  unfold p_Pa_init
  unfold xi_Pa at h
  obtain ⟨q0, h⟩ := an_ok h
  obtain ⟨q9, h⟩ := an_ok h
  have hlu : u < n := by rw [eu]; exact ltb q9
  refine ⟨FR_fr hF (by have h1 := hU.1; omega) (by have h1 := hU.1; have h2 := ltb q0; show _ < 1000000; omega), ?_⟩
  obtain ⟨q1, h⟩ := an_ok h
  have hU2 : PX _ (n + 1) := PX_app hU q1
  refine xsi_Ro h hU2 hU.1 (FR_le hF (by omega)) hS (fun {S11} {t_S11} h hF_S11 hS_S11 => ?_)
  have hF_S11 : FR S11 (n + 2) := hF_S11
  refine ⟨(by have h1 := hU.1; have h2 := ltb q0; show ¬ _ = 1000000; omega), ?_⟩
  obtain ⟨t3, h, hS4⟩ := wrr_ok h hS_S11 eu hU.1
  refine ⟨FR_fr (FR_pr' (m' := n + 2) hF_S11 (by have h1 := hU.1; have h2 := ltb q0; have h3 := hlu;  omega) (fun j g1 g2 g3 => (by have h1 := hU.1; omega)) (by omega)) (by have h1 := hU.1; omega) (by have h1 := hU.1; have h2 := ltb q0; show _ < 1000000; omega), ?_⟩
  obtain ⟨q5, h⟩ := an_ok h
  have hU6 : PX _ (n + 2) := PX_app hU2 q5
  obtain ⟨q7, h⟩ := an_ok h
  have hU8 : PX _ (n + 3) := PX_app hU6 q7
  refine xsi_Wa h hU8 (ulen hU) (FR_le (FR_pr' (m' := n + 2) hF_S11 (by have h1 := hU.1; have h2 := ltb q0; have h3 := hlu;  omega) (fun j g1 g2 g3 => (by have h1 := hU.1; omega)) (by omega)) (by omega)) hS4 (fun {S22} {t_S22} h hF_S22 hS_S22 => ?_)
  have hF_S22 : FR S22 (n + 7) := hF_S22
  refine ⟨(by have h1 := hU.1; have h2 := ltb q0; show ¬ _ = 1000000; omega), ?_⟩
  obtain ⟨t9, h, hS10⟩ := wrr_ok h hS_S22 eu (ulen hU)
  refine ⟨FR_fr (FR_pr' (m' := n + 7) hF_S22 (by have h1 := hU.1; have h2 := ltb q0; have h3 := hlu;  omega) (fun j g1 g2 g3 => (by have h1 := hU.1; omega)) (by omega)) (by have h1 := hU.1; omega) (by have h1 := hU.1; have h2 := ltb q0; show _ < 1000000; omega), ?_⟩
  obtain ⟨q11, h⟩ := an_ok h
  have hU12 : PX _ (n + 7) := PX_apps hU8 q11
  obtain ⟨q13, h⟩ := an_ok h
  have hU14 : PX _ (n + 8) := PX_app hU12 q13
  refine xsi_Pi h hU14 (ulen hU) (FR_le (FR_pr' (m' := n + 7) hF_S22 (by have h1 := hU.1; have h2 := ltb q0; have h3 := hlu;  omega) (fun j g1 g2 g3 => (by have h1 := hU.1; omega)) (by omega)) (by omega)) hS10 (fun {S33} {t_S33} h hF_S33 hS_S33 => ?_)
  have hF_S33 : FR S33 (n + 17) := hF_S33
  refine ⟨(by have h1 := hU.1; have h2 := ltb q0; show ¬ _ = 1000000; omega), ?_⟩
  obtain ⟨t15, h, hS16⟩ := wrr_ok h hS_S33 eu (ulen hU)
  refine ⟨FR_fr (FR_pr' (m' := n + 17) hF_S33 (by have h1 := hU.1; have h2 := ltb q0; have h3 := hlu;  omega) (fun j g1 g2 g3 => (by have h1 := hU.1; omega)) (by omega)) (by have h1 := hU.1; omega) (by have h1 := hU.1; have h2 := ltb q0; show _ < 1000000; omega), ?_⟩
  obtain ⟨q17, h⟩ := an_ok h
  have hU18 : PX _ (n + 17) := PX_apps hU14 q17
  obtain ⟨q19, h⟩ := an_ok h
  have hU20 : PX _ (n + 18) := PX_app hU18 q19
  refine xsi_Sc h hU20 (ulen hU) (FR_le (FR_pr' (m' := n + 17) hF_S33 (by have h1 := hU.1; have h2 := ltb q0; have h3 := hlu;  omega) (fun j g1 g2 g3 => (by have h1 := hU.1; omega)) (by omega)) (by omega)) hS16 (fun {S44} {t_S44} h hF_S44 hS_S44 => ?_)
  have hF_S44 : FR S44 (n + 22) := hF_S44
  refine ⟨(by have h1 := hU.1; have h2 := ltb q0; show ¬ _ = 1000000; omega), ?_⟩
  obtain ⟨t21, h, hS22⟩ := wrr_ok h hS_S44 eu (ulen hU)
  refine ⟨FR_fr (FR_pr' (m' := n + 22) hF_S44 (by have h1 := hU.1; have h2 := ltb q0; have h3 := hlu;  omega) (fun j g1 g2 g3 => (by have h1 := hU.1; omega)) (by omega)) (by have h1 := hU.1; omega) (by have h1 := hU.1; have h2 := ltb q0; show _ < 1000000; omega), ?_⟩
  obtain ⟨q23, h⟩ := an_ok h
  have hU24 : PX _ (n + 22) := PX_apps hU20 q23
  obtain ⟨q25, h⟩ := an_ok h
  have hU26 : PX _ (n + 23) := PX_app hU24 q25
  refine xsi_Li h hU26 (ulen hU) (FR_le (FR_pr' (m' := n + 22) hF_S44 (by have h1 := hU.1; have h2 := ltb q0; have h3 := hlu;  omega) (fun j g1 g2 g3 => (by have h1 := hU.1; omega)) (by omega)) (by omega)) hS22 (fun {S55} {t_S55} h hF_S55 hS_S55 => ?_)
  have hF_S55 : FR S55 (n + 27) := hF_S55
  refine ⟨(by have h1 := hU.1; have h2 := ltb q0; show ¬ _ = 1000000; omega), ?_⟩
  obtain ⟨t27, h, hS28⟩ := wrr_ok h hS_S55 eu (ulen hU)
  refine ⟨FR_fr (FR_pr' (m' := n + 27) hF_S55 (by have h1 := hU.1; have h2 := ltb q0; have h3 := hlu;  omega) (fun j g1 g2 g3 => (by have h1 := hU.1; omega)) (by omega)) (by have h1 := hU.1; omega) (by have h1 := hU.1; have h2 := ltb q0; show _ < 1000000; omega), ?_⟩
  refine ⟨FR_fr (FR_pr' (m' := n + 27) hF_S55 (by have h1 := hU.1; have h2 := ltb q0; have h3 := hlu;  omega) (fun j g1 g2 g3 => (by have h1 := hU.1; omega)) (by omega)) (by have h1 := hU.1; omega) (by have h1 := hU.1; have h2 := ltb q0; show _ < 1000000; omega), ?_⟩
  obtain ⟨q29, h⟩ := an_ok h
  have hU30 : PX _ (n + 27) := PX_apps hU26 q29
  obtain ⟨q31, h⟩ := an_ok h
  have hU32 : PX _ (n + 28) := PX_app hU30 q31
  obtain ⟨q33, h⟩ := an_ok h
  have hU34 : PX _ (n + 29) := PX_app hU32 q33
  refine xsi_Oc h hU34 (ulen hU) (FR_le (FR_pr' (m' := n + 27) hF_S55 (by have h1 := hU.1; have h2 := ltb q0; have h3 := hlu;  omega) (fun j g1 g2 g3 => (by have h1 := hU.1; omega)) (by omega)) (by omega)) hS28 (fun {S72} {t_S72} h hF_S72 hS_S72 => ?_)
  have hF_S72 : FR S72 (n + 34) := hF_S72
  obtain ⟨q35, h⟩ := an_ok h
  have hU36 : PX _ (n + 34) := PX_apps hU34 q35
  obtain ⟨q37, h⟩ := an_ok h
  obtain ⟨q38, h⟩ := an_ok h
  refine ⟨vpc_okU hU36 q37 q38 (rfl : (0 : Int32) = Int32.ofNat 0) (ulen hU), ?_⟩
  refine ⟨(by have h1 := hU.1; have h2 := ltb q0; show ¬ _ = 1000000; omega), ?_⟩
  obtain ⟨t39, h, hS40⟩ := wrr_ok (k := (0 : Int32).toNatClampNeg) h hS_S72 (ulen hU) (ulen hU)
  refine ⟨FR_fr (FR_pr' (m' := n + 34) hF_S72 (by have h1 := hU.1; have h2 := ltb q0; have h3 := hlu;  omega) (fun j g1 g2 g3 => (by have h1 := hU.1; omega)) (by omega)) (by have h1 := hU.1; omega) (by have h1 := hU.1; have h2 := ltb q0; show _ < 1000000; omega), ?_⟩
  obtain ⟨q41, h⟩ := an_ok h
  have hU42 : PX _ (n + 35) := PX_app hU36 q41
  refine xsi_Oc h hU42 (ulen hU) (FR_le (FR_pr' (m' := n + 34) hF_S72 (by have h1 := hU.1; have h2 := ltb q0; have h3 := hlu;  omega) (fun j g1 g2 g3 => (by have h1 := hU.1; omega)) (by omega)) (by omega)) hS40 (fun {S82} {t_S82} h hF_S82 hS_S82 => ?_)
  have hF_S82 : FR S82 (n + 40) := hF_S82
  obtain ⟨q43, h⟩ := an_ok h
  have hU44 : PX _ (n + 40) := PX_apps hU42 q43
  obtain ⟨q45, h⟩ := an_ok h
  obtain ⟨q46, h⟩ := an_ok h
  refine ⟨vpc_okU hU44 q45 q46 (rfl : (1 : Int32) = Int32.ofNat 1) (ulen hU), ?_⟩
  refine ⟨(by have h1 := hU.1; have h2 := ltb q0; show ¬ _ = 1000000; omega), ?_⟩
  refine ⟨(by have h1 := hU.1; have h2 := ltb q0; show ¬ _ = 1000000; omega), ?_⟩
  obtain ⟨t47, h, hS48⟩ := wrr_ok (k := (1 : Int32).toNatClampNeg) h hS_S82 (ulen hU) (ulen hU)
  obtain ⟨t49, h, hS50⟩ := wrr_ok h hS48 eu (ulen hU)
  refine ⟨FR_fr (FR_pr' (m' := n + 40) (FR_pr' (m' := n + 40) hF_S82 (by have h1 := hU.1; have h2 := ltb q0; have h3 := hlu;  omega) (fun j g1 g2 g3 => (by have h1 := hU.1; omega)) (by omega)) (by have h1 := hU.1; have h2 := ltb q0; have h3 := hlu;  omega) (fun j g1 g2 g3 => (by have h1 := hU.1; omega)) (by omega)) (by have h1 := hU.1; omega) (by have h1 := hU.1; have h2 := ltb q0; show _ < 1000000; omega), ?_⟩
  refine ⟨FR_fr (FR_pr' (m' := n + 40) (FR_pr' (m' := n + 40) hF_S82 (by have h1 := hU.1; have h2 := ltb q0; have h3 := hlu;  omega) (fun j g1 g2 g3 => (by have h1 := hU.1; omega)) (by omega)) (by have h1 := hU.1; have h2 := ltb q0; have h3 := hlu;  omega) (fun j g1 g2 g3 => (by have h1 := hU.1; omega)) (by omega)) (by have h1 := hU.1; omega) (by have h1 := hU.1; have h2 := ltb q0; show _ < 1000000; omega), ?_⟩
  obtain ⟨q51, h⟩ := an_ok h
  have hU52 : PX _ (n + 41) := PX_app hU44 q51
  obtain ⟨q53, h⟩ := an_ok h
  have hU54 : PX _ (n + 42) := PX_app hU52 q53
  refine xsi_Oc h hU54 (ulen hU) (FR_le (FR_pr' (m' := n + 40) (FR_pr' (m' := n + 40) hF_S82 (by have h1 := hU.1; have h2 := ltb q0; have h3 := hlu;  omega) (fun j g1 g2 g3 => (by have h1 := hU.1; omega)) (by omega)) (by have h1 := hU.1; have h2 := ltb q0; have h3 := hlu;  omega) (fun j g1 g2 g3 => (by have h1 := hU.1; omega)) (by omega)) (by omega)) hS50 (fun {S100} {t_S100} h hF_S100 hS_S100 => ?_)
  have hF_S100 : FR S100 (n + 47) := hF_S100
  obtain ⟨q55, h⟩ := an_ok h
  have hU56 : PX _ (n + 47) := PX_apps hU54 q55
  obtain ⟨q57, h⟩ := an_ok h
  obtain ⟨q58, h⟩ := an_ok h
  refine ⟨vpc_okU hU56 q57 q58 (rfl : (0 : Int32) = Int32.ofNat 0) (ulen hU), ?_⟩
  refine ⟨(by have h1 := hU.1; have h2 := ltb q0; show ¬ _ = 1000000; omega), ?_⟩
  obtain ⟨t59, h, hS60⟩ := wrr_ok (k := (0 : Int32).toNatClampNeg) h hS_S100 (ulen hU) (ulen hU)
  refine ⟨FR_fr (FR_pr' (m' := n + 47) hF_S100 (by have h1 := hU.1; have h2 := ltb q0; have h3 := hlu;  omega) (fun j g1 g2 g3 => (by have h1 := hU.1; omega)) (by omega)) (by have h1 := hU.1; omega) (by have h1 := hU.1; have h2 := ltb q0; show _ < 1000000; omega), ?_⟩
  obtain ⟨q61, h⟩ := an_ok h
  have hU62 : PX _ (n + 48) := PX_app hU56 q61
  refine xsi_Oc h hU62 (ulen hU) (FR_le (FR_pr' (m' := n + 47) hF_S100 (by have h1 := hU.1; have h2 := ltb q0; have h3 := hlu;  omega) (fun j g1 g2 g3 => (by have h1 := hU.1; omega)) (by omega)) (by omega)) hS60 (fun {S110} {t_S110} h hF_S110 hS_S110 => ?_)
  have hF_S110 : FR S110 (n + 53) := hF_S110
  obtain ⟨q63, h⟩ := an_ok h
  have hU64 : PX _ (n + 53) := PX_apps hU62 q63
  obtain ⟨q65, h⟩ := an_ok h
  obtain ⟨q66, h⟩ := an_ok h
  refine ⟨vpc_okU hU64 q65 q66 (rfl : (1 : Int32) = Int32.ofNat 1) (ulen hU), ?_⟩
  refine ⟨(by have h1 := hU.1; have h2 := ltb q0; show ¬ _ = 1000000; omega), ?_⟩
  refine ⟨(by have h1 := hU.1; have h2 := ltb q0; show ¬ _ = 1000000; omega), ?_⟩
  obtain ⟨t67, h, hS68⟩ := wrr_ok (k := (1 : Int32).toNatClampNeg) h hS_S110 (ulen hU) (ulen hU)
  obtain ⟨t69, h, hS70⟩ := wrr_ok h hS68 eu (ulen hU)
  refine ⟨FR_fr (FR_pr' (m' := n + 53) (FR_pr' (m' := n + 53) hF_S110 (by have h1 := hU.1; have h2 := ltb q0; have h3 := hlu;  omega) (fun j g1 g2 g3 => (by have h1 := hU.1; omega)) (by omega)) (by have h1 := hU.1; have h2 := ltb q0; have h3 := hlu;  omega) (fun j g1 g2 g3 => (by have h1 := hU.1; omega)) (by omega)) (by have h1 := hU.1; omega) (by have h1 := hU.1; have h2 := ltb q0; show _ < 1000000; omega), ?_⟩
  refine ⟨(by have h1 := hU.1; have h2 := ltb q0; show ¬ _ = 1000000; omega), ?_⟩
  obtain ⟨t71, h, hS72⟩ := wrr_ok h hS70 eu (ulen hU)
  exact hK h (FR_le (FR_pr' (m' := n + 54) (FR_pr' (m' := n + 53) (FR_pr' (m' := n + 53) hF_S110 (by have h1 := hU.1; have h2 := ltb q0; have h3 := hlu;  omega) (fun j g1 g2 g3 => (by have h1 := hU.1; omega)) (by omega)) (by have h1 := hU.1; have h2 := ltb q0; have h3 := hlu;  omega) (fun j g1 g2 g3 => (by have h1 := hU.1; omega)) (by omega)) (by have h1 := hU.1; have h2 := ltb q0; have h3 := hlu;  omega) (fun j g1 g2 g3 => (by have h1 := hU.1; omega)) (by omega)) (by omega)) hS72
noncomputable def xi_Re (n a_u : Nat) (t : X8) (κ : X8 → Bool) : Bool :=
  and (Nat.blt (n + 2) 117) <| and (Nat.blt a_u n) <| and (and (Nat.beq (clx (n + 0)) 9) (Nat.beq (lnx (n + 0)) 0)) <| xi_Ro (n + 1) n t (fun t_S11 => wrr t_S11 a_u 0 n fun t3 => κ t3)
set_option maxRecDepth 20000 in
set_option maxHeartbeats 4000000 in
theorem xsi_Re {U : ut} {u n a_u : Nat} {S : cs} {t : X8} {K : cs → Prop} {κ : X8 → Bool} (h : xi_Re n a_u t κ = true) (hU : PX U n) (eu : u = a_u) (hF : FR S n) (hS : RC S t) (hK : ∀ {S' : cs} {t' : X8}, κ t' = true → FR S' (n + 2) → RC S' t' → K S') : p_Re_init U u S K := by
  unfold p_Re_init
  unfold xi_Re at h
  obtain ⟨q0, h⟩ := an_ok h
  obtain ⟨q9, h⟩ := an_ok h
  have hlu : u < n := by rw [eu]; exact ltb q9
  refine ⟨FR_fr hF (by have h1 := hU.1; omega) (by have h1 := hU.1; have h2 := ltb q0; show _ < 1000000; omega), ?_⟩
  obtain ⟨q1, h⟩ := an_ok h
  have hU2 : PX _ (n + 1) := PX_app hU q1
  refine xsi_Ro h hU2 hU.1 (FR_le hF (by omega)) hS (fun {S11} {t_S11} h hF_S11 hS_S11 => ?_)
  have hF_S11 : FR S11 (n + 2) := hF_S11
  refine ⟨(by have h1 := hU.1; have h2 := ltb q0; show ¬ _ = 1000000; omega), ?_⟩
  obtain ⟨t3, h, hS4⟩ := wrr_ok h hS_S11 eu hU.1
  exact hK h (FR_le (FR_pr' (m' := n + 2) hF_S11 (by have h1 := hU.1; have h2 := ltb q0; have h3 := hlu;  omega) (fun j g1 g2 g3 => (by have h1 := hU.1; omega)) (by omega)) (by omega)) hS4
noncomputable def xi_Co (n a_u : Nat) (t : X8) (κ : X8 → Bool) : Bool :=
  and (Nat.blt (n + 4) 117) <| and (Nat.blt a_u n) <| wrr t a_u 1 n fun t1 => wrr t1 a_u 2 (n + 1) fun t3 => wrr t3 a_u 3 (n + 2) fun t5 => wrr t5 a_u 4 (n + 3) fun t7 => κ t7
set_option maxRecDepth 20000 in
set_option maxHeartbeats 4000000 in
theorem xsi_Co {U : ut} {u n a_u : Nat} {S : cs} {t : X8} {K : cs → Prop} {κ : X8 → Bool} (h : xi_Co n a_u t κ = true) (hU : PX U n) (eu : u = a_u) (hF : FR S n) (hS : RC S t) (hK : ∀ {S' : cs} {t' : X8}, κ t' = true → FR S' (n + 4) → RC S' t' → K S') : p_Co_init U u S K := by
  unfold p_Co_init
  unfold xi_Co at h
  obtain ⟨q0, h⟩ := an_ok h
  obtain ⟨q9, h⟩ := an_ok h
  have hlu : u < n := by rw [eu]; exact ltb q9
  refine ⟨FR_fr hF (by have h1 := hU.1; omega) (by have h1 := hU.1; have h2 := ltb q0; show _ < 1000000; omega), ?_⟩
  refine ⟨(by have h1 := hU.1; have h2 := ltb q0; show ¬ _ = 1000000; omega), ?_⟩
  obtain ⟨t1, h, hS2⟩ := wrr_ok h hS eu hU.1
  refine ⟨FR_fr (FR_pr' (m' := n + 1) hF (by have h1 := hU.1; have h2 := ltb q0; have h3 := hlu;  omega) (fun j g1 g2 g3 => (by have h1 := hU.1; omega)) (by omega)) (by have h1 := hU.1; omega) (by have h1 := hU.1; have h2 := ltb q0; show _ < 1000000; omega), ?_⟩
  refine ⟨(by have h1 := hU.1; have h2 := ltb q0; show ¬ _ = 1000000; omega), ?_⟩
  obtain ⟨t3, h, hS4⟩ := wrr_ok h hS2 eu (ulen hU)
  refine ⟨FR_fr (FR_pr' (m' := n + 2) (FR_pr' (m' := n + 1) hF (by have h1 := hU.1; have h2 := ltb q0; have h3 := hlu;  omega) (fun j g1 g2 g3 => (by have h1 := hU.1; omega)) (by omega)) (by have h1 := hU.1; have h2 := ltb q0; have h3 := hlu;  omega) (fun j g1 g2 g3 => (by have h1 := hU.1; omega)) (by omega)) (by have h1 := hU.1; omega) (by have h1 := hU.1; have h2 := ltb q0; show _ < 1000000; omega), ?_⟩
  refine ⟨(by have h1 := hU.1; have h2 := ltb q0; show ¬ _ = 1000000; omega), ?_⟩
  obtain ⟨t5, h, hS6⟩ := wrr_ok h hS4 eu (ulen hU)
  refine ⟨FR_fr (FR_pr' (m' := n + 3) (FR_pr' (m' := n + 2) (FR_pr' (m' := n + 1) hF (by have h1 := hU.1; have h2 := ltb q0; have h3 := hlu;  omega) (fun j g1 g2 g3 => (by have h1 := hU.1; omega)) (by omega)) (by have h1 := hU.1; have h2 := ltb q0; have h3 := hlu;  omega) (fun j g1 g2 g3 => (by have h1 := hU.1; omega)) (by omega)) (by have h1 := hU.1; have h2 := ltb q0; have h3 := hlu;  omega) (fun j g1 g2 g3 => (by have h1 := hU.1; omega)) (by omega)) (by have h1 := hU.1; omega) (by have h1 := hU.1; have h2 := ltb q0; show _ < 1000000; omega), ?_⟩
  refine ⟨(by have h1 := hU.1; have h2 := ltb q0; show ¬ _ = 1000000; omega), ?_⟩
  obtain ⟨t7, h, hS8⟩ := wrr_ok h hS6 eu (ulen hU)
  exact hK h (FR_le (FR_pr' (m' := n + 4) (FR_pr' (m' := n + 3) (FR_pr' (m' := n + 2) (FR_pr' (m' := n + 1) hF (by have h1 := hU.1; have h2 := ltb q0; have h3 := hlu;  omega) (fun j g1 g2 g3 => (by have h1 := hU.1; omega)) (by omega)) (by have h1 := hU.1; have h2 := ltb q0; have h3 := hlu;  omega) (fun j g1 g2 g3 => (by have h1 := hU.1; omega)) (by omega)) (by have h1 := hU.1; have h2 := ltb q0; have h3 := hlu;  omega) (fun j g1 g2 g3 => (by have h1 := hU.1; omega)) (by omega)) (by have h1 := hU.1; have h2 := ltb q0; have h3 := hlu;  omega) (fun j g1 g2 g3 => (by have h1 := hU.1; omega)) (by omega)) (by omega)) hS8
noncomputable def xi_Un (n a_u : Nat) (t : X8) (κ : X8 → Bool) : Bool :=
  and (Nat.blt (n + 45) 117) <| and (Nat.blt a_u n) <| and (and (Nat.beq (clx (n + 0)) 8) (Nat.beq (lnx (n + 0)) 0)) <| xi_Re (n + 1) n t (fun t_S9 => wrr t_S9 a_u 0 n fun t3 => and (chkU (n + 1) [(9, 0), (902, 32768)]) <| and (and (Nat.beq (clx (n + 3)) 7) (Nat.beq (lnx (n + 3)) 0)) <| xi_Pi (n + 4) (n + 3) t3 (fun t_S20 => wrr t_S20 a_u 1 (n + 3) fun t9 => and (chkU (n + 4) [(902, 3), (902, 3), (902, 3), (902, 3), (902, 3), (902, 3), (902, 12288), (902, 192), (902, 12288)]) <| and (and (Nat.beq (clx (n + 13)) 10) (Nat.beq (lnx (n + 13)) 0)) <| xi_Sc (n + 14) (n + 13) t9 (fun t_S31 => wrr t_S31 a_u 2 (n + 13) fun t15 => wrr t15 a_u 3 (n + 18) fun t17 => wrr t17 a_u 4 (n + 19) fun t19 => and (chkU (n + 14) [(902, 3), (902, 3), (902, 3), (902, 192)]) <| and (and (Nat.beq (clx (n + 18)) 902) (Nat.beq (lnx (n + 18)) 256)) <| and (and (Nat.beq (clx (n + 19)) 903) (Nat.beq (lnx (n + 19)) 4)) <| and (and (Nat.beq (clx (n + 20)) 951) (Nat.beq (lnx (n + 20)) 4)) <| and (and (Nat.beq (clx (n + 21)) 3) (Nat.beq (lnx (n + 21)) 0)) <| xi_Co (n + 22) (n + 21) t19 (fun t_S64 => and (chkU (n + 22) [(902, 17), (902, 17), (902, 17), (902, 256)]) <| and (Nat.blt (n + 20) (n + 26)) <| and (Nat.blt 0 (lnx (n + 20))) <| wrr t_S64 (n + 20) 0 (n + 21) fun t35 => and (and (Nat.beq (clx (n + 26)) 3) (Nat.beq (lnx (n + 26)) 0)) <| xi_Co (n + 27) (n + 26) t35 (fun t_S74 => and (chkU (n + 27) [(902, 17), (902, 17), (902, 17), (902, 256)]) <| and (Nat.blt (n + 20) (n + 31)) <| and (Nat.blt 1 (lnx (n + 20))) <| wrr t_S74 (n + 20) 1 (n + 26) fun t43 => and (and (Nat.beq (clx (n + 31)) 3) (Nat.beq (lnx (n + 31)) 0)) <| xi_Co (n + 32) (n + 31) t43 (fun t_S84 => and (chkU (n + 32) [(902, 17), (902, 17), (902, 17), (902, 256)]) <| and (Nat.blt (n + 20) (n + 36)) <| and (Nat.blt 2 (lnx (n + 20))) <| wrr t_S84 (n + 20) 2 (n + 31) fun t51 => and (and (Nat.beq (clx (n + 36)) 3) (Nat.beq (lnx (n + 36)) 0)) <| xi_Co (n + 37) (n + 36) t51 (fun t_S94 => and (chkU (n + 37) [(902, 17), (902, 17), (902, 17), (902, 256)]) <| and (Nat.blt (n + 20) (n + 41)) <| and (Nat.blt 3 (lnx (n + 20))) <| wrr t_S94 (n + 20) 3 (n + 36) fun t59 => wrr t59 a_u 5 (n + 20) fun t61 => wrr t61 a_u 7 (n + 41) fun t63 => wrr t63 a_u 8 (n + 42) fun t65 => wrr t65 a_u 9 (n + 43) fun t67 => wrr t67 a_u 10 (n + 44) fun t69 => κ t69)))))))
set_option maxRecDepth 20000 in
set_option maxHeartbeats 4000000 in
theorem xsi_Un {U : ut} {u n a_u : Nat} {S : cs} {t : X8} {K : cs → Prop} {κ : X8 → Bool} (h : xi_Un n a_u t κ = true) (hU : PX U n) (eu : u = a_u) (hF : FR S n) (hS : RC S t) (hK : ∀ {S' : cs} {t' : X8}, κ t' = true → FR S' (n + 45) → RC S' t' → K S') : p_Un_init U u S K := by
  unfold p_Un_init
  unfold xi_Un at h
  obtain ⟨q0, h⟩ := an_ok h
  obtain ⟨q9, h⟩ := an_ok h
  have hlu : u < n := by rw [eu]; exact ltb q9
  refine ⟨FR_fr hF (by have h1 := hU.1; omega) (by have h1 := hU.1; have h2 := ltb q0; show _ < 1000000; omega), ?_⟩
  obtain ⟨q1, h⟩ := an_ok h
  have hU2 : PX _ (n + 1) := PX_app hU q1
  refine xsi_Re h hU2 hU.1 (FR_le hF (by omega)) hS (fun {S9} {t_S9} h hF_S9 hS_S9 => ?_)
  have hF_S9 : FR S9 (n + 3) := hF_S9
  refine ⟨(by have h1 := hU.1; have h2 := ltb q0; show ¬ _ = 1000000; omega), ?_⟩
  obtain ⟨t3, h, hS4⟩ := wrr_ok h hS_S9 eu hU.1
  refine ⟨FR_fr (FR_pr' (m' := n + 3) hF_S9 (by have h1 := hU.1; have h2 := ltb q0; have h3 := hlu;  omega) (fun j g1 g2 g3 => (by have h1 := hU.1; omega)) (by omega)) (by have h1 := hU.1; omega) (by have h1 := hU.1; have h2 := ltb q0; show _ < 1000000; omega), ?_⟩
  obtain ⟨q5, h⟩ := an_ok h
  have hU6 : PX _ (n + 3) := PX_apps hU2 q5
  obtain ⟨q7, h⟩ := an_ok h
  have hU8 : PX _ (n + 4) := PX_app hU6 q7
  refine xsi_Pi h hU8 (ulen hU) (FR_le (FR_pr' (m' := n + 3) hF_S9 (by have h1 := hU.1; have h2 := ltb q0; have h3 := hlu;  omega) (fun j g1 g2 g3 => (by have h1 := hU.1; omega)) (by omega)) (by omega)) hS4 (fun {S20} {t_S20} h hF_S20 hS_S20 => ?_)
  have hF_S20 : FR S20 (n + 13) := hF_S20
  refine ⟨(by have h1 := hU.1; have h2 := ltb q0; show ¬ _ = 1000000; omega), ?_⟩
  obtain ⟨t9, h, hS10⟩ := wrr_ok h hS_S20 eu (ulen hU)
  refine ⟨FR_fr (FR_pr' (m' := n + 13) hF_S20 (by have h1 := hU.1; have h2 := ltb q0; have h3 := hlu;  omega) (fun j g1 g2 g3 => (by have h1 := hU.1; omega)) (by omega)) (by have h1 := hU.1; omega) (by have h1 := hU.1; have h2 := ltb q0; show _ < 1000000; omega), ?_⟩
  obtain ⟨q11, h⟩ := an_ok h
  have hU12 : PX _ (n + 13) := PX_apps hU8 q11
  obtain ⟨q13, h⟩ := an_ok h
  have hU14 : PX _ (n + 14) := PX_app hU12 q13
  refine xsi_Sc h hU14 (ulen hU) (FR_le (FR_pr' (m' := n + 13) hF_S20 (by have h1 := hU.1; have h2 := ltb q0; have h3 := hlu;  omega) (fun j g1 g2 g3 => (by have h1 := hU.1; omega)) (by omega)) (by omega)) hS10 (fun {S31} {t_S31} h hF_S31 hS_S31 => ?_)
  have hF_S31 : FR S31 (n + 18) := hF_S31
  refine ⟨(by have h1 := hU.1; have h2 := ltb q0; show ¬ _ = 1000000; omega), ?_⟩
  obtain ⟨t15, h, hS16⟩ := wrr_ok h hS_S31 eu (ulen hU)
  refine ⟨FR_fr (FR_pr' (m' := n + 18) hF_S31 (by have h1 := hU.1; have h2 := ltb q0; have h3 := hlu;  omega) (fun j g1 g2 g3 => (by have h1 := hU.1; omega)) (by omega)) (by have h1 := hU.1; omega) (by have h1 := hU.1; have h2 := ltb q0; show _ < 1000000; omega), ?_⟩
  refine ⟨(by have h1 := hU.1; have h2 := ltb q0; show ¬ _ = 1000000; omega), ?_⟩
  obtain ⟨t17, h, hS18⟩ := wrr_ok h hS16 eu (ulen hU)
  refine ⟨FR_fr (FR_pr' (m' := n + 19) (FR_pr' (m' := n + 18) hF_S31 (by have h1 := hU.1; have h2 := ltb q0; have h3 := hlu;  omega) (fun j g1 g2 g3 => (by have h1 := hU.1; omega)) (by omega)) (by have h1 := hU.1; have h2 := ltb q0; have h3 := hlu;  omega) (fun j g1 g2 g3 => (by have h1 := hU.1; omega)) (by omega)) (by have h1 := hU.1; omega) (by have h1 := hU.1; have h2 := ltb q0; show _ < 1000000; omega), ?_⟩
  refine ⟨(by have h1 := hU.1; have h2 := ltb q0; show ¬ _ = 1000000; omega), ?_⟩
  obtain ⟨t19, h, hS20⟩ := wrr_ok h hS18 eu (ulen hU)
  refine ⟨FR_fr (FR_pr' (m' := n + 20) (FR_pr' (m' := n + 19) (FR_pr' (m' := n + 18) hF_S31 (by have h1 := hU.1; have h2 := ltb q0; have h3 := hlu;  omega) (fun j g1 g2 g3 => (by have h1 := hU.1; omega)) (by omega)) (by have h1 := hU.1; have h2 := ltb q0; have h3 := hlu;  omega) (fun j g1 g2 g3 => (by have h1 := hU.1; omega)) (by omega)) (by have h1 := hU.1; have h2 := ltb q0; have h3 := hlu;  omega) (fun j g1 g2 g3 => (by have h1 := hU.1; omega)) (by omega)) (by have h1 := hU.1; omega) (by have h1 := hU.1; have h2 := ltb q0; show _ < 1000000; omega), ?_⟩
  refine ⟨FR_fr (FR_pr' (m' := n + 20) (FR_pr' (m' := n + 19) (FR_pr' (m' := n + 18) hF_S31 (by have h1 := hU.1; have h2 := ltb q0; have h3 := hlu;  omega) (fun j g1 g2 g3 => (by have h1 := hU.1; omega)) (by omega)) (by have h1 := hU.1; have h2 := ltb q0; have h3 := hlu;  omega) (fun j g1 g2 g3 => (by have h1 := hU.1; omega)) (by omega)) (by have h1 := hU.1; have h2 := ltb q0; have h3 := hlu;  omega) (fun j g1 g2 g3 => (by have h1 := hU.1; omega)) (by omega)) (by have h1 := hU.1; omega) (by have h1 := hU.1; have h2 := ltb q0; show _ < 1000000; omega), ?_⟩
  obtain ⟨q21, h⟩ := an_ok h
  have hU22 : PX _ (n + 18) := PX_apps hU14 q21
  obtain ⟨q23, h⟩ := an_ok h
  have hU24 : PX _ (n + 19) := PX_app hU22 q23
  obtain ⟨q25, h⟩ := an_ok h
  have hU26 : PX _ (n + 20) := PX_app hU24 q25
  obtain ⟨q27, h⟩ := an_ok h
  have hU28 : PX _ (n + 21) := PX_app hU26 q27
  obtain ⟨q29, h⟩ := an_ok h
  have hU30 : PX _ (n + 22) := PX_app hU28 q29
  refine xsi_Co h hU30 (ulen hU) (FR_le (FR_pr' (m' := n + 20) (FR_pr' (m' := n + 19) (FR_pr' (m' := n + 18) hF_S31 (by have h1 := hU.1; have h2 := ltb q0; have h3 := hlu;  omega) (fun j g1 g2 g3 => (by have h1 := hU.1; omega)) (by omega)) (by have h1 := hU.1; have h2 := ltb q0; have h3 := hlu;  omega) (fun j g1 g2 g3 => (by have h1 := hU.1; omega)) (by omega)) (by have h1 := hU.1; have h2 := ltb q0; have h3 := hlu;  omega) (fun j g1 g2 g3 => (by have h1 := hU.1; omega)) (by omega)) (by omega)) hS20 (fun {S64} {t_S64} h hF_S64 hS_S64 => ?_)
  have hF_S64 : FR S64 (n + 26) := hF_S64
  obtain ⟨q31, h⟩ := an_ok h
  have hU32 : PX _ (n + 26) := PX_apps hU30 q31
  obtain ⟨q33, h⟩ := an_ok h
  obtain ⟨q34, h⟩ := an_ok h
  refine ⟨vpc_okU hU32 q33 q34 (rfl : (0 : Int32) = Int32.ofNat 0) (ulen hU), ?_⟩
  refine ⟨(by have h1 := hU.1; have h2 := ltb q0; show ¬ _ = 1000000; omega), ?_⟩
  obtain ⟨t35, h, hS36⟩ := wrr_ok (k := (0 : Int32).toNatClampNeg) h hS_S64 (ulen hU) (ulen hU)
  refine ⟨FR_fr (FR_pr' (m' := n + 26) hF_S64 (by have h1 := hU.1; have h2 := ltb q0; have h3 := hlu;  omega) (fun j g1 g2 g3 => (by have h1 := hU.1; omega)) (by omega)) (by have h1 := hU.1; omega) (by have h1 := hU.1; have h2 := ltb q0; show _ < 1000000; omega), ?_⟩
  obtain ⟨q37, h⟩ := an_ok h
  have hU38 : PX _ (n + 27) := PX_app hU32 q37
  refine xsi_Co h hU38 (ulen hU) (FR_le (FR_pr' (m' := n + 26) hF_S64 (by have h1 := hU.1; have h2 := ltb q0; have h3 := hlu;  omega) (fun j g1 g2 g3 => (by have h1 := hU.1; omega)) (by omega)) (by omega)) hS36 (fun {S74} {t_S74} h hF_S74 hS_S74 => ?_)
  have hF_S74 : FR S74 (n + 31) := hF_S74
  obtain ⟨q39, h⟩ := an_ok h
  have hU40 : PX _ (n + 31) := PX_apps hU38 q39
  obtain ⟨q41, h⟩ := an_ok h
  obtain ⟨q42, h⟩ := an_ok h
  refine ⟨vpc_okU hU40 q41 q42 (rfl : (1 : Int32) = Int32.ofNat 1) (ulen hU), ?_⟩
  refine ⟨(by have h1 := hU.1; have h2 := ltb q0; show ¬ _ = 1000000; omega), ?_⟩
  obtain ⟨t43, h, hS44⟩ := wrr_ok (k := (1 : Int32).toNatClampNeg) h hS_S74 (ulen hU) (ulen hU)
  refine ⟨FR_fr (FR_pr' (m' := n + 31) hF_S74 (by have h1 := hU.1; have h2 := ltb q0; have h3 := hlu;  omega) (fun j g1 g2 g3 => (by have h1 := hU.1; omega)) (by omega)) (by have h1 := hU.1; omega) (by have h1 := hU.1; have h2 := ltb q0; show _ < 1000000; omega), ?_⟩
  obtain ⟨q45, h⟩ := an_ok h
  have hU46 : PX _ (n + 32) := PX_app hU40 q45
  refine xsi_Co h hU46 (ulen hU) (FR_le (FR_pr' (m' := n + 31) hF_S74 (by have h1 := hU.1; have h2 := ltb q0; have h3 := hlu;  omega) (fun j g1 g2 g3 => (by have h1 := hU.1; omega)) (by omega)) (by omega)) hS44 (fun {S84} {t_S84} h hF_S84 hS_S84 => ?_)
  have hF_S84 : FR S84 (n + 36) := hF_S84
  obtain ⟨q47, h⟩ := an_ok h
  have hU48 : PX _ (n + 36) := PX_apps hU46 q47
  obtain ⟨q49, h⟩ := an_ok h
  obtain ⟨q50, h⟩ := an_ok h
  refine ⟨vpc_okU hU48 q49 q50 (rfl : (2 : Int32) = Int32.ofNat 2) (ulen hU), ?_⟩
  refine ⟨(by have h1 := hU.1; have h2 := ltb q0; show ¬ _ = 1000000; omega), ?_⟩
  obtain ⟨t51, h, hS52⟩ := wrr_ok (k := (2 : Int32).toNatClampNeg) h hS_S84 (ulen hU) (ulen hU)
  refine ⟨FR_fr (FR_pr' (m' := n + 36) hF_S84 (by have h1 := hU.1; have h2 := ltb q0; have h3 := hlu;  omega) (fun j g1 g2 g3 => (by have h1 := hU.1; omega)) (by omega)) (by have h1 := hU.1; omega) (by have h1 := hU.1; have h2 := ltb q0; show _ < 1000000; omega), ?_⟩
  obtain ⟨q53, h⟩ := an_ok h
  have hU54 : PX _ (n + 37) := PX_app hU48 q53
  refine xsi_Co h hU54 (ulen hU) (FR_le (FR_pr' (m' := n + 36) hF_S84 (by have h1 := hU.1; have h2 := ltb q0; have h3 := hlu;  omega) (fun j g1 g2 g3 => (by have h1 := hU.1; omega)) (by omega)) (by omega)) hS52 (fun {S94} {t_S94} h hF_S94 hS_S94 => ?_)
  have hF_S94 : FR S94 (n + 41) := hF_S94
  obtain ⟨q55, h⟩ := an_ok h
  have hU56 : PX _ (n + 41) := PX_apps hU54 q55
  obtain ⟨q57, h⟩ := an_ok h
  obtain ⟨q58, h⟩ := an_ok h
  refine ⟨vpc_okU hU56 q57 q58 (rfl : (3 : Int32) = Int32.ofNat 3) (ulen hU), ?_⟩
  refine ⟨(by have h1 := hU.1; have h2 := ltb q0; show ¬ _ = 1000000; omega), ?_⟩
  refine ⟨(by have h1 := hU.1; have h2 := ltb q0; show ¬ _ = 1000000; omega), ?_⟩
  obtain ⟨t59, h, hS60⟩ := wrr_ok (k := (3 : Int32).toNatClampNeg) h hS_S94 (ulen hU) (ulen hU)
  obtain ⟨t61, h, hS62⟩ := wrr_ok h hS60 eu (ulen hU)
  refine ⟨FR_fr (FR_pr' (m' := n + 41) (FR_pr' (m' := n + 41) hF_S94 (by have h1 := hU.1; have h2 := ltb q0; have h3 := hlu;  omega) (fun j g1 g2 g3 => (by have h1 := hU.1; omega)) (by omega)) (by have h1 := hU.1; have h2 := ltb q0; have h3 := hlu;  omega) (fun j g1 g2 g3 => (by have h1 := hU.1; omega)) (by omega)) (by have h1 := hU.1; omega) (by have h1 := hU.1; have h2 := ltb q0; show _ < 1000000; omega), ?_⟩
  refine ⟨(by have h1 := hU.1; have h2 := ltb q0; show ¬ _ = 1000000; omega), ?_⟩
  obtain ⟨t63, h, hS64⟩ := wrr_ok h hS62 eu (ulen hU)
  refine ⟨FR_fr (FR_pr' (m' := n + 42) (FR_pr' (m' := n + 41) (FR_pr' (m' := n + 41) hF_S94 (by have h1 := hU.1; have h2 := ltb q0; have h3 := hlu;  omega) (fun j g1 g2 g3 => (by have h1 := hU.1; omega)) (by omega)) (by have h1 := hU.1; have h2 := ltb q0; have h3 := hlu;  omega) (fun j g1 g2 g3 => (by have h1 := hU.1; omega)) (by omega)) (by have h1 := hU.1; have h2 := ltb q0; have h3 := hlu;  omega) (fun j g1 g2 g3 => (by have h1 := hU.1; omega)) (by omega)) (by have h1 := hU.1; omega) (by have h1 := hU.1; have h2 := ltb q0; show _ < 1000000; omega), ?_⟩
  refine ⟨(by have h1 := hU.1; have h2 := ltb q0; show ¬ _ = 1000000; omega), ?_⟩
  obtain ⟨t65, h, hS66⟩ := wrr_ok h hS64 eu (ulen hU)
  refine ⟨FR_fr (FR_pr' (m' := n + 43) (FR_pr' (m' := n + 42) (FR_pr' (m' := n + 41) (FR_pr' (m' := n + 41) hF_S94 (by have h1 := hU.1; have h2 := ltb q0; have h3 := hlu;  omega) (fun j g1 g2 g3 => (by have h1 := hU.1; omega)) (by omega)) (by have h1 := hU.1; have h2 := ltb q0; have h3 := hlu;  omega) (fun j g1 g2 g3 => (by have h1 := hU.1; omega)) (by omega)) (by have h1 := hU.1; have h2 := ltb q0; have h3 := hlu;  omega) (fun j g1 g2 g3 => (by have h1 := hU.1; omega)) (by omega)) (by have h1 := hU.1; have h2 := ltb q0; have h3 := hlu;  omega) (fun j g1 g2 g3 => (by have h1 := hU.1; omega)) (by omega)) (by have h1 := hU.1; omega) (by have h1 := hU.1; have h2 := ltb q0; show _ < 1000000; omega), ?_⟩
  refine ⟨(by have h1 := hU.1; have h2 := ltb q0; show ¬ _ = 1000000; omega), ?_⟩
  obtain ⟨t67, h, hS68⟩ := wrr_ok h hS66 eu (ulen hU)
  refine ⟨FR_fr (FR_pr' (m' := n + 44) (FR_pr' (m' := n + 43) (FR_pr' (m' := n + 42) (FR_pr' (m' := n + 41) (FR_pr' (m' := n + 41) hF_S94 (by have h1 := hU.1; have h2 := ltb q0; have h3 := hlu;  omega) (fun j g1 g2 g3 => (by have h1 := hU.1; omega)) (by omega)) (by have h1 := hU.1; have h2 := ltb q0; have h3 := hlu;  omega) (fun j g1 g2 g3 => (by have h1 := hU.1; omega)) (by omega)) (by have h1 := hU.1; have h2 := ltb q0; have h3 := hlu;  omega) (fun j g1 g2 g3 => (by have h1 := hU.1; omega)) (by omega)) (by have h1 := hU.1; have h2 := ltb q0; have h3 := hlu;  omega) (fun j g1 g2 g3 => (by have h1 := hU.1; omega)) (by omega)) (by have h1 := hU.1; have h2 := ltb q0; have h3 := hlu;  omega) (fun j g1 g2 g3 => (by have h1 := hU.1; omega)) (by omega)) (by have h1 := hU.1; omega) (by have h1 := hU.1; have h2 := ltb q0; show _ < 1000000; omega), ?_⟩
  refine ⟨(by have h1 := hU.1; have h2 := ltb q0; show ¬ _ = 1000000; omega), ?_⟩
  obtain ⟨t69, h, hS70⟩ := wrr_ok h hS68 eu (ulen hU)
  exact hK h (FR_le (FR_pr' (m' := n + 45) (FR_pr' (m' := n + 44) (FR_pr' (m' := n + 43) (FR_pr' (m' := n + 42) (FR_pr' (m' := n + 41) (FR_pr' (m' := n + 41) hF_S94 (by have h1 := hU.1; have h2 := ltb q0; have h3 := hlu;  omega) (fun j g1 g2 g3 => (by have h1 := hU.1; omega)) (by omega)) (by have h1 := hU.1; have h2 := ltb q0; have h3 := hlu;  omega) (fun j g1 g2 g3 => (by have h1 := hU.1; omega)) (by omega)) (by have h1 := hU.1; have h2 := ltb q0; have h3 := hlu;  omega) (fun j g1 g2 g3 => (by have h1 := hU.1; omega)) (by omega)) (by have h1 := hU.1; have h2 := ltb q0; have h3 := hlu;  omega) (fun j g1 g2 g3 => (by have h1 := hU.1; omega)) (by omega)) (by have h1 := hU.1; have h2 := ltb q0; have h3 := hlu;  omega) (fun j g1 g2 g3 => (by have h1 := hU.1; omega)) (by omega)) (by have h1 := hU.1; have h2 := ltb q0; have h3 := hlu;  omega) (fun j g1 g2 g3 => (by have h1 := hU.1; omega)) (by omega)) (by omega)) hS70
noncomputable def xi_B (n a_u : Nat) (t : X8) (κ : X8 → Bool) : Bool :=
  and (Nat.blt (n + 114) 117) <| and (Nat.blt a_u n) <| and (and (Nat.beq (clx (n + 0)) 2) (Nat.beq (lnx (n + 0)) 0)) <| xi_Ca (n + 1) n t (fun t_S9 => wrr t_S9 a_u 0 n fun t3 => wrr t3 a_u 1 (n + 2) fun t5 => and (and (Nat.beq (clx (n + 1)) 902) (Nat.beq (lnx (n + 1)) 12288)) <| and (and (Nat.beq (clx (n + 2)) 902) (Nat.beq (lnx (n + 2)) 128)) <| and (and (Nat.beq (clx (n + 3)) 6) (Nat.beq (lnx (n + 3)) 0)) <| xi_Pa (n + 4) (n + 3) t5 (fun t_S29 => wrr t_S29 a_u 2 (n + 3) fun t13 => and (chkU (n + 4) [(9, 0), (902, 65536), (12, 0), (902, 64), (902, 64), (902, 64), (904, 64), (7, 0), (902, 3), (902, 3), (902, 3), (902, 3), (902, 3), (902, 3), (902, 12288), (902, 192), (902, 12288), (10, 0), (902, 3), (902, 3), (902, 3), (902, 192), (4, 0), (902, 257), (903, 8224), (902, 514), (902, 514), (950, 2), (5, 0), (902, 257), (902, 257), (902, 256), (902, 256), (902, 17), (5, 0), (902, 257), (902, 257), (902, 256), (902, 256), (902, 17), (950, 2), (5, 0), (902, 257), (902, 257), (902, 256), (902, 256), (902, 17), (5, 0), (902, 257), (902, 257), (902, 256), (902, 256), (902, 17), (902, 3)]) <| and (and (Nat.beq (clx (n + 58)) 11) (Nat.beq (lnx (n + 58)) 0)) <| xi_Un (n + 59) (n + 58) t13 (fun t_S40 => wrr t_S40 a_u 3 (n + 58) fun t19 => rdr t19 a_u 2 fun o21 => cond (Nat.beq o21 1000000) false <| and (chkU (n + 59) [(8, 0), (9, 0), (902, 32768), (7, 0), (902, 3), (902, 3), (902, 3), (902, 3), (902, 3), (902, 3), (902, 12288), (902, 192), (902, 12288), (10, 0), (902, 3), (902, 3), (902, 3), (902, 192), (902, 256), (903, 4), (951, 4), (3, 0), (902, 17), (902, 17), (902, 17), (902, 256), (3, 0), (902, 17), (902, 17), (902, 17), (902, 256), (3, 0), (902, 17), (902, 17), (902, 17), (902, 256), (3, 0), (902, 17), (902, 17), (902, 17), (902, 256), (902, 3), (902, 3), (903, 3), (902, 3)]) <| and (Nat.blt o21 (n + 104)) <| and (Nat.beq (clx o21) 6) <| rdr t19 o21 0 fun o28 => cond (Nat.beq o28 1000000) false <| cond (Nat.beq o28 1000000) false <| wrr t19 a_u 4 o28 fun t32 => rdr t32 a_u 2 fun o34 => cond (Nat.beq o34 1000000) false <| and (Nat.blt o34 (n + 104)) <| and (Nat.beq (clx o34) 6) <| rdr t32 o34 1 fun o39 => cond (Nat.beq o39 1000000) false <| cond (Nat.beq o39 1000000) false <| wrr t32 a_u 5 o39 fun t43 => rdr t43 a_u 3 fun o45 => cond (Nat.beq o45 1000000) false <| and (Nat.blt o45 (n + 104)) <| and (Nat.beq (clx o45) 11) <| rdr t43 o45 0 fun o50 => cond (Nat.beq o50 1000000) false <| and (Nat.blt o50 (n + 104)) <| and (Nat.beq (clx o50) 8) <| rdr t43 o50 0 fun o55 => cond (Nat.beq o55 1000000) false <| cond (Nat.beq o55 1000000) false <| wrr t43 a_u 6 o55 fun t59 => and (and (Nat.beq (clx (n + 104)) 7) (Nat.beq (lnx (n + 104)) 0)) <| xi_Pi (n + 105) (n + 104) t59 (fun t_S87 => wrr t_S87 a_u 7 (n + 104) fun t63 => wri t63 a_u 8 4294967295 fun t65 => rdr t65 a_u 1 fun o67 => cond (Nat.beq o67 1000000) false <| and (chkU (n + 105) [(902, 3), (902, 3), (902, 3), (902, 3), (902, 3), (902, 3), (902, 12288), (902, 192), (902, 12288)]) <| x_p_Ar_fillI_v (n + 114) o67 1 t65 κ))))
set_option maxRecDepth 20000 in
set_option maxHeartbeats 4000000 in
theorem xsi_B {U : ut} {u n a_u : Nat} {S : cs} {t : X8} {K : cs → Prop} {κ : X8 → Bool} (h : xi_B n a_u t κ = true) (hU : PX U n) (eu : u = a_u) (hF : FR S n) (hS : RC S t) (hK : ∀ {S' : cs} {t' : X8}, κ t' = true → FR S' (n + 114) → RC S' t' → K S') : p_B_init U u S K := by
  unfold p_B_init
  unfold xi_B at h
  obtain ⟨q0, h⟩ := an_ok h
  obtain ⟨q9, h⟩ := an_ok h
  have hlu : u < n := by rw [eu]; exact ltb q9
  refine ⟨FR_fr hF (by have h1 := hU.1; omega) (by have h1 := hU.1; have h2 := ltb q0; show _ < 1000000; omega), ?_⟩
  obtain ⟨q1, h⟩ := an_ok h
  have hU2 : PX _ (n + 1) := PX_app hU q1
  refine xsi_Ca h hU2 hU.1 (FR_le hF (by omega)) hS (fun {S9} {t_S9} h hF_S9 hS_S9 => ?_)
  have hF_S9 : FR S9 (n + 2) := hF_S9
  refine ⟨(by have h1 := hU.1; have h2 := ltb q0; show ¬ _ = 1000000; omega), ?_⟩
  obtain ⟨t3, h, hS4⟩ := wrr_ok h hS_S9 eu hU.1
  refine ⟨FR_fr (FR_pr' (m' := n + 2) hF_S9 (by have h1 := hU.1; have h2 := ltb q0; have h3 := hlu;  omega) (fun j g1 g2 g3 => (by have h1 := hU.1; omega)) (by omega)) (by have h1 := hU.1; omega) (by have h1 := hU.1; have h2 := ltb q0; show _ < 1000000; omega), ?_⟩
  refine ⟨(by have h1 := hU.1; have h2 := ltb q0; show ¬ _ = 1000000; omega), ?_⟩
  obtain ⟨t5, h, hS6⟩ := wrr_ok h hS4 eu (ulen hU)
  refine ⟨FR_fr (FR_pr' (m' := n + 3) (FR_pr' (m' := n + 2) hF_S9 (by have h1 := hU.1; have h2 := ltb q0; have h3 := hlu;  omega) (fun j g1 g2 g3 => (by have h1 := hU.1; omega)) (by omega)) (by have h1 := hU.1; have h2 := ltb q0; have h3 := hlu;  omega) (fun j g1 g2 g3 => (by have h1 := hU.1; omega)) (by omega)) (by have h1 := hU.1; omega) (by have h1 := hU.1; have h2 := ltb q0; show _ < 1000000; omega), ?_⟩
  obtain ⟨q7, h⟩ := an_ok h
  have hU8 : PX _ (n + 2) := PX_app hU2 q7
  obtain ⟨q9, h⟩ := an_ok h
  have hU10 : PX _ (n + 3) := PX_app hU8 q9
  obtain ⟨q11, h⟩ := an_ok h
  have hU12 : PX _ (n + 4) := PX_app hU10 q11
  refine xsi_Pa h hU12 (ulen hU) (FR_le (FR_pr' (m' := n + 3) (FR_pr' (m' := n + 2) hF_S9 (by have h1 := hU.1; have h2 := ltb q0; have h3 := hlu;  omega) (fun j g1 g2 g3 => (by have h1 := hU.1; omega)) (by omega)) (by have h1 := hU.1; have h2 := ltb q0; have h3 := hlu;  omega) (fun j g1 g2 g3 => (by have h1 := hU.1; omega)) (by omega)) (by omega)) hS6 (fun {S29} {t_S29} h hF_S29 hS_S29 => ?_)
  have hF_S29 : FR S29 (n + 58) := hF_S29
  refine ⟨(by have h1 := hU.1; have h2 := ltb q0; show ¬ _ = 1000000; omega), ?_⟩
  obtain ⟨t13, h, hS14⟩ := wrr_ok h hS_S29 eu (ulen hU)
  refine ⟨FR_fr (FR_pr' (m' := n + 58) hF_S29 (by have h1 := hU.1; have h2 := ltb q0; have h3 := hlu;  omega) (fun j g1 g2 g3 => (by have h1 := hU.1; omega)) (by omega)) (by have h1 := hU.1; omega) (by have h1 := hU.1; have h2 := ltb q0; show _ < 1000000; omega), ?_⟩
  obtain ⟨q15, h⟩ := an_ok h
  have hU16 : PX _ (n + 58) := PX_apps hU12 q15
  obtain ⟨q17, h⟩ := an_ok h
  have hU18 : PX _ (n + 59) := PX_app hU16 q17
  refine xsi_Un h hU18 (ulen hU) (FR_le (FR_pr' (m' := n + 58) hF_S29 (by have h1 := hU.1; have h2 := ltb q0; have h3 := hlu;  omega) (fun j g1 g2 g3 => (by have h1 := hU.1; omega)) (by omega)) (by omega)) hS14 (fun {S40} {t_S40} h hF_S40 hS_S40 => ?_)
  have hF_S40 : FR S40 (n + 104) := hF_S40
  refine ⟨(by have h1 := hU.1; have h2 := ltb q0; show ¬ _ = 1000000; omega), ?_⟩
  obtain ⟨t19, h, hS20⟩ := wrr_ok h hS_S40 eu (ulen hU)
  obtain ⟨o21, h, q22⟩ := rdr_ok h hS20 eu
  obtain ⟨n23, h⟩ := nu_ok h
  refine ⟨nu_no n23 q22, ?_⟩
  obtain ⟨q24, h⟩ := an_ok h
  have hU25 : PX _ (n + 104) := PX_apps hU18 q24
  obtain ⟨q26, h⟩ := an_ok h
  obtain ⟨q27, h⟩ := an_ok h
  refine ⟨cl_okU hU25 q26 q27 q22, ?_⟩
  obtain ⟨o28, h, q29⟩ := rdr_ok h hS20 q22
  obtain ⟨n30, h⟩ := nu_ok h
  refine ⟨nu_no n30 q29, ?_⟩
  obtain ⟨n31, h⟩ := nu_ok h
  refine ⟨nu_no n31 q29, ?_⟩
  obtain ⟨t32, h, hS33⟩ := wrr_ok h hS20 eu q29
  obtain ⟨o34, h, q35⟩ := rdr_ok h hS33 eu
  obtain ⟨n36, h⟩ := nu_ok h
  refine ⟨nu_no n36 q35, ?_⟩
  obtain ⟨q37, h⟩ := an_ok h
  obtain ⟨q38, h⟩ := an_ok h
  refine ⟨cl_okU hU25 q37 q38 q35, ?_⟩
  obtain ⟨o39, h, q40⟩ := rdr_ok h hS33 q35
  obtain ⟨n41, h⟩ := nu_ok h
  refine ⟨nu_no n41 q40, ?_⟩
  obtain ⟨n42, h⟩ := nu_ok h
  refine ⟨nu_no n42 q40, ?_⟩
  obtain ⟨t43, h, hS44⟩ := wrr_ok h hS33 eu q40
  obtain ⟨o45, h, q46⟩ := rdr_ok h hS44 eu
  obtain ⟨n47, h⟩ := nu_ok h
  refine ⟨nu_no n47 q46, ?_⟩
  obtain ⟨q48, h⟩ := an_ok h
  obtain ⟨q49, h⟩ := an_ok h
  refine ⟨cl_okU hU25 q48 q49 q46, ?_⟩
  obtain ⟨o50, h, q51⟩ := rdr_ok h hS44 q46
  obtain ⟨n52, h⟩ := nu_ok h
  refine ⟨nu_no n52 q51, ?_⟩
  obtain ⟨q53, h⟩ := an_ok h
  obtain ⟨q54, h⟩ := an_ok h
  refine ⟨cl_okU hU25 q53 q54 q51, ?_⟩
  obtain ⟨o55, h, q56⟩ := rdr_ok h hS44 q51
  obtain ⟨n57, h⟩ := nu_ok h
  refine ⟨nu_no n57 q56, ?_⟩
  obtain ⟨n58, h⟩ := nu_ok h
  refine ⟨nu_no n58 q56, ?_⟩
  obtain ⟨t59, h, hS60⟩ := wrr_ok h hS44 eu q56
  refine ⟨FR_fr (FR_pr' (m' := n + 104) (FR_pr' (m' := n + 104) (FR_pr' (m' := n + 104) (FR_pr' (m' := n + 104) hF_S40 (by have h1 := hU.1; have h2 := ltb q0; have h3 := hlu;  omega) (fun j g1 g2 g3 => (by have h1 := hU.1; omega)) (by omega)) (by have h1 := hU.1; have h2 := ltb q0; have h3 := hlu;  omega) (fun j g1 g2 => ((FR_pr' (m' := n + 104) hF_S40 (by have h1 := hU.1; have h2 := ltb q0; have h3 := hlu;  omega) (fun j g1 g2 g3 => (by have h1 := hU.1; omega)) (by omega)) j (by omega) g2).1 _ _) (by omega)) (by have h1 := hU.1; have h2 := ltb q0; have h3 := hlu;  omega) (fun j g1 g2 => ((FR_pr' (m' := n + 104) (FR_pr' (m' := n + 104) hF_S40 (by have h1 := hU.1; have h2 := ltb q0; have h3 := hlu;  omega) (fun j g1 g2 g3 => (by have h1 := hU.1; omega)) (by omega)) (by have h1 := hU.1; have h2 := ltb q0; have h3 := hlu;  omega) (fun j g1 g2 => ((FR_pr' (m' := n + 104) hF_S40 (by have h1 := hU.1; have h2 := ltb q0; have h3 := hlu;  omega) (fun j g1 g2 g3 => (by have h1 := hU.1; omega)) (by omega)) j (by omega) g2).1 _ _) (by omega)) j (by omega) g2).1 _ _) (by omega)) (by have h1 := hU.1; have h2 := ltb q0; have h3 := hlu;  omega) (fun j g1 g2 => ((FR_pr' (m' := n + 104) (FR_pr' (m' := n + 104) (FR_pr' (m' := n + 104) hF_S40 (by have h1 := hU.1; have h2 := ltb q0; have h3 := hlu;  omega) (fun j g1 g2 g3 => (by have h1 := hU.1; omega)) (by omega)) (by have h1 := hU.1; have h2 := ltb q0; have h3 := hlu;  omega) (fun j g1 g2 => ((FR_pr' (m' := n + 104) hF_S40 (by have h1 := hU.1; have h2 := ltb q0; have h3 := hlu;  omega) (fun j g1 g2 g3 => (by have h1 := hU.1; omega)) (by omega)) j (by omega) g2).1 _ _) (by omega)) (by have h1 := hU.1; have h2 := ltb q0; have h3 := hlu;  omega) (fun j g1 g2 => ((FR_pr' (m' := n + 104) (FR_pr' (m' := n + 104) hF_S40 (by have h1 := hU.1; have h2 := ltb q0; have h3 := hlu;  omega) (fun j g1 g2 g3 => (by have h1 := hU.1; omega)) (by omega)) (by have h1 := hU.1; have h2 := ltb q0; have h3 := hlu;  omega) (fun j g1 g2 => ((FR_pr' (m' := n + 104) hF_S40 (by have h1 := hU.1; have h2 := ltb q0; have h3 := hlu;  omega) (fun j g1 g2 g3 => (by have h1 := hU.1; omega)) (by omega)) j (by omega) g2).1 _ _) (by omega)) j (by omega) g2).1 _ _) (by omega)) j (by omega) g2).1 _ _) (by omega)) (by have h1 := hU.1; omega) (by have h1 := hU.1; have h2 := ltb q0; show _ < 1000000; omega), ?_⟩
  obtain ⟨q61, h⟩ := an_ok h
  have hU62 : PX _ (n + 105) := PX_app hU25 q61
  refine xsi_Pi h hU62 (ulen hU) (FR_le (FR_pr' (m' := n + 104) (FR_pr' (m' := n + 104) (FR_pr' (m' := n + 104) (FR_pr' (m' := n + 104) hF_S40 (by have h1 := hU.1; have h2 := ltb q0; have h3 := hlu;  omega) (fun j g1 g2 g3 => (by have h1 := hU.1; omega)) (by omega)) (by have h1 := hU.1; have h2 := ltb q0; have h3 := hlu;  omega) (fun j g1 g2 => ((FR_pr' (m' := n + 104) hF_S40 (by have h1 := hU.1; have h2 := ltb q0; have h3 := hlu;  omega) (fun j g1 g2 g3 => (by have h1 := hU.1; omega)) (by omega)) j (by omega) g2).1 _ _) (by omega)) (by have h1 := hU.1; have h2 := ltb q0; have h3 := hlu;  omega) (fun j g1 g2 => ((FR_pr' (m' := n + 104) (FR_pr' (m' := n + 104) hF_S40 (by have h1 := hU.1; have h2 := ltb q0; have h3 := hlu;  omega) (fun j g1 g2 g3 => (by have h1 := hU.1; omega)) (by omega)) (by have h1 := hU.1; have h2 := ltb q0; have h3 := hlu;  omega) (fun j g1 g2 => ((FR_pr' (m' := n + 104) hF_S40 (by have h1 := hU.1; have h2 := ltb q0; have h3 := hlu;  omega) (fun j g1 g2 g3 => (by have h1 := hU.1; omega)) (by omega)) j (by omega) g2).1 _ _) (by omega)) j (by omega) g2).1 _ _) (by omega)) (by have h1 := hU.1; have h2 := ltb q0; have h3 := hlu;  omega) (fun j g1 g2 => ((FR_pr' (m' := n + 104) (FR_pr' (m' := n + 104) (FR_pr' (m' := n + 104) hF_S40 (by have h1 := hU.1; have h2 := ltb q0; have h3 := hlu;  omega) (fun j g1 g2 g3 => (by have h1 := hU.1; omega)) (by omega)) (by have h1 := hU.1; have h2 := ltb q0; have h3 := hlu;  omega) (fun j g1 g2 => ((FR_pr' (m' := n + 104) hF_S40 (by have h1 := hU.1; have h2 := ltb q0; have h3 := hlu;  omega) (fun j g1 g2 g3 => (by have h1 := hU.1; omega)) (by omega)) j (by omega) g2).1 _ _) (by omega)) (by have h1 := hU.1; have h2 := ltb q0; have h3 := hlu;  omega) (fun j g1 g2 => ((FR_pr' (m' := n + 104) (FR_pr' (m' := n + 104) hF_S40 (by have h1 := hU.1; have h2 := ltb q0; have h3 := hlu;  omega) (fun j g1 g2 g3 => (by have h1 := hU.1; omega)) (by omega)) (by have h1 := hU.1; have h2 := ltb q0; have h3 := hlu;  omega) (fun j g1 g2 => ((FR_pr' (m' := n + 104) hF_S40 (by have h1 := hU.1; have h2 := ltb q0; have h3 := hlu;  omega) (fun j g1 g2 g3 => (by have h1 := hU.1; omega)) (by omega)) j (by omega) g2).1 _ _) (by omega)) j (by omega) g2).1 _ _) (by omega)) j (by omega) g2).1 _ _) (by omega)) (by omega)) hS60 (fun {S87} {t_S87} h hF_S87 hS_S87 => ?_)
  have hF_S87 : FR S87 (n + 114) := hF_S87
  refine ⟨(by have h1 := hU.1; have h2 := ltb q0; show ¬ _ = 1000000; omega), ?_⟩
  obtain ⟨t63, h, hS64⟩ := wrr_ok h hS_S87 eu (ulen hU)
  obtain ⟨t65, h, hS66⟩ := wri_ok h hS64 eu ((by decide) : (-1 : Int32) = Int32.ofNat 4294967295)
  obtain ⟨o67, h, q68⟩ := rdr_ok h hS66 eu
  obtain ⟨n69, h⟩ := nu_ok h
  refine ⟨nu_no n69 q68, ?_⟩
  obtain ⟨q70, h⟩ := an_ok h
  have hU71 : PX _ (n + 114) := PX_apps hU62 q70
  exact xs_p_Ar_fillI_v h hU71 q68 (rfl : (1 : Int32) = Int32.ofNat 1) ⟨hS66, FR_le (FR_pi' (FR_pr' (m' := n + 114) hF_S87 (by have h1 := hU.1; have h2 := ltb q0; have h3 := hlu;  omega) (fun j g1 g2 g3 => (by have h1 := hU.1; omega)) (by omega)) (by have h1 := hU.1; have h2 := ltb q0; have h3 := hlu;  omega)) (by omega)⟩ (fun h hV => hK h hV.2 hV.1)

