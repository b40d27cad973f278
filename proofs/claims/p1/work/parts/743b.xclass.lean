set_option maxRecDepth 20000 in
set_option maxHeartbeats 1000000 in
theorem xs_b_Pa_makeBlock_152 {u a_u : Nat} {x1 : Int32} {a_x1 : Nat} {x2 a_x2 : Nat} {x3 : Int32} {a_x3 : Nat} {x9 : Int32} {a_x9 : Nat} {S : cs} {t : X8} {R152 : Int32 → Nat → Int32 → Int32 → cs → Prop} {r_R152 : Nat → Nat → Nat → Nat → X8 → Bool} {K : cs → Prop} {k_K : X8 → Bool} (h : x_b_Pa_makeBlock_152 a_u a_x1 a_x2 a_x3 a_x9 t r_R152 k_K = true) (e_u : u = a_u) (e_x1 : x1 = Int32.ofNat a_x1) (e_x2 : x2 = a_x2) (e_x3 : x3 = Int32.ofNat a_x3) (e_x9 : x9 = Int32.ofNat a_x9) (hS : RC S t) (hR152 : ∀ {y0 : Int32} {b0 : Nat} {y1 b1 : Nat} {y2 : Int32} {b2 : Nat} {y3 : Int32} {b3 : Nat} {yS : cs} {yt : X8}, r_R152 b0 b1 b2 b3 yt = true → y0 = Int32.ofNat b0 → y1 = b1 → y2 = Int32.ofNat b2 → y3 = Int32.ofNat b3 → RC yS yt → R152 y0 y1 y2 y3 yS) (hK : ∀ {yS : cs} {yt : X8}, k_K yt = true → RC yS yt → K yS) : b_Pa_makeBlock_152 UL u x1 x2 x3 x9 S R152 K := by
  unfold b_Pa_makeBlock_152
  unfold x_b_Pa_makeBlock_152 at h
  have hc1 := c_le' ((rfl : (64 : Int32) = Int32.ofNat 64)) e_x9
  refine ⟨fun hc => ?_, fun hc => ?_⟩
  · have h := x_pos h (hc1.mp hc)
    exact hK h hS
  · have h := x_neg h (fun q => hc (hc1.mpr q))
    obtain ⟨o2, h, q3⟩ := rdr_ok h hS e_u
    obtain ⟨n4, h⟩ := nu_ok h
    refine ⟨nu_no n4 q3, ?_⟩
    obtain ⟨n5, h⟩ := an_ok h
    refine ⟨cl_ok n5 q3 (by decide), ?_⟩
    obtain ⟨o6, h, q7⟩ := rdr_ok h hS q3
    obtain ⟨n8, h⟩ := nu_ok h
    refine ⟨nu_no n8 q7, ?_⟩
    obtain ⟨n9, h⟩ := an_ok h
    refine ⟨n_vp e_x9 n9 (by decide), ?_⟩
    obtain ⟨n10, h⟩ := an_ok h
    refine ⟨cl_ok n10 q7 (by decide), ?_⟩
    obtain ⟨v11, h, q12⟩ := rd_sl_ok h e_x9
    obtain ⟨n13, h⟩ := an_ok h
    refine ⟨vpc_ok n13 q12 q7, ?_⟩
    refine xs_p_Pa_kindOf h e_x3 (fun h e_v180 => ?_)
    refine ⟨n_vp e_x9 n9 (by decide), ?_⟩
    obtain ⟨n14, h⟩ := an_ok h
    refine ⟨cl_ok n14 e_x2 (by decide), ?_⟩
    have h := frc_ok h
    have p16 := n_add (n_mul ((rfl : (64 : Int32) = Int32.ofNat 64)) e_v180) q12
    obtain ⟨n17, h⟩ := an_ok h
    refine ⟨vpc_ok n17 p16 e_x2, ?_⟩
    obtain ⟨v18, h, q19⟩ := rda_ok h hS e_x2 p16
    obtain ⟨n20, h⟩ := nu_ok h
    refine ⟨fun q => absurd ((c_eq' (n_max ((rfl : (1 : Int32) = Int32.ofNat 1)) q19) ((rfl : (0 : Int32) = Int32.ofNat 0))).mp q) (by rw [n20]; exact Bool.false_ne_true), ?_⟩
    obtain ⟨o21, h, q22⟩ := rdr_ok h hS e_u
    obtain ⟨n23, h⟩ := nu_ok h
    refine ⟨nu_no n23 q22, ?_⟩
    obtain ⟨n24, h⟩ := an_ok h
    refine ⟨cl_ok n24 q22 (by decide), ?_⟩
    obtain ⟨o25, h, q26⟩ := rdr_ok h hS q22
    obtain ⟨n27, h⟩ := nu_ok h
    refine ⟨nu_no n27 q26, ?_⟩
    obtain ⟨v28, h, q29⟩ := rda_ok h hS q7 q12
    have hc30 := c_le' ((rfl : (0 : Int32) = Int32.ofNat 0)) q29
    refine ⟨fun hc => ?_, fun hc => ?_⟩
    · have h := x_pos h (hc30.mp hc)
      have h := frc_ok h
      have p32 := n_add (n_mul ((rfl : (64 : Int32) = Int32.ofNat 64)) e_x1) e_x9
      have h := frc_ok h
      have p34 := n_div (n_add (n_abs q29) (n_div (n_max ((rfl : (1 : Int32) = Int32.ofNat 1)) q19) ((rfl : (2 : Int32) = Int32.ofNat 2)))) (n_max ((rfl : (1 : Int32) = Int32.ofNat 1)) q19)
      exact xs_b_Pa_makeBlock_239 h e_u e_x1 e_x2 e_x3 e_x9 q26 p32 p34 hS hR152 hK
    · have h := x_neg h (fun q => hc (hc30.mpr q))
      have h := frc_ok h
      have p36 := n_add (n_mul ((rfl : (64 : Int32) = Int32.ofNat 64)) e_x1) e_x9
      have h := frc_ok h
      have p38 := n_neg (n_div (n_add (n_abs q29) (n_div (n_max ((rfl : (1 : Int32) = Int32.ofNat 1)) q19) ((rfl : (2 : Int32) = Int32.ofNat 2)))) (n_max ((rfl : (1 : Int32) = Int32.ofNat 1)) q19))
      exact xs_b_Pa_makeBlock_239 h e_u e_x1 e_x2 e_x3 e_x9 q26 p36 p38 hS hR152 hK
noncomputable def xl_e_Pa_makeBlock_152 (a_u : Nat) (k_K : X8 → Bool) (n : Nat) : Nat → Nat → Nat → Nat → X8 → Bool := Nat.rec (motive := fun _ => Nat → Nat → Nat → Nat → X8 → Bool) (fun _ _ _ _ _ => false) (fun _ ih b_x1 b_x2 b_x3 b_x9 bt => x_b_Pa_makeBlock_152 a_u b_x1 b_x2 b_x3 b_x9 bt ih k_K) n
noncomputable def x_e_Pa_makeBlock_152 (a_u : Nat) (a_x1 : Nat) (a_x2 : Nat) (a_x3 : Nat) (a_x9 : Nat) (t : X8) (k_K : X8 → Bool) : Bool := xl_e_Pa_makeBlock_152 a_u k_K 200000 a_x1 a_x2 a_x3 a_x9 t
def xq_e_Pa_makeBlock_152 (a_u : Nat) (k_K : X8 → Bool) (n : Nat) (y_x1 : Int32) (y_x2 : Nat) (y_x3 : Int32) (y_x9 : Int32) (yS : cs) : Prop := ∃ (b_x1 : Nat) (b_x2 : Nat) (b_x3 : Nat) (b_x9 : Nat) (bt : X8), y_x1 = Int32.ofNat b_x1 ∧ y_x2 = b_x2 ∧ y_x3 = Int32.ofNat b_x3 ∧ y_x9 = Int32.ofNat b_x9 ∧ RC yS bt ∧ xl_e_Pa_makeBlock_152 a_u k_K n b_x1 b_x2 b_x3 b_x9 bt = true
set_option maxRecDepth 20000 in
theorem xs_e_Pa_makeBlock_152 {u a_u : Nat} {x1 : Int32} {a_x1 : Nat} {x2 a_x2 : Nat} {x3 : Int32} {a_x3 : Nat} {x9 : Int32} {a_x9 : Nat} {S : cs} {t : X8} {K : cs → Prop} {k_K : X8 → Bool} (h : x_e_Pa_makeBlock_152 a_u a_x1 a_x2 a_x3 a_x9 t k_K = true) (e_u : u = a_u) (e_x1 : x1 = Int32.ofNat a_x1) (e_x2 : x2 = a_x2) (e_x3 : x3 = Int32.ofNat a_x3) (e_x9 : x9 = Int32.ofNat a_x9) (hS : RC S t) (hK : ∀ {yS : cs} {yt : X8}, k_K yt = true → RC yS yt → K yS) : e_Pa_makeBlock_152 UL u x1 x2 x3 x9 S K := by
  refine ⟨fun y_x1 y_x2 y_x3 y_x9 yS => ∃ n, xq_e_Pa_makeBlock_152 a_u k_K n y_x1 y_x2 y_x3 y_x9 yS, fun y_x1 y_x2 y_x3 y_x9 yS => mf (fun n => xq_e_Pa_makeBlock_152 a_u k_K n y_x1 y_x2 y_x3 y_x9 yS), ⟨200000, a_x1, a_x2, a_x3, a_x9, t, e_x1, e_x2, e_x3, e_x9, hS, h⟩, fun y_x1 y_x2 y_x3 y_x9 yS hI => ?_⟩
  obtain ⟨m, hm, hq⟩ := mf_ok hI
  obtain ⟨b_x1, b_x2, b_x3, b_x9, bt, c_x1, c_x2, c_x3, c_x9, cS, h⟩ := hq
  cases m with
  | zero => exact absurd h Bool.false_ne_true
  | succ n => exact xs_b_Pa_makeBlock_152 h e_u c_x1 c_x2 c_x3 c_x9 cS (fun h d_x1 d_x2 d_x3 d_x9 dS => ⟨⟨n, _, _, _, _, _, d_x1, d_x2, d_x3, d_x9, dS, h⟩, Nat.lt_of_le_of_lt (mf_le ⟨_, _, _, _, _, d_x1, d_x2, d_x3, d_x9, dS, h⟩) (Nat.lt_of_lt_of_eq (Nat.lt_succ_self n) hm.symm)⟩) hK
noncomputable def x_p_B_spot (a_x0 : Nat) (a_x1 : Nat) (a_x2 : Nat) (k_K : Nat → Bool) : Bool :=
  frc (w_add (w_add (w_mul 4096 a_x0) (w_mul 64 a_x2)) a_x1) fun f1 => k_K f1
set_option maxRecDepth 20000 in
set_option maxHeartbeats 1000000 in
theorem xs_p_B_spot {x0 : Int32} {a_x0 : Nat} {x1 : Int32} {a_x1 : Nat} {x2 : Int32} {a_x2 : Nat} {K : Int32 → Prop} {k_K : Nat → Bool} (h : x_p_B_spot a_x0 a_x1 a_x2 k_K = true) (e_x0 : x0 = Int32.ofNat a_x0) (e_x1 : x1 = Int32.ofNat a_x1) (e_x2 : x2 = Int32.ofNat a_x2) (hK : ∀ {y0 : Int32} {b0 : Nat}, k_K b0 = true → y0 = Int32.ofNat b0 → K y0) : p_B_spot x0 x1 x2 K := by
  unfold p_B_spot
  unfold x_p_B_spot at h
  have h := frc_ok h
  have p2 := n_add (n_add (n_mul ((rfl : (4096 : Int32) = Int32.ofNat 4096)) e_x0) (n_mul ((rfl : (64 : Int32) = Int32.ofNat 64)) e_x2)) e_x1
  exact hK h p2
noncomputable def x_b_Pa_makeBlock_73 (a_u : Nat) (a_x1 : Nat) (a_x2 : Nat) (a_x3 : Nat) (a_x5 : Nat) (a_x6 : Nat) (a_x7 : Nat) (a_x8 : Nat) (a_x9 : Nat) (t : X8) (r_R73 : Nat → Nat → Nat → Nat → Nat → Nat → Nat → Nat → X8 → Bool) (k_K : X8 → Bool) : Bool :=
  cond (!(w_lt a_x9 64)) (rdr t a_u 1 fun o2 => cond (Nat.beq o2 1000000) false <| and (Nat.beq (clx o2) 12) <| x_p_Wa_makeWeights o2 t (fun t_S146 => x_e_Pa_makeBlock_152 a_u a_x1 a_x2 a_x3 0 t_S146 k_K)) (rdr t a_u 1 fun o6 => cond (Nat.beq o6 1000000) false <| and (Nat.beq (clx o6) 12) <| rdr t o6 1 fun o10 => cond (Nat.beq o10 1000000) false <| rdr t a_u 2 fun o13 => cond (Nat.beq o13 1000000) false <| and (Nat.beq (clx o13) 7) <| rdr t o13 15 fun o17 => cond (Nat.beq o17 1000000) false <| frc (w_min a_x7 (w_add a_x5 (w_sub a_x9 (w_mul (w_div a_x9 8) 8)))) fun f20 => frc (w_min a_x8 (w_add a_x6 (w_div a_x9 8))) fun f22 => x_p_B_spot a_x3 f20 f22 (fun v131_ => and (Nat.beq (clx o17) 902) <| and (Nat.blt v131_ (lnx o17)) <| and (Nat.beq (clx o10) 902) <| and (Nat.blt a_x9 (lnx o10)) <| frc (w_add a_x9 1) fun f28 => rda t o17 v131_ fun v32 => wra t o10 a_x9 v32 fun t30 => r_R73 a_x1 a_x2 a_x3 a_x5 a_x6 a_x7 a_x8 f28 t30))
set_option maxRecDepth 20000 in
set_option maxHeartbeats 1000000 in
theorem xs_b_Pa_makeBlock_73 {u a_u : Nat} {x1 : Int32} {a_x1 : Nat} {x2 a_x2 : Nat} {x3 : Int32} {a_x3 : Nat} {x5 : Int32} {a_x5 : Nat} {x6 : Int32} {a_x6 : Nat} {x7 : Int32} {a_x7 : Nat} {x8 : Int32} {a_x8 : Nat} {x9 : Int32} {a_x9 : Nat} {S : cs} {t : X8} {R73 : Int32 → Nat → Int32 → Int32 → Int32 → Int32 → Int32 → Int32 → cs → Prop} {r_R73 : Nat → Nat → Nat → Nat → Nat → Nat → Nat → Nat → X8 → Bool} {K : cs → Prop} {k_K : X8 → Bool} (h : x_b_Pa_makeBlock_73 a_u a_x1 a_x2 a_x3 a_x5 a_x6 a_x7 a_x8 a_x9 t r_R73 k_K = true) (e_u : u = a_u) (e_x1 : x1 = Int32.ofNat a_x1) (e_x2 : x2 = a_x2) (e_x3 : x3 = Int32.ofNat a_x3) (e_x5 : x5 = Int32.ofNat a_x5) (e_x6 : x6 = Int32.ofNat a_x6) (e_x7 : x7 = Int32.ofNat a_x7) (e_x8 : x8 = Int32.ofNat a_x8) (e_x9 : x9 = Int32.ofNat a_x9) (hS : RC S t) (hR73 : ∀ {y0 : Int32} {b0 : Nat} {y1 b1 : Nat} {y2 : Int32} {b2 : Nat} {y3 : Int32} {b3 : Nat} {y4 : Int32} {b4 : Nat} {y5 : Int32} {b5 : Nat} {y6 : Int32} {b6 : Nat} {y7 : Int32} {b7 : Nat} {yS : cs} {yt : X8}, r_R73 b0 b1 b2 b3 b4 b5 b6 b7 yt = true → y0 = Int32.ofNat b0 → y1 = b1 → y2 = Int32.ofNat b2 → y3 = Int32.ofNat b3 → y4 = Int32.ofNat b4 → y5 = Int32.ofNat b5 → y6 = Int32.ofNat b6 → y7 = Int32.ofNat b7 → RC yS yt → R73 y0 y1 y2 y3 y4 y5 y6 y7 yS) (hK : ∀ {yS : cs} {yt : X8}, k_K yt = true → RC yS yt → K yS) : b_Pa_makeBlock_73 UL u x1 x2 x3 x5 x6 x7 x8 x9 S R73 K := by
  unfold b_Pa_makeBlock_73
  unfold x_b_Pa_makeBlock_73 at h
  have hc1 := c_le' ((rfl : (64 : Int32) = Int32.ofNat 64)) e_x9
  refine ⟨fun hc => ?_, fun hc => ?_⟩
  · have h := x_pos h (hc1.mp hc)
    obtain ⟨o2, h, q3⟩ := rdr_ok h hS e_u
    obtain ⟨n4, h⟩ := nu_ok h
    refine ⟨nu_no n4 q3, ?_⟩
    obtain ⟨n5, h⟩ := an_ok h
    refine ⟨cl_ok n5 q3 (by decide), ?_⟩
    refine xs_p_Wa_makeWeights h q3 hS (fun h h_S146 => ?_)
    exact xs_e_Pa_makeBlock_152 h e_u e_x1 e_x2 e_x3 ((rfl : (0 : Int32) = Int32.ofNat 0)) h_S146 hK
  · have h := x_neg h (fun q => hc (hc1.mpr q))
    obtain ⟨o6, h, q7⟩ := rdr_ok h hS e_u
    obtain ⟨n8, h⟩ := nu_ok h
    refine ⟨nu_no n8 q7, ?_⟩
    obtain ⟨n9, h⟩ := an_ok h
    refine ⟨cl_ok n9 q7 (by decide), ?_⟩
    obtain ⟨o10, h, q11⟩ := rdr_ok h hS q7
    obtain ⟨n12, h⟩ := nu_ok h
    refine ⟨nu_no n12 q11, ?_⟩
    obtain ⟨o13, h, q14⟩ := rdr_ok h hS e_u
    obtain ⟨n15, h⟩ := nu_ok h
    refine ⟨nu_no n15 q14, ?_⟩
    obtain ⟨n16, h⟩ := an_ok h
    refine ⟨cl_ok n16 q14 (by decide), ?_⟩
    obtain ⟨o17, h, q18⟩ := rdr_ok h hS q14
    obtain ⟨n19, h⟩ := nu_ok h
    refine ⟨nu_no n19 q18, ?_⟩
    have h := frc_ok h
    have p21 := n_min e_x7 (n_add e_x5 (n_sub e_x9 (n_mul (n_div e_x9 ((rfl : (8 : Int32) = Int32.ofNat 8))) ((rfl : (8 : Int32) = Int32.ofNat 8)))))
    have h := frc_ok h
    have p23 := n_min e_x8 (n_add e_x6 (n_div e_x9 ((rfl : (8 : Int32) = Int32.ofNat 8))))
    refine xs_p_B_spot h e_x3 p21 p23 (fun h e_v131 => ?_)
    obtain ⟨n24, h⟩ := an_ok h
    refine ⟨cl_ok n24 q18 (by decide), ?_⟩
    obtain ⟨n25, h⟩ := an_ok h
    refine ⟨vpc_ok n25 e_v131 q18, ?_⟩
    obtain ⟨n26, h⟩ := an_ok h
    refine ⟨cl_ok n26 q11 (by decide), ?_⟩
    obtain ⟨n27, h⟩ := an_ok h
    refine ⟨vpc_ok n27 e_x9 q11, ?_⟩
    have h := frc_ok h
    have p29 := n_add e_x9 ((rfl : (1 : Int32) = Int32.ofNat 1))
    obtain ⟨v32, h, q33⟩ := rda_ok h hS q18 e_v131
    obtain ⟨t30, h, hS31⟩ := wra_ok h hS q11 e_x9 q33
    exact hR73 h e_x1 e_x2 e_x3 e_x5 e_x6 e_x7 e_x8 p29 hS31
noncomputable def xl_e_Pa_makeBlock_73 (a_u : Nat) (k_K : X8 → Bool) (n : Nat) : Nat → Nat → Nat → Nat → Nat → Nat → Nat → Nat → X8 → Bool := Nat.rec (motive := fun _ => Nat → Nat → Nat → Nat → Nat → Nat → Nat → Nat → X8 → Bool) (fun _ _ _ _ _ _ _ _ _ => false) (fun _ ih b_x1 b_x2 b_x3 b_x5 b_x6 b_x7 b_x8 b_x9 bt => x_b_Pa_makeBlock_73 a_u b_x1 b_x2 b_x3 b_x5 b_x6 b_x7 b_x8 b_x9 bt ih k_K) n
noncomputable def x_e_Pa_makeBlock_73 (a_u : Nat) (a_x1 : Nat) (a_x2 : Nat) (a_x3 : Nat) (a_x5 : Nat) (a_x6 : Nat) (a_x7 : Nat) (a_x8 : Nat) (a_x9 : Nat) (t : X8) (k_K : X8 → Bool) : Bool := xl_e_Pa_makeBlock_73 a_u k_K 200000 a_x1 a_x2 a_x3 a_x5 a_x6 a_x7 a_x8 a_x9 t
def xq_e_Pa_makeBlock_73 (a_u : Nat) (k_K : X8 → Bool) (n : Nat) (y_x1 : Int32) (y_x2 : Nat) (y_x3 : Int32) (y_x5 : Int32) (y_x6 : Int32) (y_x7 : Int32) (y_x8 : Int32) (y_x9 : Int32) (yS : cs) : Prop := ∃ (b_x1 : Nat) (b_x2 : Nat) (b_x3 : Nat) (b_x5 : Nat) (b_x6 : Nat) (b_x7 : Nat) (b_x8 : Nat) (b_x9 : Nat) (bt : X8), y_x1 = Int32.ofNat b_x1 ∧ y_x2 = b_x2 ∧ y_x3 = Int32.ofNat b_x3 ∧ y_x5 = Int32.ofNat b_x5 ∧ y_x6 = Int32.ofNat b_x6 ∧ y_x7 = Int32.ofNat b_x7 ∧ y_x8 = Int32.ofNat b_x8 ∧ y_x9 = Int32.ofNat b_x9 ∧ RC yS bt ∧ xl_e_Pa_makeBlock_73 a_u k_K n b_x1 b_x2 b_x3 b_x5 b_x6 b_x7 b_x8 b_x9 bt = true
set_option maxRecDepth 20000 in
theorem xs_e_Pa_makeBlock_73 {u a_u : Nat} {x1 : Int32} {a_x1 : Nat} {x2 a_x2 : Nat} {x3 : Int32} {a_x3 : Nat} {x5 : Int32} {a_x5 : Nat} {x6 : Int32} {a_x6 : Nat} {x7 : Int32} {a_x7 : Nat} {x8 : Int32} {a_x8 : Nat} {x9 : Int32} {a_x9 : Nat} {S : cs} {t : X8} {K : cs → Prop} {k_K : X8 → Bool} (h : x_e_Pa_makeBlock_73 a_u a_x1 a_x2 a_x3 a_x5 a_x6 a_x7 a_x8 a_x9 t k_K = true) (e_u : u = a_u) (e_x1 : x1 = Int32.ofNat a_x1) (e_x2 : x2 = a_x2) (e_x3 : x3 = Int32.ofNat a_x3) (e_x5 : x5 = Int32.ofNat a_x5) (e_x6 : x6 = Int32.ofNat a_x6) (e_x7 : x7 = Int32.ofNat a_x7) (e_x8 : x8 = Int32.ofNat a_x8) (e_x9 : x9 = Int32.ofNat a_x9) (hS : RC S t) (hK : ∀ {yS : cs} {yt : X8}, k_K yt = true → RC yS yt → K yS) : e_Pa_makeBlock_73 UL u x1 x2 x3 x5 x6 x7 x8 x9 S K := by
  refine ⟨fun y_x1 y_x2 y_x3 y_x5 y_x6 y_x7 y_x8 y_x9 yS => ∃ n, xq_e_Pa_makeBlock_73 a_u k_K n y_x1 y_x2 y_x3 y_x5 y_x6 y_x7 y_x8 y_x9 yS, fun y_x1 y_x2 y_x3 y_x5 y_x6 y_x7 y_x8 y_x9 yS => mf (fun n => xq_e_Pa_makeBlock_73 a_u k_K n y_x1 y_x2 y_x3 y_x5 y_x6 y_x7 y_x8 y_x9 yS), ⟨200000, a_x1, a_x2, a_x3, a_x5, a_x6, a_x7, a_x8, a_x9, t, e_x1, e_x2, e_x3, e_x5, e_x6, e_x7, e_x8, e_x9, hS, h⟩, fun y_x1 y_x2 y_x3 y_x5 y_x6 y_x7 y_x8 y_x9 yS hI => ?_⟩
  obtain ⟨m, hm, hq⟩ := mf_ok hI
  obtain ⟨b_x1, b_x2, b_x3, b_x5, b_x6, b_x7, b_x8, b_x9, bt, c_x1, c_x2, c_x3, c_x5, c_x6, c_x7, c_x8, c_x9, cS, h⟩ := hq
  cases m with
  | zero => exact absurd h Bool.false_ne_true
  | succ n => exact xs_b_Pa_makeBlock_73 h e_u c_x1 c_x2 c_x3 c_x5 c_x6 c_x7 c_x8 c_x9 cS (fun h d_x1 d_x2 d_x3 d_x5 d_x6 d_x7 d_x8 d_x9 dS => ⟨⟨n, _, _, _, _, _, _, _, _, _, d_x1, d_x2, d_x3, d_x5, d_x6, d_x7, d_x8, d_x9, dS, h⟩, Nat.lt_of_le_of_lt (mf_le ⟨_, _, _, _, _, _, _, _, _, d_x1, d_x2, d_x3, d_x5, d_x6, d_x7, d_x8, d_x9, dS, h⟩) (Nat.lt_of_lt_of_eq (Nat.lt_succ_self n) hm.symm)⟩) hK
noncomputable def x_p_Pa_makeBlock (a_u : Nat) (a_x1 : Nat) (a_x2 : Nat) (t : X8) (k_K : X8 → Bool) : Bool :=
  rdr t a_u 2 fun o1 => cond (Nat.beq o1 1000000) false <| and (Nat.beq (clx o1) 7) <| rdr t o1 11 fun o5 => cond (Nat.beq o5 1000000) false <| and (Nat.beq (clx o5) 902) <| frc (w_div a_x1 64) fun f9 => and (Nat.blt f9 (lnx o5)) <| rda t o5 f9 fun v12 => cond (w_eq (w_max 1 v12) 0) false <| cond (w_eq (w_max 1 v12) 0) false <| rdr t o1 9 fun o16 => cond (Nat.beq o16 1000000) false <| and (Nat.beq (clx o16) 902) <| and (Nat.blt f9 (lnx o16)) <| rdr t o1 10 fun o21 => cond (Nat.beq o21 1000000) false <| and (Nat.beq (clx o21) 902) <| and (Nat.blt f9 (lnx o21)) <| rda t o16 f9 fun v26 => rda t o21 f9 fun v28 => frc (w_mul (w_sub (w_sub a_x1 (w_mul (w_div a_x1 64) 64)) (w_mul (w_div (w_sub a_x1 (w_mul (w_div a_x1 64) 64)) (w_max 1 v12)) (w_max 1 v12))) 8) fun f30 => frc (w_mul (w_div (w_sub a_x1 (w_mul (w_div a_x1 64) 64)) (w_max 1 v12)) 8) fun f32 => frc (w_sub v26 1) fun f34 => frc (w_sub v28 1) fun f36 => x_e_Pa_makeBlock_73 a_u a_x1 a_x2 f9 f30 f32 f34 f36 0 t k_K
set_option maxRecDepth 20000 in
set_option maxHeartbeats 1000000 in
theorem xs_p_Pa_makeBlock {u a_u : Nat} {x1 : Int32} {a_x1 : Nat} {x2 a_x2 : Nat} {S : cs} {t : X8} {K : cs → Prop} {k_K : X8 → Bool} (h : x_p_Pa_makeBlock a_u a_x1 a_x2 t k_K = true) (e_u : u = a_u) (e_x1 : x1 = Int32.ofNat a_x1) (e_x2 : x2 = a_x2) (hS : RC S t) (hK : ∀ {yS : cs} {yt : X8}, k_K yt = true → RC yS yt → K yS) : p_Pa_makeBlock UL u x1 x2 S K := by
  unfold p_Pa_makeBlock
  unfold x_p_Pa_makeBlock at h
  obtain ⟨o1, h, q2⟩ := rdr_ok h hS e_u
  obtain ⟨n3, h⟩ := nu_ok h
  refine ⟨nu_no n3 q2, ?_⟩
  obtain ⟨n4, h⟩ := an_ok h
  refine ⟨cl_ok n4 q2 (by decide), ?_⟩
  obtain ⟨o5, h, q6⟩ := rdr_ok h hS q2
  obtain ⟨n7, h⟩ := nu_ok h
  refine ⟨nu_no n7 q6, ?_⟩
  obtain ⟨n8, h⟩ := an_ok h
  refine ⟨cl_ok n8 q6 (by decide), ?_⟩
  have h := frc_ok h
  have p10 := n_div e_x1 ((rfl : (64 : Int32) = Int32.ofNat 64))
  obtain ⟨n11, h⟩ := an_ok h
  refine ⟨vpc_ok n11 p10 q6, ?_⟩
  obtain ⟨v12, h, q13⟩ := rda_ok h hS q6 p10
  obtain ⟨n14, h⟩ := nu_ok h
  refine ⟨fun q => absurd ((c_eq' (n_max ((rfl : (1 : Int32) = Int32.ofNat 1)) q13) ((rfl : (0 : Int32) = Int32.ofNat 0))).mp q) (by rw [n14]; exact Bool.false_ne_true), ?_⟩
  obtain ⟨n15, h⟩ := nu_ok h
  refine ⟨fun q => absurd ((c_eq' (n_max ((rfl : (1 : Int32) = Int32.ofNat 1)) q13) ((rfl : (0 : Int32) = Int32.ofNat 0))).mp q) (by rw [n15]; exact Bool.false_ne_true), ?_⟩
  refine ⟨nu_no n3 q2, ?_⟩
  obtain ⟨o16, h, q17⟩ := rdr_ok h hS q2
  obtain ⟨n18, h⟩ := nu_ok h
  refine ⟨nu_no n18 q17, ?_⟩
  obtain ⟨n19, h⟩ := an_ok h
  refine ⟨cl_ok n19 q17 (by decide), ?_⟩
  obtain ⟨n20, h⟩ := an_ok h
  refine ⟨vpc_ok n20 p10 q17, ?_⟩
  refine ⟨nu_no n3 q2, ?_⟩
  obtain ⟨o21, h, q22⟩ := rdr_ok h hS q2
  obtain ⟨n23, h⟩ := nu_ok h
  refine ⟨nu_no n23 q22, ?_⟩
  obtain ⟨n24, h⟩ := an_ok h
  refine ⟨cl_ok n24 q22 (by decide), ?_⟩
  obtain ⟨n25, h⟩ := an_ok h
  refine ⟨vpc_ok n25 p10 q22, ?_⟩
  obtain ⟨v26, h, q27⟩ := rda_ok h hS q17 p10
  obtain ⟨v28, h, q29⟩ := rda_ok h hS q22 p10
  have h := frc_ok h
  have p31 := n_mul (n_sub (n_sub e_x1 (n_mul (n_div e_x1 ((rfl : (64 : Int32) = Int32.ofNat 64))) ((rfl : (64 : Int32) = Int32.ofNat 64)))) (n_mul (n_div (n_sub e_x1 (n_mul (n_div e_x1 ((rfl : (64 : Int32) = Int32.ofNat 64))) ((rfl : (64 : Int32) = Int32.ofNat 64)))) (n_max ((rfl : (1 : Int32) = Int32.ofNat 1)) q13)) (n_max ((rfl : (1 : Int32) = Int32.ofNat 1)) q13))) ((rfl : (8 : Int32) = Int32.ofNat 8))
  have h := frc_ok h
  have p33 := n_mul (n_div (n_sub e_x1 (n_mul (n_div e_x1 ((rfl : (64 : Int32) = Int32.ofNat 64))) ((rfl : (64 : Int32) = Int32.ofNat 64)))) (n_max ((rfl : (1 : Int32) = Int32.ofNat 1)) q13)) ((rfl : (8 : Int32) = Int32.ofNat 8))
  have h := frc_ok h
  have p35 := n_sub q27 ((rfl : (1 : Int32) = Int32.ofNat 1))
  have h := frc_ok h
  have p37 := n_sub q29 ((rfl : (1 : Int32) = Int32.ofNat 1))
  exact xs_e_Pa_makeBlock_73 h e_u e_x1 e_x2 p10 p31 p33 p35 p37 ((rfl : (0 : Int32) = Int32.ofNat 0)) hS hK
noncomputable def x_b_Pa_makeLevels_172 (a_u : Nat) (a_x2 : Nat) (a_x5 : Nat) (t : X8) (r_R172 : Nat → Nat → X8 → Bool) (k_K : X8 → Bool) : Bool :=
  rdr t a_u 3 fun o1 => cond (Nat.beq o1 1000000) false <| and (Nat.beq (clx o1) 10) <| rdi t o1 6 fun v5 => cond (!(w_lt a_x5 v5)) (k_K t) (rdr t o1 7 fun o8 => cond (Nat.beq o8 1000000) false <| and (Nat.beq (clx o8) 902) <| and (Nat.blt a_x5 (lnx o8)) <| rda t o8 a_x5 fun v13 => x_p_Pa_makeBlock a_u v13 a_x2 t (fun t_S196 => frc (w_add a_x5 1) fun f15 => r_R172 a_x2 f15 t_S196))
set_option maxRecDepth 20000 in
set_option maxHeartbeats 1000000 in
theorem xs_b_Pa_makeLevels_172 {u a_u : Nat} {x2 a_x2 : Nat} {x5 : Int32} {a_x5 : Nat} {S : cs} {t : X8} {R172 : Nat → Int32 → cs → Prop} {r_R172 : Nat → Nat → X8 → Bool} {K : cs → Prop} {k_K : X8 → Bool} (h : x_b_Pa_makeLevels_172 a_u a_x2 a_x5 t r_R172 k_K = true) (e_u : u = a_u) (e_x2 : x2 = a_x2) (e_x5 : x5 = Int32.ofNat a_x5) (hS : RC S t) (hR172 : ∀ {y0 b0 : Nat} {y1 : Int32} {b1 : Nat} {yS : cs} {yt : X8}, r_R172 b0 b1 yt = true → y0 = b0 → y1 = Int32.ofNat b1 → RC yS yt → R172 y0 y1 yS) (hK : ∀ {yS : cs} {yt : X8}, k_K yt = true → RC yS yt → K yS) : b_Pa_makeLevels_172 UL u x2 x5 S R172 K := by
  unfold b_Pa_makeLevels_172
  unfold x_b_Pa_makeLevels_172 at h
  obtain ⟨o1, h, q2⟩ := rdr_ok h hS e_u
  obtain ⟨n3, h⟩ := nu_ok h
  refine ⟨nu_no n3 q2, ?_⟩
  obtain ⟨n4, h⟩ := an_ok h
  refine ⟨cl_ok n4 q2 (by decide), ?_⟩
  obtain ⟨v5, h, q6⟩ := rdi_ok h hS q2
  have hc7 := c_le' q6 e_x5
  refine ⟨fun hc => ?_, fun hc => ?_⟩
  · have h := x_pos h (hc7.mp hc)
    exact hK h hS
  · have h := x_neg h (fun q => hc (hc7.mpr q))
    refine ⟨nu_no n3 q2, ?_⟩
    obtain ⟨o8, h, q9⟩ := rdr_ok h hS q2
    obtain ⟨n10, h⟩ := nu_ok h
    refine ⟨nu_no n10 q9, ?_⟩
    obtain ⟨n11, h⟩ := an_ok h
    refine ⟨cl_ok n11 q9 (by decide), ?_⟩
    obtain ⟨n12, h⟩ := an_ok h
    refine ⟨vpc_ok n12 e_x5 q9, ?_⟩
    obtain ⟨v13, h, q14⟩ := rda_ok h hS q9 e_x5
    refine xs_p_Pa_makeBlock h e_u q14 e_x2 hS (fun h h_S196 => ?_)
    have h := frc_ok h
    have p16 := n_add e_x5 ((rfl : (1 : Int32) = Int32.ofNat 1))
    exact hR172 h e_x2 p16 h_S196
noncomputable def xl_e_Pa_makeLevels_172 (a_u : Nat) (k_K : X8 → Bool) (n : Nat) : Nat → Nat → X8 → Bool := Nat.rec (motive := fun _ => Nat → Nat → X8 → Bool) (fun _ _ _ => false) (fun _ ih b_x2 b_x5 bt => x_b_Pa_makeLevels_172 a_u b_x2 b_x5 bt ih k_K) n
noncomputable def x_e_Pa_makeLevels_172 (a_u : Nat) (a_x2 : Nat) (a_x5 : Nat) (t : X8) (k_K : X8 → Bool) : Bool := xl_e_Pa_makeLevels_172 a_u k_K 200000 a_x2 a_x5 t
def xq_e_Pa_makeLevels_172 (a_u : Nat) (k_K : X8 → Bool) (n : Nat) (y_x2 : Nat) (y_x5 : Int32) (yS : cs) : Prop := ∃ (b_x2 : Nat) (b_x5 : Nat) (bt : X8), y_x2 = b_x2 ∧ y_x5 = Int32.ofNat b_x5 ∧ RC yS bt ∧ xl_e_Pa_makeLevels_172 a_u k_K n b_x2 b_x5 bt = true
set_option maxRecDepth 20000 in
theorem xs_e_Pa_makeLevels_172 {u a_u : Nat} {x2 a_x2 : Nat} {x5 : Int32} {a_x5 : Nat} {S : cs} {t : X8} {K : cs → Prop} {k_K : X8 → Bool} (h : x_e_Pa_makeLevels_172 a_u a_x2 a_x5 t k_K = true) (e_u : u = a_u) (e_x2 : x2 = a_x2) (e_x5 : x5 = Int32.ofNat a_x5) (hS : RC S t) (hK : ∀ {yS : cs} {yt : X8}, k_K yt = true → RC yS yt → K yS) : e_Pa_makeLevels_172 UL u x2 x5 S K := by
  refine ⟨fun y_x2 y_x5 yS => ∃ n, xq_e_Pa_makeLevels_172 a_u k_K n y_x2 y_x5 yS, fun y_x2 y_x5 yS => mf (fun n => xq_e_Pa_makeLevels_172 a_u k_K n y_x2 y_x5 yS), ⟨200000, a_x2, a_x5, t, e_x2, e_x5, hS, h⟩, fun y_x2 y_x5 yS hI => ?_⟩
  obtain ⟨m, hm, hq⟩ := mf_ok hI
  obtain ⟨b_x2, b_x5, bt, c_x2, c_x5, cS, h⟩ := hq
  cases m with
  | zero => exact absurd h Bool.false_ne_true
  | succ n => exact xs_b_Pa_makeLevels_172 h e_u c_x2 c_x5 cS (fun h d_x2 d_x5 dS => ⟨⟨n, _, _, _, d_x2, d_x5, dS, h⟩, Nat.lt_of_le_of_lt (mf_le ⟨_, _, _, d_x2, d_x5, dS, h⟩) (Nat.lt_of_lt_of_eq (Nat.lt_succ_self n) hm.symm)⟩) hK
noncomputable def x_b_Ca_kind_126 (a_u : Nat) (a_s0 : Nat) (t : X8) (k_K : Nat → X8 → Bool) : Bool :=
  frc (w_min 255 (w_add 128 (w_shr (w_add a_s0 32768) 16))) fun f1 => k_K f1 t
set_option maxRecDepth 20000 in
set_option maxHeartbeats 1000000 in
theorem xs_b_Ca_kind_126 {u a_u : Nat} {s0 : Int32} {a_s0 : Nat} {S : cs} {t : X8} {K : Int32 → cs → Prop} {k_K : Nat → X8 → Bool} (h : x_b_Ca_kind_126 a_u a_s0 t k_K = true) (e_u : u = a_u) (e_s0 : s0 = Int32.ofNat a_s0) (hS : RC S t) (hK : ∀ {y0 : Int32} {b0 : Nat} {yS : cs} {yt : X8}, k_K b0 yt = true → y0 = Int32.ofNat b0 → RC yS yt → K y0 yS) : b_Ca_kind_126 UL u s0 S K := by
  unfold b_Ca_kind_126
  unfold x_b_Ca_kind_126 at h
  have h := frc_ok h
  have p2 := n_min ((rfl : (255 : Int32) = Int32.ofNat 255)) (n_add ((rfl : (128 : Int32) = Int32.ofNat 128)) (n_shr (n_add e_s0 ((rfl : (32768 : Int32) = Int32.ofNat 32768))) ((rfl : (16 : Int32) = Int32.ofNat 16))))
  exact hK h p2 hS
noncomputable def x_p_Ca_kind (a_u : Nat) (a_x1 : Nat) (a_x2 : Nat) (a_x3 : Nat) (t : X8) (k_K : Nat → X8 → Bool) : Bool :=
  rdr t a_u 3 fun o1 => cond (Nat.beq o1 1000000) false <| x_p_B_spot 0 a_x2 a_x3 (fun v7_ => and (Nat.beq (clx o1) 902) <| and (Nat.blt v7_ (lnx o1)) <| rdi t a_u 2 fun v6 => cond (w_eq v6 1) (rda t o1 v7_ fun v37 => k_K v37 t) (x_p_B_spot 1 a_x2 a_x3 (fun v31_ => and (Nat.blt v31_ (lnx o1)) <| x_p_B_spot 2 a_x2 a_x3 (fun v44_ => and (Nat.blt v44_ (lnx o1)) <| cond (w_eq a_x1 0) (rda t o1 v7_ fun v29 => rda t o1 v31_ fun v31 => rda t o1 v44_ fun v33 => frc (w_shr (w_add (w_add (w_add (w_mul 19595 v29) (w_mul 38470 v31)) (w_mul 7471 v33)) 32768) 16) fun f35 => k_K f35 t) (cond (w_eq a_x1 1) (rda t o1 v7_ fun v21 => rda t o1 v31_ fun v23 => rda t o1 v44_ fun v25 => frc (w_add (w_sub (w_mul 4294956237 v21) (w_mul 21709 v23)) (w_mul 32768 v25)) fun f27 => x_b_Ca_kind_126 a_u f27 t k_K) (rda t o1 v7_ fun v13 => rda t o1 v31_ fun v15 => rda t o1 v44_ fun v17 => frc (w_sub (w_sub (w_mul 32768 v13) (w_mul 27439 v15)) (w_mul 5329 v17)) fun f19 => x_b_Ca_kind_126 a_u f19 t k_K))))))
set_option maxRecDepth 20000 in
set_option maxHeartbeats 1000000 in
theorem xs_p_Ca_kind {u a_u : Nat} {x1 : Int32} {a_x1 : Nat} {x2 : Int32} {a_x2 : Nat} {x3 : Int32} {a_x3 : Nat} {S : cs} {t : X8} {K : Int32 → cs → Prop} {k_K : Nat → X8 → Bool} (h : x_p_Ca_kind a_u a_x1 a_x2 a_x3 t k_K = true) (e_u : u = a_u) (e_x1 : x1 = Int32.ofNat a_x1) (e_x2 : x2 = Int32.ofNat a_x2) (e_x3 : x3 = Int32.ofNat a_x3) (hS : RC S t) (hK : ∀ {y0 : Int32} {b0 : Nat} {yS : cs} {yt : X8}, k_K b0 yt = true → y0 = Int32.ofNat b0 → RC yS yt → K y0 yS) : p_Ca_kind UL u x1 x2 x3 S K := by
  unfold p_Ca_kind
  unfold x_p_Ca_kind at h
  obtain ⟨o1, h, q2⟩ := rdr_ok h hS e_u
  obtain ⟨n3, h⟩ := nu_ok h
  refine ⟨nu_no n3 q2, ?_⟩
  refine xs_p_B_spot h ((rfl : (0 : Int32) = Int32.ofNat 0)) e_x2 e_x3 (fun h e_v7 => ?_)
  obtain ⟨n4, h⟩ := an_ok h
  refine ⟨cl_ok n4 q2 (by decide), ?_⟩
  obtain ⟨n5, h⟩ := an_ok h
  refine ⟨vpc_ok n5 e_v7 q2, ?_⟩
  obtain ⟨v6, h, q7⟩ := rdi_ok h hS e_u
  have hc8 := c_eq' q7 ((rfl : (1 : Int32) = Int32.ofNat 1))
  refine ⟨fun hc => ?_, fun hc => ?_⟩
  · have h := x_neg h (fun q => hc (hc8.mpr q))
    refine ⟨nu_no n3 q2, ?_⟩
    refine xs_p_B_spot h ((rfl : (1 : Int32) = Int32.ofNat 1)) e_x2 e_x3 (fun h e_v31 => ?_)
    obtain ⟨n9, h⟩ := an_ok h
    refine ⟨vpc_ok n9 e_v31 q2, ?_⟩
    refine ⟨nu_no n3 q2, ?_⟩
    refine xs_p_B_spot h ((rfl : (2 : Int32) = Int32.ofNat 2)) e_x2 e_x3 (fun h e_v44 => ?_)
    obtain ⟨n10, h⟩ := an_ok h
    refine ⟨vpc_ok n10 e_v44 q2, ?_⟩
    have hc11 := c_eq' e_x1 ((rfl : (0 : Int32) = Int32.ofNat 0))
    refine ⟨fun hc => ?_, fun hc => ?_⟩
    · have h := x_neg h (fun q => hc (hc11.mpr q))
      have hc12 := c_eq' e_x1 ((rfl : (1 : Int32) = Int32.ofNat 1))
      refine ⟨fun hc => ?_, fun hc => ?_⟩
      · have h := x_neg h (fun q => hc (hc12.mpr q))
        obtain ⟨v13, h, q14⟩ := rda_ok h hS q2 e_v7
        obtain ⟨v15, h, q16⟩ := rda_ok h hS q2 e_v31
        obtain ⟨v17, h, q18⟩ := rda_ok h hS q2 e_v44
        have h := frc_ok h
        have p20 := n_sub (n_sub (n_mul ((rfl : (32768 : Int32) = Int32.ofNat 32768)) q14) (n_mul ((rfl : (27439 : Int32) = Int32.ofNat 27439)) q16)) (n_mul ((rfl : (5329 : Int32) = Int32.ofNat 5329)) q18)
        exact xs_b_Ca_kind_126 h e_u p20 hS hK
      · have h := x_pos h (hc12.mp hc)
        obtain ⟨v21, h, q22⟩ := rda_ok h hS q2 e_v7
        obtain ⟨v23, h, q24⟩ := rda_ok h hS q2 e_v31
        obtain ⟨v25, h, q26⟩ := rda_ok h hS q2 e_v44
        have h := frc_ok h
        have p28 := n_add (n_sub (n_mul (((by decide) : (-11059 : Int32) = Int32.ofNat 4294956237)) q22) (n_mul ((rfl : (21709 : Int32) = Int32.ofNat 21709)) q24)) (n_mul ((rfl : (32768 : Int32) = Int32.ofNat 32768)) q26)
        exact xs_b_Ca_kind_126 h e_u p28 hS hK
    · have h := x_pos h (hc11.mp hc)
      obtain ⟨v29, h, q30⟩ := rda_ok h hS q2 e_v7
      obtain ⟨v31, h, q32⟩ := rda_ok h hS q2 e_v31
      obtain ⟨v33, h, q34⟩ := rda_ok h hS q2 e_v44
      have h := frc_ok h
      have p36 := n_shr (n_add (n_add (n_add (n_mul ((rfl : (19595 : Int32) = Int32.ofNat 19595)) q30) (n_mul ((rfl : (38470 : Int32) = Int32.ofNat 38470)) q32)) (n_mul ((rfl : (7471 : Int32) = Int32.ofNat 7471)) q34)) ((rfl : (32768 : Int32) = Int32.ofNat 32768))) ((rfl : (16 : Int32) = Int32.ofNat 16))
      exact hK h p36 hS
  · have h := x_pos h (hc8.mp hc)
    obtain ⟨v37, h, q38⟩ := rda_ok h hS q2 e_v7
    exact hK h q38 hS
noncomputable def x_b_Pa_makeLayer_96 (a_u : Nat) (a_x1 : Nat) (a_x2 : Nat) (a_x3 : Nat) (a_x4 : Nat) (a_x5 : Nat) (a_x6 : Nat) (a_x7 : Nat) (a_x8 : Nat) (t : X8) (r_R54 : Nat → Nat → Nat → Nat → Nat → X8 → Bool) (r_R71 : Nat → Nat → Nat → Nat → Nat → Nat → X8 → Bool) (r_R96 : Nat → Nat → Nat → Nat → Nat → Nat → Nat → Nat → X8 → Bool) (k_K : X8 → Bool) : Bool :=
  cond (!(w_lt a_x8 (w_mul a_x3 a_x4))) (rdr t a_u 2 fun o2 => cond (Nat.beq o2 1000000) false <| and (Nat.beq (clx o2) 7) <| rdr t o2 15 fun o6 => cond (Nat.beq o6 1000000) false <| x_p_B_spot a_x2 a_x6 a_x5 (fun v170_ => cond (w_eq (w_mul a_x3 a_x4) 0) false <| and (Nat.beq (clx o6) 902) <| and (Nat.blt v170_ (lnx o6)) <| frc (w_add a_x6 1) fun f12 => frc (w_div a_x7 (w_mul a_x3 a_x4)) fun f16 => wra t o6 v170_ f16 fun t14 => r_R71 a_x1 a_x2 a_x3 a_x4 a_x5 f12 t14)) (and (Nat.beq (clx a_x1) 2) <| cond (w_eq a_x3 0) false <| cond (w_eq a_x3 0) false <| rdi t a_x1 0 fun v21 => rdi t a_x1 1 fun v23 => frc (w_min (w_sub v21 1) (w_add (w_mul a_x3 a_x6) (w_sub a_x8 (w_mul (w_div a_x8 a_x3) a_x3)))) fun f25 => frc (w_min (w_sub v23 1) (w_add (w_mul a_x4 a_x5) (w_div a_x8 a_x3))) fun f27 => x_p_Ca_kind a_x1 a_x2 f25 f27 t (fun v146_ t_S146 => frc (w_add a_x7 v146_) fun f29 => frc (w_add a_x8 1) fun f31 => r_R96 a_x1 a_x2 a_x3 a_x4 a_x5 a_x6 f29 f31 t_S146))
set_option maxRecDepth 20000 in
set_option maxHeartbeats 1000000 in
theorem xs_b_Pa_makeLayer_96 {u a_u : Nat} {x1 a_x1 : Nat} {x2 : Int32} {a_x2 : Nat} {x3 : Int32} {a_x3 : Nat} {x4 : Int32} {a_x4 : Nat} {x5 : Int32} {a_x5 : Nat} {x6 : Int32} {a_x6 : Nat} {x7 : Int32} {a_x7 : Nat} {x8 : Int32} {a_x8 : Nat} {S : cs} {t : X8} {R54 : Nat → Int32 → Int32 → Int32 → Int32 → cs → Prop} {r_R54 : Nat → Nat → Nat → Nat → Nat → X8 → Bool} {R71 : Nat → Int32 → Int32 → Int32 → Int32 → Int32 → cs → Prop} {r_R71 : Nat → Nat → Nat → Nat → Nat → Nat → X8 → Bool} {R96 : Nat → Int32 → Int32 → Int32 → Int32 → Int32 → Int32 → Int32 → cs → Prop} {r_R96 : Nat → Nat → Nat → Nat → Nat → Nat → Nat → Nat → X8 → Bool} {K : cs → Prop} {k_K : X8 → Bool} (h : x_b_Pa_makeLayer_96 a_u a_x1 a_x2 a_x3 a_x4 a_x5 a_x6 a_x7 a_x8 t r_R54 r_R71 r_R96 k_K = true) (e_u : u = a_u) (e_x1 : x1 = a_x1) (e_x2 : x2 = Int32.ofNat a_x2) (e_x3 : x3 = Int32.ofNat a_x3) (e_x4 : x4 = Int32.ofNat a_x4) (e_x5 : x5 = Int32.ofNat a_x5) (e_x6 : x6 = Int32.ofNat a_x6) (e_x7 : x7 = Int32.ofNat a_x7) (e_x8 : x8 = Int32.ofNat a_x8) (hS : RC S t) (hR54 : ∀ {y0 b0 : Nat} {y1 : Int32} {b1 : Nat} {y2 : Int32} {b2 : Nat} {y3 : Int32} {b3 : Nat} {y4 : Int32} {b4 : Nat} {yS : cs} {yt : X8}, r_R54 b0 b1 b2 b3 b4 yt = true → y0 = b0 → y1 = Int32.ofNat b1 → y2 = Int32.ofNat b2 → y3 = Int32.ofNat b3 → y4 = Int32.ofNat b4 → RC yS yt → R54 y0 y1 y2 y3 y4 yS) (hR71 : ∀ {y0 b0 : Nat} {y1 : Int32} {b1 : Nat} {y2 : Int32} {b2 : Nat} {y3 : Int32} {b3 : Nat} {y4 : Int32} {b4 : Nat} {y5 : Int32} {b5 : Nat} {yS : cs} {yt : X8}, r_R71 b0 b1 b2 b3 b4 b5 yt = true → y0 = b0 → y1 = Int32.ofNat b1 → y2 = Int32.ofNat b2 → y3 = Int32.ofNat b3 → y4 = Int32.ofNat b4 → y5 = Int32.ofNat b5 → RC yS yt → R71 y0 y1 y2 y3 y4 y5 yS) (hR96 : ∀ {y0 b0 : Nat} {y1 : Int32} {b1 : Nat} {y2 : Int32} {b2 : Nat} {y3 : Int32} {b3 : Nat} {y4 : Int32} {b4 : Nat} {y5 : Int32} {b5 : Nat} {y6 : Int32} {b6 : Nat} {y7 : Int32} {b7 : Nat} {yS : cs} {yt : X8}, r_R96 b0 b1 b2 b3 b4 b5 b6 b7 yt = true → y0 = b0 → y1 = Int32.ofNat b1 → y2 = Int32.ofNat b2 → y3 = Int32.ofNat b3 → y4 = Int32.ofNat b4 → y5 = Int32.ofNat b5 → y6 = Int32.ofNat b6 → y7 = Int32.ofNat b7 → RC yS yt → R96 y0 y1 y2 y3 y4 y5 y6 y7 yS) (hK : ∀ {yS : cs} {yt : X8}, k_K yt = true → RC yS yt → K yS) : b_Pa_makeLayer_96 UL u x1 x2 x3 x4 x5 x6 x7 x8 S R54 R71 R96 K := by
  unfold b_Pa_makeLayer_96
  unfold x_b_Pa_makeLayer_96 at h
  have hc1 := c_le' (n_mul e_x3 e_x4) e_x8
  refine ⟨fun hc => ?_, fun hc => ?_⟩
  · have h := x_pos h (hc1.mp hc)
    obtain ⟨o2, h, q3⟩ := rdr_ok h hS e_u
    obtain ⟨n4, h⟩ := nu_ok h
    refine ⟨nu_no n4 q3, ?_⟩
    obtain ⟨n5, h⟩ := an_ok h
    refine ⟨cl_ok n5 q3 (by decide), ?_⟩
    obtain ⟨o6, h, q7⟩ := rdr_ok h hS q3
    obtain ⟨n8, h⟩ := nu_ok h
    refine ⟨nu_no n8 q7, ?_⟩
    refine xs_p_B_spot h e_x2 e_x6 e_x5 (fun h e_v170 => ?_)
    obtain ⟨n9, h⟩ := nu_ok h
    refine ⟨fun q => absurd ((c_eq' (n_mul e_x3 e_x4) ((rfl : (0 : Int32) = Int32.ofNat 0))).mp q) (by rw [n9]; exact Bool.false_ne_true), ?_⟩
    obtain ⟨n10, h⟩ := an_ok h
    refine ⟨cl_ok n10 q7 (by decide), ?_⟩
    obtain ⟨n11, h⟩ := an_ok h
    refine ⟨vpc_ok n11 e_v170 q7, ?_⟩
    have h := frc_ok h
    have p13 := n_add e_x6 ((rfl : (1 : Int32) = Int32.ofNat 1))
    have h := frc_ok h
    have p17 := n_div e_x7 (n_mul e_x3 e_x4)
    obtain ⟨t14, h, hS15⟩ := wra_ok h hS q7 e_v170 p17
    exact hR71 h e_x1 e_x2 e_x3 e_x4 e_x5 p13 hS15
  · have h := x_neg h (fun q => hc (hc1.mpr q))
    obtain ⟨n18, h⟩ := an_ok h
    refine ⟨cl_ok n18 e_x1 (by decide), ?_⟩
    obtain ⟨n19, h⟩ := nu_ok h
    refine ⟨fun q => absurd ((c_eq' e_x3 ((rfl : (0 : Int32) = Int32.ofNat 0))).mp q) (by rw [n19]; exact Bool.false_ne_true), ?_⟩
    obtain ⟨n20, h⟩ := nu_ok h
    refine ⟨fun q => absurd ((c_eq' e_x3 ((rfl : (0 : Int32) = Int32.ofNat 0))).mp q) (by rw [n20]; exact Bool.false_ne_true), ?_⟩
    obtain ⟨v21, h, q22⟩ := rdi_ok h hS e_x1
    obtain ⟨v23, h, q24⟩ := rdi_ok h hS e_x1
    have h := frc_ok h
    have p26 := n_min (n_sub q22 ((rfl : (1 : Int32) = Int32.ofNat 1))) (n_add (n_mul e_x3 e_x6) (n_sub e_x8 (n_mul (n_div e_x8 e_x3) e_x3)))
    have h := frc_ok h
    have p28 := n_min (n_sub q24 ((rfl : (1 : Int32) = Int32.ofNat 1))) (n_add (n_mul e_x4 e_x5) (n_div e_x8 e_x3))
    refine xs_p_Ca_kind h e_x1 e_x2 p26 p28 hS (fun h e_v146 h_S146 => ?_)
    have h := frc_ok h
    have p30 := n_add e_x7 e_v146
    have h := frc_ok h
    have p32 := n_add e_x8 ((rfl : (1 : Int32) = Int32.ofNat 1))
    exact hR96 h e_x1 e_x2 e_x3 e_x4 e_x5 e_x6 p30 p32 h_S146
noncomputable def xl_e_Pa_makeLayer_96 (a_u : Nat) (r_R54 : Nat → Nat → Nat → Nat → Nat → X8 → Bool) (r_R71 : Nat → Nat → Nat → Nat → Nat → Nat → X8 → Bool) (k_K : X8 → Bool) (n : Nat) : Nat → Nat → Nat → Nat → Nat → Nat → Nat → Nat → X8 → Bool := Nat.rec (motive := fun _ => Nat → Nat → Nat → Nat → Nat → Nat → Nat → Nat → X8 → Bool) (fun _ _ _ _ _ _ _ _ _ => false) (fun _ ih b_x1 b_x2 b_x3 b_x4 b_x5 b_x6 b_x7 b_x8 bt => x_b_Pa_makeLayer_96 a_u b_x1 b_x2 b_x3 b_x4 b_x5 b_x6 b_x7 b_x8 bt r_R54 r_R71 ih k_K) n
noncomputable def x_e_Pa_makeLayer_96 (a_u : Nat) (a_x1 : Nat) (a_x2 : Nat) (a_x3 : Nat) (a_x4 : Nat) (a_x5 : Nat) (a_x6 : Nat) (a_x7 : Nat) (a_x8 : Nat) (t : X8) (r_R54 : Nat → Nat → Nat → Nat → Nat → X8 → Bool) (r_R71 : Nat → Nat → Nat → Nat → Nat → Nat → X8 → Bool) (k_K : X8 → Bool) : Bool := xl_e_Pa_makeLayer_96 a_u r_R54 r_R71 k_K 200000 a_x1 a_x2 a_x3 a_x4 a_x5 a_x6 a_x7 a_x8 t
def xq_e_Pa_makeLayer_96 (a_u : Nat) (r_R54 : Nat → Nat → Nat → Nat → Nat → X8 → Bool) (r_R71 : Nat → Nat → Nat → Nat → Nat → Nat → X8 → Bool) (k_K : X8 → Bool) (n : Nat) (y_x1 : Nat) (y_x2 : Int32) (y_x3 : Int32) (y_x4 : Int32) (y_x5 : Int32) (y_x6 : Int32) (y_x7 : Int32) (y_x8 : Int32) (yS : cs) : Prop := ∃ (b_x1 : Nat) (b_x2 : Nat) (b_x3 : Nat) (b_x4 : Nat) (b_x5 : Nat) (b_x6 : Nat) (b_x7 : Nat) (b_x8 : Nat) (bt : X8), y_x1 = b_x1 ∧ y_x2 = Int32.ofNat b_x2 ∧ y_x3 = Int32.ofNat b_x3 ∧ y_x4 = Int32.ofNat b_x4 ∧ y_x5 = Int32.ofNat b_x5 ∧ y_x6 = Int32.ofNat b_x6 ∧ y_x7 = Int32.ofNat b_x7 ∧ y_x8 = Int32.ofNat b_x8 ∧ RC yS bt ∧ xl_e_Pa_makeLayer_96 a_u r_R54 r_R71 k_K n b_x1 b_x2 b_x3 b_x4 b_x5 b_x6 b_x7 b_x8 bt = true
set_option maxRecDepth 20000 in
theorem xs_e_Pa_makeLayer_96 {u a_u : Nat} {x1 a_x1 : Nat} {x2 : Int32} {a_x2 : Nat} {x3 : Int32} {a_x3 : Nat} {x4 : Int32} {a_x4 : Nat} {x5 : Int32} {a_x5 : Nat} {x6 : Int32} {a_x6 : Nat} {x7 : Int32} {a_x7 : Nat} {x8 : Int32} {a_x8 : Nat} {S : cs} {t : X8} {R54 : Nat → Int32 → Int32 → Int32 → Int32 → cs → Prop} {r_R54 : Nat → Nat → Nat → Nat → Nat → X8 → Bool} {R71 : Nat → Int32 → Int32 → Int32 → Int32 → Int32 → cs → Prop} {r_R71 : Nat → Nat → Nat → Nat → Nat → Nat → X8 → Bool} {K : cs → Prop} {k_K : X8 → Bool} (h : x_e_Pa_makeLayer_96 a_u a_x1 a_x2 a_x3 a_x4 a_x5 a_x6 a_x7 a_x8 t r_R54 r_R71 k_K = true) (e_u : u = a_u) (e_x1 : x1 = a_x1) (e_x2 : x2 = Int32.ofNat a_x2) (e_x3 : x3 = Int32.ofNat a_x3) (e_x4 : x4 = Int32.ofNat a_x4) (e_x5 : x5 = Int32.ofNat a_x5) (e_x6 : x6 = Int32.ofNat a_x6) (e_x7 : x7 = Int32.ofNat a_x7) (e_x8 : x8 = Int32.ofNat a_x8) (hS : RC S t) (hR54 : ∀ {y0 b0 : Nat} {y1 : Int32} {b1 : Nat} {y2 : Int32} {b2 : Nat} {y3 : Int32} {b3 : Nat} {y4 : Int32} {b4 : Nat} {yS : cs} {yt : X8}, r_R54 b0 b1 b2 b3 b4 yt = true → y0 = b0 → y1 = Int32.ofNat b1 → y2 = Int32.ofNat b2 → y3 = Int32.ofNat b3 → y4 = Int32.ofNat b4 → RC yS yt → R54 y0 y1 y2 y3 y4 yS) (hR71 : ∀ {y0 b0 : Nat} {y1 : Int32} {b1 : Nat} {y2 : Int32} {b2 : Nat} {y3 : Int32} {b3 : Nat} {y4 : Int32} {b4 : Nat} {y5 : Int32} {b5 : Nat} {yS : cs} {yt : X8}, r_R71 b0 b1 b2 b3 b4 b5 yt = true → y0 = b0 → y1 = Int32.ofNat b1 → y2 = Int32.ofNat b2 → y3 = Int32.ofNat b3 → y4 = Int32.ofNat b4 → y5 = Int32.ofNat b5 → RC yS yt → R71 y0 y1 y2 y3 y4 y5 yS) (hK : ∀ {yS : cs} {yt : X8}, k_K yt = true → RC yS yt → K yS) : e_Pa_makeLayer_96 UL u x1 x2 x3 x4 x5 x6 x7 x8 S R54 R71 K := by
  refine ⟨fun y_x1 y_x2 y_x3 y_x4 y_x5 y_x6 y_x7 y_x8 yS => ∃ n, xq_e_Pa_makeLayer_96 a_u r_R54 r_R71 k_K n y_x1 y_x2 y_x3 y_x4 y_x5 y_x6 y_x7 y_x8 yS, fun y_x1 y_x2 y_x3 y_x4 y_x5 y_x6 y_x7 y_x8 yS => mf (fun n => xq_e_Pa_makeLayer_96 a_u r_R54 r_R71 k_K n y_x1 y_x2 y_x3 y_x4 y_x5 y_x6 y_x7 y_x8 yS), ⟨200000, a_x1, a_x2, a_x3, a_x4, a_x5, a_x6, a_x7, a_x8, t, e_x1, e_x2, e_x3, e_x4, e_x5, e_x6, e_x7, e_x8, hS, h⟩, fun y_x1 y_x2 y_x3 y_x4 y_x5 y_x6 y_x7 y_x8 yS hI => ?_⟩
  obtain ⟨m, hm, hq⟩ := mf_ok hI
  obtain ⟨b_x1, b_x2, b_x3, b_x4, b_x5, b_x6, b_x7, b_x8, bt, c_x1, c_x2, c_x3, c_x4, c_x5, c_x6, c_x7, c_x8, cS, h⟩ := hq
  cases m with
  | zero => exact absurd h Bool.false_ne_true
  | succ n => exact xs_b_Pa_makeLayer_96 h e_u c_x1 c_x2 c_x3 c_x4 c_x5 c_x6 c_x7 c_x8 cS hR54 hR71 (fun h d_x1 d_x2 d_x3 d_x4 d_x5 d_x6 d_x7 d_x8 dS => ⟨⟨n, _, _, _, _, _, _, _, _, _, d_x1, d_x2, d_x3, d_x4, d_x5, d_x6, d_x7, d_x8, dS, h⟩, Nat.lt_of_le_of_lt (mf_le ⟨_, _, _, _, _, _, _, _, _, d_x1, d_x2, d_x3, d_x4, d_x5, d_x6, d_x7, d_x8, dS, h⟩) (Nat.lt_of_lt_of_eq (Nat.lt_succ_self n) hm.symm)⟩) hK
noncomputable def x_b_Pa_makeLayer_71 (a_u : Nat) (a_x1 : Nat) (a_x2 : Nat) (a_x3 : Nat) (a_x4 : Nat) (a_x5 : Nat) (a_x6 : Nat) (t : X8) (r_R54 : Nat → Nat → Nat → Nat → Nat → X8 → Bool) (r_R71 : Nat → Nat → Nat → Nat → Nat → Nat → X8 → Bool) (k_K : X8 → Bool) : Bool :=
  rdr t a_u 2 fun o1 => cond (Nat.beq o1 1000000) false <| and (Nat.beq (clx o1) 7) <| rdr t o1 9 fun o5 => cond (Nat.beq o5 1000000) false <| and (Nat.beq (clx o5) 902) <| and (Nat.blt a_x2 (lnx o5)) <| rda t o5 a_x2 fun v10 => cond (!(w_lt a_x6 v10)) (frc (w_add a_x5 1) fun f13 => r_R54 a_x1 a_x2 a_x3 a_x4 f13 t) (frc (w_div (w_mul a_x3 a_x4) 2) fun f15 => x_e_Pa_makeLayer_96 a_u a_x1 a_x2 a_x3 a_x4 a_x5 a_x6 f15 0 t r_R54 r_R71 k_K)
set_option maxRecDepth 20000 in
set_option maxHeartbeats 1000000 in
theorem xs_b_Pa_makeLayer_71 {u a_u : Nat} {x1 a_x1 : Nat} {x2 : Int32} {a_x2 : Nat} {x3 : Int32} {a_x3 : Nat} {x4 : Int32} {a_x4 : Nat} {x5 : Int32} {a_x5 : Nat} {x6 : Int32} {a_x6 : Nat} {S : cs} {t : X8} {R54 : Nat → Int32 → Int32 → Int32 → Int32 → cs → Prop} {r_R54 : Nat → Nat → Nat → Nat → Nat → X8 → Bool} {R71 : Nat → Int32 → Int32 → Int32 → Int32 → Int32 → cs → Prop} {r_R71 : Nat → Nat → Nat → Nat → Nat → Nat → X8 → Bool} {K : cs → Prop} {k_K : X8 → Bool} (h : x_b_Pa_makeLayer_71 a_u a_x1 a_x2 a_x3 a_x4 a_x5 a_x6 t r_R54 r_R71 k_K = true) (e_u : u = a_u) (e_x1 : x1 = a_x1) (e_x2 : x2 = Int32.ofNat a_x2) (e_x3 : x3 = Int32.ofNat a_x3) (e_x4 : x4 = Int32.ofNat a_x4) (e_x5 : x5 = Int32.ofNat a_x5) (e_x6 : x6 = Int32.ofNat a_x6) (hS : RC S t) (hR54 : ∀ {y0 b0 : Nat} {y1 : Int32} {b1 : Nat} {y2 : Int32} {b2 : Nat} {y3 : Int32} {b3 : Nat} {y4 : Int32} {b4 : Nat} {yS : cs} {yt : X8}, r_R54 b0 b1 b2 b3 b4 yt = true → y0 = b0 → y1 = Int32.ofNat b1 → y2 = Int32.ofNat b2 → y3 = Int32.ofNat b3 → y4 = Int32.ofNat b4 → RC yS yt → R54 y0 y1 y2 y3 y4 yS) (hR71 : ∀ {y0 b0 : Nat} {y1 : Int32} {b1 : Nat} {y2 : Int32} {b2 : Nat} {y3 : Int32} {b3 : Nat} {y4 : Int32} {b4 : Nat} {y5 : Int32} {b5 : Nat} {yS : cs} {yt : X8}, r_R71 b0 b1 b2 b3 b4 b5 yt = true → y0 = b0 → y1 = Int32.ofNat b1 → y2 = Int32.ofNat b2 → y3 = Int32.ofNat b3 → y4 = Int32.ofNat b4 → y5 = Int32.ofNat b5 → RC yS yt → R71 y0 y1 y2 y3 y4 y5 yS) (hK : ∀ {yS : cs} {yt : X8}, k_K yt = true → RC yS yt → K yS) : b_Pa_makeLayer_71 UL u x1 x2 x3 x4 x5 x6 S R54 R71 K := by
  unfold b_Pa_makeLayer_71
  unfold x_b_Pa_makeLayer_71 at h
  obtain ⟨o1, h, q2⟩ := rdr_ok h hS e_u
  obtain ⟨n3, h⟩ := nu_ok h
  refine ⟨nu_no n3 q2, ?_⟩
  obtain ⟨n4, h⟩ := an_ok h
  refine ⟨cl_ok n4 q2 (by decide), ?_⟩
  obtain ⟨o5, h, q6⟩ := rdr_ok h hS q2
  obtain ⟨n7, h⟩ := nu_ok h
  refine ⟨nu_no n7 q6, ?_⟩
  obtain ⟨n8, h⟩ := an_ok h
  refine ⟨cl_ok n8 q6 (by decide), ?_⟩
  obtain ⟨n9, h⟩ := an_ok h
  refine ⟨vpc_ok n9 e_x2 q6, ?_⟩
  obtain ⟨v10, h, q11⟩ := rda_ok h hS q6 e_x2
  have hc12 := c_le' q11 e_x6
  refine ⟨fun hc => ?_, fun hc => ?_⟩
  · have h := x_pos h (hc12.mp hc)
    have h := frc_ok h
    have p14 := n_add e_x5 ((rfl : (1 : Int32) = Int32.ofNat 1))
    exact hR54 h e_x1 e_x2 e_x3 e_x4 p14 hS
  · have h := x_neg h (fun q => hc (hc12.mpr q))
    have h := frc_ok h
    have p16 := n_div (n_mul e_x3 e_x4) ((rfl : (2 : Int32) = Int32.ofNat 2))
    exact xs_e_Pa_makeLayer_96 h e_u e_x1 e_x2 e_x3 e_x4 e_x5 e_x6 p16 ((rfl : (0 : Int32) = Int32.ofNat 0)) hS hR54 hR71 hK
noncomputable def xl_e_Pa_makeLayer_71 (a_u : Nat) (r_R54 : Nat → Nat → Nat → Nat → Nat → X8 → Bool) (k_K : X8 → Bool) (n : Nat) : Nat → Nat → Nat → Nat → Nat → Nat → X8 → Bool := Nat.rec (motive := fun _ => Nat → Nat → Nat → Nat → Nat → Nat → X8 → Bool) (fun _ _ _ _ _ _ _ => false) (fun _ ih b_x1 b_x2 b_x3 b_x4 b_x5 b_x6 bt => x_b_Pa_makeLayer_71 a_u b_x1 b_x2 b_x3 b_x4 b_x5 b_x6 bt r_R54 ih k_K) n
noncomputable def x_e_Pa_makeLayer_71 (a_u : Nat) (a_x1 : Nat) (a_x2 : Nat) (a_x3 : Nat) (a_x4 : Nat) (a_x5 : Nat) (a_x6 : Nat) (t : X8) (r_R54 : Nat → Nat → Nat → Nat → Nat → X8 → Bool) (k_K : X8 → Bool) : Bool := xl_e_Pa_makeLayer_71 a_u r_R54 k_K 200000 a_x1 a_x2 a_x3 a_x4 a_x5 a_x6 t
def xq_e_Pa_makeLayer_71 (a_u : Nat) (r_R54 : Nat → Nat → Nat → Nat → Nat → X8 → Bool) (k_K : X8 → Bool) (n : Nat) (y_x1 : Nat) (y_x2 : Int32) (y_x3 : Int32) (y_x4 : Int32) (y_x5 : Int32) (y_x6 : Int32) (yS : cs) : Prop := ∃ (b_x1 : Nat) (b_x2 : Nat) (b_x3 : Nat) (b_x4 : Nat) (b_x5 : Nat) (b_x6 : Nat) (bt : X8), y_x1 = b_x1 ∧ y_x2 = Int32.ofNat b_x2 ∧ y_x3 = Int32.ofNat b_x3 ∧ y_x4 = Int32.ofNat b_x4 ∧ y_x5 = Int32.ofNat b_x5 ∧ y_x6 = Int32.ofNat b_x6 ∧ RC yS bt ∧ xl_e_Pa_makeLayer_71 a_u r_R54 k_K n b_x1 b_x2 b_x3 b_x4 b_x5 b_x6 bt = true
set_option maxRecDepth 20000 in
theorem xs_e_Pa_makeLayer_71 {u a_u : Nat} {x1 a_x1 : Nat} {x2 : Int32} {a_x2 : Nat} {x3 : Int32} {a_x3 : Nat} {x4 : Int32} {a_x4 : Nat} {x5 : Int32} {a_x5 : Nat} {x6 : Int32} {a_x6 : Nat} {S : cs} {t : X8} {R54 : Nat → Int32 → Int32 → Int32 → Int32 → cs → Prop} {r_R54 : Nat → Nat → Nat → Nat → Nat → X8 → Bool} {K : cs → Prop} {k_K : X8 → Bool} (h : x_e_Pa_makeLayer_71 a_u a_x1 a_x2 a_x3 a_x4 a_x5 a_x6 t r_R54 k_K = true) (e_u : u = a_u) (e_x1 : x1 = a_x1) (e_x2 : x2 = Int32.ofNat a_x2) (e_x3 : x3 = Int32.ofNat a_x3) (e_x4 : x4 = Int32.ofNat a_x4) (e_x5 : x5 = Int32.ofNat a_x5) (e_x6 : x6 = Int32.ofNat a_x6) (hS : RC S t) (hR54 : ∀ {y0 b0 : Nat} {y1 : Int32} {b1 : Nat} {y2 : Int32} {b2 : Nat} {y3 : Int32} {b3 : Nat} {y4 : Int32} {b4 : Nat} {yS : cs} {yt : X8}, r_R54 b0 b1 b2 b3 b4 yt = true → y0 = b0 → y1 = Int32.ofNat b1 → y2 = Int32.ofNat b2 → y3 = Int32.ofNat b3 → y4 = Int32.ofNat b4 → RC yS yt → R54 y0 y1 y2 y3 y4 yS) (hK : ∀ {yS : cs} {yt : X8}, k_K yt = true → RC yS yt → K yS) : e_Pa_makeLayer_71 UL u x1 x2 x3 x4 x5 x6 S R54 K := by
  refine ⟨fun y_x1 y_x2 y_x3 y_x4 y_x5 y_x6 yS => ∃ n, xq_e_Pa_makeLayer_71 a_u r_R54 k_K n y_x1 y_x2 y_x3 y_x4 y_x5 y_x6 yS, fun y_x1 y_x2 y_x3 y_x4 y_x5 y_x6 yS => mf (fun n => xq_e_Pa_makeLayer_71 a_u r_R54 k_K n y_x1 y_x2 y_x3 y_x4 y_x5 y_x6 yS), ⟨200000, a_x1, a_x2, a_x3, a_x4, a_x5, a_x6, t, e_x1, e_x2, e_x3, e_x4, e_x5, e_x6, hS, h⟩, fun y_x1 y_x2 y_x3 y_x4 y_x5 y_x6 yS hI => ?_⟩
  obtain ⟨m, hm, hq⟩ := mf_ok hI
  obtain ⟨b_x1, b_x2, b_x3, b_x4, b_x5, b_x6, bt, c_x1, c_x2, c_x3, c_x4, c_x5, c_x6, cS, h⟩ := hq
  cases m with
  | zero => exact absurd h Bool.false_ne_true
  | succ n => exact xs_b_Pa_makeLayer_71 h e_u c_x1 c_x2 c_x3 c_x4 c_x5 c_x6 cS hR54 (fun h d_x1 d_x2 d_x3 d_x4 d_x5 d_x6 dS => ⟨⟨n, _, _, _, _, _, _, _, d_x1, d_x2, d_x3, d_x4, d_x5, d_x6, dS, h⟩, Nat.lt_of_le_of_lt (mf_le ⟨_, _, _, _, _, _, _, d_x1, d_x2, d_x3, d_x4, d_x5, d_x6, dS, h⟩) (Nat.lt_of_lt_of_eq (Nat.lt_succ_self n) hm.symm)⟩) hK
noncomputable def x_b_Pa_makeLayer_54 (a_u : Nat) (a_x1 : Nat) (a_x2 : Nat) (a_x3 : Nat) (a_x4 : Nat) (a_x5 : Nat) (t : X8) (r_R54 : Nat → Nat → Nat → Nat → Nat → X8 → Bool) (k_K : X8 → Bool) : Bool :=
  rdr t a_u 2 fun o1 => cond (Nat.beq o1 1000000) false <| and (Nat.beq (clx o1) 7) <| rdr t o1 10 fun o5 => cond (Nat.beq o5 1000000) false <| and (Nat.beq (clx o5) 902) <| and (Nat.blt a_x2 (lnx o5)) <| rda t o5 a_x2 fun v10 => cond (!(w_lt a_x5 v10)) (k_K t) (x_e_Pa_makeLayer_71 a_u a_x1 a_x2 a_x3 a_x4 a_x5 0 t r_R54 k_K)
set_option maxRecDepth 20000 in
set_option maxHeartbeats 1000000 in
theorem xs_b_Pa_makeLayer_54 {u a_u : Nat} {x1 a_x1 : Nat} {x2 : Int32} {a_x2 : Nat} {x3 : Int32} {a_x3 : Nat} {x4 : Int32} {a_x4 : Nat} {x5 : Int32} {a_x5 : Nat} {S : cs} {t : X8} {R54 : Nat → Int32 → Int32 → Int32 → Int32 → cs → Prop} {r_R54 : Nat → Nat → Nat → Nat → Nat → X8 → Bool} {K : cs → Prop} {k_K : X8 → Bool} (h : x_b_Pa_makeLayer_54 a_u a_x1 a_x2 a_x3 a_x4 a_x5 t r_R54 k_K = true) (e_u : u = a_u) (e_x1 : x1 = a_x1) (e_x2 : x2 = Int32.ofNat a_x2) (e_x3 : x3 = Int32.ofNat a_x3) (e_x4 : x4 = Int32.ofNat a_x4) (e_x5 : x5 = Int32.ofNat a_x5) (hS : RC S t) (hR54 : ∀ {y0 b0 : Nat} {y1 : Int32} {b1 : Nat} {y2 : Int32} {b2 : Nat} {y3 : Int32} {b3 : Nat} {y4 : Int32} {b4 : Nat} {yS : cs} {yt : X8}, r_R54 b0 b1 b2 b3 b4 yt = true → y0 = b0 → y1 = Int32.ofNat b1 → y2 = Int32.ofNat b2 → y3 = Int32.ofNat b3 → y4 = Int32.ofNat b4 → RC yS yt → R54 y0 y1 y2 y3 y4 yS) (hK : ∀ {yS : cs} {yt : X8}, k_K yt = true → RC yS yt → K yS) : b_Pa_makeLayer_54 UL u x1 x2 x3 x4 x5 S R54 K := by
  unfold b_Pa_makeLayer_54
  unfold x_b_Pa_makeLayer_54 at h
  obtain ⟨o1, h, q2⟩ := rdr_ok h hS e_u
  obtain ⟨n3, h⟩ := nu_ok h
  refine ⟨nu_no n3 q2, ?_⟩
  obtain ⟨n4, h⟩ := an_ok h
  refine ⟨cl_ok n4 q2 (by decide), ?_⟩
  obtain ⟨o5, h, q6⟩ := rdr_ok h hS q2
  obtain ⟨n7, h⟩ := nu_ok h
  refine ⟨nu_no n7 q6, ?_⟩
  obtain ⟨n8, h⟩ := an_ok h
  refine ⟨cl_ok n8 q6 (by decide), ?_⟩
  obtain ⟨n9, h⟩ := an_ok h
  refine ⟨vpc_ok n9 e_x2 q6, ?_⟩
  obtain ⟨v10, h, q11⟩ := rda_ok h hS q6 e_x2
  have hc12 := c_le' q11 e_x5
  refine ⟨fun hc => ?_, fun hc => ?_⟩
  · have h := x_pos h (hc12.mp hc)
    exact hK h hS
  · have h := x_neg h (fun q => hc (hc12.mpr q))
    exact xs_e_Pa_makeLayer_71 h e_u e_x1 e_x2 e_x3 e_x4 e_x5 ((rfl : (0 : Int32) = Int32.ofNat 0)) hS hR54 hK
noncomputable def xl_e_Pa_makeLayer_54 (a_u : Nat) (k_K : X8 → Bool) (n : Nat) : Nat → Nat → Nat → Nat → Nat → X8 → Bool := Nat.rec (motive := fun _ => Nat → Nat → Nat → Nat → Nat → X8 → Bool) (fun _ _ _ _ _ _ => false) (fun _ ih b_x1 b_x2 b_x3 b_x4 b_x5 bt => x_b_Pa_makeLayer_54 a_u b_x1 b_x2 b_x3 b_x4 b_x5 bt ih k_K) n
noncomputable def x_e_Pa_makeLayer_54 (a_u : Nat) (a_x1 : Nat) (a_x2 : Nat) (a_x3 : Nat) (a_x4 : Nat) (a_x5 : Nat) (t : X8) (k_K : X8 → Bool) : Bool := xl_e_Pa_makeLayer_54 a_u k_K 200000 a_x1 a_x2 a_x3 a_x4 a_x5 t
def xq_e_Pa_makeLayer_54 (a_u : Nat) (k_K : X8 → Bool) (n : Nat) (y_x1 : Nat) (y_x2 : Int32) (y_x3 : Int32) (y_x4 : Int32) (y_x5 : Int32) (yS : cs) : Prop := ∃ (b_x1 : Nat) (b_x2 : Nat) (b_x3 : Nat) (b_x4 : Nat) (b_x5 : Nat) (bt : X8), y_x1 = b_x1 ∧ y_x2 = Int32.ofNat b_x2 ∧ y_x3 = Int32.ofNat b_x3 ∧ y_x4 = Int32.ofNat b_x4 ∧ y_x5 = Int32.ofNat b_x5 ∧ RC yS bt ∧ xl_e_Pa_makeLayer_54 a_u k_K n b_x1 b_x2 b_x3 b_x4 b_x5 bt = true
set_option maxRecDepth 20000 in
theorem xs_e_Pa_makeLayer_54 {u a_u : Nat} {x1 a_x1 : Nat} {x2 : Int32} {a_x2 : Nat} {x3 : Int32} {a_x3 : Nat} {x4 : Int32} {a_x4 : Nat} {x5 : Int32} {a_x5 : Nat} {S : cs} {t : X8} {K : cs → Prop} {k_K : X8 → Bool} (h : x_e_Pa_makeLayer_54 a_u a_x1 a_x2 a_x3 a_x4 a_x5 t k_K = true) (e_u : u = a_u) (e_x1 : x1 = a_x1) (e_x2 : x2 = Int32.ofNat a_x2) (e_x3 : x3 = Int32.ofNat a_x3) (e_x4 : x4 = Int32.ofNat a_x4) (e_x5 : x5 = Int32.ofNat a_x5) (hS : RC S t) (hK : ∀ {yS : cs} {yt : X8}, k_K yt = true → RC yS yt → K yS) : e_Pa_makeLayer_54 UL u x1 x2 x3 x4 x5 S K := by
  refine ⟨fun y_x1 y_x2 y_x3 y_x4 y_x5 yS => ∃ n, xq_e_Pa_makeLayer_54 a_u k_K n y_x1 y_x2 y_x3 y_x4 y_x5 yS, fun y_x1 y_x2 y_x3 y_x4 y_x5 yS => mf (fun n => xq_e_Pa_makeLayer_54 a_u k_K n y_x1 y_x2 y_x3 y_x4 y_x5 yS), ⟨200000, a_x1, a_x2, a_x3, a_x4, a_x5, t, e_x1, e_x2, e_x3, e_x4, e_x5, hS, h⟩, fun y_x1 y_x2 y_x3 y_x4 y_x5 yS hI => ?_⟩
  obtain ⟨m, hm, hq⟩ := mf_ok hI
  obtain ⟨b_x1, b_x2, b_x3, b_x4, b_x5, bt, c_x1, c_x2, c_x3, c_x4, c_x5, cS, h⟩ := hq
  cases m with
  | zero => exact absurd h Bool.false_ne_true
  | succ n => exact xs_b_Pa_makeLayer_54 h e_u c_x1 c_x2 c_x3 c_x4 c_x5 cS (fun h d_x1 d_x2 d_x3 d_x4 d_x5 dS => ⟨⟨n, _, _, _, _, _, _, d_x1, d_x2, d_x3, d_x4, d_x5, dS, h⟩, Nat.lt_of_le_of_lt (mf_le ⟨_, _, _, _, _, _, d_x1, d_x2, d_x3, d_x4, d_x5, dS, h⟩) (Nat.lt_of_lt_of_eq (Nat.lt_succ_self n) hm.symm)⟩) hK
noncomputable def x_b_Pa_makeLayer_49 (a_u : Nat) (a_x1 : Nat) (a_x2 : Nat) (a_x3 : Nat) (a_s0 : Nat) (t : X8) (k_K : X8 → Bool) : Bool :=
  x_e_Pa_makeLayer_54 a_u a_x1 a_x2 a_x3 a_s0 0 t k_K
set_option maxRecDepth 20000 in
set_option maxHeartbeats 1000000 in
theorem xs_b_Pa_makeLayer_49 {u a_u : Nat} {x1 a_x1 : Nat} {x2 : Int32} {a_x2 : Nat} {x3 : Int32} {a_x3 : Nat} {s0 : Int32} {a_s0 : Nat} {S : cs} {t : X8} {K : cs → Prop} {k_K : X8 → Bool} (h : x_b_Pa_makeLayer_49 a_u a_x1 a_x2 a_x3 a_s0 t k_K = true) (e_u : u = a_u) (e_x1 : x1 = a_x1) (e_x2 : x2 = Int32.ofNat a_x2) (e_x3 : x3 = Int32.ofNat a_x3) (e_s0 : s0 = Int32.ofNat a_s0) (hS : RC S t) (hK : ∀ {yS : cs} {yt : X8}, k_K yt = true → RC yS yt → K yS) : b_Pa_makeLayer_49 UL u x1 x2 x3 s0 S K := by
  unfold b_Pa_makeLayer_49
  unfold x_b_Pa_makeLayer_49 at h
  exact xs_e_Pa_makeLayer_54 h e_u e_x1 e_x2 e_x3 e_s0 ((rfl : (0 : Int32) = Int32.ofNat 0)) hS hK
noncomputable def x_b_Pa_makeLayer_24 (a_u : Nat) (a_x1 : Nat) (a_x2 : Nat) (a_s0 : Nat) (t : X8) (k_K : X8 → Bool) : Bool :=
  rdr t a_u 2 fun o1 => cond (Nat.beq o1 1000000) false <| and (Nat.beq (clx o1) 7) <| rdr t o1 4 fun o5 => cond (Nat.beq o5 1000000) false <| and (Nat.beq (clx o5) 902) <| and (Nat.blt a_x2 (lnx o5)) <| rdi t o1 6 fun v10 => rda t o5 a_x2 fun v12 => cond (!(w_lt v12 v10)) (x_b_Pa_makeLayer_49 a_u a_x1 a_x2 a_s0 1 t k_K) (x_b_Pa_makeLayer_49 a_u a_x1 a_x2 a_s0 2 t k_K)
set_option maxRecDepth 20000 in
set_option maxHeartbeats 1000000 in
theorem xs_b_Pa_makeLayer_24 {u a_u : Nat} {x1 a_x1 : Nat} {x2 : Int32} {a_x2 : Nat} {s0 : Int32} {a_s0 : Nat} {S : cs} {t : X8} {K : cs → Prop} {k_K : X8 → Bool} (h : x_b_Pa_makeLayer_24 a_u a_x1 a_x2 a_s0 t k_K = true) (e_u : u = a_u) (e_x1 : x1 = a_x1) (e_x2 : x2 = Int32.ofNat a_x2) (e_s0 : s0 = Int32.ofNat a_s0) (hS : RC S t) (hK : ∀ {yS : cs} {yt : X8}, k_K yt = true → RC yS yt → K yS) : b_Pa_makeLayer_24 UL u x1 x2 s0 S K := by
  unfold b_Pa_makeLayer_24
  unfold x_b_Pa_makeLayer_24 at h
  obtain ⟨o1, h, q2⟩ := rdr_ok h hS e_u
  obtain ⟨n3, h⟩ := nu_ok h
  refine ⟨nu_no n3 q2, ?_⟩
  obtain ⟨n4, h⟩ := an_ok h
  refine ⟨cl_ok n4 q2 (by decide), ?_⟩
  obtain ⟨o5, h, q6⟩ := rdr_ok h hS q2
  obtain ⟨n7, h⟩ := nu_ok h
  refine ⟨nu_no n7 q6, ?_⟩
  obtain ⟨n8, h⟩ := an_ok h
  refine ⟨cl_ok n8 q6 (by decide), ?_⟩
  obtain ⟨n9, h⟩ := an_ok h
  refine ⟨vpc_ok n9 e_x2 q6, ?_⟩
  refine ⟨nu_no n3 q2, ?_⟩
  obtain ⟨v10, h, q11⟩ := rdi_ok h hS q2
  obtain ⟨v12, h, q13⟩ := rda_ok h hS q6 e_x2
  have hc14 := c_le' q11 q13
  refine ⟨fun hc => ?_, fun hc => ?_⟩
  · have h := x_pos h (hc14.mp hc)
    exact xs_b_Pa_makeLayer_49 h e_u e_x1 e_x2 e_s0 ((rfl : (1 : Int32) = Int32.ofNat 1)) hS hK
  · have h := x_neg h (fun q => hc (hc14.mpr q))
    exact xs_b_Pa_makeLayer_49 h e_u e_x1 e_x2 e_s0 ((rfl : (2 : Int32) = Int32.ofNat 2)) hS hK
noncomputable def x_p_Pa_makeLayer (a_u : Nat) (a_x1 : Nat) (a_x2 : Nat) (t : X8) (k_K : X8 → Bool) : Bool :=
  rdr t a_u 2 fun o1 => cond (Nat.beq o1 1000000) false <| and (Nat.beq (clx o1) 7) <| rdr t o1 3 fun o5 => cond (Nat.beq o5 1000000) false <| and (Nat.beq (clx o5) 902) <| and (Nat.blt a_x2 (lnx o5)) <| rdi t o1 5 fun v10 => rda t o5 a_x2 fun v12 => cond (!(w_lt v12 v10)) (x_b_Pa_makeLayer_24 a_u a_x1 a_x2 1 t k_K) (x_b_Pa_makeLayer_24 a_u a_x1 a_x2 2 t k_K)
set_option maxRecDepth 20000 in
set_option maxHeartbeats 1000000 in
theorem xs_p_Pa_makeLayer {u a_u : Nat} {x1 a_x1 : Nat} {x2 : Int32} {a_x2 : Nat} {S : cs} {t : X8} {K : cs → Prop} {k_K : X8 → Bool} (h : x_p_Pa_makeLayer a_u a_x1 a_x2 t k_K = true) (e_u : u = a_u) (e_x1 : x1 = a_x1) (e_x2 : x2 = Int32.ofNat a_x2) (hS : RC S t) (hK : ∀ {yS : cs} {yt : X8}, k_K yt = true → RC yS yt → K yS) : p_Pa_makeLayer UL u x1 x2 S K := by
  unfold p_Pa_makeLayer
  unfold x_p_Pa_makeLayer at h
  obtain ⟨o1, h, q2⟩ := rdr_ok h hS e_u
  obtain ⟨n3, h⟩ := nu_ok h
  refine ⟨nu_no n3 q2, ?_⟩
  obtain ⟨n4, h⟩ := an_ok h
  refine ⟨cl_ok n4 q2 (by decide), ?_⟩
  obtain ⟨o5, h, q6⟩ := rdr_ok h hS q2
  obtain ⟨n7, h⟩ := nu_ok h
  refine ⟨nu_no n7 q6, ?_⟩
  obtain ⟨n8, h⟩ := an_ok h
  refine ⟨cl_ok n8 q6 (by decide), ?_⟩
  obtain ⟨n9, h⟩ := an_ok h
  refine ⟨vpc_ok n9 e_x2 q6, ?_⟩
  refine ⟨nu_no n3 q2, ?_⟩
  obtain ⟨v10, h, q11⟩ := rdi_ok h hS q2
  obtain ⟨v12, h, q13⟩ := rda_ok h hS q6 e_x2
  have hc14 := c_le' q11 q13
  refine ⟨fun hc => ?_, fun hc => ?_⟩
  · have h := x_pos h (hc14.mp hc)
    exact xs_b_Pa_makeLayer_24 h e_u e_x1 e_x2 ((rfl : (1 : Int32) = Int32.ofNat 1)) hS hK
  · have h := x_neg h (fun q => hc (hc14.mpr q))
    exact xs_b_Pa_makeLayer_24 h e_u e_x1 e_x2 ((rfl : (2 : Int32) = Int32.ofNat 2)) hS hK
noncomputable def x_b_Pa_makeLevels_144 (a_u : Nat) (a_x1 : Nat) (a_x2 : Nat) (a_x5 : Nat) (t : X8) (r_R144 : Nat → Nat → Nat → X8 → Bool) (k_K : X8 → Bool) : Bool :=
  rdr t a_u 2 fun o1 => cond (Nat.beq o1 1000000) false <| and (Nat.beq (clx o1) 7) <| rdi t o1 2 fun v5 => cond (!(w_lt a_x5 v5)) (x_e_Pa_makeLevels_172 a_u a_x2 0 t k_K) (x_p_Pa_makeLayer a_u a_x1 a_x5 t (fun t_S160 => frc (w_add a_x5 1) fun f8 => r_R144 a_x1 a_x2 f8 t_S160))
set_option maxRecDepth 20000 in
set_option maxHeartbeats 1000000 in
theorem xs_b_Pa_makeLevels_144 {u a_u : Nat} {x1 a_x1 : Nat} {x2 a_x2 : Nat} {x5 : Int32} {a_x5 : Nat} {S : cs} {t : X8} {R144 : Nat → Nat → Int32 → cs → Prop} {r_R144 : Nat → Nat → Nat → X8 → Bool} {K : cs → Prop} {k_K : X8 → Bool} (h : x_b_Pa_makeLevels_144 a_u a_x1 a_x2 a_x5 t r_R144 k_K = true) (e_u : u = a_u) (e_x1 : x1 = a_x1) (e_x2 : x2 = a_x2) (e_x5 : x5 = Int32.ofNat a_x5) (hS : RC S t) (hR144 : ∀ {y0 b0 : Nat} {y1 b1 : Nat} {y2 : Int32} {b2 : Nat} {yS : cs} {yt : X8}, r_R144 b0 b1 b2 yt = true → y0 = b0 → y1 = b1 → y2 = Int32.ofNat b2 → RC yS yt → R144 y0 y1 y2 yS) (hK : ∀ {yS : cs} {yt : X8}, k_K yt = true → RC yS yt → K yS) : b_Pa_makeLevels_144 UL u x1 x2 x5 S R144 K := by
  unfold b_Pa_makeLevels_144
  unfold x_b_Pa_makeLevels_144 at h
  obtain ⟨o1, h, q2⟩ := rdr_ok h hS e_u
  obtain ⟨n3, h⟩ := nu_ok h
  refine ⟨nu_no n3 q2, ?_⟩
  obtain ⟨n4, h⟩ := an_ok h
  refine ⟨cl_ok n4 q2 (by decide), ?_⟩
  obtain ⟨v5, h, q6⟩ := rdi_ok h hS q2
  have hc7 := c_le' q6 e_x5
  refine ⟨fun hc => ?_, fun hc => ?_⟩
  · have h := x_pos h (hc7.mp hc)
    exact xs_e_Pa_makeLevels_172 h e_u e_x2 ((rfl : (0 : Int32) = Int32.ofNat 0)) hS hK
  · have h := x_neg h (fun q => hc (hc7.mpr q))
    refine xs_p_Pa_makeLayer h e_u e_x1 e_x5 hS (fun h h_S160 => ?_)
    have h := frc_ok h
    have p9 := n_add e_x5 ((rfl : (1 : Int32) = Int32.ofNat 1))
    exact hR144 h e_x1 e_x2 p9 h_S160
noncomputable def xl_e_Pa_makeLevels_144 (a_u : Nat) (k_K : X8 → Bool) (n : Nat) : Nat → Nat → Nat → X8 → Bool := Nat.rec (motive := fun _ => Nat → Nat → Nat → X8 → Bool) (fun _ _ _ _ => false) (fun _ ih b_x1 b_x2 b_x5 bt => x_b_Pa_makeLevels_144 a_u b_x1 b_x2 b_x5 bt ih k_K) n
noncomputable def x_e_Pa_makeLevels_144 (a_u : Nat) (a_x1 : Nat) (a_x2 : Nat) (a_x5 : Nat) (t : X8) (k_K : X8 → Bool) : Bool := xl_e_Pa_makeLevels_144 a_u k_K 200000 a_x1 a_x2 a_x5 t
def xq_e_Pa_makeLevels_144 (a_u : Nat) (k_K : X8 → Bool) (n : Nat) (y_x1 : Nat) (y_x2 : Nat) (y_x5 : Int32) (yS : cs) : Prop := ∃ (b_x1 : Nat) (b_x2 : Nat) (b_x5 : Nat) (bt : X8), y_x1 = b_x1 ∧ y_x2 = b_x2 ∧ y_x5 = Int32.ofNat b_x5 ∧ RC yS bt ∧ xl_e_Pa_makeLevels_144 a_u k_K n b_x1 b_x2 b_x5 bt = true
set_option maxRecDepth 20000 in
theorem xs_e_Pa_makeLevels_144 {u a_u : Nat} {x1 a_x1 : Nat} {x2 a_x2 : Nat} {x5 : Int32} {a_x5 : Nat} {S : cs} {t : X8} {K : cs → Prop} {k_K : X8 → Bool} (h : x_e_Pa_makeLevels_144 a_u a_x1 a_x2 a_x5 t k_K = true) (e_u : u = a_u) (e_x1 : x1 = a_x1) (e_x2 : x2 = a_x2) (e_x5 : x5 = Int32.ofNat a_x5) (hS : RC S t) (hK : ∀ {yS : cs} {yt : X8}, k_K yt = true → RC yS yt → K yS) : e_Pa_makeLevels_144 UL u x1 x2 x5 S K := by
  refine ⟨fun y_x1 y_x2 y_x5 yS => ∃ n, xq_e_Pa_makeLevels_144 a_u k_K n y_x1 y_x2 y_x5 yS, fun y_x1 y_x2 y_x5 yS => mf (fun n => xq_e_Pa_makeLevels_144 a_u k_K n y_x1 y_x2 y_x5 yS), ⟨200000, a_x1, a_x2, a_x5, t, e_x1, e_x2, e_x5, hS, h⟩, fun y_x1 y_x2 y_x5 yS hI => ?_⟩
  obtain ⟨m, hm, hq⟩ := mf_ok hI
  obtain ⟨b_x1, b_x2, b_x5, bt, c_x1, c_x2, c_x5, cS, h⟩ := hq
  cases m with
  | zero => exact absurd h Bool.false_ne_true
  | succ n => exact xs_b_Pa_makeLevels_144 h e_u c_x1 c_x2 c_x5 cS (fun h d_x1 d_x2 d_x5 dS => ⟨⟨n, _, _, _, _, d_x1, d_x2, d_x5, dS, h⟩, Nat.lt_of_le_of_lt (mf_le ⟨_, _, _, _, d_x1, d_x2, d_x5, dS, h⟩) (Nat.lt_of_lt_of_eq (Nat.lt_succ_self n) hm.symm)⟩) hK
noncomputable def x_p_Pi_setFactors (a_u : Nat) (a_x1 : Nat) (a_x2 : Nat) (a_x3 : Nat) (t : X8) (k_K : X8 → Bool) : Bool :=
  rdr t a_u 3 fun o1 => cond (Nat.beq o1 1000000) false <| and (Nat.beq (clx o1) 902) <| and (Nat.blt a_x1 (lnx o1)) <| rdr t a_u 4 fun o6 => cond (Nat.beq o6 1000000) false <| and (Nat.beq (clx o6) 902) <| and (Nat.blt a_x1 (lnx o6)) <| wra t o1 a_x1 a_x2 fun t11 => rdr t11 a_u 4 fun o15 => wra t11 o15 a_x1 a_x3 fun t13 => rdi t13 a_u 5 fun v19 => frc (w_max v19 a_x2) fun f21 => wri t13 a_u 5 f21 fun t17 => rdi t17 a_u 6 fun v25 => frc (w_max v25 a_x3) fun f27 => wri t17 a_u 6 f27 fun t23 => k_K t23
set_option maxRecDepth 20000 in
set_option maxHeartbeats 1000000 in
theorem xs_p_Pi_setFactors {u a_u : Nat} {x1 : Int32} {a_x1 : Nat} {x2 : Int32} {a_x2 : Nat} {x3 : Int32} {a_x3 : Nat} {S : cs} {t : X8} {K : cs → Prop} {k_K : X8 → Bool} (h : x_p_Pi_setFactors a_u a_x1 a_x2 a_x3 t k_K = true) (e_u : u = a_u) (e_x1 : x1 = Int32.ofNat a_x1) (e_x2 : x2 = Int32.ofNat a_x2) (e_x3 : x3 = Int32.ofNat a_x3) (hS : RC S t) (hK : ∀ {yS : cs} {yt : X8}, k_K yt = true → RC yS yt → K yS) : p_Pi_setFactors UL u x1 x2 x3 S K := by
  unfold p_Pi_setFactors
  unfold x_p_Pi_setFactors at h
  obtain ⟨o1, h, q2⟩ := rdr_ok h hS e_u
  obtain ⟨n3, h⟩ := nu_ok h
  refine ⟨nu_no n3 q2, ?_⟩
  obtain ⟨n4, h⟩ := an_ok h
  refine ⟨cl_ok n4 q2 (by decide), ?_⟩
  obtain ⟨n5, h⟩ := an_ok h
  refine ⟨vpc_ok n5 e_x1 q2, ?_⟩
  obtain ⟨o6, h, q7⟩ := rdr_ok h hS e_u
  obtain ⟨n8, h⟩ := nu_ok h
  refine ⟨nu_no n8 q7, ?_⟩
  obtain ⟨n9, h⟩ := an_ok h
  refine ⟨cl_ok n9 q7 (by decide), ?_⟩
  obtain ⟨n10, h⟩ := an_ok h
  refine ⟨vpc_ok n10 e_x1 q7, ?_⟩
  obtain ⟨t11, h, hS12⟩ := wra_ok h hS q2 e_x1 e_x2
  obtain ⟨o15, h, q16⟩ := rdr_ok h hS12 e_u
  obtain ⟨t13, h, hS14⟩ := wra_ok h hS12 q16 e_x1 e_x3
  obtain ⟨v19, h, q20⟩ := rdi_ok h hS14 e_u
  have h := frc_ok h
  have p22 := n_max q20 e_x2
  obtain ⟨t17, h, hS18⟩ := wri_ok h hS14 e_u p22
  obtain ⟨v25, h, q26⟩ := rdi_ok h hS18 e_u
  have h := frc_ok h
  have p28 := n_max q26 e_x3
  obtain ⟨t23, h, hS24⟩ := wri_ok h hS18 e_u p28
  exact hK h hS24
noncomputable def x_b_Sc_addLayer_42 (a_u : Nat) (t : X8) (k_K : X8 → Bool) : Bool :=
  k_K t
set_option maxRecDepth 20000 in
set_option maxHeartbeats 1000000 in
theorem xs_b_Sc_addLayer_42 {u a_u : Nat} {S : cs} {t : X8} {K : cs → Prop} {k_K : X8 → Bool} (h : x_b_Sc_addLayer_42 a_u t k_K = true) (e_u : u = a_u) (hS : RC S t) (hK : ∀ {yS : cs} {yt : X8}, k_K yt = true → RC yS yt → K yS) : b_Sc_addLayer_42 UL u S K := by
  unfold b_Sc_addLayer_42
  unfold x_b_Sc_addLayer_42 at h
  exact hK h hS
noncomputable def x_p_Sc_addLayer (a_u : Nat) (a_x1 : Nat) (a_x2 : Nat) (a_x3 : Nat) (t : X8) (k_K : X8 → Bool) : Bool :=
  rdi t a_u 0 fun v1 => cond (!(w_lt v1 3)) (x_b_Sc_addLayer_42 a_u t k_K) (rdr t a_u 1 fun o4 => cond (Nat.beq o4 1000000) false <| and (Nat.beq (clx o4) 902) <| and (Nat.blt v1 (lnx o4)) <| rdr t a_u 2 fun o9 => cond (Nat.beq o9 1000000) false <| and (Nat.beq (clx o9) 902) <| and (Nat.blt a_x1 (lnx o9)) <| rdr t a_u 3 fun o14 => cond (Nat.beq o14 1000000) false <| and (Nat.beq (clx o14) 902) <| and (Nat.blt a_x1 (lnx o14)) <| wra t o4 v1 a_x1 fun t19 => rdr t19 a_u 2 fun o23 => wra t19 o23 a_x1 a_x2 fun t21 => rdr t21 a_u 3 fun o27 => wra t21 o27 a_x1 a_x3 fun t25 => rdi t25 a_u 0 fun v31 => frc (w_add v31 1) fun f33 => wri t25 a_u 0 f33 fun t29 => x_b_Sc_addLayer_42 a_u t29 k_K)
set_option maxRecDepth 20000 in
set_option maxHeartbeats 1000000 in
theorem xs_p_Sc_addLayer {u a_u : Nat} {x1 : Int32} {a_x1 : Nat} {x2 : Int32} {a_x2 : Nat} {x3 : Int32} {a_x3 : Nat} {S : cs} {t : X8} {K : cs → Prop} {k_K : X8 → Bool} (h : x_p_Sc_addLayer a_u a_x1 a_x2 a_x3 t k_K = true) (e_u : u = a_u) (e_x1 : x1 = Int32.ofNat a_x1) (e_x2 : x2 = Int32.ofNat a_x2) (e_x3 : x3 = Int32.ofNat a_x3) (hS : RC S t) (hK : ∀ {yS : cs} {yt : X8}, k_K yt = true → RC yS yt → K yS) : p_Sc_addLayer UL u x1 x2 x3 S K := by
  unfold p_Sc_addLayer
  unfold x_p_Sc_addLayer at h
  obtain ⟨v1, h, q2⟩ := rdi_ok h hS e_u
  have hc3 := c_le' ((rfl : (3 : Int32) = Int32.ofNat 3)) q2
  refine ⟨fun hc => ?_, fun hc => ?_⟩
  · have h := x_pos h (hc3.mp hc)
    exact xs_b_Sc_addLayer_42 h e_u hS hK
  · have h := x_neg h (fun q => hc (hc3.mpr q))
    obtain ⟨o4, h, q5⟩ := rdr_ok h hS e_u
    obtain ⟨n6, h⟩ := nu_ok h
    refine ⟨nu_no n6 q5, ?_⟩
    obtain ⟨n7, h⟩ := an_ok h
    refine ⟨cl_ok n7 q5 (by decide), ?_⟩
    obtain ⟨n8, h⟩ := an_ok h
    refine ⟨vpc_ok n8 q2 q5, ?_⟩
    obtain ⟨o9, h, q10⟩ := rdr_ok h hS e_u
    obtain ⟨n11, h⟩ := nu_ok h
    refine ⟨nu_no n11 q10, ?_⟩
    obtain ⟨n12, h⟩ := an_ok h
    refine ⟨cl_ok n12 q10 (by decide), ?_⟩
    obtain ⟨n13, h⟩ := an_ok h
    refine ⟨vpc_ok n13 e_x1 q10, ?_⟩
    obtain ⟨o14, h, q15⟩ := rdr_ok h hS e_u
    obtain ⟨n16, h⟩ := nu_ok h
    refine ⟨nu_no n16 q15, ?_⟩
    obtain ⟨n17, h⟩ := an_ok h
    refine ⟨cl_ok n17 q15 (by decide), ?_⟩
    obtain ⟨n18, h⟩ := an_ok h
    refine ⟨vpc_ok n18 e_x1 q15, ?_⟩
    obtain ⟨t19, h, hS20⟩ := wra_ok h hS q5 q2 e_x1
    obtain ⟨o23, h, q24⟩ := rdr_ok h hS20 e_u
    obtain ⟨t21, h, hS22⟩ := wra_ok h hS20 q24 e_x1 e_x2
    obtain ⟨o27, h, q28⟩ := rdr_ok h hS22 e_u
    obtain ⟨t25, h, hS26⟩ := wra_ok h hS22 q28 e_x1 e_x3
    obtain ⟨v31, h, q32⟩ := rdi_ok h hS26 e_u
    have h := frc_ok h
    have p34 := n_add q32 ((rfl : (1 : Int32) = Int32.ofNat 1))
    obtain ⟨t29, h, hS30⟩ := wri_ok h hS26 e_u p34
    exact xs_b_Sc_addLayer_42 h e_u hS30 hK
noncomputable def x_b_Pa_makeLevels_86 (a_u : Nat) (a_x1 : Nat) (a_x2 : Nat) (a_x3 : Nat) (a_x4 : Nat) (a_x5 : Nat) (a_s0 : Nat) (a_s1 : Nat) (a_s2 : Nat) (a_s3 : Nat) (t : X8) (r_R47 : Nat → Nat → Nat → Nat → Nat → X8 → Bool) (k_K : X8 → Bool) : Bool :=
  and (Nat.beq (clx a_s0) 7) <| x_p_Pi_setFactors a_s0 a_s1 a_s2 a_s3 t (fun t_S86 => x_p_Pa_kindOf a_x5 (fun v91_ => rdr t_S86 a_u 3 fun o2 => cond (Nat.beq o2 1000000) false <| and (Nat.beq (clx o2) 10) <| x_p_Sc_addLayer o2 a_x5 v91_ v91_ t_S86 (fun t_S106 => frc (w_add a_x5 1) fun f6 => r_R47 a_x1 a_x2 a_x3 a_x4 f6 t_S106)))
set_option maxRecDepth 20000 in
set_option maxHeartbeats 1000000 in
theorem xs_b_Pa_makeLevels_86 {u a_u : Nat} {x1 a_x1 : Nat} {x2 a_x2 : Nat} {x3 : Int32} {a_x3 : Nat} {x4 : Int32} {a_x4 : Nat} {x5 : Int32} {a_x5 : Nat} {s0 a_s0 : Nat} {s1 : Int32} {a_s1 : Nat} {s2 : Int32} {a_s2 : Nat} {s3 : Int32} {a_s3 : Nat} {S : cs} {t : X8} {R47 : Nat → Nat → Int32 → Int32 → Int32 → cs → Prop} {r_R47 : Nat → Nat → Nat → Nat → Nat → X8 → Bool} {K : cs → Prop} {k_K : X8 → Bool} (h : x_b_Pa_makeLevels_86 a_u a_x1 a_x2 a_x3 a_x4 a_x5 a_s0 a_s1 a_s2 a_s3 t r_R47 k_K = true) (e_u : u = a_u) (e_x1 : x1 = a_x1) (e_x2 : x2 = a_x2) (e_x3 : x3 = Int32.ofNat a_x3) (e_x4 : x4 = Int32.ofNat a_x4) (e_x5 : x5 = Int32.ofNat a_x5) (e_s0 : s0 = a_s0) (e_s1 : s1 = Int32.ofNat a_s1) (e_s2 : s2 = Int32.ofNat a_s2) (e_s3 : s3 = Int32.ofNat a_s3) (hS : RC S t) (hR47 : ∀ {y0 b0 : Nat} {y1 b1 : Nat} {y2 : Int32} {b2 : Nat} {y3 : Int32} {b3 : Nat} {y4 : Int32} {b4 : Nat} {yS : cs} {yt : X8}, r_R47 b0 b1 b2 b3 b4 yt = true → y0 = b0 → y1 = b1 → y2 = Int32.ofNat b2 → y3 = Int32.ofNat b3 → y4 = Int32.ofNat b4 → RC yS yt → R47 y0 y1 y2 y3 y4 yS) (hK : ∀ {yS : cs} {yt : X8}, k_K yt = true → RC yS yt → K yS) : b_Pa_makeLevels_86 UL u x1 x2 x3 x4 x5 s0 s1 s2 s3 S R47 K := by
  unfold b_Pa_makeLevels_86
  unfold x_b_Pa_makeLevels_86 at h
  obtain ⟨n1, h⟩ := an_ok h
  refine ⟨cl_ok n1 e_s0 (by decide), ?_⟩
  refine xs_p_Pi_setFactors h e_s0 e_s1 e_s2 e_s3 hS (fun h h_S86 => ?_)
  refine xs_p_Pa_kindOf h e_x5 (fun h e_v91 => ?_)
  obtain ⟨o2, h, q3⟩ := rdr_ok h h_S86 e_u
  obtain ⟨n4, h⟩ := nu_ok h
  refine ⟨nu_no n4 q3, ?_⟩
  obtain ⟨n5, h⟩ := an_ok h
  refine ⟨cl_ok n5 q3 (by decide), ?_⟩
  refine xs_p_Sc_addLayer h q3 e_x5 e_v91 e_v91 h_S86 (fun h h_S106 => ?_)
  have h := frc_ok h
  have p7 := n_add e_x5 ((rfl : (1 : Int32) = Int32.ofNat 1))
  exact hR47 h e_x1 e_x2 e_x3 e_x4 p7 h_S106
noncomputable def x_b_Pa_makeLevels_75 (a_u : Nat) (a_x1 : Nat) (a_x2 : Nat) (a_x3 : Nat) (a_x4 : Nat) (a_x5 : Nat) (a_s0 : Nat) (a_s1 : Nat) (a_s2 : Nat) (t : X8) (r_R47 : Nat → Nat → Nat → Nat → Nat → X8 → Bool) (k_K : X8 → Bool) : Bool :=
  cond (w_eq a_x5 0) (x_b_Pa_makeLevels_86 a_u a_x1 a_x2 a_x3 a_x4 a_x5 a_s0 a_s1 a_s2 a_x4 t r_R47 k_K) (x_b_Pa_makeLevels_86 a_u a_x1 a_x2 a_x3 a_x4 a_x5 a_s0 a_s1 a_s2 1 t r_R47 k_K)
set_option maxRecDepth 20000 in
set_option maxHeartbeats 1000000 in
theorem xs_b_Pa_makeLevels_75 {u a_u : Nat} {x1 a_x1 : Nat} {x2 a_x2 : Nat} {x3 : Int32} {a_x3 : Nat} {x4 : Int32} {a_x4 : Nat} {x5 : Int32} {a_x5 : Nat} {s0 a_s0 : Nat} {s1 : Int32} {a_s1 : Nat} {s2 : Int32} {a_s2 : Nat} {S : cs} {t : X8} {R47 : Nat → Nat → Int32 → Int32 → Int32 → cs → Prop} {r_R47 : Nat → Nat → Nat → Nat → Nat → X8 → Bool} {K : cs → Prop} {k_K : X8 → Bool} (h : x_b_Pa_makeLevels_75 a_u a_x1 a_x2 a_x3 a_x4 a_x5 a_s0 a_s1 a_s2 t r_R47 k_K = true) (e_u : u = a_u) (e_x1 : x1 = a_x1) (e_x2 : x2 = a_x2) (e_x3 : x3 = Int32.ofNat a_x3) (e_x4 : x4 = Int32.ofNat a_x4) (e_x5 : x5 = Int32.ofNat a_x5) (e_s0 : s0 = a_s0) (e_s1 : s1 = Int32.ofNat a_s1) (e_s2 : s2 = Int32.ofNat a_s2) (hS : RC S t) (hR47 : ∀ {y0 b0 : Nat} {y1 b1 : Nat} {y2 : Int32} {b2 : Nat} {y3 : Int32} {b3 : Nat} {y4 : Int32} {b4 : Nat} {yS : cs} {yt : X8}, r_R47 b0 b1 b2 b3 b4 yt = true → y0 = b0 → y1 = b1 → y2 = Int32.ofNat b2 → y3 = Int32.ofNat b3 → y4 = Int32.ofNat b4 → RC yS yt → R47 y0 y1 y2 y3 y4 yS) (hK : ∀ {yS : cs} {yt : X8}, k_K yt = true → RC yS yt → K yS) : b_Pa_makeLevels_75 UL u x1 x2 x3 x4 x5 s0 s1 s2 S R47 K := by
  unfold b_Pa_makeLevels_75
  unfold x_b_Pa_makeLevels_75 at h
  have hc1 := c_eq' e_x5 ((rfl : (0 : Int32) = Int32.ofNat 0))
  refine ⟨fun hc => ?_, fun hc => ?_⟩
  · have h := x_neg h (fun q => hc (hc1.mpr q))
    exact xs_b_Pa_makeLevels_86 h e_u e_x1 e_x2 e_x3 e_x4 e_x5 e_s0 e_s1 e_s2 ((rfl : (1 : Int32) = Int32.ofNat 1)) hS hR47 hK
  · have h := x_pos h (hc1.mp hc)
    exact xs_b_Pa_makeLevels_86 h e_u e_x1 e_x2 e_x3 e_x4 e_x5 e_s0 e_s1 e_s2 e_x4 hS hR47 hK
noncomputable def x_b_Pa_makeLevels_47 (a_u : Nat) (a_x1 : Nat) (a_x2 : Nat) (a_x3 : Nat) (a_x4 : Nat) (a_x5 : Nat) (t : X8) (r_R47 : Nat → Nat → Nat → Nat → Nat → X8 → Bool) (k_K : X8 → Bool) : Bool :=
  rdr t a_u 2 fun o1 => cond (Nat.beq o1 1000000) false <| and (Nat.beq (clx o1) 7) <| rdi t o1 2 fun v5 => cond (!(w_lt a_x5 v5)) (x_p_Pi_measure o1 t (fun t_S119 => rdr t_S119 a_u 2 fun o8 => cond (Nat.beq o8 1000000) false <| and (Nat.beq (clx o8) 7) <| rdr t_S119 a_u 3 fun o12 => cond (Nat.beq o12 1000000) false <| and (Nat.beq (clx o12) 10) <| wri t_S119 o8 17 1 fun t16 => x_p_Sc_arrange o12 o8 t16 (fun t_S138 => x_e_Pa_makeLevels_144 a_u a_x1 a_x2 0 t_S138 k_K))) (cond (w_eq a_x5 0) (x_b_Pa_makeLevels_75 a_u a_x1 a_x2 a_x3 a_x4 a_x5 o1 a_x5 a_x3 t r_R47 k_K) (x_b_Pa_makeLevels_75 a_u a_x1 a_x2 a_x3 a_x4 a_x5 o1 a_x5 1 t r_R47 k_K))
set_option maxRecDepth 20000 in
set_option maxHeartbeats 1000000 in
theorem xs_b_Pa_makeLevels_47 {u a_u : Nat} {x1 a_x1 : Nat} {x2 a_x2 : Nat} {x3 : Int32} {a_x3 : Nat} {x4 : Int32} {a_x4 : Nat} {x5 : Int32} {a_x5 : Nat} {S : cs} {t : X8} {R47 : Nat → Nat → Int32 → Int32 → Int32 → cs → Prop} {r_R47 : Nat → Nat → Nat → Nat → Nat → X8 → Bool} {K : cs → Prop} {k_K : X8 → Bool} (h : x_b_Pa_makeLevels_47 a_u a_x1 a_x2 a_x3 a_x4 a_x5 t r_R47 k_K = true) (e_u : u = a_u) (e_x1 : x1 = a_x1) (e_x2 : x2 = a_x2) (e_x3 : x3 = Int32.ofNat a_x3) (e_x4 : x4 = Int32.ofNat a_x4) (e_x5 : x5 = Int32.ofNat a_x5) (hS : RC S t) (hR47 : ∀ {y0 b0 : Nat} {y1 b1 : Nat} {y2 : Int32} {b2 : Nat} {y3 : Int32} {b3 : Nat} {y4 : Int32} {b4 : Nat} {yS : cs} {yt : X8}, r_R47 b0 b1 b2 b3 b4 yt = true → y0 = b0 → y1 = b1 → y2 = Int32.ofNat b2 → y3 = Int32.ofNat b3 → y4 = Int32.ofNat b4 → RC yS yt → R47 y0 y1 y2 y3 y4 yS) (hK : ∀ {yS : cs} {yt : X8}, k_K yt = true → RC yS yt → K yS) : b_Pa_makeLevels_47 UL u x1 x2 x3 x4 x5 S R47 K := by
  unfold b_Pa_makeLevels_47
  unfold x_b_Pa_makeLevels_47 at h
  obtain ⟨o1, h, q2⟩ := rdr_ok h hS e_u
  obtain ⟨n3, h⟩ := nu_ok h
  refine ⟨nu_no n3 q2, ?_⟩
  obtain ⟨n4, h⟩ := an_ok h
  refine ⟨cl_ok n4 q2 (by decide), ?_⟩
  obtain ⟨v5, h, q6⟩ := rdi_ok h hS q2
  have hc7 := c_le' q6 e_x5
  refine ⟨fun hc => ?_, fun hc => ?_⟩
  · have h := x_pos h (hc7.mp hc)
    refine ⟨nu_no n3 q2, ?_⟩
    refine xs_p_Pi_measure h q2 hS (fun h h_S119 => ?_)
    obtain ⟨o8, h, q9⟩ := rdr_ok h h_S119 e_u
    obtain ⟨n10, h⟩ := nu_ok h
    refine ⟨nu_no n10 q9, ?_⟩
    obtain ⟨n11, h⟩ := an_ok h
    refine ⟨cl_ok n11 q9 (by decide), ?_⟩
    obtain ⟨o12, h, q13⟩ := rdr_ok h h_S119 e_u
    obtain ⟨n14, h⟩ := nu_ok h
    refine ⟨nu_no n14 q13, ?_⟩
    refine ⟨nu_no n10 q9, ?_⟩
    obtain ⟨n15, h⟩ := an_ok h
    refine ⟨cl_ok n15 q13 (by decide), ?_⟩
    obtain ⟨t16, h, hS17⟩ := wri_ok h h_S119 q9 ((rfl : (1 : Int32) = Int32.ofNat 1))
    refine xs_p_Sc_arrange h q13 q9 hS17 (fun h h_S138 => ?_)
    exact xs_e_Pa_makeLevels_144 h e_u e_x1 e_x2 ((rfl : (0 : Int32) = Int32.ofNat 0)) h_S138 hK
  · have h := x_neg h (fun q => hc (hc7.mpr q))
    refine ⟨nu_no n3 q2, ?_⟩
    have hc18 := c_eq' e_x5 ((rfl : (0 : Int32) = Int32.ofNat 0))
    refine ⟨fun hc => ?_, fun hc => ?_⟩
    · have h := x_neg h (fun q => hc (hc18.mpr q))
      exact xs_b_Pa_makeLevels_75 h e_u e_x1 e_x2 e_x3 e_x4 e_x5 q2 e_x5 ((rfl : (1 : Int32) = Int32.ofNat 1)) hS hR47 hK
    · have h := x_pos h (hc18.mp hc)
      exact xs_b_Pa_makeLevels_75 h e_u e_x1 e_x2 e_x3 e_x4 e_x5 q2 e_x5 e_x3 hS hR47 hK
noncomputable def xl_e_Pa_makeLevels_47 (a_u : Nat) (k_K : X8 → Bool) (n : Nat) : Nat → Nat → Nat → Nat → Nat → X8 → Bool := Nat.rec (motive := fun _ => Nat → Nat → Nat → Nat → Nat → X8 → Bool) (fun _ _ _ _ _ _ => false) (fun _ ih b_x1 b_x2 b_x3 b_x4 b_x5 bt => x_b_Pa_makeLevels_47 a_u b_x1 b_x2 b_x3 b_x4 b_x5 bt ih k_K) n
noncomputable def x_e_Pa_makeLevels_47 (a_u : Nat) (a_x1 : Nat) (a_x2 : Nat) (a_x3 : Nat) (a_x4 : Nat) (a_x5 : Nat) (t : X8) (k_K : X8 → Bool) : Bool := xl_e_Pa_makeLevels_47 a_u k_K 200000 a_x1 a_x2 a_x3 a_x4 a_x5 t
def xq_e_Pa_makeLevels_47 (a_u : Nat) (k_K : X8 → Bool) (n : Nat) (y_x1 : Nat) (y_x2 : Nat) (y_x3 : Int32) (y_x4 : Int32) (y_x5 : Int32) (yS : cs) : Prop := ∃ (b_x1 : Nat) (b_x2 : Nat) (b_x3 : Nat) (b_x4 : Nat) (b_x5 : Nat) (bt : X8), y_x1 = b_x1 ∧ y_x2 = b_x2 ∧ y_x3 = Int32.ofNat b_x3 ∧ y_x4 = Int32.ofNat b_x4 ∧ y_x5 = Int32.ofNat b_x5 ∧ RC yS bt ∧ xl_e_Pa_makeLevels_47 a_u k_K n b_x1 b_x2 b_x3 b_x4 b_x5 bt = true
set_option maxRecDepth 20000 in
theorem xs_e_Pa_makeLevels_47 {u a_u : Nat} {x1 a_x1 : Nat} {x2 a_x2 : Nat} {x3 : Int32} {a_x3 : Nat} {x4 : Int32} {a_x4 : Nat} {x5 : Int32} {a_x5 : Nat} {S : cs} {t : X8} {K : cs → Prop} {k_K : X8 → Bool} (h : x_e_Pa_makeLevels_47 a_u a_x1 a_x2 a_x3 a_x4 a_x5 t k_K = true) (e_u : u = a_u) (e_x1 : x1 = a_x1) (e_x2 : x2 = a_x2) (e_x3 : x3 = Int32.ofNat a_x3) (e_x4 : x4 = Int32.ofNat a_x4) (e_x5 : x5 = Int32.ofNat a_x5) (hS : RC S t) (hK : ∀ {yS : cs} {yt : X8}, k_K yt = true → RC yS yt → K yS) : e_Pa_makeLevels_47 UL u x1 x2 x3 x4 x5 S K := by
  refine ⟨fun y_x1 y_x2 y_x3 y_x4 y_x5 yS => ∃ n, xq_e_Pa_makeLevels_47 a_u k_K n y_x1 y_x2 y_x3 y_x4 y_x5 yS, fun y_x1 y_x2 y_x3 y_x4 y_x5 yS => mf (fun n => xq_e_Pa_makeLevels_47 a_u k_K n y_x1 y_x2 y_x3 y_x4 y_x5 yS), ⟨200000, a_x1, a_x2, a_x3, a_x4, a_x5, t, e_x1, e_x2, e_x3, e_x4, e_x5, hS, h⟩, fun y_x1 y_x2 y_x3 y_x4 y_x5 yS hI => ?_⟩
  obtain ⟨m, hm, hq⟩ := mf_ok hI
  obtain ⟨b_x1, b_x2, b_x3, b_x4, b_x5, bt, c_x1, c_x2, c_x3, c_x4, c_x5, cS, h⟩ := hq
  cases m with
  | zero => exact absurd h Bool.false_ne_true
  | succ n => exact xs_b_Pa_makeLevels_47 h e_u c_x1 c_x2 c_x3 c_x4 c_x5 cS (fun h d_x1 d_x2 d_x3 d_x4 d_x5 dS => ⟨⟨n, _, _, _, _, _, _, d_x1, d_x2, d_x3, d_x4, d_x5, dS, h⟩, Nat.lt_of_le_of_lt (mf_le ⟨_, _, _, _, _, _, d_x1, d_x2, d_x3, d_x4, d_x5, dS, h⟩) (Nat.lt_of_lt_of_eq (Nat.lt_succ_self n) hm.symm)⟩) hK
noncomputable def x_b_Pa_makeLevels_14 (a_u : Nat) (a_x1 : Nat) (a_x2 : Nat) (a_x3 : Nat) (a_x4 : Nat) (a_s1 : Nat) (t : X8) (k_K : X8 → Bool) : Bool :=
  rdr t a_u 2 fun o1 => cond (Nat.beq o1 1000000) false <| and (Nat.beq (clx a_x1) 2) <| and (Nat.beq (clx o1) 7) <| wri t a_u 8 a_s1 fun t6 => rdi t6 a_x1 0 fun v8 => rdi t6 a_x1 1 fun v10 => rdi t6 a_x1 2 fun v12 => rdr t6 a_u 2 fun o14 => x_p_Pi_begin o14 v8 v10 v12 t6 (fun t_S33 => rdr t_S33 a_u 3 fun o16 => cond (Nat.beq o16 1000000) false <| and (Nat.beq (clx o16) 10) <| wri t_S33 o16 0 0 fun t20 => x_e_Pa_makeLevels_47 a_u a_x1 a_x2 a_x3 a_x4 0 t20 k_K)
set_option maxRecDepth 20000 in
set_option maxHeartbeats 1000000 in
theorem xs_b_Pa_makeLevels_14 {u a_u : Nat} {x1 a_x1 : Nat} {x2 a_x2 : Nat} {x3 : Int32} {a_x3 : Nat} {x4 : Int32} {a_x4 : Nat} {s1 : Int32} {a_s1 : Nat} {S : cs} {t : X8} {K : cs → Prop} {k_K : X8 → Bool} (h : x_b_Pa_makeLevels_14 a_u a_x1 a_x2 a_x3 a_x4 a_s1 t k_K = true) (e_u : u = a_u) (e_x1 : x1 = a_x1) (e_x2 : x2 = a_x2) (e_x3 : x3 = Int32.ofNat a_x3) (e_x4 : x4 = Int32.ofNat a_x4) (e_s1 : s1 = Int32.ofNat a_s1) (hS : RC S t) (hK : ∀ {yS : cs} {yt : X8}, k_K yt = true → RC yS yt → K yS) : b_Pa_makeLevels_14 UL u x1 x2 x3 x4 s1 S K := by
  unfold b_Pa_makeLevels_14
  unfold x_b_Pa_makeLevels_14 at h
  obtain ⟨o1, h, q2⟩ := rdr_ok h hS e_u
  obtain ⟨n3, h⟩ := nu_ok h
  refine ⟨nu_no n3 q2, ?_⟩
  obtain ⟨n4, h⟩ := an_ok h
  refine ⟨cl_ok n4 e_x1 (by decide), ?_⟩
  obtain ⟨n5, h⟩ := an_ok h
  refine ⟨cl_ok n5 q2 (by decide), ?_⟩
  obtain ⟨t6, h, hS7⟩ := wri_ok h hS e_u e_s1
  obtain ⟨v8, h, q9⟩ := rdi_ok h hS7 e_x1
  obtain ⟨v10, h, q11⟩ := rdi_ok h hS7 e_x1
  obtain ⟨v12, h, q13⟩ := rdi_ok h hS7 e_x1
  obtain ⟨o14, h, q15⟩ := rdr_ok h hS7 e_u
  refine xs_p_Pi_begin h q15 q9 q11 q13 hS7 (fun h h_S33 => ?_)
  obtain ⟨o16, h, q17⟩ := rdr_ok h h_S33 e_u
  obtain ⟨n18, h⟩ := nu_ok h
  refine ⟨nu_no n18 q17, ?_⟩
  obtain ⟨n19, h⟩ := an_ok h
  refine ⟨cl_ok n19 q17 (by decide), ?_⟩
  obtain ⟨t20, h, hS21⟩ := wri_ok h h_S33 q17 ((rfl : (0 : Int32) = Int32.ofNat 0))
  exact xs_e_Pa_makeLevels_47 h e_u e_x1 e_x2 e_x3 e_x4 ((rfl : (0 : Int32) = Int32.ofNat 0)) hS21 hK
noncomputable def x_p_Pa_makeLevels (a_u : Nat) (a_x1 : Nat) (a_x2 : Nat) (a_x3 : Nat) (a_x4 : Nat) (t : X8) (k_K : X8 → Bool) : Bool :=
  and (Nat.beq (clx a_x1) 2) <| rdi t a_x1 2 fun v2 => cond (w_eq v2 1) (x_b_Pa_makeLevels_14 a_u a_x1 a_x2 a_x3 a_x4 1 t k_K) (x_b_Pa_makeLevels_14 a_u a_x1 a_x2 a_x3 a_x4 2 t k_K)
set_option maxRecDepth 20000 in
set_option maxHeartbeats 1000000 in
theorem xs_p_Pa_makeLevels {u a_u : Nat} {x1 a_x1 : Nat} {x2 a_x2 : Nat} {x3 : Int32} {a_x3 : Nat} {x4 : Int32} {a_x4 : Nat} {S : cs} {t : X8} {K : cs → Prop} {k_K : X8 → Bool} (h : x_p_Pa_makeLevels a_u a_x1 a_x2 a_x3 a_x4 t k_K = true) (e_u : u = a_u) (e_x1 : x1 = a_x1) (e_x2 : x2 = a_x2) (e_x3 : x3 = Int32.ofNat a_x3) (e_x4 : x4 = Int32.ofNat a_x4) (hS : RC S t) (hK : ∀ {yS : cs} {yt : X8}, k_K yt = true → RC yS yt → K yS) : p_Pa_makeLevels UL u x1 x2 x3 x4 S K := by
  unfold p_Pa_makeLevels
  unfold x_p_Pa_makeLevels at h
  obtain ⟨n1, h⟩ := an_ok h
  refine ⟨cl_ok n1 e_x1 (by decide), ?_⟩
  obtain ⟨v2, h, q3⟩ := rdi_ok h hS e_x1
  have hc4 := c_eq' q3 ((rfl : (1 : Int32) = Int32.ofNat 1))
  refine ⟨fun hc => ?_, fun hc => ?_⟩
  · have h := x_neg h (fun q => hc (hc4.mpr q))
    exact xs_b_Pa_makeLevels_14 h e_u e_x1 e_x2 e_x3 e_x4 ((rfl : (2 : Int32) = Int32.ofNat 2)) hS hK
  · have h := x_pos h (hc4.mp hc)
    exact xs_b_Pa_makeLevels_14 h e_u e_x1 e_x2 e_x3 e_x4 ((rfl : (1 : Int32) = Int32.ofNat 1)) hS hK
noncomputable def x_b_Pa_fillByte_29 (a_u : Nat) (t : X8) (k_K : X8 → Bool) : Bool :=
  k_K t
set_option maxRecDepth 20000 in
set_option maxHeartbeats 1000000 in
theorem xs_b_Pa_fillByte_29 {u a_u : Nat} {S : cs} {t : X8} {K : cs → Prop} {k_K : X8 → Bool} (h : x_b_Pa_fillByte_29 a_u t k_K = true) (e_u : u = a_u) (hS : RC S t) (hK : ∀ {yS : cs} {yt : X8}, k_K yt = true → RC yS yt → K yS) : b_Pa_fillByte_29 UL u S K := by
  unfold b_Pa_fillByte_29
  unfold x_b_Pa_fillByte_29 at h
  exact hK h hS
noncomputable def x_b_Ro_add_36 (a_u : Nat) (t : X8) (k_K : X8 → Bool) : Bool :=
  k_K t
set_option maxRecDepth 20000 in
set_option maxHeartbeats 1000000 in
theorem xs_b_Ro_add_36 {u a_u : Nat} {S : cs} {t : X8} {K : cs → Prop} {k_K : X8 → Bool} (h : x_b_Ro_add_36 a_u t k_K = true) (e_u : u = a_u) (hS : RC S t) (hK : ∀ {yS : cs} {yt : X8}, k_K yt = true → RC yS yt → K yS) : b_Ro_add_36 UL u S K := by
  unfold b_Ro_add_36
  unfold x_b_Ro_add_36 at h
  exact hK h hS
noncomputable def x_p_Ro_add (a_u : Nat) (a_x1 : Nat) (t : X8) (k_K : X8 → Bool) : Bool :=
  rdr t a_u 0 fun o1 => cond (Nat.beq o1 1000000) false <| and (Nat.beq (clx o1) 902) <| and (Nat.blt o1 116) <| rdi t a_u 1 fun v6 => cond (!(w_lt v6 (lnx o1))) (x_b_Ro_add_36 a_u t k_K) (and (Nat.blt v6 (lnx o1)) <| frc (Nat.land a_x1 255) fun f12 => wra t o1 v6 f12 fun t10 => rdi t10 a_u 1 fun v16 => frc (w_add v16 1) fun f18 => wri t10 a_u 1 f18 fun t14 => x_b_Ro_add_36 a_u t14 k_K)
set_option maxRecDepth 20000 in
set_option maxHeartbeats 1000000 in
theorem xs_p_Ro_add {u a_u : Nat} {x1 : Int32} {a_x1 : Nat} {S : cs} {t : X8} {K : cs → Prop} {k_K : X8 → Bool} (h : x_p_Ro_add a_u a_x1 t k_K = true) (e_u : u = a_u) (e_x1 : x1 = Int32.ofNat a_x1) (hS : RC S t) (hK : ∀ {yS : cs} {yt : X8}, k_K yt = true → RC yS yt → K yS) : p_Ro_add UL u x1 S K := by
  unfold p_Ro_add
  unfold x_p_Ro_add at h
  obtain ⟨o1, h, q2⟩ := rdr_ok h hS e_u
  obtain ⟨n3, h⟩ := nu_ok h
  refine ⟨nu_no n3 q2, ?_⟩
  obtain ⟨n4, h⟩ := an_ok h
  refine ⟨cl_ok n4 q2 (by decide), ?_⟩
  obtain ⟨n5, h⟩ := an_ok h
  obtain ⟨v6, h, q7⟩ := rdi_ok h hS e_u
  have hc8 := c_le' (n_ln n5 q2) q7
  refine ⟨fun hc => ?_, fun hc => ?_⟩
  · have h := x_pos h (hc8.mp hc)
    exact xs_b_Ro_add_36 h e_u hS hK
  · have h := x_neg h (fun q => hc (hc8.mpr q))
    refine ⟨nu_no n3 q2, ?_⟩
    obtain ⟨n9, h⟩ := an_ok h
    refine ⟨vpc_ok n9 q7 q2, ?_⟩
    have h := frc_ok h
    have p13 := n_and e_x1 ((rfl : (255 : Int32) = Int32.ofNat 255))
    obtain ⟨t10, h, hS11⟩ := wra_ok h hS q2 q7 p13
    obtain ⟨v16, h, q17⟩ := rdi_ok h hS11 e_u
    have h := frc_ok h
    have p19 := n_add q17 ((rfl : (1 : Int32) = Int32.ofNat 1))
    obtain ⟨t14, h, hS15⟩ := wri_ok h hS11 e_u p19
    exact xs_b_Ro_add_36 h e_u hS15 hK
noncomputable def x_b_Pa_writeBits_79 (a_u : Nat) (t : X8) (r_R22 : X8 → Bool) (k_K : X8 → Bool) : Bool :=
  r_R22 t
set_option maxRecDepth 20000 in
set_option maxHeartbeats 1000000 in
theorem xs_b_Pa_writeBits_79 {u a_u : Nat} {S : cs} {t : X8} {R22 : cs → Prop} {r_R22 : X8 → Bool} {K : cs → Prop} {k_K : X8 → Bool} (h : x_b_Pa_writeBits_79 a_u t r_R22 k_K = true) (e_u : u = a_u) (hS : RC S t) (hR22 : ∀ {yS : cs} {yt : X8}, r_R22 yt = true → RC yS yt → R22 yS) (hK : ∀ {yS : cs} {yt : X8}, k_K yt = true → RC yS yt → K yS) : b_Pa_writeBits_79 UL u S R22 K := by
  unfold b_Pa_writeBits_79
  unfold x_b_Pa_writeBits_79 at h
  exact hR22 h hS
noncomputable def x_b_Pa_writeBits_22 (a_u : Nat) (t : X8) (r_R22 : X8 → Bool) (k_K : X8 → Bool) : Bool :=
  rdi t a_u 11 fun v1 => cond (w_lt v1 8) (k_K t) (rdr t a_u 0 fun o4 => cond (Nat.beq o4 1000000) false <| and (Nat.beq (clx o4) 9) <| frc (w_sub v1 8) fun f10 => wri t a_u 11 f10 fun t8 => rdi t8 a_u 10 fun v12 => rdi t8 a_u 11 fun v14 => rdr t8 a_u 0 fun o16 => frc (Nat.land (w_shr v12 v14) 255) fun f18 => x_p_Ro_add o16 f18 t8 (fun t_S61 => cond (w_eq (Nat.land (w_shr v12 v14) 255) 255) (rdr t_S61 a_u 0 fun o21 => cond (Nat.beq o21 1000000) false <| and (Nat.beq (clx o21) 9) <| x_p_Ro_add o21 0 t_S61 (fun t_S76 => x_b_Pa_writeBits_79 a_u t_S76 r_R22 k_K)) (x_b_Pa_writeBits_79 a_u t_S61 r_R22 k_K)))
set_option maxRecDepth 20000 in
set_option maxHeartbeats 1000000 in
theorem xs_b_Pa_writeBits_22 {u a_u : Nat} {S : cs} {t : X8} {R22 : cs → Prop} {r_R22 : X8 → Bool} {K : cs → Prop} {k_K : X8 → Bool} (h : x_b_Pa_writeBits_22 a_u t r_R22 k_K = true) (e_u : u = a_u) (hS : RC S t) (hR22 : ∀ {yS : cs} {yt : X8}, r_R22 yt = true → RC yS yt → R22 yS) (hK : ∀ {yS : cs} {yt : X8}, k_K yt = true → RC yS yt → K yS) : b_Pa_writeBits_22 UL u S R22 K := by
  unfold b_Pa_writeBits_22
  unfold x_b_Pa_writeBits_22 at h
  obtain ⟨v1, h, q2⟩ := rdi_ok h hS e_u
  have hc3 := c_lt' q2 ((rfl : (8 : Int32) = Int32.ofNat 8))
  refine ⟨fun hc => ?_, fun hc => ?_⟩
  · have h := x_pos h (hc3.mp hc)
    exact hK h hS
  · have h := x_neg h (fun q => hc (hc3.mpr q))
    obtain ⟨o4, h, q5⟩ := rdr_ok h hS e_u
    obtain ⟨n6, h⟩ := nu_ok h
    refine ⟨nu_no n6 q5, ?_⟩
    obtain ⟨n7, h⟩ := an_ok h
    refine ⟨cl_ok n7 q5 (by decide), ?_⟩
    have h := frc_ok h
    have p11 := n_sub q2 ((rfl : (8 : Int32) = Int32.ofNat 8))
    obtain ⟨t8, h, hS9⟩ := wri_ok h hS e_u p11
    obtain ⟨v12, h, q13⟩ := rdi_ok h hS9 e_u
    obtain ⟨v14, h, q15⟩ := rdi_ok h hS9 e_u
    obtain ⟨o16, h, q17⟩ := rdr_ok h hS9 e_u
    have h := frc_ok h
    have p19 := n_and (n_shr q13 q15) ((rfl : (255 : Int32) = Int32.ofNat 255))
    refine xs_p_Ro_add h q17 p19 hS9 (fun h h_S61 => ?_)
    have hc20 := c_eq' (n_and (n_shr q13 q15) ((rfl : (255 : Int32) = Int32.ofNat 255))) ((rfl : (255 : Int32) = Int32.ofNat 255))
    refine ⟨fun hc => ?_, fun hc => ?_⟩
    · have h := x_neg h (fun q => hc (hc20.mpr q))
      exact xs_b_Pa_writeBits_79 h e_u h_S61 hR22 hK
    · have h := x_pos h (hc20.mp hc)
      obtain ⟨o21, h, q22⟩ := rdr_ok h h_S61 e_u
      obtain ⟨n23, h⟩ := nu_ok h
      refine ⟨nu_no n23 q22, ?_⟩
      obtain ⟨n24, h⟩ := an_ok h
      refine ⟨cl_ok n24 q22 (by decide), ?_⟩
      refine xs_p_Ro_add h q22 ((rfl : (0 : Int32) = Int32.ofNat 0)) h_S61 (fun h h_S76 => ?_)
      exact xs_b_Pa_writeBits_79 h e_u h_S76 hR22 hK
noncomputable def xl_e_Pa_writeBits_22 (a_u : Nat) (k_K : X8 → Bool) (n : Nat) : X8 → Bool := Nat.rec (motive := fun _ => X8 → Bool) (fun _ => false) (fun _ ih bt => x_b_Pa_writeBits_22 a_u bt ih k_K) n
noncomputable def x_e_Pa_writeBits_22 (a_u : Nat) (t : X8) (k_K : X8 → Bool) : Bool := xl_e_Pa_writeBits_22 a_u k_K 200000 t
def xq_e_Pa_writeBits_22 (a_u : Nat) (k_K : X8 → Bool) (n : Nat) (yS : cs) : Prop := ∃ (bt : X8), RC yS bt ∧ xl_e_Pa_writeBits_22 a_u k_K n bt = true
set_option maxRecDepth 20000 in
theorem xs_e_Pa_writeBits_22 {u a_u : Nat} {S : cs} {t : X8} {K : cs → Prop} {k_K : X8 → Bool} (h : x_e_Pa_writeBits_22 a_u t k_K = true) (e_u : u = a_u) (hS : RC S t) (hK : ∀ {yS : cs} {yt : X8}, k_K yt = true → RC yS yt → K yS) : e_Pa_writeBits_22 UL u S K := by
  refine ⟨fun yS => ∃ n, xq_e_Pa_writeBits_22 a_u k_K n yS, fun yS => mf (fun n => xq_e_Pa_writeBits_22 a_u k_K n yS), ⟨200000, t, hS, h⟩, fun yS hI => ?_⟩
  obtain ⟨m, hm, hq⟩ := mf_ok hI
  obtain ⟨bt, cS, h⟩ := hq
  cases m with
  | zero => exact absurd h Bool.false_ne_true
  | succ n => exact xs_b_Pa_writeBits_22 h e_u cS (fun h dS => ⟨⟨n, _, dS, h⟩, Nat.lt_of_le_of_lt (mf_le ⟨_, dS, h⟩) (Nat.lt_of_lt_of_eq (Nat.lt_succ_self n) hm.symm)⟩) hK
noncomputable def x_p_Pa_writeBits (a_u : Nat) (a_x1 : Nat) (a_x2 : Nat) (t : X8) (k_K : X8 → Bool) : Bool :=
  rdi t a_u 10 fun v3 => frc (Nat.lor (w_shl v3 a_x2) a_x1) fun f5 => wri t a_u 10 f5 fun t1 => rdi t1 a_u 11 fun v9 => frc (w_add v9 a_x2) fun f11 => wri t1 a_u 11 f11 fun t7 => x_e_Pa_writeBits_22 a_u t7 k_K
set_option maxRecDepth 20000 in
set_option maxHeartbeats 1000000 in
theorem xs_p_Pa_writeBits {u a_u : Nat} {x1 : Int32} {a_x1 : Nat} {x2 : Int32} {a_x2 : Nat} {S : cs} {t : X8} {K : cs → Prop} {k_K : X8 → Bool} (h : x_p_Pa_writeBits a_u a_x1 a_x2 t k_K = true) (e_u : u = a_u) (e_x1 : x1 = Int32.ofNat a_x1) (e_x2 : x2 = Int32.ofNat a_x2) (hS : RC S t) (hK : ∀ {yS : cs} {yt : X8}, k_K yt = true → RC yS yt → K yS) : p_Pa_writeBits UL u x1 x2 S K := by
  unfold p_Pa_writeBits
  unfold x_p_Pa_writeBits at h
  obtain ⟨v3, h, q4⟩ := rdi_ok h hS e_u
  have h := frc_ok h
  have p6 := n_or (n_shl q4 e_x2) e_x1
  obtain ⟨t1, h, hS2⟩ := wri_ok h hS e_u p6
  obtain ⟨v9, h, q10⟩ := rdi_ok h hS2 e_u
  have h := frc_ok h
  have p12 := n_add q10 e_x2
  obtain ⟨t7, h, hS8⟩ := wri_ok h hS2 e_u p12
  exact xs_e_Pa_writeBits_22 h e_u hS8 hK
noncomputable def x_p_Pa_fillByte (a_u : Nat) (t : X8) (k_K : X8 → Bool) : Bool :=
  rdi t a_u 11 fun v1 => cond (!(w_lt 0 v1)) (x_b_Pa_fillByte_29 a_u t k_K) (frc (w_sub (w_shl 1 (w_sub 8 v1)) 1) fun f4 => frc (w_sub 8 v1) fun f6 => x_p_Pa_writeBits a_u f4 f6 t (fun t_S26 => x_b_Pa_fillByte_29 a_u t_S26 k_K))
set_option maxRecDepth 20000 in
set_option maxHeartbeats 1000000 in
theorem xs_p_Pa_fillByte {u a_u : Nat} {S : cs} {t : X8} {K : cs → Prop} {k_K : X8 → Bool} (h : x_p_Pa_fillByte a_u t k_K = true) (e_u : u = a_u) (hS : RC S t) (hK : ∀ {yS : cs} {yt : X8}, k_K yt = true → RC yS yt → K yS) : p_Pa_fillByte UL u S K := by
  unfold p_Pa_fillByte
  unfold x_p_Pa_fillByte at h
  obtain ⟨v1, h, q2⟩ := rdi_ok h hS e_u
  have hc3 := c_le' q2 ((rfl : (0 : Int32) = Int32.ofNat 0))
  refine ⟨fun hc => ?_, fun hc => ?_⟩
  · have h := x_pos h (hc3.mp hc)
    exact xs_b_Pa_fillByte_29 h e_u hS hK
  · have h := x_neg h (fun q => hc (hc3.mpr q))
    have h := frc_ok h
    have p5 := n_sub (n_shl ((rfl : (1 : Int32) = Int32.ofNat 1)) (n_sub ((rfl : (8 : Int32) = Int32.ofNat 8)) q2)) ((rfl : (1 : Int32) = Int32.ofNat 1))
    have h := frc_ok h
    have p7 := n_sub ((rfl : (8 : Int32) = Int32.ofNat 8)) q2
    refine xs_p_Pa_writeBits h e_u p5 p7 hS (fun h h_S26 => ?_)
    exact xs_b_Pa_fillByte_29 h e_u h_S26 hK
noncomputable def x_b_Pa_bitsOf_7 (a_x1 : Nat) (a_x2 : Nat) (r_R7 : Nat → Nat → Bool) (k_K : Nat → Bool) : Bool :=
  cond (!(w_lt 0 a_x2)) (k_K a_x1) (frc (w_add a_x1 1) fun f2 => frc (w_div a_x2 2) fun f4 => r_R7 f2 f4)
set_option maxRecDepth 20000 in
set_option maxHeartbeats 1000000 in
theorem xs_b_Pa_bitsOf_7 {x1 : Int32} {a_x1 : Nat} {x2 : Int32} {a_x2 : Nat} {R7 : Int32 → Int32 → Prop} {r_R7 : Nat → Nat → Bool} {K : Int32 → Prop} {k_K : Nat → Bool} (h : x_b_Pa_bitsOf_7 a_x1 a_x2 r_R7 k_K = true) (e_x1 : x1 = Int32.ofNat a_x1) (e_x2 : x2 = Int32.ofNat a_x2) (hR7 : ∀ {y0 : Int32} {b0 : Nat} {y1 : Int32} {b1 : Nat}, r_R7 b0 b1 = true → y0 = Int32.ofNat b0 → y1 = Int32.ofNat b1 → R7 y0 y1) (hK : ∀ {y0 : Int32} {b0 : Nat}, k_K b0 = true → y0 = Int32.ofNat b0 → K y0) : b_Pa_bitsOf_7 x1 x2 R7 K := by
  unfold b_Pa_bitsOf_7
  unfold x_b_Pa_bitsOf_7 at h
  have hc1 := c_le' e_x2 ((rfl : (0 : Int32) = Int32.ofNat 0))
  refine ⟨fun hc => ?_, fun hc => ?_⟩
  · have h := x_pos h (hc1.mp hc)
    exact hK h e_x1
  · have h := x_neg h (fun q => hc (hc1.mpr q))
    have h := frc_ok h
    have p3 := n_add e_x1 ((rfl : (1 : Int32) = Int32.ofNat 1))
    have h := frc_ok h
    have p5 := n_div e_x2 ((rfl : (2 : Int32) = Int32.ofNat 2))
    exact hR7 h p3 p5
noncomputable def xl_e_Pa_bitsOf_7 (k_K : Nat → Bool) (n : Nat) : Nat → Nat → Bool := Nat.rec (motive := fun _ => Nat → Nat → Bool) (fun _ _ => false) (fun _ ih b_x1 b_x2 => x_b_Pa_bitsOf_7 b_x1 b_x2 ih k_K) n
noncomputable def x_e_Pa_bitsOf_7 (a_x1 : Nat) (a_x2 : Nat) (k_K : Nat → Bool) : Bool := xl_e_Pa_bitsOf_7 k_K 200000 a_x1 a_x2
def xq_e_Pa_bitsOf_7 (k_K : Nat → Bool) (n : Nat) (y_x1 : Int32) (y_x2 : Int32) : Prop := ∃ (b_x1 : Nat) (b_x2 : Nat), y_x1 = Int32.ofNat b_x1 ∧ y_x2 = Int32.ofNat b_x2 ∧ xl_e_Pa_bitsOf_7 k_K n b_x1 b_x2 = true
set_option maxRecDepth 20000 in
theorem xs_e_Pa_bitsOf_7 {x1 : Int32} {a_x1 : Nat} {x2 : Int32} {a_x2 : Nat} {K : Int32 → Prop} {k_K : Nat → Bool} (h : x_e_Pa_bitsOf_7 a_x1 a_x2 k_K = true) (e_x1 : x1 = Int32.ofNat a_x1) (e_x2 : x2 = Int32.ofNat a_x2) (hK : ∀ {y0 : Int32} {b0 : Nat}, k_K b0 = true → y0 = Int32.ofNat b0 → K y0) : e_Pa_bitsOf_7 x1 x2 K := by
  refine ⟨fun y_x1 y_x2 => ∃ n, xq_e_Pa_bitsOf_7 k_K n y_x1 y_x2, fun y_x1 y_x2 => mf (fun n => xq_e_Pa_bitsOf_7 k_K n y_x1 y_x2), ⟨200000, a_x1, a_x2, e_x1, e_x2, h⟩, fun y_x1 y_x2 hI => ?_⟩
  obtain ⟨m, hm, hq⟩ := mf_ok hI
  obtain ⟨b_x1, b_x2, c_x1, c_x2, h⟩ := hq
  cases m with
  | zero => exact absurd h Bool.false_ne_true
  | succ n => exact xs_b_Pa_bitsOf_7 h c_x1 c_x2 (fun h d_x1 d_x2 => ⟨⟨n, _, _, d_x1, d_x2, h⟩, Nat.lt_of_le_of_lt (mf_le ⟨_, _, d_x1, d_x2, h⟩) (Nat.lt_of_lt_of_eq (Nat.lt_succ_self n) hm.symm)⟩) hK
noncomputable def x_p_Pa_bitsOf (a_x0 : Nat) (k_K : Nat → Bool) : Bool :=
  frc (w_abs a_x0) fun f1 => x_e_Pa_bitsOf_7 0 f1 k_K
set_option maxRecDepth 20000 in
set_option maxHeartbeats 1000000 in
theorem xs_p_Pa_bitsOf {x0 : Int32} {a_x0 : Nat} {K : Int32 → Prop} {k_K : Nat → Bool} (h : x_p_Pa_bitsOf a_x0 k_K = true) (e_x0 : x0 = Int32.ofNat a_x0) (hK : ∀ {y0 : Int32} {b0 : Nat}, k_K b0 = true → y0 = Int32.ofNat b0 → K y0) : p_Pa_bitsOf x0 K := by
  unfold p_Pa_bitsOf
  unfold x_p_Pa_bitsOf at h
  have h := frc_ok h
  have p2 := n_abs e_x0
  exact xs_e_Pa_bitsOf_7 h ((rfl : (0 : Int32) = Int32.ofNat 0)) p2 hK
noncomputable def x_b_B_isWithin_15 (a_s0 : Nat) (k_K : Nat → Bool) : Bool :=
  and (Nat.blt a_s0 2) <| k_K a_s0
set_option maxRecDepth 20000 in
set_option maxHeartbeats 1000000 in
theorem xs_b_B_isWithin_15 {s0 : Int32} {a_s0 : Nat} {K : Int32 → Prop} {k_K : Nat → Bool} (h : x_b_B_isWithin_15 a_s0 k_K = true) (e_s0 : s0 = Int32.ofNat a_s0) (hK : ∀ {y0 : Int32} {b0 : Nat}, k_K b0 = true → y0 = Int32.ofNat b0 → K y0) : b_B_isWithin_15 s0 K := by
  unfold b_B_isWithin_15
  unfold x_b_B_isWithin_15 at h
  obtain ⟨n1, h⟩ := an_ok h
  refine ⟨nar_ok e_s0 n1, ?_⟩
  exact hK h e_s0
noncomputable def x_b_B_isWithin_14 (k_K : Nat → Bool) : Bool :=
  x_b_B_isWithin_15 0 k_K
set_option maxRecDepth 20000 in
set_option maxHeartbeats 1000000 in
theorem xs_b_B_isWithin_14 {K : Int32 → Prop} {k_K : Nat → Bool} (h : x_b_B_isWithin_14 k_K = true) (hK : ∀ {y0 : Int32} {b0 : Nat}, k_K b0 = true → y0 = Int32.ofNat b0 → K y0) : b_B_isWithin_14 K := by
  unfold b_B_isWithin_14
  unfold x_b_B_isWithin_14 at h
  exact xs_b_B_isWithin_15 h ((rfl : (0 : Int32) = Int32.ofNat 0)) hK
noncomputable def x_p_B_isWithin (a_x0 : Nat) (a_x1 : Nat) (a_x2 : Nat) (k_K : Nat → Bool) : Bool :=
  cond (w_lt a_x0 a_x1) (x_b_B_isWithin_14 k_K) (cond (w_lt a_x2 a_x0) (x_b_B_isWithin_14 k_K) (x_b_B_isWithin_15 1 k_K))
set_option maxRecDepth 20000 in
set_option maxHeartbeats 1000000 in
theorem xs_p_B_isWithin {x0 : Int32} {a_x0 : Nat} {x1 : Int32} {a_x1 : Nat} {x2 : Int32} {a_x2 : Nat} {K : Int32 → Prop} {k_K : Nat → Bool} (h : x_p_B_isWithin a_x0 a_x1 a_x2 k_K = true) (e_x0 : x0 = Int32.ofNat a_x0) (e_x1 : x1 = Int32.ofNat a_x1) (e_x2 : x2 = Int32.ofNat a_x2) (hK : ∀ {y0 : Int32} {b0 : Nat}, k_K b0 = true → y0 = Int32.ofNat b0 → K y0) : p_B_isWithin x0 x1 x2 K := by
  unfold p_B_isWithin
  unfold x_p_B_isWithin at h
  have hc1 := c_lt' e_x0 e_x1
  refine ⟨fun hc => ?_, fun hc => ?_⟩
  · have h := x_pos h (hc1.mp hc)
    exact xs_b_B_isWithin_14 h hK
  · have h := x_neg h (fun q => hc (hc1.mpr q))
    have hc2 := c_lt' e_x2 e_x0
    refine ⟨fun hc => ?_, fun hc => ?_⟩
    · have h := x_pos h (hc2.mp hc)
      exact xs_b_B_isWithin_14 h hK
    · have h := x_neg h (fun q => hc (hc2.mpr q))
      exact xs_b_B_isWithin_15 h ((rfl : (1 : Int32) = Int32.ofNat 1)) hK
noncomputable def x_b_Pa_writeSymbol_69 (a_u : Nat) (a_x4 : Nat) (a_s1 : Nat) (t : X8) (k_K : X8 → Bool) : Bool :=
  x_p_Pa_writeBits a_u a_s1 a_x4 t (fun t_S71 => k_K t_S71)
set_option maxRecDepth 20000 in
set_option maxHeartbeats 1000000 in
theorem xs_b_Pa_writeSymbol_69 {u a_u : Nat} {x4 : Int32} {a_x4 : Nat} {s1 : Int32} {a_s1 : Nat} {S : cs} {t : X8} {K : cs → Prop} {k_K : X8 → Bool} (h : x_b_Pa_writeSymbol_69 a_u a_x4 a_s1 t k_K = true) (e_u : u = a_u) (e_x4 : x4 = Int32.ofNat a_x4) (e_s1 : s1 = Int32.ofNat a_s1) (hS : RC S t) (hK : ∀ {yS : cs} {yt : X8}, k_K yt = true → RC yS yt → K yS) : b_Pa_writeSymbol_69 UL u x4 s1 S K := by
  unfold b_Pa_writeSymbol_69
  unfold x_b_Pa_writeSymbol_69 at h
  refine xs_p_Pa_writeBits h e_u e_s1 e_x4 hS (fun h h_S71 => ?_)
  exact hK h h_S71
noncomputable def x_p_Pa_writeSymbol (a_u : Nat) (a_x1 : Nat) (a_x2 : Nat) (a_x3 : Nat) (t : X8) (k_K : X8 → Bool) : Bool :=
  x_p_B_isWithin a_x2 0 255 (fun v5_ => cond (w_eq v5_ 0) (k_K t) (rdi t a_u 9 fun v2 => cond (w_eq v2 0) (and (Nat.beq (clx a_x1) 5) <| rdr t a_x1 2 fun o6 => cond (Nat.beq o6 1000000) false <| and (Nat.beq (clx o6) 902) <| and (Nat.blt a_x2 (lnx o6)) <| rdr t a_x1 1 fun o11 => cond (Nat.beq o11 1000000) false <| and (Nat.beq (clx o11) 902) <| and (Nat.blt a_x2 (lnx o11)) <| rda t o6 a_x2 fun v16 => rda t o11 a_x2 fun v18 => x_p_Pa_writeBits a_u v16 v18 t (fun t_S49 => cond (!(w_lt a_x3 0)) (frc (w_sub a_x2 (w_mul (w_div a_x2 16) 16)) fun f21 => x_b_Pa_writeSymbol_69 a_u f21 a_x3 t_S49 k_K) (frc (w_sub a_x2 (w_mul (w_div a_x2 16) 16)) fun f23 => frc (w_sub (w_add a_x3 (w_shl 1 (w_sub a_x2 (w_mul (w_div a_x2 16) 16)))) 1) fun f25 => x_b_Pa_writeSymbol_69 a_u f23 f25 t_S49 k_K))) (and (Nat.beq (clx a_x1) 5) <| rdr t a_x1 0 fun o28 => cond (Nat.beq o28 1000000) false <| and (Nat.beq (clx o28) 902) <| and (Nat.blt a_x2 (lnx o28)) <| rda t o28 a_x2 fun v35 => frc (w_add v35 1) fun f37 => wra t o28 a_x2 f37 fun t33 => k_K t33)))
set_option maxRecDepth 20000 in
set_option maxHeartbeats 1000000 in
theorem xs_p_Pa_writeSymbol {u a_u : Nat} {x1 a_x1 : Nat} {x2 : Int32} {a_x2 : Nat} {x3 : Int32} {a_x3 : Nat} {S : cs} {t : X8} {K : cs → Prop} {k_K : X8 → Bool} (h : x_p_Pa_writeSymbol a_u a_x1 a_x2 a_x3 t k_K = true) (e_u : u = a_u) (e_x1 : x1 = a_x1) (e_x2 : x2 = Int32.ofNat a_x2) (e_x3 : x3 = Int32.ofNat a_x3) (hS : RC S t) (hK : ∀ {yS : cs} {yt : X8}, k_K yt = true → RC yS yt → K yS) : p_Pa_writeSymbol UL u x1 x2 x3 S K := by
  unfold p_Pa_writeSymbol
  unfold x_p_Pa_writeSymbol at h
  refine xs_p_B_isWithin h e_x2 ((rfl : (0 : Int32) = Int32.ofNat 0)) ((rfl : (255 : Int32) = Int32.ofNat 255)) (fun h e_v5 => ?_)
  have hc1 := c_eq' e_v5 ((rfl : (0 : Int32) = Int32.ofNat 0))
  refine ⟨fun hc => ?_, fun hc => ?_⟩
  · have h := x_neg h (fun q => hc (hc1.mpr q))
    obtain ⟨v2, h, q3⟩ := rdi_ok h hS e_u
    have hc4 := c_eq' q3 ((rfl : (0 : Int32) = Int32.ofNat 0))
    refine ⟨fun hc => ?_, fun hc => ?_⟩
    · have h := x_pos h (hc4.mp hc)
      obtain ⟨n5, h⟩ := an_ok h
      refine ⟨cl_ok n5 e_x1 (by decide), ?_⟩
      obtain ⟨o6, h, q7⟩ := rdr_ok h hS e_x1
      obtain ⟨n8, h⟩ := nu_ok h
      refine ⟨nu_no n8 q7, ?_⟩
      obtain ⟨n9, h⟩ := an_ok h
      refine ⟨cl_ok n9 q7 (by decide), ?_⟩
      obtain ⟨n10, h⟩ := an_ok h
      refine ⟨vpc_ok n10 e_x2 q7, ?_⟩
      obtain ⟨o11, h, q12⟩ := rdr_ok h hS e_x1
      obtain ⟨n13, h⟩ := nu_ok h
      refine ⟨nu_no n13 q12, ?_⟩
      obtain ⟨n14, h⟩ := an_ok h
      refine ⟨cl_ok n14 q12 (by decide), ?_⟩
      obtain ⟨n15, h⟩ := an_ok h
      refine ⟨vpc_ok n15 e_x2 q12, ?_⟩
      obtain ⟨v16, h, q17⟩ := rda_ok h hS q7 e_x2
      obtain ⟨v18, h, q19⟩ := rda_ok h hS q12 e_x2
      refine xs_p_Pa_writeBits h e_u q17 q19 hS (fun h h_S49 => ?_)
      have hc20 := c_le' ((rfl : (0 : Int32) = Int32.ofNat 0)) e_x3
      refine ⟨fun hc => ?_, fun hc => ?_⟩
      · have h := x_pos h (hc20.mp hc)
        have h := frc_ok h
        have p22 := n_sub e_x2 (n_mul (n_div e_x2 ((rfl : (16 : Int32) = Int32.ofNat 16))) ((rfl : (16 : Int32) = Int32.ofNat 16)))
        exact xs_b_Pa_writeSymbol_69 h e_u p22 e_x3 h_S49 hK
      · have h := x_neg h (fun q => hc (hc20.mpr q))
        have h := frc_ok h
        have p24 := n_sub e_x2 (n_mul (n_div e_x2 ((rfl : (16 : Int32) = Int32.ofNat 16))) ((rfl : (16 : Int32) = Int32.ofNat 16)))
        have h := frc_ok h
        have p26 := n_sub (n_add e_x3 (n_shl ((rfl : (1 : Int32) = Int32.ofNat 1)) (n_sub e_x2 (n_mul (n_div e_x2 ((rfl : (16 : Int32) = Int32.ofNat 16))) ((rfl : (16 : Int32) = Int32.ofNat 16)))))) ((rfl : (1 : Int32) = Int32.ofNat 1))
        exact xs_b_Pa_writeSymbol_69 h e_u p24 p26 h_S49 hK
    · have h := x_neg h (fun q => hc (hc4.mpr q))
      obtain ⟨n27, h⟩ := an_ok h
      refine ⟨cl_ok n27 e_x1 (by decide), ?_⟩
      obtain ⟨o28, h, q29⟩ := rdr_ok h hS e_x1
      obtain ⟨n30, h⟩ := nu_ok h
      refine ⟨nu_no n30 q29, ?_⟩
      obtain ⟨n31, h⟩ := an_ok h
      refine ⟨cl_ok n31 q29 (by decide), ?_⟩
      obtain ⟨n32, h⟩ := an_ok h
      refine ⟨vpc_ok n32 e_x2 q29, ?_⟩
      refine ⟨vpc_ok n32 e_x2 q29, ?_⟩
      obtain ⟨v35, h, q36⟩ := rda_ok h hS q29 e_x2
      have h := frc_ok h
      have p38 := n_add q36 ((rfl : (1 : Int32) = Int32.ofNat 1))
      obtain ⟨t33, h, hS34⟩ := wra_ok h hS q29 e_x2 p38
      exact hK h hS34
  · have h := x_pos h (hc1.mp hc)
    exact hK h hS
noncomputable def x_b_Pa_writeBlock_176 (a_u : Nat) (t : X8) (k_K : X8 → Bool) : Bool :=
  k_K t
set_option maxRecDepth 20000 in
set_option maxHeartbeats 1000000 in
theorem xs_b_Pa_writeBlock_176 {u a_u : Nat} {S : cs} {t : X8} {K : cs → Prop} {k_K : X8 → Bool} (h : x_b_Pa_writeBlock_176 a_u t k_K = true) (e_u : u = a_u) (hS : RC S t) (hK : ∀ {yS : cs} {yt : X8}, k_K yt = true → RC yS yt → K yS) : b_Pa_writeBlock_176 UL u S K := by
  unfold b_Pa_writeBlock_176
  unfold x_b_Pa_writeBlock_176 at h
  exact hK h hS
noncomputable def x_b_Pa_writeBlock_157 (a_u : Nat) (a_x3 : Nat) (a_x5 : Nat) (a_x6 : Nat) (a_x7 : Nat) (t : X8) (r_R80 : Nat → Nat → Nat → Nat → X8 → Bool) (k_K : X8 → Bool) : Bool :=
  frc (w_add a_x7 1) fun f1 => r_R80 a_x3 a_x5 a_x6 f1 t
set_option maxRecDepth 20000 in
set_option maxHeartbeats 1000000 in
theorem xs_b_Pa_writeBlock_157 {u a_u : Nat} {x3 : Int32} {a_x3 : Nat} {x5 a_x5 : Nat} {x6 : Int32} {a_x6 : Nat} {x7 : Int32} {a_x7 : Nat} {S : cs} {t : X8} {R80 : Int32 → Nat → Int32 → Int32 → cs → Prop} {r_R80 : Nat → Nat → Nat → Nat → X8 → Bool} {K : cs → Prop} {k_K : X8 → Bool} (h : x_b_Pa_writeBlock_157 a_u a_x3 a_x5 a_x6 a_x7 t r_R80 k_K = true) (e_u : u = a_u) (e_x3 : x3 = Int32.ofNat a_x3) (e_x5 : x5 = a_x5) (e_x6 : x6 = Int32.ofNat a_x6) (e_x7 : x7 = Int32.ofNat a_x7) (hS : RC S t) (hR80 : ∀ {y0 : Int32} {b0 : Nat} {y1 b1 : Nat} {y2 : Int32} {b2 : Nat} {y3 : Int32} {b3 : Nat} {yS : cs} {yt : X8}, r_R80 b0 b1 b2 b3 yt = true → y0 = Int32.ofNat b0 → y1 = b1 → y2 = Int32.ofNat b2 → y3 = Int32.ofNat b3 → RC yS yt → R80 y0 y1 y2 y3 yS) (hK : ∀ {yS : cs} {yt : X8}, k_K yt = true → RC yS yt → K yS) : b_Pa_writeBlock_157 UL u x3 x5 x6 x7 S R80 K := by
  unfold b_Pa_writeBlock_157
  unfold x_b_Pa_writeBlock_157 at h
  have h := frc_ok h
  have p2 := n_add e_x7 ((rfl : (1 : Int32) = Int32.ofNat 1))
  exact hR80 h e_x3 e_x5 e_x6 p2 hS
noncomputable def x_b_Pa_writeBlock_112 (a_u : Nat) (a_x3 : Nat) (a_x5 : Nat) (a_x6 : Nat) (a_x7 : Nat) (a_x8 : Nat) (t : X8) (r_R80 : Nat → Nat → Nat → Nat → X8 → Bool) (r_R112 : Nat → Nat → Nat → Nat → Nat → X8 → Bool) (k_K : X8 → Bool) : Bool :=
  cond (w_lt a_x6 16) (x_p_Pa_bitsOf a_x8 (fun v145_ => frc (w_add (w_mul 16 a_x6) v145_) fun f2 => x_p_Pa_writeSymbol a_u a_x5 f2 a_x8 t (fun t_S151 => x_b_Pa_writeBlock_157 a_u a_x3 a_x5 0 a_x7 t_S151 r_R80 k_K))) (x_p_Pa_writeSymbol a_u a_x5 240 0 t (fun t_S126 => frc (w_add a_x6 4294967280) fun f4 => r_R112 a_x3 a_x5 f4 a_x7 a_x8 t_S126))
