set_option maxRecDepth 20000 in
set_option maxHeartbeats 1000000 in
theorem xs_b_Pa_writeBlock_112 {u a_u : Nat} {x3 : Int32} {a_x3 : Nat} {x5 a_x5 : Nat} {x6 : Int32} {a_x6 : Nat} {x7 : Int32} {a_x7 : Nat} {x8 : Int32} {a_x8 : Nat} {S : cs} {t : X8} {R80 : Int32 → Nat → Int32 → Int32 → cs → Prop} {r_R80 : Nat → Nat → Nat → Nat → X8 → Bool} {R112 : Int32 → Nat → Int32 → Int32 → Int32 → cs → Prop} {r_R112 : Nat → Nat → Nat → Nat → Nat → X8 → Bool} {K : cs → Prop} {k_K : X8 → Bool} (h : x_b_Pa_writeBlock_112 a_u a_x3 a_x5 a_x6 a_x7 a_x8 t r_R80 r_R112 k_K = true) (e_u : u = a_u) (e_x3 : x3 = Int32.ofNat a_x3) (e_x5 : x5 = a_x5) (e_x6 : x6 = Int32.ofNat a_x6) (e_x7 : x7 = Int32.ofNat a_x7) (e_x8 : x8 = Int32.ofNat a_x8) (hS : RC S t) (hR80 : ∀ {y0 : Int32} {b0 : Nat} {y1 b1 : Nat} {y2 : Int32} {b2 : Nat} {y3 : Int32} {b3 : Nat} {yS : cs} {yt : X8}, r_R80 b0 b1 b2 b3 yt = true → y0 = Int32.ofNat b0 → y1 = b1 → y2 = Int32.ofNat b2 → y3 = Int32.ofNat b3 → RC yS yt → R80 y0 y1 y2 y3 yS) (hR112 : ∀ {y0 : Int32} {b0 : Nat} {y1 b1 : Nat} {y2 : Int32} {b2 : Nat} {y3 : Int32} {b3 : Nat} {y4 : Int32} {b4 : Nat} {yS : cs} {yt : X8}, r_R112 b0 b1 b2 b3 b4 yt = true → y0 = Int32.ofNat b0 → y1 = b1 → y2 = Int32.ofNat b2 → y3 = Int32.ofNat b3 → y4 = Int32.ofNat b4 → RC yS yt → R112 y0 y1 y2 y3 y4 yS) (hK : ∀ {yS : cs} {yt : X8}, k_K yt = true → RC yS yt → K yS) : b_Pa_writeBlock_112 UL u x3 x5 x6 x7 x8 S R80 R112 K := by
  unfold b_Pa_writeBlock_112
  unfold x_b_Pa_writeBlock_112 at h
  have hc1 := c_lt' e_x6 ((rfl : (16 : Int32) = Int32.ofNat 16))
  refine ⟨fun hc => ?_, fun hc => ?_⟩
  · have h := x_pos h (hc1.mp hc)
    refine xs_p_Pa_bitsOf h e_x8 (fun h e_v145 => ?_)
    have h := frc_ok h
    have p3 := n_add (n_mul ((rfl : (16 : Int32) = Int32.ofNat 16)) e_x6) e_v145
    refine xs_p_Pa_writeSymbol h e_u e_x5 p3 e_x8 hS (fun h h_S151 => ?_)
    exact xs_b_Pa_writeBlock_157 h e_u e_x3 e_x5 ((rfl : (0 : Int32) = Int32.ofNat 0)) e_x7 h_S151 hR80 hK
  · have h := x_neg h (fun q => hc (hc1.mpr q))
    refine xs_p_Pa_writeSymbol h e_u e_x5 ((rfl : (240 : Int32) = Int32.ofNat 240)) ((rfl : (0 : Int32) = Int32.ofNat 0)) hS (fun h h_S126 => ?_)
    have h := frc_ok h
    have p5 := n_add e_x6 (((by decide) : (-16 : Int32) = Int32.ofNat 4294967280))
    exact hR112 h e_x3 e_x5 p5 e_x7 e_x8 h_S126
noncomputable def xl_e_Pa_writeBlock_112 (a_u : Nat) (r_R80 : Nat → Nat → Nat → Nat → X8 → Bool) (k_K : X8 → Bool) (n : Nat) : Nat → Nat → Nat → Nat → Nat → X8 → Bool := Nat.rec (motive := fun _ => Nat → Nat → Nat → Nat → Nat → X8 → Bool) (fun _ _ _ _ _ _ => false) (fun _ ih b_x3 b_x5 b_x6 b_x7 b_x8 bt => x_b_Pa_writeBlock_112 a_u b_x3 b_x5 b_x6 b_x7 b_x8 bt r_R80 ih k_K) n
noncomputable def x_e_Pa_writeBlock_112 (a_u : Nat) (a_x3 : Nat) (a_x5 : Nat) (a_x6 : Nat) (a_x7 : Nat) (a_x8 : Nat) (t : X8) (r_R80 : Nat → Nat → Nat → Nat → X8 → Bool) (k_K : X8 → Bool) : Bool := xl_e_Pa_writeBlock_112 a_u r_R80 k_K 200000 a_x3 a_x5 a_x6 a_x7 a_x8 t
def xq_e_Pa_writeBlock_112 (a_u : Nat) (r_R80 : Nat → Nat → Nat → Nat → X8 → Bool) (k_K : X8 → Bool) (n : Nat) (y_x3 : Int32) (y_x5 : Nat) (y_x6 : Int32) (y_x7 : Int32) (y_x8 : Int32) (yS : cs) : Prop := ∃ (b_x3 : Nat) (b_x5 : Nat) (b_x6 : Nat) (b_x7 : Nat) (b_x8 : Nat) (bt : X8), y_x3 = Int32.ofNat b_x3 ∧ y_x5 = b_x5 ∧ y_x6 = Int32.ofNat b_x6 ∧ y_x7 = Int32.ofNat b_x7 ∧ y_x8 = Int32.ofNat b_x8 ∧ RC yS bt ∧ xl_e_Pa_writeBlock_112 a_u r_R80 k_K n b_x3 b_x5 b_x6 b_x7 b_x8 bt = true
set_option maxRecDepth 20000 in
theorem xs_e_Pa_writeBlock_112 {u a_u : Nat} {x3 : Int32} {a_x3 : Nat} {x5 a_x5 : Nat} {x6 : Int32} {a_x6 : Nat} {x7 : Int32} {a_x7 : Nat} {x8 : Int32} {a_x8 : Nat} {S : cs} {t : X8} {R80 : Int32 → Nat → Int32 → Int32 → cs → Prop} {r_R80 : Nat → Nat → Nat → Nat → X8 → Bool} {K : cs → Prop} {k_K : X8 → Bool} (h : x_e_Pa_writeBlock_112 a_u a_x3 a_x5 a_x6 a_x7 a_x8 t r_R80 k_K = true) (e_u : u = a_u) (e_x3 : x3 = Int32.ofNat a_x3) (e_x5 : x5 = a_x5) (e_x6 : x6 = Int32.ofNat a_x6) (e_x7 : x7 = Int32.ofNat a_x7) (e_x8 : x8 = Int32.ofNat a_x8) (hS : RC S t) (hR80 : ∀ {y0 : Int32} {b0 : Nat} {y1 b1 : Nat} {y2 : Int32} {b2 : Nat} {y3 : Int32} {b3 : Nat} {yS : cs} {yt : X8}, r_R80 b0 b1 b2 b3 yt = true → y0 = Int32.ofNat b0 → y1 = b1 → y2 = Int32.ofNat b2 → y3 = Int32.ofNat b3 → RC yS yt → R80 y0 y1 y2 y3 yS) (hK : ∀ {yS : cs} {yt : X8}, k_K yt = true → RC yS yt → K yS) : e_Pa_writeBlock_112 UL u x3 x5 x6 x7 x8 S R80 K := by
  refine ⟨fun y_x3 y_x5 y_x6 y_x7 y_x8 yS => ∃ n, xq_e_Pa_writeBlock_112 a_u r_R80 k_K n y_x3 y_x5 y_x6 y_x7 y_x8 yS, fun y_x3 y_x5 y_x6 y_x7 y_x8 yS => mf (fun n => xq_e_Pa_writeBlock_112 a_u r_R80 k_K n y_x3 y_x5 y_x6 y_x7 y_x8 yS), ⟨200000, a_x3, a_x5, a_x6, a_x7, a_x8, t, e_x3, e_x5, e_x6, e_x7, e_x8, hS, h⟩, fun y_x3 y_x5 y_x6 y_x7 y_x8 yS hI => ?_⟩
  obtain ⟨m, hm, hq⟩ := mf_ok hI
  obtain ⟨b_x3, b_x5, b_x6, b_x7, b_x8, bt, c_x3, c_x5, c_x6, c_x7, c_x8, cS, h⟩ := hq
  cases m with
  | zero => exact absurd h Bool.false_ne_true
  | succ n => exact xs_b_Pa_writeBlock_112 h e_u c_x3 c_x5 c_x6 c_x7 c_x8 cS hR80 (fun h d_x3 d_x5 d_x6 d_x7 d_x8 dS => ⟨⟨n, _, _, _, _, _, _, d_x3, d_x5, d_x6, d_x7, d_x8, dS, h⟩, Nat.lt_of_le_of_lt (mf_le ⟨_, _, _, _, _, _, d_x3, d_x5, d_x6, d_x7, d_x8, dS, h⟩) (Nat.lt_of_lt_of_eq (Nat.lt_succ_self n) hm.symm)⟩) hK
noncomputable def x_b_Pa_writeBlock_80 (a_u : Nat) (a_x3 : Nat) (a_x5 : Nat) (a_x6 : Nat) (a_x7 : Nat) (t : X8) (r_R80 : Nat → Nat → Nat → Nat → X8 → Bool) (k_K : X8 → Bool) : Bool :=
  cond (!(w_lt a_x7 64)) (cond (!(w_lt 0 a_x6)) (x_b_Pa_writeBlock_176 a_u t k_K) (x_p_Pa_writeSymbol a_u a_x5 0 0 t (fun t_S173 => x_b_Pa_writeBlock_176 a_u t_S173 k_K))) (rdr t a_u 2 fun o3 => cond (Nat.beq o3 1000000) false <| and (Nat.beq (clx o3) 7) <| rdr t o3 13 fun o7 => cond (Nat.beq o7 1000000) false <| and (Nat.beq (clx o7) 902) <| frc (w_add a_x3 a_x7) fun f11 => and (Nat.blt f11 (lnx o7)) <| rda t o7 f11 fun v14 => cond (w_eq v14 0) (frc (w_add a_x6 1) fun f17 => x_b_Pa_writeBlock_157 a_u a_x3 a_x5 f17 a_x7 t r_R80 k_K) (x_e_Pa_writeBlock_112 a_u a_x3 a_x5 a_x6 a_x7 v14 t r_R80 k_K))
set_option maxRecDepth 20000 in
set_option maxHeartbeats 1000000 in
theorem xs_b_Pa_writeBlock_80 {u a_u : Nat} {x3 : Int32} {a_x3 : Nat} {x5 a_x5 : Nat} {x6 : Int32} {a_x6 : Nat} {x7 : Int32} {a_x7 : Nat} {S : cs} {t : X8} {R80 : Int32 → Nat → Int32 → Int32 → cs → Prop} {r_R80 : Nat → Nat → Nat → Nat → X8 → Bool} {K : cs → Prop} {k_K : X8 → Bool} (h : x_b_Pa_writeBlock_80 a_u a_x3 a_x5 a_x6 a_x7 t r_R80 k_K = true) (e_u : u = a_u) (e_x3 : x3 = Int32.ofNat a_x3) (e_x5 : x5 = a_x5) (e_x6 : x6 = Int32.ofNat a_x6) (e_x7 : x7 = Int32.ofNat a_x7) (hS : RC S t) (hR80 : ∀ {y0 : Int32} {b0 : Nat} {y1 b1 : Nat} {y2 : Int32} {b2 : Nat} {y3 : Int32} {b3 : Nat} {yS : cs} {yt : X8}, r_R80 b0 b1 b2 b3 yt = true → y0 = Int32.ofNat b0 → y1 = b1 → y2 = Int32.ofNat b2 → y3 = Int32.ofNat b3 → RC yS yt → R80 y0 y1 y2 y3 yS) (hK : ∀ {yS : cs} {yt : X8}, k_K yt = true → RC yS yt → K yS) : b_Pa_writeBlock_80 UL u x3 x5 x6 x7 S R80 K := by
  unfold b_Pa_writeBlock_80
  unfold x_b_Pa_writeBlock_80 at h
  have hc1 := c_le' ((rfl : (64 : Int32) = Int32.ofNat 64)) e_x7
  refine ⟨fun hc => ?_, fun hc => ?_⟩
  · have h := x_pos h (hc1.mp hc)
    have hc2 := c_le' e_x6 ((rfl : (0 : Int32) = Int32.ofNat 0))
    refine ⟨fun hc => ?_, fun hc => ?_⟩
    · have h := x_pos h (hc2.mp hc)
      exact xs_b_Pa_writeBlock_176 h e_u hS hK
    · have h := x_neg h (fun q => hc (hc2.mpr q))
      refine xs_p_Pa_writeSymbol h e_u e_x5 ((rfl : (0 : Int32) = Int32.ofNat 0)) ((rfl : (0 : Int32) = Int32.ofNat 0)) hS (fun h h_S173 => ?_)
      exact xs_b_Pa_writeBlock_176 h e_u h_S173 hK
  · have h := x_neg h (fun q => hc (hc1.mpr q))
    obtain ⟨o3, h, q4⟩ := rdr_ok h hS e_u
    obtain ⟨n5, h⟩ := nu_ok h
    refine ⟨nu_no n5 q4, ?_⟩
    obtain ⟨n6, h⟩ := an_ok h
    refine ⟨cl_ok n6 q4 (by decide), ?_⟩
    obtain ⟨o7, h, q8⟩ := rdr_ok h hS q4
    obtain ⟨n9, h⟩ := nu_ok h
    refine ⟨nu_no n9 q8, ?_⟩
    obtain ⟨n10, h⟩ := an_ok h
    refine ⟨cl_ok n10 q8 (by decide), ?_⟩
    have h := frc_ok h
    have p12 := n_add e_x3 e_x7
    obtain ⟨n13, h⟩ := an_ok h
    refine ⟨vpc_ok n13 p12 q8, ?_⟩
    obtain ⟨v14, h, q15⟩ := rda_ok h hS q8 p12
    have hc16 := c_eq' q15 ((rfl : (0 : Int32) = Int32.ofNat 0))
    refine ⟨fun hc => ?_, fun hc => ?_⟩
    · have h := x_neg h (fun q => hc (hc16.mpr q))
      exact xs_e_Pa_writeBlock_112 h e_u e_x3 e_x5 e_x6 e_x7 q15 hS hR80 hK
    · have h := x_pos h (hc16.mp hc)
      have h := frc_ok h
      have p18 := n_add e_x6 ((rfl : (1 : Int32) = Int32.ofNat 1))
      exact xs_b_Pa_writeBlock_157 h e_u e_x3 e_x5 p18 e_x7 hS hR80 hK
noncomputable def xl_e_Pa_writeBlock_80 (a_u : Nat) (k_K : X8 → Bool) (n : Nat) : Nat → Nat → Nat → Nat → X8 → Bool := Nat.rec (motive := fun _ => Nat → Nat → Nat → Nat → X8 → Bool) (fun _ _ _ _ _ => false) (fun _ ih b_x3 b_x5 b_x6 b_x7 bt => x_b_Pa_writeBlock_80 a_u b_x3 b_x5 b_x6 b_x7 bt ih k_K) n
noncomputable def x_e_Pa_writeBlock_80 (a_u : Nat) (a_x3 : Nat) (a_x5 : Nat) (a_x6 : Nat) (a_x7 : Nat) (t : X8) (k_K : X8 → Bool) : Bool := xl_e_Pa_writeBlock_80 a_u k_K 200000 a_x3 a_x5 a_x6 a_x7 t
def xq_e_Pa_writeBlock_80 (a_u : Nat) (k_K : X8 → Bool) (n : Nat) (y_x3 : Int32) (y_x5 : Nat) (y_x6 : Int32) (y_x7 : Int32) (yS : cs) : Prop := ∃ (b_x3 : Nat) (b_x5 : Nat) (b_x6 : Nat) (b_x7 : Nat) (bt : X8), y_x3 = Int32.ofNat b_x3 ∧ y_x5 = b_x5 ∧ y_x6 = Int32.ofNat b_x6 ∧ y_x7 = Int32.ofNat b_x7 ∧ RC yS bt ∧ xl_e_Pa_writeBlock_80 a_u k_K n b_x3 b_x5 b_x6 b_x7 bt = true
set_option maxRecDepth 20000 in
theorem xs_e_Pa_writeBlock_80 {u a_u : Nat} {x3 : Int32} {a_x3 : Nat} {x5 a_x5 : Nat} {x6 : Int32} {a_x6 : Nat} {x7 : Int32} {a_x7 : Nat} {S : cs} {t : X8} {K : cs → Prop} {k_K : X8 → Bool} (h : x_e_Pa_writeBlock_80 a_u a_x3 a_x5 a_x6 a_x7 t k_K = true) (e_u : u = a_u) (e_x3 : x3 = Int32.ofNat a_x3) (e_x5 : x5 = a_x5) (e_x6 : x6 = Int32.ofNat a_x6) (e_x7 : x7 = Int32.ofNat a_x7) (hS : RC S t) (hK : ∀ {yS : cs} {yt : X8}, k_K yt = true → RC yS yt → K yS) : e_Pa_writeBlock_80 UL u x3 x5 x6 x7 S K := by
  refine ⟨fun y_x3 y_x5 y_x6 y_x7 yS => ∃ n, xq_e_Pa_writeBlock_80 a_u k_K n y_x3 y_x5 y_x6 y_x7 yS, fun y_x3 y_x5 y_x6 y_x7 yS => mf (fun n => xq_e_Pa_writeBlock_80 a_u k_K n y_x3 y_x5 y_x6 y_x7 yS), ⟨200000, a_x3, a_x5, a_x6, a_x7, t, e_x3, e_x5, e_x6, e_x7, hS, h⟩, fun y_x3 y_x5 y_x6 y_x7 yS hI => ?_⟩
  obtain ⟨m, hm, hq⟩ := mf_ok hI
  obtain ⟨b_x3, b_x5, b_x6, b_x7, bt, c_x3, c_x5, c_x6, c_x7, cS, h⟩ := hq
  cases m with
  | zero => exact absurd h Bool.false_ne_true
  | succ n => exact xs_b_Pa_writeBlock_80 h e_u c_x3 c_x5 c_x6 c_x7 cS (fun h d_x3 d_x5 d_x6 d_x7 dS => ⟨⟨n, _, _, _, _, _, d_x3, d_x5, d_x6, d_x7, dS, h⟩, Nat.lt_of_le_of_lt (mf_le ⟨_, _, _, _, _, d_x3, d_x5, d_x6, d_x7, dS, h⟩) (Nat.lt_of_lt_of_eq (Nat.lt_succ_self n) hm.symm)⟩) hK
noncomputable def x_p_Pa_writeBlock (a_u : Nat) (a_x1 : Nat) (t : X8) (k_K : X8 → Bool) : Bool :=
  rdr t a_u 2 fun o1 => cond (Nat.beq o1 1000000) false <| and (Nat.beq (clx o1) 7) <| rdr t o1 13 fun o5 => cond (Nat.beq o5 1000000) false <| and (Nat.beq (clx o5) 902) <| frc (w_mul 64 a_x1) fun f9 => and (Nat.blt f9 (lnx o5)) <| rdr t a_u 7 fun o12 => cond (Nat.beq o12 1000000) false <| and (Nat.beq (clx o12) 902) <| frc (w_div a_x1 64) fun f16 => and (Nat.blt f16 (lnx o12)) <| rdr t a_u 5 fun o19 => cond (Nat.beq o19 1000000) false <| x_p_Pa_kindOf f16 (fun v49_ => and (Nat.beq (clx o19) 950) <| and (Nat.blt v49_ (lnx o19)) <| rdra t o19 v49_ fun o24 => cond (Nat.beq o24 1000000) false <| rda t o5 f9 fun v27 => rda t o12 f16 fun v29 => frc (w_sub v27 v29) fun f31 => x_p_Pa_bitsOf f31 (fun v55_ => wra t o12 f16 v27 fun t33 => x_p_Pa_writeSymbol a_u o24 v55_ f31 t33 (fun t_S60 => rdr t_S60 a_u 6 fun o35 => cond (Nat.beq o35 1000000) false <| x_p_Pa_kindOf f16 (fun v68_ => and (Nat.beq (clx o35) 950) <| and (Nat.blt v68_ (lnx o35)) <| rdra t_S60 o35 v68_ fun o40 => cond (Nat.beq o40 1000000) false <| x_e_Pa_writeBlock_80 a_u f9 o40 0 1 t_S60 k_K))))
set_option maxRecDepth 20000 in
set_option maxHeartbeats 1000000 in
theorem xs_p_Pa_writeBlock {u a_u : Nat} {x1 : Int32} {a_x1 : Nat} {S : cs} {t : X8} {K : cs → Prop} {k_K : X8 → Bool} (h : x_p_Pa_writeBlock a_u a_x1 t k_K = true) (e_u : u = a_u) (e_x1 : x1 = Int32.ofNat a_x1) (hS : RC S t) (hK : ∀ {yS : cs} {yt : X8}, k_K yt = true → RC yS yt → K yS) : p_Pa_writeBlock UL u x1 S K := by
  unfold p_Pa_writeBlock
  unfold x_p_Pa_writeBlock at h
  obtain ⟨o1, h, q2⟩ := rdr_ok h hS e_u
  obtain ⟨n3, h⟩ := nu_ok h
  refine ⟨nu_no n3 q2, ?_⟩
  obtain ⟨n4, h⟩ := an_ok h
  refine ⟨cl_ok n4 q2 (by decide), ?_⟩
  obtain ⟨o5, h, q6⟩ := rdr_ok h hS q2
  obtain ⟨n7, h⟩ := nu_ok h
  refine ⟨nu_no n7 q6, ?_⟩
  obtain ⟨n8, h⟩ := an_ok h
  refine ⟨cl_ok n8 q6 (by decide), ?_⟩
  have h := frc_ok h
  have p10 := n_mul ((rfl : (64 : Int32) = Int32.ofNat 64)) e_x1
  obtain ⟨n11, h⟩ := an_ok h
  refine ⟨vpc_ok n11 p10 q6, ?_⟩
  obtain ⟨o12, h, q13⟩ := rdr_ok h hS e_u
  obtain ⟨n14, h⟩ := nu_ok h
  refine ⟨nu_no n14 q13, ?_⟩
  obtain ⟨n15, h⟩ := an_ok h
  refine ⟨cl_ok n15 q13 (by decide), ?_⟩
  have h := frc_ok h
  have p17 := n_div e_x1 ((rfl : (64 : Int32) = Int32.ofNat 64))
  obtain ⟨n18, h⟩ := an_ok h
  refine ⟨vpc_ok n18 p17 q13, ?_⟩
  refine ⟨nu_no n14 q13, ?_⟩
  refine ⟨nu_no n3 q2, ?_⟩
  refine ⟨nu_no n7 q6, ?_⟩
  refine ⟨vpc_ok n11 p10 q6, ?_⟩
  refine ⟨vpc_ok n18 p17 q13, ?_⟩
  obtain ⟨o19, h, q20⟩ := rdr_ok h hS e_u
  obtain ⟨n21, h⟩ := nu_ok h
  refine ⟨nu_no n21 q20, ?_⟩
  refine xs_p_Pa_kindOf h p17 (fun h e_v49 => ?_)
  obtain ⟨n22, h⟩ := an_ok h
  refine ⟨cl_ok n22 q20 (by decide), ?_⟩
  obtain ⟨n23, h⟩ := an_ok h
  refine ⟨vpc_ok n23 e_v49 q20, ?_⟩
  obtain ⟨o24, h, q25⟩ := rdra_ok h hS q20 e_v49
  obtain ⟨n26, h⟩ := nu_ok h
  refine ⟨nu_no n26 q25, ?_⟩
  obtain ⟨v27, h, q28⟩ := rda_ok h hS q6 p10
  obtain ⟨v29, h, q30⟩ := rda_ok h hS q13 p17
  have h := frc_ok h
  have p32 := n_sub q28 q30
  refine xs_p_Pa_bitsOf h p32 (fun h e_v55 => ?_)
  obtain ⟨t33, h, hS34⟩ := wra_ok h hS q13 p17 q28
  refine xs_p_Pa_writeSymbol h e_u q25 e_v55 p32 hS34 (fun h h_S60 => ?_)
  obtain ⟨o35, h, q36⟩ := rdr_ok h h_S60 e_u
  obtain ⟨n37, h⟩ := nu_ok h
  refine ⟨nu_no n37 q36, ?_⟩
  refine xs_p_Pa_kindOf h p17 (fun h e_v68 => ?_)
  obtain ⟨n38, h⟩ := an_ok h
  refine ⟨cl_ok n38 q36 (by decide), ?_⟩
  obtain ⟨n39, h⟩ := an_ok h
  refine ⟨vpc_ok n39 e_v68 q36, ?_⟩
  obtain ⟨o40, h, q41⟩ := rdra_ok h h_S60 q36 e_v68
  obtain ⟨n42, h⟩ := nu_ok h
  refine ⟨nu_no n42 q41, ?_⟩
  exact xs_e_Pa_writeBlock_80 h e_u p10 q41 ((rfl : (0 : Int32) = Int32.ofNat 0)) ((rfl : (1 : Int32) = Int32.ofNat 1)) h_S60 hK
noncomputable def x_b_Pa_writeData_55 (a_u : Nat) (a_x1 : Nat) (a_x2 : Nat) (a_x3 : Nat) (a_x4 : Nat) (t : X8) (r_R12 : Nat → Nat → Nat → X8 → Bool) (r_R55 : Nat → Nat → Nat → Nat → X8 → Bool) (k_K : X8 → Bool) : Bool :=
  rdr t a_u 3 fun o1 => cond (Nat.beq o1 1000000) false <| and (Nat.beq (clx o1) 10) <| rdi t o1 5 fun v5 => cond (!(w_lt a_x4 v5)) (frc (w_add a_x3 1) fun f8 => r_R12 a_x1 a_x2 f8 t) (rdr t o1 7 fun o10 => cond (Nat.beq o10 1000000) false <| and (Nat.beq (clx o10) 902) <| frc (w_add (w_mul v5 a_x3) a_x4) fun f14 => and (Nat.blt f14 (lnx o10)) <| rda t o10 f14 fun v17 => x_p_Pa_writeBlock a_u v17 t (fun t_S88 => frc (w_add a_x4 1) fun f19 => r_R55 a_x1 a_x2 a_x3 f19 t_S88))
set_option maxRecDepth 20000 in
set_option maxHeartbeats 1000000 in
theorem xs_b_Pa_writeData_55 {u a_u : Nat} {x1 : Int32} {a_x1 : Nat} {x2 : Int32} {a_x2 : Nat} {x3 : Int32} {a_x3 : Nat} {x4 : Int32} {a_x4 : Nat} {S : cs} {t : X8} {R12 : Int32 → Int32 → Int32 → cs → Prop} {r_R12 : Nat → Nat → Nat → X8 → Bool} {R55 : Int32 → Int32 → Int32 → Int32 → cs → Prop} {r_R55 : Nat → Nat → Nat → Nat → X8 → Bool} {K : cs → Prop} {k_K : X8 → Bool} (h : x_b_Pa_writeData_55 a_u a_x1 a_x2 a_x3 a_x4 t r_R12 r_R55 k_K = true) (e_u : u = a_u) (e_x1 : x1 = Int32.ofNat a_x1) (e_x2 : x2 = Int32.ofNat a_x2) (e_x3 : x3 = Int32.ofNat a_x3) (e_x4 : x4 = Int32.ofNat a_x4) (hS : RC S t) (hR12 : ∀ {y0 : Int32} {b0 : Nat} {y1 : Int32} {b1 : Nat} {y2 : Int32} {b2 : Nat} {yS : cs} {yt : X8}, r_R12 b0 b1 b2 yt = true → y0 = Int32.ofNat b0 → y1 = Int32.ofNat b1 → y2 = Int32.ofNat b2 → RC yS yt → R12 y0 y1 y2 yS) (hR55 : ∀ {y0 : Int32} {b0 : Nat} {y1 : Int32} {b1 : Nat} {y2 : Int32} {b2 : Nat} {y3 : Int32} {b3 : Nat} {yS : cs} {yt : X8}, r_R55 b0 b1 b2 b3 yt = true → y0 = Int32.ofNat b0 → y1 = Int32.ofNat b1 → y2 = Int32.ofNat b2 → y3 = Int32.ofNat b3 → RC yS yt → R55 y0 y1 y2 y3 yS) (hK : ∀ {yS : cs} {yt : X8}, k_K yt = true → RC yS yt → K yS) : b_Pa_writeData_55 UL u x1 x2 x3 x4 S R12 R55 K := by
  unfold b_Pa_writeData_55
  unfold x_b_Pa_writeData_55 at h
  obtain ⟨o1, h, q2⟩ := rdr_ok h hS e_u
  obtain ⟨n3, h⟩ := nu_ok h
  refine ⟨nu_no n3 q2, ?_⟩
  obtain ⟨n4, h⟩ := an_ok h
  refine ⟨cl_ok n4 q2 (by decide), ?_⟩
  obtain ⟨v5, h, q6⟩ := rdi_ok h hS q2
  have hc7 := c_le' q6 e_x4
  refine ⟨fun hc => ?_, fun hc => ?_⟩
  · have h := x_pos h (hc7.mp hc)
    have h := frc_ok h
    have p9 := n_add e_x3 ((rfl : (1 : Int32) = Int32.ofNat 1))
    exact hR12 h e_x1 e_x2 p9 hS
  · have h := x_neg h (fun q => hc (hc7.mpr q))
    refine ⟨nu_no n3 q2, ?_⟩
    obtain ⟨o10, h, q11⟩ := rdr_ok h hS q2
    obtain ⟨n12, h⟩ := nu_ok h
    refine ⟨nu_no n12 q11, ?_⟩
    refine ⟨nu_no n3 q2, ?_⟩
    obtain ⟨n13, h⟩ := an_ok h
    refine ⟨cl_ok n13 q11 (by decide), ?_⟩
    have h := frc_ok h
    have p15 := n_add (n_mul q6 e_x3) e_x4
    obtain ⟨n16, h⟩ := an_ok h
    refine ⟨vpc_ok n16 p15 q11, ?_⟩
    obtain ⟨v17, h, q18⟩ := rda_ok h hS q11 p15
    refine xs_p_Pa_writeBlock h e_u q18 hS (fun h h_S88 => ?_)
    have h := frc_ok h
    have p20 := n_add e_x4 ((rfl : (1 : Int32) = Int32.ofNat 1))
    exact hR55 h e_x1 e_x2 e_x3 p20 h_S88
noncomputable def xl_e_Pa_writeData_55 (a_u : Nat) (r_R12 : Nat → Nat → Nat → X8 → Bool) (k_K : X8 → Bool) (n : Nat) : Nat → Nat → Nat → Nat → X8 → Bool := Nat.rec (motive := fun _ => Nat → Nat → Nat → Nat → X8 → Bool) (fun _ _ _ _ _ => false) (fun _ ih b_x1 b_x2 b_x3 b_x4 bt => x_b_Pa_writeData_55 a_u b_x1 b_x2 b_x3 b_x4 bt r_R12 ih k_K) n
noncomputable def x_e_Pa_writeData_55 (a_u : Nat) (a_x1 : Nat) (a_x2 : Nat) (a_x3 : Nat) (a_x4 : Nat) (t : X8) (r_R12 : Nat → Nat → Nat → X8 → Bool) (k_K : X8 → Bool) : Bool := xl_e_Pa_writeData_55 a_u r_R12 k_K 200000 a_x1 a_x2 a_x3 a_x4 t
def xq_e_Pa_writeData_55 (a_u : Nat) (r_R12 : Nat → Nat → Nat → X8 → Bool) (k_K : X8 → Bool) (n : Nat) (y_x1 : Int32) (y_x2 : Int32) (y_x3 : Int32) (y_x4 : Int32) (yS : cs) : Prop := ∃ (b_x1 : Nat) (b_x2 : Nat) (b_x3 : Nat) (b_x4 : Nat) (bt : X8), y_x1 = Int32.ofNat b_x1 ∧ y_x2 = Int32.ofNat b_x2 ∧ y_x3 = Int32.ofNat b_x3 ∧ y_x4 = Int32.ofNat b_x4 ∧ RC yS bt ∧ xl_e_Pa_writeData_55 a_u r_R12 k_K n b_x1 b_x2 b_x3 b_x4 bt = true
set_option maxRecDepth 20000 in
theorem xs_e_Pa_writeData_55 {u a_u : Nat} {x1 : Int32} {a_x1 : Nat} {x2 : Int32} {a_x2 : Nat} {x3 : Int32} {a_x3 : Nat} {x4 : Int32} {a_x4 : Nat} {S : cs} {t : X8} {R12 : Int32 → Int32 → Int32 → cs → Prop} {r_R12 : Nat → Nat → Nat → X8 → Bool} {K : cs → Prop} {k_K : X8 → Bool} (h : x_e_Pa_writeData_55 a_u a_x1 a_x2 a_x3 a_x4 t r_R12 k_K = true) (e_u : u = a_u) (e_x1 : x1 = Int32.ofNat a_x1) (e_x2 : x2 = Int32.ofNat a_x2) (e_x3 : x3 = Int32.ofNat a_x3) (e_x4 : x4 = Int32.ofNat a_x4) (hS : RC S t) (hR12 : ∀ {y0 : Int32} {b0 : Nat} {y1 : Int32} {b1 : Nat} {y2 : Int32} {b2 : Nat} {yS : cs} {yt : X8}, r_R12 b0 b1 b2 yt = true → y0 = Int32.ofNat b0 → y1 = Int32.ofNat b1 → y2 = Int32.ofNat b2 → RC yS yt → R12 y0 y1 y2 yS) (hK : ∀ {yS : cs} {yt : X8}, k_K yt = true → RC yS yt → K yS) : e_Pa_writeData_55 UL u x1 x2 x3 x4 S R12 K := by
  refine ⟨fun y_x1 y_x2 y_x3 y_x4 yS => ∃ n, xq_e_Pa_writeData_55 a_u r_R12 k_K n y_x1 y_x2 y_x3 y_x4 yS, fun y_x1 y_x2 y_x3 y_x4 yS => mf (fun n => xq_e_Pa_writeData_55 a_u r_R12 k_K n y_x1 y_x2 y_x3 y_x4 yS), ⟨200000, a_x1, a_x2, a_x3, a_x4, t, e_x1, e_x2, e_x3, e_x4, hS, h⟩, fun y_x1 y_x2 y_x3 y_x4 yS hI => ?_⟩
  obtain ⟨m, hm, hq⟩ := mf_ok hI
  obtain ⟨b_x1, b_x2, b_x3, b_x4, bt, c_x1, c_x2, c_x3, c_x4, cS, h⟩ := hq
  cases m with
  | zero => exact absurd h Bool.false_ne_true
  | succ n => exact xs_b_Pa_writeData_55 h e_u c_x1 c_x2 c_x3 c_x4 cS hR12 (fun h d_x1 d_x2 d_x3 d_x4 dS => ⟨⟨n, _, _, _, _, _, d_x1, d_x2, d_x3, d_x4, dS, h⟩, Nat.lt_of_le_of_lt (mf_le ⟨_, _, _, _, _, d_x1, d_x2, d_x3, d_x4, dS, h⟩) (Nat.lt_of_lt_of_eq (Nat.lt_succ_self n) hm.symm)⟩) hK
noncomputable def x_b_Pa_writeData_52 (a_u : Nat) (a_x1 : Nat) (a_x2 : Nat) (a_x3 : Nat) (t : X8) (r_R12 : Nat → Nat → Nat → X8 → Bool) (k_K : X8 → Bool) : Bool :=
  x_e_Pa_writeData_55 a_u a_x1 a_x2 a_x3 0 t r_R12 k_K
set_option maxRecDepth 20000 in
set_option maxHeartbeats 1000000 in
theorem xs_b_Pa_writeData_52 {u a_u : Nat} {x1 : Int32} {a_x1 : Nat} {x2 : Int32} {a_x2 : Nat} {x3 : Int32} {a_x3 : Nat} {S : cs} {t : X8} {R12 : Int32 → Int32 → Int32 → cs → Prop} {r_R12 : Nat → Nat → Nat → X8 → Bool} {K : cs → Prop} {k_K : X8 → Bool} (h : x_b_Pa_writeData_52 a_u a_x1 a_x2 a_x3 t r_R12 k_K = true) (e_u : u = a_u) (e_x1 : x1 = Int32.ofNat a_x1) (e_x2 : x2 = Int32.ofNat a_x2) (e_x3 : x3 = Int32.ofNat a_x3) (hS : RC S t) (hR12 : ∀ {y0 : Int32} {b0 : Nat} {y1 : Int32} {b1 : Nat} {y2 : Int32} {b2 : Nat} {yS : cs} {yt : X8}, r_R12 b0 b1 b2 yt = true → y0 = Int32.ofNat b0 → y1 = Int32.ofNat b1 → y2 = Int32.ofNat b2 → RC yS yt → R12 y0 y1 y2 yS) (hK : ∀ {yS : cs} {yt : X8}, k_K yt = true → RC yS yt → K yS) : b_Pa_writeData_52 UL u x1 x2 x3 S R12 K := by
  unfold b_Pa_writeData_52
  unfold x_b_Pa_writeData_52 at h
  exact xs_e_Pa_writeData_55 h e_u e_x1 e_x2 e_x3 ((rfl : (0 : Int32) = Int32.ofNat 0)) hS hR12 hK
noncomputable def x_b_Pa_writeAgain_16 (a_u : Nat) (t : X8) (k_K : X8 → Bool) : Bool :=
  rdr t a_u 7 fun o1 => cond (Nat.beq o1 1000000) false <| x_p_Ar_fillI o1 0 t (fun t_S21 => k_K t_S21)
set_option maxRecDepth 20000 in
set_option maxHeartbeats 1000000 in
theorem xs_b_Pa_writeAgain_16 {u a_u : Nat} {S : cs} {t : X8} {K : cs → Prop} {k_K : X8 → Bool} (h : x_b_Pa_writeAgain_16 a_u t k_K = true) (e_u : u = a_u) (hS : RC S t) (hK : ∀ {yS : cs} {yt : X8}, k_K yt = true → RC yS yt → K yS) : b_Pa_writeAgain_16 UL u S K := by
  unfold b_Pa_writeAgain_16
  unfold x_b_Pa_writeAgain_16 at h
  obtain ⟨o1, h, q2⟩ := rdr_ok h hS e_u
  obtain ⟨n3, h⟩ := nu_ok h
  refine ⟨nu_no n3 q2, ?_⟩
  refine xs_p_Ar_fillI h q2 ((rfl : (0 : Int32) = Int32.ofNat 0)) hS (fun h h_S21 => ?_)
  exact hK h h_S21
noncomputable def x_p_Pa_addMark (a_u : Nat) (a_x1 : Nat) (t : X8) (k_K : X8 → Bool) : Bool :=
  rdr t a_u 0 fun o1 => cond (Nat.beq o1 1000000) false <| and (Nat.beq (clx o1) 9) <| x_p_Ro_add o1 255 t (fun t_S7 => rdr t_S7 a_u 0 fun o5 => cond (Nat.beq o5 1000000) false <| and (Nat.beq (clx o5) 9) <| x_p_Ro_add o5 a_x1 t_S7 (fun t_S15 => k_K t_S15))
set_option maxRecDepth 20000 in
set_option maxHeartbeats 1000000 in
theorem xs_p_Pa_addMark {u a_u : Nat} {x1 : Int32} {a_x1 : Nat} {S : cs} {t : X8} {K : cs → Prop} {k_K : X8 → Bool} (h : x_p_Pa_addMark a_u a_x1 t k_K = true) (e_u : u = a_u) (e_x1 : x1 = Int32.ofNat a_x1) (hS : RC S t) (hK : ∀ {yS : cs} {yt : X8}, k_K yt = true → RC yS yt → K yS) : p_Pa_addMark UL u x1 S K := by
  unfold p_Pa_addMark
  unfold x_p_Pa_addMark at h
  obtain ⟨o1, h, q2⟩ := rdr_ok h hS e_u
  obtain ⟨n3, h⟩ := nu_ok h
  refine ⟨nu_no n3 q2, ?_⟩
  obtain ⟨n4, h⟩ := an_ok h
  refine ⟨cl_ok n4 q2 (by decide), ?_⟩
  refine xs_p_Ro_add h q2 ((rfl : (255 : Int32) = Int32.ofNat 255)) hS (fun h h_S7 => ?_)
  obtain ⟨o5, h, q6⟩ := rdr_ok h h_S7 e_u
  obtain ⟨n7, h⟩ := nu_ok h
  refine ⟨nu_no n7 q6, ?_⟩
  obtain ⟨n8, h⟩ := an_ok h
  refine ⟨cl_ok n8 q6 (by decide), ?_⟩
  refine xs_p_Ro_add h q6 e_x1 h_S7 (fun h h_S15 => ?_)
  exact hK h h_S15
noncomputable def x_p_Pa_writeAgain (a_u : Nat) (a_x1 : Nat) (t : X8) (k_K : X8 → Bool) : Bool :=
  x_p_Pa_fillByte a_u t (fun t_S1 => rdi t_S1 a_u 9 fun v1 => cond (w_eq v1 0) (x_p_Pa_addMark a_u a_x1 t_S1 (fun t_S13 => x_b_Pa_writeAgain_16 a_u t_S13 k_K)) (x_b_Pa_writeAgain_16 a_u t_S1 k_K))
set_option maxRecDepth 20000 in
set_option maxHeartbeats 1000000 in
theorem xs_p_Pa_writeAgain {u a_u : Nat} {x1 : Int32} {a_x1 : Nat} {S : cs} {t : X8} {K : cs → Prop} {k_K : X8 → Bool} (h : x_p_Pa_writeAgain a_u a_x1 t k_K = true) (e_u : u = a_u) (e_x1 : x1 = Int32.ofNat a_x1) (hS : RC S t) (hK : ∀ {yS : cs} {yt : X8}, k_K yt = true → RC yS yt → K yS) : p_Pa_writeAgain UL u x1 S K := by
  unfold p_Pa_writeAgain
  unfold x_p_Pa_writeAgain at h
  refine xs_p_Pa_fillByte h e_u hS (fun h h_S1 => ?_)
  obtain ⟨v1, h, q2⟩ := rdi_ok h h_S1 e_u
  have hc3 := c_eq' q2 ((rfl : (0 : Int32) = Int32.ofNat 0))
  refine ⟨fun hc => ?_, fun hc => ?_⟩
  · have h := x_neg h (fun q => hc (hc3.mpr q))
    exact xs_b_Pa_writeAgain_16 h e_u h_S1 hK
  · have h := x_pos h (hc3.mp hc)
    refine xs_p_Pa_addMark h e_u e_x1 h_S1 (fun h h_S13 => ?_)
    exact xs_b_Pa_writeAgain_16 h e_u h_S13 hK
noncomputable def x_b_Pa_writeData_12 (a_u : Nat) (a_x1 : Nat) (a_x2 : Nat) (a_x3 : Nat) (t : X8) (r_R12 : Nat → Nat → Nat → X8 → Bool) (k_K : X8 → Bool) : Bool :=
  rdr t a_u 3 fun o1 => cond (Nat.beq o1 1000000) false <| and (Nat.beq (clx o1) 10) <| rdi t o1 4 fun v5 => cond (!(w_lt a_x3 v5)) (x_p_Pa_fillByte a_u t (fun t_S104 => k_K t_S104)) (cond (!(w_lt 0 a_x1)) (x_b_Pa_writeData_52 a_u a_x1 a_x2 a_x3 t r_R12 k_K) (cond (!(w_lt 0 a_x3)) (x_b_Pa_writeData_52 a_u a_x1 a_x2 a_x3 t r_R12 k_K) (cond (w_eq a_x1 0) false <| cond (w_eq (w_sub a_x3 (w_mul (w_div a_x3 a_x1) a_x1)) 0) (frc (w_add 208 (w_sub a_x2 (w_mul (w_div a_x2 8) 8))) fun f12 => x_p_Pa_writeAgain a_u f12 t (fun t_S46 => frc (w_add a_x2 1) fun f14 => x_b_Pa_writeData_52 a_u a_x1 f14 a_x3 t_S46 r_R12 k_K)) (x_b_Pa_writeData_52 a_u a_x1 a_x2 a_x3 t r_R12 k_K))))
set_option maxRecDepth 20000 in
set_option maxHeartbeats 1000000 in
theorem xs_b_Pa_writeData_12 {u a_u : Nat} {x1 : Int32} {a_x1 : Nat} {x2 : Int32} {a_x2 : Nat} {x3 : Int32} {a_x3 : Nat} {S : cs} {t : X8} {R12 : Int32 → Int32 → Int32 → cs → Prop} {r_R12 : Nat → Nat → Nat → X8 → Bool} {K : cs → Prop} {k_K : X8 → Bool} (h : x_b_Pa_writeData_12 a_u a_x1 a_x2 a_x3 t r_R12 k_K = true) (e_u : u = a_u) (e_x1 : x1 = Int32.ofNat a_x1) (e_x2 : x2 = Int32.ofNat a_x2) (e_x3 : x3 = Int32.ofNat a_x3) (hS : RC S t) (hR12 : ∀ {y0 : Int32} {b0 : Nat} {y1 : Int32} {b1 : Nat} {y2 : Int32} {b2 : Nat} {yS : cs} {yt : X8}, r_R12 b0 b1 b2 yt = true → y0 = Int32.ofNat b0 → y1 = Int32.ofNat b1 → y2 = Int32.ofNat b2 → RC yS yt → R12 y0 y1 y2 yS) (hK : ∀ {yS : cs} {yt : X8}, k_K yt = true → RC yS yt → K yS) : b_Pa_writeData_12 UL u x1 x2 x3 S R12 K := by
  unfold b_Pa_writeData_12
  unfold x_b_Pa_writeData_12 at h
  obtain ⟨o1, h, q2⟩ := rdr_ok h hS e_u
  obtain ⟨n3, h⟩ := nu_ok h
  refine ⟨nu_no n3 q2, ?_⟩
  obtain ⟨n4, h⟩ := an_ok h
  refine ⟨cl_ok n4 q2 (by decide), ?_⟩
  obtain ⟨v5, h, q6⟩ := rdi_ok h hS q2
  have hc7 := c_le' q6 e_x3
  refine ⟨fun hc => ?_, fun hc => ?_⟩
  · have h := x_pos h (hc7.mp hc)
    refine xs_p_Pa_fillByte h e_u hS (fun h h_S104 => ?_)
    exact hK h h_S104
  · have h := x_neg h (fun q => hc (hc7.mpr q))
    have hc8 := c_le' e_x1 ((rfl : (0 : Int32) = Int32.ofNat 0))
    refine ⟨fun hc => ?_, fun hc => ?_⟩
    · have h := x_pos h (hc8.mp hc)
      exact xs_b_Pa_writeData_52 h e_u e_x1 e_x2 e_x3 hS hR12 hK
    · have h := x_neg h (fun q => hc (hc8.mpr q))
      have hc9 := c_le' e_x3 ((rfl : (0 : Int32) = Int32.ofNat 0))
      refine ⟨fun hc => ?_, fun hc => ?_⟩
      · have h := x_pos h (hc9.mp hc)
        exact xs_b_Pa_writeData_52 h e_u e_x1 e_x2 e_x3 hS hR12 hK
      · have h := x_neg h (fun q => hc (hc9.mpr q))
        obtain ⟨n10, h⟩ := nu_ok h
        refine ⟨fun q => absurd ((c_eq' e_x1 ((rfl : (0 : Int32) = Int32.ofNat 0))).mp q) (by rw [n10]; exact Bool.false_ne_true), ?_⟩
        have hc11 := c_eq' (n_sub e_x3 (n_mul (n_div e_x3 e_x1) e_x1)) ((rfl : (0 : Int32) = Int32.ofNat 0))
        refine ⟨fun hc => ?_, fun hc => ?_⟩
        · have h := x_neg h (fun q => hc (hc11.mpr q))
          exact xs_b_Pa_writeData_52 h e_u e_x1 e_x2 e_x3 hS hR12 hK
        · have h := x_pos h (hc11.mp hc)
          have h := frc_ok h
          have p13 := n_add ((rfl : (208 : Int32) = Int32.ofNat 208)) (n_sub e_x2 (n_mul (n_div e_x2 ((rfl : (8 : Int32) = Int32.ofNat 8))) ((rfl : (8 : Int32) = Int32.ofNat 8))))
          refine xs_p_Pa_writeAgain h e_u p13 hS (fun h h_S46 => ?_)
          have h := frc_ok h
          have p15 := n_add e_x2 ((rfl : (1 : Int32) = Int32.ofNat 1))
          exact xs_b_Pa_writeData_52 h e_u e_x1 p15 e_x3 h_S46 hR12 hK
noncomputable def xl_e_Pa_writeData_12 (a_u : Nat) (k_K : X8 → Bool) (n : Nat) : Nat → Nat → Nat → X8 → Bool := Nat.rec (motive := fun _ => Nat → Nat → Nat → X8 → Bool) (fun _ _ _ _ => false) (fun _ ih b_x1 b_x2 b_x3 bt => x_b_Pa_writeData_12 a_u b_x1 b_x2 b_x3 bt ih k_K) n
noncomputable def x_e_Pa_writeData_12 (a_u : Nat) (a_x1 : Nat) (a_x2 : Nat) (a_x3 : Nat) (t : X8) (k_K : X8 → Bool) : Bool := xl_e_Pa_writeData_12 a_u k_K 200000 a_x1 a_x2 a_x3 t
def xq_e_Pa_writeData_12 (a_u : Nat) (k_K : X8 → Bool) (n : Nat) (y_x1 : Int32) (y_x2 : Int32) (y_x3 : Int32) (yS : cs) : Prop := ∃ (b_x1 : Nat) (b_x2 : Nat) (b_x3 : Nat) (bt : X8), y_x1 = Int32.ofNat b_x1 ∧ y_x2 = Int32.ofNat b_x2 ∧ y_x3 = Int32.ofNat b_x3 ∧ RC yS bt ∧ xl_e_Pa_writeData_12 a_u k_K n b_x1 b_x2 b_x3 bt = true
set_option maxRecDepth 20000 in
theorem xs_e_Pa_writeData_12 {u a_u : Nat} {x1 : Int32} {a_x1 : Nat} {x2 : Int32} {a_x2 : Nat} {x3 : Int32} {a_x3 : Nat} {S : cs} {t : X8} {K : cs → Prop} {k_K : X8 → Bool} (h : x_e_Pa_writeData_12 a_u a_x1 a_x2 a_x3 t k_K = true) (e_u : u = a_u) (e_x1 : x1 = Int32.ofNat a_x1) (e_x2 : x2 = Int32.ofNat a_x2) (e_x3 : x3 = Int32.ofNat a_x3) (hS : RC S t) (hK : ∀ {yS : cs} {yt : X8}, k_K yt = true → RC yS yt → K yS) : e_Pa_writeData_12 UL u x1 x2 x3 S K := by
  refine ⟨fun y_x1 y_x2 y_x3 yS => ∃ n, xq_e_Pa_writeData_12 a_u k_K n y_x1 y_x2 y_x3 yS, fun y_x1 y_x2 y_x3 yS => mf (fun n => xq_e_Pa_writeData_12 a_u k_K n y_x1 y_x2 y_x3 yS), ⟨200000, a_x1, a_x2, a_x3, t, e_x1, e_x2, e_x3, hS, h⟩, fun y_x1 y_x2 y_x3 yS hI => ?_⟩
  obtain ⟨m, hm, hq⟩ := mf_ok hI
  obtain ⟨b_x1, b_x2, b_x3, bt, c_x1, c_x2, c_x3, cS, h⟩ := hq
  cases m with
  | zero => exact absurd h Bool.false_ne_true
  | succ n => exact xs_b_Pa_writeData_12 h e_u c_x1 c_x2 c_x3 cS (fun h d_x1 d_x2 d_x3 dS => ⟨⟨n, _, _, _, _, d_x1, d_x2, d_x3, dS, h⟩, Nat.lt_of_le_of_lt (mf_le ⟨_, _, _, _, d_x1, d_x2, d_x3, dS, h⟩) (Nat.lt_of_lt_of_eq (Nat.lt_succ_self n) hm.symm)⟩) hK
noncomputable def x_p_Pa_writeData (a_u : Nat) (a_x1 : Nat) (t : X8) (k_K : X8 → Bool) : Bool :=
  rdr t a_u 7 fun o1 => cond (Nat.beq o1 1000000) false <| x_p_Ar_fillI o1 0 t (fun t_S5 => x_e_Pa_writeData_12 a_u a_x1 0 0 t_S5 k_K)
set_option maxRecDepth 20000 in
set_option maxHeartbeats 1000000 in
theorem xs_p_Pa_writeData {u a_u : Nat} {x1 : Int32} {a_x1 : Nat} {S : cs} {t : X8} {K : cs → Prop} {k_K : X8 → Bool} (h : x_p_Pa_writeData a_u a_x1 t k_K = true) (e_u : u = a_u) (e_x1 : x1 = Int32.ofNat a_x1) (hS : RC S t) (hK : ∀ {yS : cs} {yt : X8}, k_K yt = true → RC yS yt → K yS) : p_Pa_writeData UL u x1 S K := by
  unfold p_Pa_writeData
  unfold x_p_Pa_writeData at h
  obtain ⟨o1, h, q2⟩ := rdr_ok h hS e_u
  obtain ⟨n3, h⟩ := nu_ok h
  refine ⟨nu_no n3 q2, ?_⟩
  refine xs_p_Ar_fillI h q2 ((rfl : (0 : Int32) = Int32.ofNat 0)) hS (fun h h_S5 => ?_)
  exact xs_e_Pa_writeData_12 h e_u e_x1 ((rfl : (0 : Int32) = Int32.ofNat 0)) ((rfl : (0 : Int32) = Int32.ofNat 0)) h_S5 hK
noncomputable def x_b_Li_sortSymbols_89 (a_u : Nat) (a_x1 : Nat) (a_x2 : Nat) (t : X8) (r_R7 : Nat → Nat → X8 → Bool) (k_K : X8 → Bool) : Bool :=
  frc (w_add a_x2 1) fun f1 => r_R7 a_x1 f1 t
set_option maxRecDepth 20000 in
set_option maxHeartbeats 1000000 in
theorem xs_b_Li_sortSymbols_89 {u a_u : Nat} {x1 a_x1 : Nat} {x2 : Int32} {a_x2 : Nat} {S : cs} {t : X8} {R7 : Nat → Int32 → cs → Prop} {r_R7 : Nat → Nat → X8 → Bool} {K : cs → Prop} {k_K : X8 → Bool} (h : x_b_Li_sortSymbols_89 a_u a_x1 a_x2 t r_R7 k_K = true) (e_u : u = a_u) (e_x1 : x1 = a_x1) (e_x2 : x2 = Int32.ofNat a_x2) (hS : RC S t) (hR7 : ∀ {y0 b0 : Nat} {y1 : Int32} {b1 : Nat} {yS : cs} {yt : X8}, r_R7 b0 b1 yt = true → y0 = b0 → y1 = Int32.ofNat b1 → RC yS yt → R7 y0 y1 yS) (hK : ∀ {yS : cs} {yt : X8}, k_K yt = true → RC yS yt → K yS) : b_Li_sortSymbols_89 UL u x1 x2 S R7 K := by
  unfold b_Li_sortSymbols_89
  unfold x_b_Li_sortSymbols_89 at h
  have h := frc_ok h
  have p2 := n_add e_x2 ((rfl : (1 : Int32) = Int32.ofNat 1))
  exact hR7 h e_x1 p2 hS
noncomputable def x_b_Li_sortSymbols_72 (a_u : Nat) (a_x1 : Nat) (a_x2 : Nat) (a_x3 : Nat) (t : X8) (r_R7 : Nat → Nat → X8 → Bool) (k_K : X8 → Bool) : Bool :=
  rdr t a_u 0 fun o1 => cond (Nat.beq o1 1000000) false <| and (Nat.beq (clx o1) 902) <| and (Nat.blt a_x3 (lnx o1)) <| wra t o1 a_x3 a_x2 fun t6 => rdi t6 a_u 1 fun v10 => frc (w_add v10 1) fun f12 => wri t6 a_u 1 f12 fun t8 => x_b_Li_sortSymbols_89 a_u a_x1 a_x2 t8 r_R7 k_K
set_option maxRecDepth 20000 in
set_option maxHeartbeats 1000000 in
theorem xs_b_Li_sortSymbols_72 {u a_u : Nat} {x1 a_x1 : Nat} {x2 : Int32} {a_x2 : Nat} {x3 : Int32} {a_x3 : Nat} {S : cs} {t : X8} {R7 : Nat → Int32 → cs → Prop} {r_R7 : Nat → Nat → X8 → Bool} {K : cs → Prop} {k_K : X8 → Bool} (h : x_b_Li_sortSymbols_72 a_u a_x1 a_x2 a_x3 t r_R7 k_K = true) (e_u : u = a_u) (e_x1 : x1 = a_x1) (e_x2 : x2 = Int32.ofNat a_x2) (e_x3 : x3 = Int32.ofNat a_x3) (hS : RC S t) (hR7 : ∀ {y0 b0 : Nat} {y1 : Int32} {b1 : Nat} {yS : cs} {yt : X8}, r_R7 b0 b1 yt = true → y0 = b0 → y1 = Int32.ofNat b1 → RC yS yt → R7 y0 y1 yS) (hK : ∀ {yS : cs} {yt : X8}, k_K yt = true → RC yS yt → K yS) : b_Li_sortSymbols_72 UL u x1 x2 x3 S R7 K := by
  unfold b_Li_sortSymbols_72
  unfold x_b_Li_sortSymbols_72 at h
  obtain ⟨o1, h, q2⟩ := rdr_ok h hS e_u
  obtain ⟨n3, h⟩ := nu_ok h
  refine ⟨nu_no n3 q2, ?_⟩
  obtain ⟨n4, h⟩ := an_ok h
  refine ⟨cl_ok n4 q2 (by decide), ?_⟩
  obtain ⟨n5, h⟩ := an_ok h
  refine ⟨vpc_ok n5 e_x3 q2, ?_⟩
  obtain ⟨t6, h, hS7⟩ := wra_ok h hS q2 e_x3 e_x2
  obtain ⟨v10, h, q11⟩ := rdi_ok h hS7 e_u
  have h := frc_ok h
  have p13 := n_add q11 ((rfl : (1 : Int32) = Int32.ofNat 1))
  obtain ⟨t8, h, hS9⟩ := wri_ok h hS7 e_u p13
  exact xs_b_Li_sortSymbols_89 h e_u e_x1 e_x2 hS9 hR7 hK
noncomputable def x_b_Li_sortSymbols_32 (a_u : Nat) (a_x1 : Nat) (a_x2 : Nat) (a_x3 : Nat) (t : X8) (r_R7 : Nat → Nat → X8 → Bool) (r_R32 : Nat → Nat → Nat → X8 → Bool) (k_K : X8 → Bool) : Bool :=
  cond (!(w_lt 0 a_x3)) (x_b_Li_sortSymbols_72 a_u a_x1 a_x2 a_x3 t r_R7 k_K) (rdr t a_u 0 fun o2 => cond (Nat.beq o2 1000000) false <| and (Nat.beq (clx o2) 902) <| frc (w_sub a_x3 1) fun f6 => and (Nat.blt f6 (lnx o2)) <| and (Nat.beq (clx a_x1) 902) <| rda t o2 f6 fun v10 => and (Nat.blt v10 (lnx a_x1)) <| and (Nat.blt a_x2 (lnx a_x1)) <| rda t a_x1 v10 fun v14 => rda t a_x1 a_x2 fun v16 => cond (!(w_lt v16 v14)) (x_b_Li_sortSymbols_72 a_u a_x1 a_x2 a_x3 t r_R7 k_K) (and (Nat.blt a_x3 (lnx o2)) <| frc (w_add a_x3 4294967295) fun f20 => wra t o2 a_x3 v10 fun t22 => r_R32 a_x1 a_x2 f20 t22))
set_option maxRecDepth 20000 in
set_option maxHeartbeats 1000000 in
theorem xs_b_Li_sortSymbols_32 {u a_u : Nat} {x1 a_x1 : Nat} {x2 : Int32} {a_x2 : Nat} {x3 : Int32} {a_x3 : Nat} {S : cs} {t : X8} {R7 : Nat → Int32 → cs → Prop} {r_R7 : Nat → Nat → X8 → Bool} {R32 : Nat → Int32 → Int32 → cs → Prop} {r_R32 : Nat → Nat → Nat → X8 → Bool} {K : cs → Prop} {k_K : X8 → Bool} (h : x_b_Li_sortSymbols_32 a_u a_x1 a_x2 a_x3 t r_R7 r_R32 k_K = true) (e_u : u = a_u) (e_x1 : x1 = a_x1) (e_x2 : x2 = Int32.ofNat a_x2) (e_x3 : x3 = Int32.ofNat a_x3) (hS : RC S t) (hR7 : ∀ {y0 b0 : Nat} {y1 : Int32} {b1 : Nat} {yS : cs} {yt : X8}, r_R7 b0 b1 yt = true → y0 = b0 → y1 = Int32.ofNat b1 → RC yS yt → R7 y0 y1 yS) (hR32 : ∀ {y0 b0 : Nat} {y1 : Int32} {b1 : Nat} {y2 : Int32} {b2 : Nat} {yS : cs} {yt : X8}, r_R32 b0 b1 b2 yt = true → y0 = b0 → y1 = Int32.ofNat b1 → y2 = Int32.ofNat b2 → RC yS yt → R32 y0 y1 y2 yS) (hK : ∀ {yS : cs} {yt : X8}, k_K yt = true → RC yS yt → K yS) : b_Li_sortSymbols_32 UL u x1 x2 x3 S R7 R32 K := by
  unfold b_Li_sortSymbols_32
  unfold x_b_Li_sortSymbols_32 at h
  have hc1 := c_le' e_x3 ((rfl : (0 : Int32) = Int32.ofNat 0))
  refine ⟨fun hc => ?_, fun hc => ?_⟩
  · have h := x_pos h (hc1.mp hc)
    exact xs_b_Li_sortSymbols_72 h e_u e_x1 e_x2 e_x3 hS hR7 hK
  · have h := x_neg h (fun q => hc (hc1.mpr q))
    obtain ⟨o2, h, q3⟩ := rdr_ok h hS e_u
    obtain ⟨n4, h⟩ := nu_ok h
    refine ⟨nu_no n4 q3, ?_⟩
    obtain ⟨n5, h⟩ := an_ok h
    refine ⟨cl_ok n5 q3 (by decide), ?_⟩
    have h := frc_ok h
    have p7 := n_sub e_x3 ((rfl : (1 : Int32) = Int32.ofNat 1))
    obtain ⟨n8, h⟩ := an_ok h
    refine ⟨vpc_ok n8 p7 q3, ?_⟩
    obtain ⟨n9, h⟩ := an_ok h
    refine ⟨cl_ok n9 e_x1 (by decide), ?_⟩
    obtain ⟨v10, h, q11⟩ := rda_ok h hS q3 p7
    obtain ⟨n12, h⟩ := an_ok h
    refine ⟨vpc_ok n12 q11 e_x1, ?_⟩
    obtain ⟨n13, h⟩ := an_ok h
    refine ⟨vpc_ok n13 e_x2 e_x1, ?_⟩
    obtain ⟨v14, h, q15⟩ := rda_ok h hS e_x1 q11
    obtain ⟨v16, h, q17⟩ := rda_ok h hS e_x1 e_x2
    have hc18 := c_le' q15 q17
    refine ⟨fun hc => ?_, fun hc => ?_⟩
    · have h := x_pos h (hc18.mp hc)
      exact xs_b_Li_sortSymbols_72 h e_u e_x1 e_x2 e_x3 hS hR7 hK
    · have h := x_neg h (fun q => hc (hc18.mpr q))
      refine ⟨nu_no n4 q3, ?_⟩
      refine ⟨nu_no n4 q3, ?_⟩
      refine ⟨vpc_ok n8 p7 q3, ?_⟩
      obtain ⟨n19, h⟩ := an_ok h
      refine ⟨vpc_ok n19 e_x3 q3, ?_⟩
      have h := frc_ok h
      have p21 := n_add e_x3 (((by decide) : (-1 : Int32) = Int32.ofNat 4294967295))
      obtain ⟨t22, h, hS23⟩ := wra_ok h hS q3 e_x3 q11
      exact hR32 h e_x1 e_x2 p21 hS23
noncomputable def xl_e_Li_sortSymbols_32 (a_u : Nat) (r_R7 : Nat → Nat → X8 → Bool) (k_K : X8 → Bool) (n : Nat) : Nat → Nat → Nat → X8 → Bool := Nat.rec (motive := fun _ => Nat → Nat → Nat → X8 → Bool) (fun _ _ _ _ => false) (fun _ ih b_x1 b_x2 b_x3 bt => x_b_Li_sortSymbols_32 a_u b_x1 b_x2 b_x3 bt r_R7 ih k_K) n
noncomputable def x_e_Li_sortSymbols_32 (a_u : Nat) (a_x1 : Nat) (a_x2 : Nat) (a_x3 : Nat) (t : X8) (r_R7 : Nat → Nat → X8 → Bool) (k_K : X8 → Bool) : Bool := xl_e_Li_sortSymbols_32 a_u r_R7 k_K 200000 a_x1 a_x2 a_x3 t
def xq_e_Li_sortSymbols_32 (a_u : Nat) (r_R7 : Nat → Nat → X8 → Bool) (k_K : X8 → Bool) (n : Nat) (y_x1 : Nat) (y_x2 : Int32) (y_x3 : Int32) (yS : cs) : Prop := ∃ (b_x1 : Nat) (b_x2 : Nat) (b_x3 : Nat) (bt : X8), y_x1 = b_x1 ∧ y_x2 = Int32.ofNat b_x2 ∧ y_x3 = Int32.ofNat b_x3 ∧ RC yS bt ∧ xl_e_Li_sortSymbols_32 a_u r_R7 k_K n b_x1 b_x2 b_x3 bt = true
set_option maxRecDepth 20000 in
theorem xs_e_Li_sortSymbols_32 {u a_u : Nat} {x1 a_x1 : Nat} {x2 : Int32} {a_x2 : Nat} {x3 : Int32} {a_x3 : Nat} {S : cs} {t : X8} {R7 : Nat → Int32 → cs → Prop} {r_R7 : Nat → Nat → X8 → Bool} {K : cs → Prop} {k_K : X8 → Bool} (h : x_e_Li_sortSymbols_32 a_u a_x1 a_x2 a_x3 t r_R7 k_K = true) (e_u : u = a_u) (e_x1 : x1 = a_x1) (e_x2 : x2 = Int32.ofNat a_x2) (e_x3 : x3 = Int32.ofNat a_x3) (hS : RC S t) (hR7 : ∀ {y0 b0 : Nat} {y1 : Int32} {b1 : Nat} {yS : cs} {yt : X8}, r_R7 b0 b1 yt = true → y0 = b0 → y1 = Int32.ofNat b1 → RC yS yt → R7 y0 y1 yS) (hK : ∀ {yS : cs} {yt : X8}, k_K yt = true → RC yS yt → K yS) : e_Li_sortSymbols_32 UL u x1 x2 x3 S R7 K := by
  refine ⟨fun y_x1 y_x2 y_x3 yS => ∃ n, xq_e_Li_sortSymbols_32 a_u r_R7 k_K n y_x1 y_x2 y_x3 yS, fun y_x1 y_x2 y_x3 yS => mf (fun n => xq_e_Li_sortSymbols_32 a_u r_R7 k_K n y_x1 y_x2 y_x3 yS), ⟨200000, a_x1, a_x2, a_x3, t, e_x1, e_x2, e_x3, hS, h⟩, fun y_x1 y_x2 y_x3 yS hI => ?_⟩
  obtain ⟨m, hm, hq⟩ := mf_ok hI
  obtain ⟨b_x1, b_x2, b_x3, bt, c_x1, c_x2, c_x3, cS, h⟩ := hq
  cases m with
  | zero => exact absurd h Bool.false_ne_true
  | succ n => exact xs_b_Li_sortSymbols_32 h e_u c_x1 c_x2 c_x3 cS hR7 (fun h d_x1 d_x2 d_x3 dS => ⟨⟨n, _, _, _, _, d_x1, d_x2, d_x3, dS, h⟩, Nat.lt_of_le_of_lt (mf_le ⟨_, _, _, _, d_x1, d_x2, d_x3, dS, h⟩) (Nat.lt_of_lt_of_eq (Nat.lt_succ_self n) hm.symm)⟩) hK
noncomputable def x_b_Li_sortSymbols_27 (a_u : Nat) (a_x1 : Nat) (a_x2 : Nat) (t : X8) (r_R7 : Nat → Nat → X8 → Bool) (k_K : X8 → Bool) : Bool :=
  rdi t a_u 1 fun v1 => x_e_Li_sortSymbols_32 a_u a_x1 a_x2 v1 t r_R7 k_K
set_option maxRecDepth 20000 in
set_option maxHeartbeats 1000000 in
theorem xs_b_Li_sortSymbols_27 {u a_u : Nat} {x1 a_x1 : Nat} {x2 : Int32} {a_x2 : Nat} {S : cs} {t : X8} {R7 : Nat → Int32 → cs → Prop} {r_R7 : Nat → Nat → X8 → Bool} {K : cs → Prop} {k_K : X8 → Bool} (h : x_b_Li_sortSymbols_27 a_u a_x1 a_x2 t r_R7 k_K = true) (e_u : u = a_u) (e_x1 : x1 = a_x1) (e_x2 : x2 = Int32.ofNat a_x2) (hS : RC S t) (hR7 : ∀ {y0 b0 : Nat} {y1 : Int32} {b1 : Nat} {yS : cs} {yt : X8}, r_R7 b0 b1 yt = true → y0 = b0 → y1 = Int32.ofNat b1 → RC yS yt → R7 y0 y1 yS) (hK : ∀ {yS : cs} {yt : X8}, k_K yt = true → RC yS yt → K yS) : b_Li_sortSymbols_27 UL u x1 x2 S R7 K := by
  unfold b_Li_sortSymbols_27
  unfold x_b_Li_sortSymbols_27 at h
  obtain ⟨v1, h, q2⟩ := rdi_ok h hS e_u
  exact xs_e_Li_sortSymbols_32 h e_u e_x1 e_x2 q2 hS hR7 hK
noncomputable def x_b_Li_sortSymbols_7 (a_u : Nat) (a_x1 : Nat) (a_x2 : Nat) (t : X8) (r_R7 : Nat → Nat → X8 → Bool) (k_K : X8 → Bool) : Bool :=
  cond (!(w_lt a_x2 257)) (k_K t) (and (Nat.beq (clx a_x1) 902) <| and (Nat.blt a_x2 (lnx a_x1)) <| rda t a_x1 a_x2 fun v4 => cond (w_lt 0 v4) (x_b_Li_sortSymbols_27 a_u a_x1 a_x2 t r_R7 k_K) (cond (w_eq a_x2 256) (x_b_Li_sortSymbols_27 a_u a_x1 a_x2 t r_R7 k_K) (x_b_Li_sortSymbols_89 a_u a_x1 a_x2 t r_R7 k_K)))
set_option maxRecDepth 20000 in
set_option maxHeartbeats 1000000 in
theorem xs_b_Li_sortSymbols_7 {u a_u : Nat} {x1 a_x1 : Nat} {x2 : Int32} {a_x2 : Nat} {S : cs} {t : X8} {R7 : Nat → Int32 → cs → Prop} {r_R7 : Nat → Nat → X8 → Bool} {K : cs → Prop} {k_K : X8 → Bool} (h : x_b_Li_sortSymbols_7 a_u a_x1 a_x2 t r_R7 k_K = true) (e_u : u = a_u) (e_x1 : x1 = a_x1) (e_x2 : x2 = Int32.ofNat a_x2) (hS : RC S t) (hR7 : ∀ {y0 b0 : Nat} {y1 : Int32} {b1 : Nat} {yS : cs} {yt : X8}, r_R7 b0 b1 yt = true → y0 = b0 → y1 = Int32.ofNat b1 → RC yS yt → R7 y0 y1 yS) (hK : ∀ {yS : cs} {yt : X8}, k_K yt = true → RC yS yt → K yS) : b_Li_sortSymbols_7 UL u x1 x2 S R7 K := by
  unfold b_Li_sortSymbols_7
  unfold x_b_Li_sortSymbols_7 at h
  have hc1 := c_le' ((rfl : (257 : Int32) = Int32.ofNat 257)) e_x2
  refine ⟨fun hc => ?_, fun hc => ?_⟩
  · have h := x_pos h (hc1.mp hc)
    exact hK h hS
  · have h := x_neg h (fun q => hc (hc1.mpr q))
    obtain ⟨n2, h⟩ := an_ok h
    refine ⟨cl_ok n2 e_x1 (by decide), ?_⟩
    obtain ⟨n3, h⟩ := an_ok h
    refine ⟨vpc_ok n3 e_x2 e_x1, ?_⟩
    obtain ⟨v4, h, q5⟩ := rda_ok h hS e_x1 e_x2
    have hc6 := c_lt' ((rfl : (0 : Int32) = Int32.ofNat 0)) q5
    refine ⟨fun hc => ?_, fun hc => ?_⟩
    · have h := x_pos h (hc6.mp hc)
      exact xs_b_Li_sortSymbols_27 h e_u e_x1 e_x2 hS hR7 hK
    · have h := x_neg h (fun q => hc (hc6.mpr q))
      have hc7 := c_eq' e_x2 ((rfl : (256 : Int32) = Int32.ofNat 256))
      refine ⟨fun hc => ?_, fun hc => ?_⟩
      · have h := x_neg h (fun q => hc (hc7.mpr q))
        exact xs_b_Li_sortSymbols_89 h e_u e_x1 e_x2 hS hR7 hK
      · have h := x_pos h (hc7.mp hc)
        exact xs_b_Li_sortSymbols_27 h e_u e_x1 e_x2 hS hR7 hK
noncomputable def xl_e_Li_sortSymbols_7 (a_u : Nat) (k_K : X8 → Bool) (n : Nat) : Nat → Nat → X8 → Bool := Nat.rec (motive := fun _ => Nat → Nat → X8 → Bool) (fun _ _ _ => false) (fun _ ih b_x1 b_x2 bt => x_b_Li_sortSymbols_7 a_u b_x1 b_x2 bt ih k_K) n
noncomputable def x_e_Li_sortSymbols_7 (a_u : Nat) (a_x1 : Nat) (a_x2 : Nat) (t : X8) (k_K : X8 → Bool) : Bool := xl_e_Li_sortSymbols_7 a_u k_K 200000 a_x1 a_x2 t
def xq_e_Li_sortSymbols_7 (a_u : Nat) (k_K : X8 → Bool) (n : Nat) (y_x1 : Nat) (y_x2 : Int32) (yS : cs) : Prop := ∃ (b_x1 : Nat) (b_x2 : Nat) (bt : X8), y_x1 = b_x1 ∧ y_x2 = Int32.ofNat b_x2 ∧ RC yS bt ∧ xl_e_Li_sortSymbols_7 a_u k_K n b_x1 b_x2 bt = true
set_option maxRecDepth 20000 in
theorem xs_e_Li_sortSymbols_7 {u a_u : Nat} {x1 a_x1 : Nat} {x2 : Int32} {a_x2 : Nat} {S : cs} {t : X8} {K : cs → Prop} {k_K : X8 → Bool} (h : x_e_Li_sortSymbols_7 a_u a_x1 a_x2 t k_K = true) (e_u : u = a_u) (e_x1 : x1 = a_x1) (e_x2 : x2 = Int32.ofNat a_x2) (hS : RC S t) (hK : ∀ {yS : cs} {yt : X8}, k_K yt = true → RC yS yt → K yS) : e_Li_sortSymbols_7 UL u x1 x2 S K := by
  refine ⟨fun y_x1 y_x2 yS => ∃ n, xq_e_Li_sortSymbols_7 a_u k_K n y_x1 y_x2 yS, fun y_x1 y_x2 yS => mf (fun n => xq_e_Li_sortSymbols_7 a_u k_K n y_x1 y_x2 yS), ⟨200000, a_x1, a_x2, t, e_x1, e_x2, hS, h⟩, fun y_x1 y_x2 yS hI => ?_⟩
  obtain ⟨m, hm, hq⟩ := mf_ok hI
  obtain ⟨b_x1, b_x2, bt, c_x1, c_x2, cS, h⟩ := hq
  cases m with
  | zero => exact absurd h Bool.false_ne_true
  | succ n => exact xs_b_Li_sortSymbols_7 h e_u c_x1 c_x2 cS (fun h d_x1 d_x2 dS => ⟨⟨n, _, _, _, d_x1, d_x2, dS, h⟩, Nat.lt_of_le_of_lt (mf_le ⟨_, _, _, d_x1, d_x2, dS, h⟩) (Nat.lt_of_lt_of_eq (Nat.lt_succ_self n) hm.symm)⟩) hK
noncomputable def x_p_Li_sortSymbols (a_u : Nat) (a_x1 : Nat) (t : X8) (k_K : X8 → Bool) : Bool :=
  wri t a_u 1 0 fun t1 => x_e_Li_sortSymbols_7 a_u a_x1 0 t1 k_K
set_option maxRecDepth 20000 in
set_option maxHeartbeats 1000000 in
theorem xs_p_Li_sortSymbols {u a_u : Nat} {x1 a_x1 : Nat} {S : cs} {t : X8} {K : cs → Prop} {k_K : X8 → Bool} (h : x_p_Li_sortSymbols a_u a_x1 t k_K = true) (e_u : u = a_u) (e_x1 : x1 = a_x1) (hS : RC S t) (hK : ∀ {yS : cs} {yt : X8}, k_K yt = true → RC yS yt → K yS) : p_Li_sortSymbols UL u x1 S K := by
  unfold p_Li_sortSymbols
  unfold x_p_Li_sortSymbols at h
  obtain ⟨t1, h, hS2⟩ := wri_ok h hS e_u ((rfl : (0 : Int32) = Int32.ofNat 0))
  exact xs_e_Li_sortSymbols_7 h e_u e_x1 ((rfl : (0 : Int32) = Int32.ofNat 0)) hS2 hK
noncomputable def x_b_Li_takeThings_76 (a_u : Nat) (a_x4 : Nat) (t : X8) (k_K : Nat → X8 → Bool) : Bool :=
  k_K a_x4 t
set_option maxRecDepth 20000 in
set_option maxHeartbeats 1000000 in
theorem xs_b_Li_takeThings_76 {u a_u : Nat} {x4 : Int32} {a_x4 : Nat} {S : cs} {t : X8} {K : Int32 → cs → Prop} {k_K : Nat → X8 → Bool} (h : x_b_Li_takeThings_76 a_u a_x4 t k_K = true) (e_u : u = a_u) (e_x4 : x4 = Int32.ofNat a_x4) (hS : RC S t) (hK : ∀ {y0 : Int32} {b0 : Nat} {yS : cs} {yt : X8}, k_K b0 yt = true → y0 = Int32.ofNat b0 → RC yS yt → K y0 yS) : b_Li_takeThings_76 UL u x4 S K := by
  unfold b_Li_takeThings_76
  unfold x_b_Li_takeThings_76 at h
  exact hK h e_x4 hS
noncomputable def x_b_Li_takeThings_70 (a_u : Nat) (a_x1 : Nat) (a_x2 : Nat) (a_x3 : Nat) (a_x4 : Nat) (a_x5 : Nat) (t : X8) (r_R6 : Nat → Nat → Nat → Nat → Nat → X8 → Bool) (k_K : Nat → X8 → Bool) : Bool :=
  frc (w_add a_x5 1) fun f1 => r_R6 a_x1 a_x2 a_x3 a_x4 f1 t
set_option maxRecDepth 20000 in
set_option maxHeartbeats 1000000 in
theorem xs_b_Li_takeThings_70 {u a_u : Nat} {x1 : Int32} {a_x1 : Nat} {x2 : Int32} {a_x2 : Nat} {x3 a_x3 : Nat} {x4 : Int32} {a_x4 : Nat} {x5 : Int32} {a_x5 : Nat} {S : cs} {t : X8} {R6 : Int32 → Int32 → Nat → Int32 → Int32 → cs → Prop} {r_R6 : Nat → Nat → Nat → Nat → Nat → X8 → Bool} {K : Int32 → cs → Prop} {k_K : Nat → X8 → Bool} (h : x_b_Li_takeThings_70 a_u a_x1 a_x2 a_x3 a_x4 a_x5 t r_R6 k_K = true) (e_u : u = a_u) (e_x1 : x1 = Int32.ofNat a_x1) (e_x2 : x2 = Int32.ofNat a_x2) (e_x3 : x3 = a_x3) (e_x4 : x4 = Int32.ofNat a_x4) (e_x5 : x5 = Int32.ofNat a_x5) (hS : RC S t) (hR6 : ∀ {y0 : Int32} {b0 : Nat} {y1 : Int32} {b1 : Nat} {y2 b2 : Nat} {y3 : Int32} {b3 : Nat} {y4 : Int32} {b4 : Nat} {yS : cs} {yt : X8}, r_R6 b0 b1 b2 b3 b4 yt = true → y0 = Int32.ofNat b0 → y1 = Int32.ofNat b1 → y2 = b2 → y3 = Int32.ofNat b3 → y4 = Int32.ofNat b4 → RC yS yt → R6 y0 y1 y2 y3 y4 yS) (hK : ∀ {y0 : Int32} {b0 : Nat} {yS : cs} {yt : X8}, k_K b0 yt = true → y0 = Int32.ofNat b0 → RC yS yt → K y0 yS) : b_Li_takeThings_70 UL u x1 x2 x3 x4 x5 S R6 K := by
  unfold b_Li_takeThings_70
  unfold x_b_Li_takeThings_70 at h
  have h := frc_ok h
  have p2 := n_add e_x5 ((rfl : (1 : Int32) = Int32.ofNat 1))
  exact hR6 h e_x1 e_x2 e_x3 e_x4 p2 hS
noncomputable def x_b_Li_takeThings_6 (a_u : Nat) (a_x1 : Nat) (a_x2 : Nat) (a_x3 : Nat) (a_x4 : Nat) (a_x5 : Nat) (t : X8) (r_R6 : Nat → Nat → Nat → Nat → Nat → X8 → Bool) (k_K : Nat → X8 → Bool) : Bool :=
  cond (!(w_lt a_x5 a_x2)) (x_b_Li_takeThings_76 a_u a_x4 t k_K) (cond (!(w_lt a_x5 514)) (x_b_Li_takeThings_76 a_u a_x4 t k_K) (rdr t a_u 2 fun o3 => cond (Nat.beq o3 1000000) false <| and (Nat.beq (clx o3) 903) <| frc (w_add (w_mul 514 a_x1) a_x5) fun f7 => and (Nat.blt f7 (lnx o3)) <| rda t o3 f7 fun v10 => cond (w_eq v10 0) (rdi t a_u 1 fun v13 => cond (!(w_lt (w_sub a_x5 a_x4) v13)) (x_b_Li_takeThings_70 a_u a_x1 a_x2 a_x3 a_x4 a_x5 t r_R6 k_K) (rdr t a_u 0 fun o16 => cond (Nat.beq o16 1000000) false <| and (Nat.beq (clx o16) 902) <| frc (w_sub a_x5 a_x4) fun f20 => and (Nat.blt f20 (lnx o16)) <| and (Nat.beq (clx a_x3) 902) <| rda t o16 f20 fun v24 => and (Nat.blt v24 (lnx a_x3)) <| rda t a_x3 v24 fun v29 => frc (w_add v29 1) fun f31 => wra t a_x3 v24 f31 fun t27 => x_b_Li_takeThings_70 a_u a_x1 a_x2 a_x3 a_x4 a_x5 t27 r_R6 k_K)) (frc (w_add a_x4 1) fun f33 => x_b_Li_takeThings_70 a_u a_x1 a_x2 a_x3 f33 a_x5 t r_R6 k_K)))
set_option maxRecDepth 20000 in
set_option maxHeartbeats 1000000 in
theorem xs_b_Li_takeThings_6 {u a_u : Nat} {x1 : Int32} {a_x1 : Nat} {x2 : Int32} {a_x2 : Nat} {x3 a_x3 : Nat} {x4 : Int32} {a_x4 : Nat} {x5 : Int32} {a_x5 : Nat} {S : cs} {t : X8} {R6 : Int32 → Int32 → Nat → Int32 → Int32 → cs → Prop} {r_R6 : Nat → Nat → Nat → Nat → Nat → X8 → Bool} {K : Int32 → cs → Prop} {k_K : Nat → X8 → Bool} (h : x_b_Li_takeThings_6 a_u a_x1 a_x2 a_x3 a_x4 a_x5 t r_R6 k_K = true) (e_u : u = a_u) (e_x1 : x1 = Int32.ofNat a_x1) (e_x2 : x2 = Int32.ofNat a_x2) (e_x3 : x3 = a_x3) (e_x4 : x4 = Int32.ofNat a_x4) (e_x5 : x5 = Int32.ofNat a_x5) (hS : RC S t) (hR6 : ∀ {y0 : Int32} {b0 : Nat} {y1 : Int32} {b1 : Nat} {y2 b2 : Nat} {y3 : Int32} {b3 : Nat} {y4 : Int32} {b4 : Nat} {yS : cs} {yt : X8}, r_R6 b0 b1 b2 b3 b4 yt = true → y0 = Int32.ofNat b0 → y1 = Int32.ofNat b1 → y2 = b2 → y3 = Int32.ofNat b3 → y4 = Int32.ofNat b4 → RC yS yt → R6 y0 y1 y2 y3 y4 yS) (hK : ∀ {y0 : Int32} {b0 : Nat} {yS : cs} {yt : X8}, k_K b0 yt = true → y0 = Int32.ofNat b0 → RC yS yt → K y0 yS) : b_Li_takeThings_6 UL u x1 x2 x3 x4 x5 S R6 K := by
  unfold b_Li_takeThings_6
  unfold x_b_Li_takeThings_6 at h
  have hc1 := c_le' e_x2 e_x5
  refine ⟨fun hc => ?_, fun hc => ?_⟩
  · have h := x_pos h (hc1.mp hc)
    exact xs_b_Li_takeThings_76 h e_u e_x4 hS hK
  · have h := x_neg h (fun q => hc (hc1.mpr q))
    have hc2 := c_le' ((rfl : (514 : Int32) = Int32.ofNat 514)) e_x5
    refine ⟨fun hc => ?_, fun hc => ?_⟩
    · have h := x_pos h (hc2.mp hc)
      exact xs_b_Li_takeThings_76 h e_u e_x4 hS hK
    · have h := x_neg h (fun q => hc (hc2.mpr q))
      obtain ⟨o3, h, q4⟩ := rdr_ok h hS e_u
      obtain ⟨n5, h⟩ := nu_ok h
      refine ⟨nu_no n5 q4, ?_⟩
      obtain ⟨n6, h⟩ := an_ok h
      refine ⟨cl_ok n6 q4 (by decide), ?_⟩
      have h := frc_ok h
      have p8 := n_add (n_mul ((rfl : (514 : Int32) = Int32.ofNat 514)) e_x1) e_x5
      obtain ⟨n9, h⟩ := an_ok h
      refine ⟨vpc_ok n9 p8 q4, ?_⟩
      obtain ⟨v10, h, q11⟩ := rda_ok h hS q4 p8
      have hc12 := c_eq' q11 ((rfl : (0 : Int32) = Int32.ofNat 0))
      refine ⟨fun hc => ?_, fun hc => ?_⟩
      · have h := x_pos h (hc12.mp hc)
        obtain ⟨v13, h, q14⟩ := rdi_ok h hS e_u
        have hc15 := c_le' q14 (n_sub e_x5 e_x4)
        refine ⟨fun hc => ?_, fun hc => ?_⟩
        · have h := x_pos h (hc15.mp hc)
          exact xs_b_Li_takeThings_70 h e_u e_x1 e_x2 e_x3 e_x4 e_x5 hS hR6 hK
        · have h := x_neg h (fun q => hc (hc15.mpr q))
          obtain ⟨o16, h, q17⟩ := rdr_ok h hS e_u
          obtain ⟨n18, h⟩ := nu_ok h
          refine ⟨nu_no n18 q17, ?_⟩
          obtain ⟨n19, h⟩ := an_ok h
          refine ⟨cl_ok n19 q17 (by decide), ?_⟩
          have h := frc_ok h
          have p21 := n_sub e_x5 e_x4
          obtain ⟨n22, h⟩ := an_ok h
          refine ⟨vpc_ok n22 p21 q17, ?_⟩
          obtain ⟨n23, h⟩ := an_ok h
          refine ⟨cl_ok n23 e_x3 (by decide), ?_⟩
          obtain ⟨v24, h, q25⟩ := rda_ok h hS q17 p21
          obtain ⟨n26, h⟩ := an_ok h
          refine ⟨vpc_ok n26 q25 e_x3, ?_⟩
          refine ⟨vpc_ok n26 q25 e_x3, ?_⟩
          obtain ⟨v29, h, q30⟩ := rda_ok h hS e_x3 q25
          have h := frc_ok h
          have p32 := n_add q30 ((rfl : (1 : Int32) = Int32.ofNat 1))
          obtain ⟨t27, h, hS28⟩ := wra_ok h hS e_x3 q25 p32
          exact xs_b_Li_takeThings_70 h e_u e_x1 e_x2 e_x3 e_x4 e_x5 hS28 hR6 hK
      · have h := x_neg h (fun q => hc (hc12.mpr q))
        have h := frc_ok h
        have p34 := n_add e_x4 ((rfl : (1 : Int32) = Int32.ofNat 1))
        exact xs_b_Li_takeThings_70 h e_u e_x1 e_x2 e_x3 p34 e_x5 hS hR6 hK
noncomputable def xl_e_Li_takeThings_6 (a_u : Nat) (k_K : Nat → X8 → Bool) (n : Nat) : Nat → Nat → Nat → Nat → Nat → X8 → Bool := Nat.rec (motive := fun _ => Nat → Nat → Nat → Nat → Nat → X8 → Bool) (fun _ _ _ _ _ _ => false) (fun _ ih b_x1 b_x2 b_x3 b_x4 b_x5 bt => x_b_Li_takeThings_6 a_u b_x1 b_x2 b_x3 b_x4 b_x5 bt ih k_K) n
noncomputable def x_e_Li_takeThings_6 (a_u : Nat) (a_x1 : Nat) (a_x2 : Nat) (a_x3 : Nat) (a_x4 : Nat) (a_x5 : Nat) (t : X8) (k_K : Nat → X8 → Bool) : Bool := xl_e_Li_takeThings_6 a_u k_K 200000 a_x1 a_x2 a_x3 a_x4 a_x5 t
def xq_e_Li_takeThings_6 (a_u : Nat) (k_K : Nat → X8 → Bool) (n : Nat) (y_x1 : Int32) (y_x2 : Int32) (y_x3 : Nat) (y_x4 : Int32) (y_x5 : Int32) (yS : cs) : Prop := ∃ (b_x1 : Nat) (b_x2 : Nat) (b_x3 : Nat) (b_x4 : Nat) (b_x5 : Nat) (bt : X8), y_x1 = Int32.ofNat b_x1 ∧ y_x2 = Int32.ofNat b_x2 ∧ y_x3 = b_x3 ∧ y_x4 = Int32.ofNat b_x4 ∧ y_x5 = Int32.ofNat b_x5 ∧ RC yS bt ∧ xl_e_Li_takeThings_6 a_u k_K n b_x1 b_x2 b_x3 b_x4 b_x5 bt = true
set_option maxRecDepth 20000 in
theorem xs_e_Li_takeThings_6 {u a_u : Nat} {x1 : Int32} {a_x1 : Nat} {x2 : Int32} {a_x2 : Nat} {x3 a_x3 : Nat} {x4 : Int32} {a_x4 : Nat} {x5 : Int32} {a_x5 : Nat} {S : cs} {t : X8} {K : Int32 → cs → Prop} {k_K : Nat → X8 → Bool} (h : x_e_Li_takeThings_6 a_u a_x1 a_x2 a_x3 a_x4 a_x5 t k_K = true) (e_u : u = a_u) (e_x1 : x1 = Int32.ofNat a_x1) (e_x2 : x2 = Int32.ofNat a_x2) (e_x3 : x3 = a_x3) (e_x4 : x4 = Int32.ofNat a_x4) (e_x5 : x5 = Int32.ofNat a_x5) (hS : RC S t) (hK : ∀ {y0 : Int32} {b0 : Nat} {yS : cs} {yt : X8}, k_K b0 yt = true → y0 = Int32.ofNat b0 → RC yS yt → K y0 yS) : e_Li_takeThings_6 UL u x1 x2 x3 x4 x5 S K := by
  refine ⟨fun y_x1 y_x2 y_x3 y_x4 y_x5 yS => ∃ n, xq_e_Li_takeThings_6 a_u k_K n y_x1 y_x2 y_x3 y_x4 y_x5 yS, fun y_x1 y_x2 y_x3 y_x4 y_x5 yS => mf (fun n => xq_e_Li_takeThings_6 a_u k_K n y_x1 y_x2 y_x3 y_x4 y_x5 yS), ⟨200000, a_x1, a_x2, a_x3, a_x4, a_x5, t, e_x1, e_x2, e_x3, e_x4, e_x5, hS, h⟩, fun y_x1 y_x2 y_x3 y_x4 y_x5 yS hI => ?_⟩
  obtain ⟨m, hm, hq⟩ := mf_ok hI
  obtain ⟨b_x1, b_x2, b_x3, b_x4, b_x5, bt, c_x1, c_x2, c_x3, c_x4, c_x5, cS, h⟩ := hq
  cases m with
  | zero => exact absurd h Bool.false_ne_true
  | succ n => exact xs_b_Li_takeThings_6 h e_u c_x1 c_x2 c_x3 c_x4 c_x5 cS (fun h d_x1 d_x2 d_x3 d_x4 d_x5 dS => ⟨⟨n, _, _, _, _, _, _, d_x1, d_x2, d_x3, d_x4, d_x5, dS, h⟩, Nat.lt_of_le_of_lt (mf_le ⟨_, _, _, _, _, _, d_x1, d_x2, d_x3, d_x4, d_x5, dS, h⟩) (Nat.lt_of_lt_of_eq (Nat.lt_succ_self n) hm.symm)⟩) hK
noncomputable def x_p_Li_takeThings (a_u : Nat) (a_x1 : Nat) (a_x2 : Nat) (a_x3 : Nat) (t : X8) (k_K : Nat → X8 → Bool) : Bool :=
  x_e_Li_takeThings_6 a_u a_x1 a_x2 a_x3 0 0 t k_K
set_option maxRecDepth 20000 in
set_option maxHeartbeats 1000000 in
theorem xs_p_Li_takeThings {u a_u : Nat} {x1 : Int32} {a_x1 : Nat} {x2 : Int32} {a_x2 : Nat} {x3 a_x3 : Nat} {S : cs} {t : X8} {K : Int32 → cs → Prop} {k_K : Nat → X8 → Bool} (h : x_p_Li_takeThings a_u a_x1 a_x2 a_x3 t k_K = true) (e_u : u = a_u) (e_x1 : x1 = Int32.ofNat a_x1) (e_x2 : x2 = Int32.ofNat a_x2) (e_x3 : x3 = a_x3) (hS : RC S t) (hK : ∀ {y0 : Int32} {b0 : Nat} {yS : cs} {yt : X8}, k_K b0 yt = true → y0 = Int32.ofNat b0 → RC yS yt → K y0 yS) : p_Li_takeThings UL u x1 x2 x3 S K := by
  unfold p_Li_takeThings
  unfold x_p_Li_takeThings at h
  exact xs_e_Li_takeThings_6 h e_u e_x1 e_x2 e_x3 ((rfl : (0 : Int32) = Int32.ofNat 0)) ((rfl : (0 : Int32) = Int32.ofNat 0)) hS hK
noncomputable def x_b_Li_setLengths_86 (a_u : Nat) (a_x1 : Nat) (a_x3 : Nat) (a_x4 : Nat) (t : X8) (r_R86 : Nat → Nat → Nat → X8 → Bool) (k_K : X8 → Bool) : Bool :=
  cond (w_lt a_x4 0) (k_K t) (and (Nat.beq (clx a_x1) 5) <| rdr t a_x1 1 fun o3 => cond (Nat.beq o3 1000000) false <| x_p_Li_takeThings a_u a_x4 a_x3 o3 t (fun v100_ t_S100 => frc (w_mul 2 v100_) fun f6 => frc (w_add a_x4 4294967295) fun f8 => r_R86 a_x1 f6 f8 t_S100))
set_option maxRecDepth 20000 in
set_option maxHeartbeats 1000000 in
theorem xs_b_Li_setLengths_86 {u a_u : Nat} {x1 a_x1 : Nat} {x3 : Int32} {a_x3 : Nat} {x4 : Int32} {a_x4 : Nat} {S : cs} {t : X8} {R86 : Nat → Int32 → Int32 → cs → Prop} {r_R86 : Nat → Nat → Nat → X8 → Bool} {K : cs → Prop} {k_K : X8 → Bool} (h : x_b_Li_setLengths_86 a_u a_x1 a_x3 a_x4 t r_R86 k_K = true) (e_u : u = a_u) (e_x1 : x1 = a_x1) (e_x3 : x3 = Int32.ofNat a_x3) (e_x4 : x4 = Int32.ofNat a_x4) (hS : RC S t) (hR86 : ∀ {y0 b0 : Nat} {y1 : Int32} {b1 : Nat} {y2 : Int32} {b2 : Nat} {yS : cs} {yt : X8}, r_R86 b0 b1 b2 yt = true → y0 = b0 → y1 = Int32.ofNat b1 → y2 = Int32.ofNat b2 → RC yS yt → R86 y0 y1 y2 yS) (hK : ∀ {yS : cs} {yt : X8}, k_K yt = true → RC yS yt → K yS) : b_Li_setLengths_86 UL u x1 x3 x4 S R86 K := by
  unfold b_Li_setLengths_86
  unfold x_b_Li_setLengths_86 at h
  have hc1 := c_lt' e_x4 ((rfl : (0 : Int32) = Int32.ofNat 0))
  refine ⟨fun hc => ?_, fun hc => ?_⟩
  · have h := x_pos h (hc1.mp hc)
    exact hK h hS
  · have h := x_neg h (fun q => hc (hc1.mpr q))
    obtain ⟨n2, h⟩ := an_ok h
    refine ⟨cl_ok n2 e_x1 (by decide), ?_⟩
    obtain ⟨o3, h, q4⟩ := rdr_ok h hS e_x1
    obtain ⟨n5, h⟩ := nu_ok h
    refine ⟨nu_no n5 q4, ?_⟩
    refine xs_p_Li_takeThings h e_u e_x4 e_x3 q4 hS (fun h e_v100 h_S100 => ?_)
    have h := frc_ok h
    have p7 := n_mul ((rfl : (2 : Int32) = Int32.ofNat 2)) e_v100
    have h := frc_ok h
    have p9 := n_add e_x4 (((by decide) : (-1 : Int32) = Int32.ofNat 4294967295))
    exact hR86 h e_x1 p7 p9 h_S100
noncomputable def xl_e_Li_setLengths_86 (a_u : Nat) (k_K : X8 → Bool) (n : Nat) : Nat → Nat → Nat → X8 → Bool := Nat.rec (motive := fun _ => Nat → Nat → Nat → X8 → Bool) (fun _ _ _ _ => false) (fun _ ih b_x1 b_x3 b_x4 bt => x_b_Li_setLengths_86 a_u b_x1 b_x3 b_x4 bt ih k_K) n
noncomputable def x_e_Li_setLengths_86 (a_u : Nat) (a_x1 : Nat) (a_x3 : Nat) (a_x4 : Nat) (t : X8) (k_K : X8 → Bool) : Bool := xl_e_Li_setLengths_86 a_u k_K 200000 a_x1 a_x3 a_x4 t
def xq_e_Li_setLengths_86 (a_u : Nat) (k_K : X8 → Bool) (n : Nat) (y_x1 : Nat) (y_x3 : Int32) (y_x4 : Int32) (yS : cs) : Prop := ∃ (b_x1 : Nat) (b_x3 : Nat) (b_x4 : Nat) (bt : X8), y_x1 = b_x1 ∧ y_x3 = Int32.ofNat b_x3 ∧ y_x4 = Int32.ofNat b_x4 ∧ RC yS bt ∧ xl_e_Li_setLengths_86 a_u k_K n b_x1 b_x3 b_x4 bt = true
set_option maxRecDepth 20000 in
theorem xs_e_Li_setLengths_86 {u a_u : Nat} {x1 a_x1 : Nat} {x3 : Int32} {a_x3 : Nat} {x4 : Int32} {a_x4 : Nat} {S : cs} {t : X8} {K : cs → Prop} {k_K : X8 → Bool} (h : x_e_Li_setLengths_86 a_u a_x1 a_x3 a_x4 t k_K = true) (e_u : u = a_u) (e_x1 : x1 = a_x1) (e_x3 : x3 = Int32.ofNat a_x3) (e_x4 : x4 = Int32.ofNat a_x4) (hS : RC S t) (hK : ∀ {yS : cs} {yt : X8}, k_K yt = true → RC yS yt → K yS) : e_Li_setLengths_86 UL u x1 x3 x4 S K := by
  refine ⟨fun y_x1 y_x3 y_x4 yS => ∃ n, xq_e_Li_setLengths_86 a_u k_K n y_x1 y_x3 y_x4 yS, fun y_x1 y_x3 y_x4 yS => mf (fun n => xq_e_Li_setLengths_86 a_u k_K n y_x1 y_x3 y_x4 yS), ⟨200000, a_x1, a_x3, a_x4, t, e_x1, e_x3, e_x4, hS, h⟩, fun y_x1 y_x3 y_x4 yS hI => ?_⟩
  obtain ⟨m, hm, hq⟩ := mf_ok hI
  obtain ⟨b_x1, b_x3, b_x4, bt, c_x1, c_x3, c_x4, cS, h⟩ := hq
  cases m with
  | zero => exact absurd h Bool.false_ne_true
  | succ n => exact xs_b_Li_setLengths_86 h e_u c_x1 c_x3 c_x4 cS (fun h d_x1 d_x3 d_x4 dS => ⟨⟨n, _, _, _, _, d_x1, d_x3, d_x4, dS, h⟩, Nat.lt_of_le_of_lt (mf_le ⟨_, _, _, _, d_x1, d_x3, d_x4, dS, h⟩) (Nat.lt_of_lt_of_eq (Nat.lt_succ_self n) hm.symm)⟩) hK
noncomputable def x_b_Li_makeLine_143 (a_u : Nat) (a_x1 : Nat) (a_x2 : Nat) (a_x3 : Nat) (a_x4 : Nat) (a_x5 : Nat) (a_x6 : Nat) (t : X8) (r_R9 : Nat → Nat → Nat → Nat → Nat → Nat → X8 → Bool) (k_K : Nat → X8 → Bool) : Bool :=
  frc (w_add a_x6 1) fun f1 => r_R9 a_x1 a_x2 a_x3 a_x4 a_x5 f1 t
set_option maxRecDepth 20000 in
set_option maxHeartbeats 1000000 in
theorem xs_b_Li_makeLine_143 {u a_u : Nat} {x1 : Int32} {a_x1 : Nat} {x2 : Int32} {a_x2 : Nat} {x3 a_x3 : Nat} {x4 : Int32} {a_x4 : Nat} {x5 : Int32} {a_x5 : Nat} {x6 : Int32} {a_x6 : Nat} {S : cs} {t : X8} {R9 : Int32 → Int32 → Nat → Int32 → Int32 → Int32 → cs → Prop} {r_R9 : Nat → Nat → Nat → Nat → Nat → Nat → X8 → Bool} {K : Int32 → cs → Prop} {k_K : Nat → X8 → Bool} (h : x_b_Li_makeLine_143 a_u a_x1 a_x2 a_x3 a_x4 a_x5 a_x6 t r_R9 k_K = true) (e_u : u = a_u) (e_x1 : x1 = Int32.ofNat a_x1) (e_x2 : x2 = Int32.ofNat a_x2) (e_x3 : x3 = a_x3) (e_x4 : x4 = Int32.ofNat a_x4) (e_x5 : x5 = Int32.ofNat a_x5) (e_x6 : x6 = Int32.ofNat a_x6) (hS : RC S t) (hR9 : ∀ {y0 : Int32} {b0 : Nat} {y1 : Int32} {b1 : Nat} {y2 b2 : Nat} {y3 : Int32} {b3 : Nat} {y4 : Int32} {b4 : Nat} {y5 : Int32} {b5 : Nat} {yS : cs} {yt : X8}, r_R9 b0 b1 b2 b3 b4 b5 yt = true → y0 = Int32.ofNat b0 → y1 = Int32.ofNat b1 → y2 = b2 → y3 = Int32.ofNat b3 → y4 = Int32.ofNat b4 → y5 = Int32.ofNat b5 → RC yS yt → R9 y0 y1 y2 y3 y4 y5 yS) (hK : ∀ {y0 : Int32} {b0 : Nat} {yS : cs} {yt : X8}, k_K b0 yt = true → y0 = Int32.ofNat b0 → RC yS yt → K y0 yS) : b_Li_makeLine_143 UL u x1 x2 x3 x4 x5 x6 S R9 K := by
  unfold b_Li_makeLine_143
  unfold x_b_Li_makeLine_143 at h
  have h := frc_ok h
  have p2 := n_add e_x6 ((rfl : (1 : Int32) = Int32.ofNat 1))
  exact hR9 h e_x1 e_x2 e_x3 e_x4 e_x5 p2 hS
noncomputable def x_b_Li_makeLine_87 (a_u : Nat) (a_x1 : Nat) (a_x2 : Nat) (a_x3 : Nat) (a_x4 : Nat) (a_x5 : Nat) (a_x6 : Nat) (a_x7 : Nat) (a_s0 : Nat) (t : X8) (r_R9 : Nat → Nat → Nat → Nat → Nat → Nat → X8 → Bool) (k_K : Nat → X8 → Bool) : Bool :=
  rdr t a_u 2 fun o1 => cond (Nat.beq o1 1000000) false <| and (Nat.beq (clx o1) 903) <| frc (w_add (w_mul 514 a_x1) a_x6) fun f5 => and (Nat.blt f5 (lnx o1)) <| cond (w_eq a_s0 0) (rdr t a_u 4 fun o9 => cond (Nat.beq o9 1000000) false <| rdr t a_u 0 fun o12 => cond (Nat.beq o12 1000000) false <| and (Nat.beq (clx o12) 902) <| and (Nat.blt a_x4 (lnx o12)) <| and (Nat.beq (clx a_x3) 902) <| frc (Nat.land a_s0 1) fun f20 => wra t o1 f5 f20 fun t18 => rdr t18 a_u 0 fun o22 => rda t18 o22 a_x4 fun v24 => and (Nat.blt v24 (lnx a_x3)) <| rdr t18 a_u 4 fun o27 => and (Nat.beq (clx o27) 902) <| and (Nat.blt a_x6 (lnx o27)) <| frc (w_add a_x4 1) fun f31 => rda t18 a_x3 v24 fun v35 => wra t18 o27 a_x6 v35 fun t33 => x_b_Li_makeLine_143 a_u a_x1 a_x2 a_x3 f31 a_x5 a_x6 t33 r_R9 k_K) (rdr t a_u 4 fun o37 => cond (Nat.beq o37 1000000) false <| and (Nat.beq (clx o37) 902) <| and (Nat.blt a_x6 (lnx o37)) <| frc (w_add a_x5 1) fun f42 => frc (Nat.land a_s0 1) fun f46 => wra t o1 f5 f46 fun t44 => rdr t44 a_u 4 fun o50 => wra t44 o50 a_x6 a_x7 fun t48 => x_b_Li_makeLine_143 a_u a_x1 a_x2 a_x3 a_x4 f42 a_x6 t48 r_R9 k_K)
set_option maxRecDepth 20000 in
set_option maxHeartbeats 1000000 in
theorem xs_b_Li_makeLine_87 {u a_u : Nat} {x1 : Int32} {a_x1 : Nat} {x2 : Int32} {a_x2 : Nat} {x3 a_x3 : Nat} {x4 : Int32} {a_x4 : Nat} {x5 : Int32} {a_x5 : Nat} {x6 : Int32} {a_x6 : Nat} {x7 : Int32} {a_x7 : Nat} {s0 : Int32} {a_s0 : Nat} {S : cs} {t : X8} {R9 : Int32 → Int32 → Nat → Int32 → Int32 → Int32 → cs → Prop} {r_R9 : Nat → Nat → Nat → Nat → Nat → Nat → X8 → Bool} {K : Int32 → cs → Prop} {k_K : Nat → X8 → Bool} (h : x_b_Li_makeLine_87 a_u a_x1 a_x2 a_x3 a_x4 a_x5 a_x6 a_x7 a_s0 t r_R9 k_K = true) (e_u : u = a_u) (e_x1 : x1 = Int32.ofNat a_x1) (e_x2 : x2 = Int32.ofNat a_x2) (e_x3 : x3 = a_x3) (e_x4 : x4 = Int32.ofNat a_x4) (e_x5 : x5 = Int32.ofNat a_x5) (e_x6 : x6 = Int32.ofNat a_x6) (e_x7 : x7 = Int32.ofNat a_x7) (e_s0 : s0 = Int32.ofNat a_s0) (hS : RC S t) (hR9 : ∀ {y0 : Int32} {b0 : Nat} {y1 : Int32} {b1 : Nat} {y2 b2 : Nat} {y3 : Int32} {b3 : Nat} {y4 : Int32} {b4 : Nat} {y5 : Int32} {b5 : Nat} {yS : cs} {yt : X8}, r_R9 b0 b1 b2 b3 b4 b5 yt = true → y0 = Int32.ofNat b0 → y1 = Int32.ofNat b1 → y2 = b2 → y3 = Int32.ofNat b3 → y4 = Int32.ofNat b4 → y5 = Int32.ofNat b5 → RC yS yt → R9 y0 y1 y2 y3 y4 y5 yS) (hK : ∀ {y0 : Int32} {b0 : Nat} {yS : cs} {yt : X8}, k_K b0 yt = true → y0 = Int32.ofNat b0 → RC yS yt → K y0 yS) : b_Li_makeLine_87 UL u x1 x2 x3 x4 x5 x6 x7 s0 S R9 K := by
  unfold b_Li_makeLine_87
  unfold x_b_Li_makeLine_87 at h
  obtain ⟨o1, h, q2⟩ := rdr_ok h hS e_u
  obtain ⟨n3, h⟩ := nu_ok h
  refine ⟨nu_no n3 q2, ?_⟩
  obtain ⟨n4, h⟩ := an_ok h
  refine ⟨cl_ok n4 q2 (by decide), ?_⟩
  have h := frc_ok h
  have p6 := n_add (n_mul ((rfl : (514 : Int32) = Int32.ofNat 514)) e_x1) e_x6
  obtain ⟨n7, h⟩ := an_ok h
  refine ⟨vpc_ok n7 p6 q2, ?_⟩
  have hc8 := c_eq' e_s0 ((rfl : (0 : Int32) = Int32.ofNat 0))
  refine ⟨fun hc => ?_, fun hc => ?_⟩
  · have h := x_pos h (hc8.mp hc)
    obtain ⟨o9, h, q10⟩ := rdr_ok h hS e_u
    obtain ⟨n11, h⟩ := nu_ok h
    refine ⟨nu_no n11 q10, ?_⟩
    obtain ⟨o12, h, q13⟩ := rdr_ok h hS e_u
    obtain ⟨n14, h⟩ := nu_ok h
    refine ⟨nu_no n14 q13, ?_⟩
    obtain ⟨n15, h⟩ := an_ok h
    refine ⟨cl_ok n15 q13 (by decide), ?_⟩
    obtain ⟨n16, h⟩ := an_ok h
    refine ⟨vpc_ok n16 e_x4 q13, ?_⟩
    obtain ⟨n17, h⟩ := an_ok h
    refine ⟨cl_ok n17 e_x3 (by decide), ?_⟩
    have h := frc_ok h
    have p21 := n_nar e_s0
    obtain ⟨t18, h, hS19⟩ := wra_ok h hS q2 p6 p21
    obtain ⟨o22, h, q23⟩ := rdr_ok h hS19 e_u
    obtain ⟨v24, h, q25⟩ := rda_ok h hS19 q23 e_x4
    obtain ⟨n26, h⟩ := an_ok h
    refine ⟨vpc_ok n26 q25 e_x3, ?_⟩
    obtain ⟨o27, h, q28⟩ := rdr_ok h hS19 e_u
    obtain ⟨n29, h⟩ := an_ok h
    refine ⟨cl_ok n29 q28 (by decide), ?_⟩
    obtain ⟨n30, h⟩ := an_ok h
    refine ⟨vpc_ok n30 e_x6 q28, ?_⟩
    have h := frc_ok h
    have p32 := n_add e_x4 ((rfl : (1 : Int32) = Int32.ofNat 1))
    obtain ⟨v35, h, q36⟩ := rda_ok h hS19 e_x3 q25
    obtain ⟨t33, h, hS34⟩ := wra_ok h hS19 q28 e_x6 q36
    exact xs_b_Li_makeLine_143 h e_u e_x1 e_x2 e_x3 p32 e_x5 e_x6 hS34 hR9 hK
  · have h := x_neg h (fun q => hc (hc8.mpr q))
    obtain ⟨o37, h, q38⟩ := rdr_ok h hS e_u
    obtain ⟨n39, h⟩ := nu_ok h
    refine ⟨nu_no n39 q38, ?_⟩
    obtain ⟨n40, h⟩ := an_ok h
    refine ⟨cl_ok n40 q38 (by decide), ?_⟩
    obtain ⟨n41, h⟩ := an_ok h
    refine ⟨vpc_ok n41 e_x6 q38, ?_⟩
    have h := frc_ok h
    have p43 := n_add e_x5 ((rfl : (1 : Int32) = Int32.ofNat 1))
    have h := frc_ok h
    have p47 := n_nar e_s0
    obtain ⟨t44, h, hS45⟩ := wra_ok h hS q2 p6 p47
    obtain ⟨o50, h, q51⟩ := rdr_ok h hS45 e_u
    obtain ⟨t48, h, hS49⟩ := wra_ok h hS45 q51 e_x6 e_x7
    exact xs_b_Li_makeLine_143 h e_u e_x1 e_x2 e_x3 e_x4 p43 e_x6 hS49 hR9 hK
noncomputable def x_b_Li_makeLine_82 (a_u : Nat) (a_x1 : Nat) (a_x2 : Nat) (a_x3 : Nat) (a_x4 : Nat) (a_x5 : Nat) (a_x6 : Nat) (a_x7 : Nat) (t : X8) (r_R9 : Nat → Nat → Nat → Nat → Nat → Nat → X8 → Bool) (k_K : Nat → X8 → Bool) : Bool :=
  x_b_Li_makeLine_87 a_u a_x1 a_x2 a_x3 a_x4 a_x5 a_x6 a_x7 1 t r_R9 k_K
set_option maxRecDepth 20000 in
set_option maxHeartbeats 1000000 in
theorem xs_b_Li_makeLine_82 {u a_u : Nat} {x1 : Int32} {a_x1 : Nat} {x2 : Int32} {a_x2 : Nat} {x3 a_x3 : Nat} {x4 : Int32} {a_x4 : Nat} {x5 : Int32} {a_x5 : Nat} {x6 : Int32} {a_x6 : Nat} {x7 : Int32} {a_x7 : Nat} {S : cs} {t : X8} {R9 : Int32 → Int32 → Nat → Int32 → Int32 → Int32 → cs → Prop} {r_R9 : Nat → Nat → Nat → Nat → Nat → Nat → X8 → Bool} {K : Int32 → cs → Prop} {k_K : Nat → X8 → Bool} (h : x_b_Li_makeLine_82 a_u a_x1 a_x2 a_x3 a_x4 a_x5 a_x6 a_x7 t r_R9 k_K = true) (e_u : u = a_u) (e_x1 : x1 = Int32.ofNat a_x1) (e_x2 : x2 = Int32.ofNat a_x2) (e_x3 : x3 = a_x3) (e_x4 : x4 = Int32.ofNat a_x4) (e_x5 : x5 = Int32.ofNat a_x5) (e_x6 : x6 = Int32.ofNat a_x6) (e_x7 : x7 = Int32.ofNat a_x7) (hS : RC S t) (hR9 : ∀ {y0 : Int32} {b0 : Nat} {y1 : Int32} {b1 : Nat} {y2 b2 : Nat} {y3 : Int32} {b3 : Nat} {y4 : Int32} {b4 : Nat} {y5 : Int32} {b5 : Nat} {yS : cs} {yt : X8}, r_R9 b0 b1 b2 b3 b4 b5 yt = true → y0 = Int32.ofNat b0 → y1 = Int32.ofNat b1 → y2 = b2 → y3 = Int32.ofNat b3 → y4 = Int32.ofNat b4 → y5 = Int32.ofNat b5 → RC yS yt → R9 y0 y1 y2 y3 y4 y5 yS) (hK : ∀ {y0 : Int32} {b0 : Nat} {yS : cs} {yt : X8}, k_K b0 yt = true → y0 = Int32.ofNat b0 → RC yS yt → K y0 yS) : b_Li_makeLine_82 UL u x1 x2 x3 x4 x5 x6 x7 S R9 K := by
  unfold b_Li_makeLine_82
  unfold x_b_Li_makeLine_82 at h
  exact xs_b_Li_makeLine_87 h e_u e_x1 e_x2 e_x3 e_x4 e_x5 e_x6 e_x7 ((rfl : (1 : Int32) = Int32.ofNat 1)) hS hR9 hK
noncomputable def x_b_Li_makeLine_86 (a_u : Nat) (a_x1 : Nat) (a_x2 : Nat) (a_x3 : Nat) (a_x4 : Nat) (a_x5 : Nat) (a_x6 : Nat) (a_x7 : Nat) (t : X8) (r_R9 : Nat → Nat → Nat → Nat → Nat → Nat → X8 → Bool) (k_K : Nat → X8 → Bool) : Bool :=
  x_b_Li_makeLine_87 a_u a_x1 a_x2 a_x3 a_x4 a_x5 a_x6 a_x7 0 t r_R9 k_K
set_option maxRecDepth 20000 in
set_option maxHeartbeats 1000000 in
theorem xs_b_Li_makeLine_86 {u a_u : Nat} {x1 : Int32} {a_x1 : Nat} {x2 : Int32} {a_x2 : Nat} {x3 a_x3 : Nat} {x4 : Int32} {a_x4 : Nat} {x5 : Int32} {a_x5 : Nat} {x6 : Int32} {a_x6 : Nat} {x7 : Int32} {a_x7 : Nat} {S : cs} {t : X8} {R9 : Int32 → Int32 → Nat → Int32 → Int32 → Int32 → cs → Prop} {r_R9 : Nat → Nat → Nat → Nat → Nat → Nat → X8 → Bool} {K : Int32 → cs → Prop} {k_K : Nat → X8 → Bool} (h : x_b_Li_makeLine_86 a_u a_x1 a_x2 a_x3 a_x4 a_x5 a_x6 a_x7 t r_R9 k_K = true) (e_u : u = a_u) (e_x1 : x1 = Int32.ofNat a_x1) (e_x2 : x2 = Int32.ofNat a_x2) (e_x3 : x3 = a_x3) (e_x4 : x4 = Int32.ofNat a_x4) (e_x5 : x5 = Int32.ofNat a_x5) (e_x6 : x6 = Int32.ofNat a_x6) (e_x7 : x7 = Int32.ofNat a_x7) (hS : RC S t) (hR9 : ∀ {y0 : Int32} {b0 : Nat} {y1 : Int32} {b1 : Nat} {y2 b2 : Nat} {y3 : Int32} {b3 : Nat} {y4 : Int32} {b4 : Nat} {y5 : Int32} {b5 : Nat} {yS : cs} {yt : X8}, r_R9 b0 b1 b2 b3 b4 b5 yt = true → y0 = Int32.ofNat b0 → y1 = Int32.ofNat b1 → y2 = b2 → y3 = Int32.ofNat b3 → y4 = Int32.ofNat b4 → y5 = Int32.ofNat b5 → RC yS yt → R9 y0 y1 y2 y3 y4 y5 yS) (hK : ∀ {y0 : Int32} {b0 : Nat} {yS : cs} {yt : X8}, k_K b0 yt = true → y0 = Int32.ofNat b0 → RC yS yt → K y0 yS) : b_Li_makeLine_86 UL u x1 x2 x3 x4 x5 x6 x7 S R9 K := by
  unfold b_Li_makeLine_86
  unfold x_b_Li_makeLine_86 at h
  exact xs_b_Li_makeLine_87 h e_u e_x1 e_x2 e_x3 e_x4 e_x5 e_x6 e_x7 ((rfl : (0 : Int32) = Int32.ofNat 0)) hS hR9 hK
noncomputable def x_b_Li_makeLine_51 (a_u : Nat) (a_x1 : Nat) (a_x2 : Nat) (a_x3 : Nat) (a_x4 : Nat) (a_x5 : Nat) (a_x6 : Nat) (a_s0 : Nat) (t : X8) (r_R9 : Nat → Nat → Nat → Nat → Nat → Nat → X8 → Bool) (k_K : Nat → X8 → Bool) : Bool :=
  rdi t a_u 1 fun v1 => cond (w_eq a_x4 v1) (x_b_Li_makeLine_82 a_u a_x1 a_x2 a_x3 a_x4 a_x5 a_x6 a_s0 t r_R9 k_K) (cond (!(w_lt a_x5 a_x2)) (x_b_Li_makeLine_86 a_u a_x1 a_x2 a_x3 a_x4 a_x5 a_x6 a_s0 t r_R9 k_K) (rdr t a_u 0 fun o5 => cond (Nat.beq o5 1000000) false <| and (Nat.beq (clx o5) 902) <| and (Nat.blt a_x4 (lnx o5)) <| and (Nat.beq (clx a_x3) 902) <| rda t o5 a_x4 fun v11 => and (Nat.blt v11 (lnx a_x3)) <| rda t a_x3 v11 fun v14 => cond (!(w_lt a_s0 v14)) (x_b_Li_makeLine_86 a_u a_x1 a_x2 a_x3 a_x4 a_x5 a_x6 a_s0 t r_R9 k_K) (x_b_Li_makeLine_82 a_u a_x1 a_x2 a_x3 a_x4 a_x5 a_x6 a_s0 t r_R9 k_K)))
set_option maxRecDepth 20000 in
set_option maxHeartbeats 1000000 in
theorem xs_b_Li_makeLine_51 {u a_u : Nat} {x1 : Int32} {a_x1 : Nat} {x2 : Int32} {a_x2 : Nat} {x3 a_x3 : Nat} {x4 : Int32} {a_x4 : Nat} {x5 : Int32} {a_x5 : Nat} {x6 : Int32} {a_x6 : Nat} {s0 : Int32} {a_s0 : Nat} {S : cs} {t : X8} {R9 : Int32 → Int32 → Nat → Int32 → Int32 → Int32 → cs → Prop} {r_R9 : Nat → Nat → Nat → Nat → Nat → Nat → X8 → Bool} {K : Int32 → cs → Prop} {k_K : Nat → X8 → Bool} (h : x_b_Li_makeLine_51 a_u a_x1 a_x2 a_x3 a_x4 a_x5 a_x6 a_s0 t r_R9 k_K = true) (e_u : u = a_u) (e_x1 : x1 = Int32.ofNat a_x1) (e_x2 : x2 = Int32.ofNat a_x2) (e_x3 : x3 = a_x3) (e_x4 : x4 = Int32.ofNat a_x4) (e_x5 : x5 = Int32.ofNat a_x5) (e_x6 : x6 = Int32.ofNat a_x6) (e_s0 : s0 = Int32.ofNat a_s0) (hS : RC S t) (hR9 : ∀ {y0 : Int32} {b0 : Nat} {y1 : Int32} {b1 : Nat} {y2 b2 : Nat} {y3 : Int32} {b3 : Nat} {y4 : Int32} {b4 : Nat} {y5 : Int32} {b5 : Nat} {yS : cs} {yt : X8}, r_R9 b0 b1 b2 b3 b4 b5 yt = true → y0 = Int32.ofNat b0 → y1 = Int32.ofNat b1 → y2 = b2 → y3 = Int32.ofNat b3 → y4 = Int32.ofNat b4 → y5 = Int32.ofNat b5 → RC yS yt → R9 y0 y1 y2 y3 y4 y5 yS) (hK : ∀ {y0 : Int32} {b0 : Nat} {yS : cs} {yt : X8}, k_K b0 yt = true → y0 = Int32.ofNat b0 → RC yS yt → K y0 yS) : b_Li_makeLine_51 UL u x1 x2 x3 x4 x5 x6 s0 S R9 K := by
  unfold b_Li_makeLine_51
  unfold x_b_Li_makeLine_51 at h
  obtain ⟨v1, h, q2⟩ := rdi_ok h hS e_u
  have hc3 := c_eq' e_x4 q2
  refine ⟨fun hc => ?_, fun hc => ?_⟩
  · have h := x_pos h (hc3.mp hc)
    exact xs_b_Li_makeLine_82 h e_u e_x1 e_x2 e_x3 e_x4 e_x5 e_x6 e_s0 hS hR9 hK
  · have h := x_neg h (fun q => hc (hc3.mpr q))
    have hc4 := c_le' e_x2 e_x5
    refine ⟨fun hc => ?_, fun hc => ?_⟩
    · have h := x_pos h (hc4.mp hc)
      exact xs_b_Li_makeLine_86 h e_u e_x1 e_x2 e_x3 e_x4 e_x5 e_x6 e_s0 hS hR9 hK
    · have h := x_neg h (fun q => hc (hc4.mpr q))
      obtain ⟨o5, h, q6⟩ := rdr_ok h hS e_u
      obtain ⟨n7, h⟩ := nu_ok h
      refine ⟨nu_no n7 q6, ?_⟩
      obtain ⟨n8, h⟩ := an_ok h
      refine ⟨cl_ok n8 q6 (by decide), ?_⟩
      obtain ⟨n9, h⟩ := an_ok h
      refine ⟨vpc_ok n9 e_x4 q6, ?_⟩
      obtain ⟨n10, h⟩ := an_ok h
      refine ⟨cl_ok n10 e_x3 (by decide), ?_⟩
      obtain ⟨v11, h, q12⟩ := rda_ok h hS q6 e_x4
      obtain ⟨n13, h⟩ := an_ok h
      refine ⟨vpc_ok n13 q12 e_x3, ?_⟩
      obtain ⟨v14, h, q15⟩ := rda_ok h hS e_x3 q12
      have hc16 := c_le' q15 e_s0
      refine ⟨fun hc => ?_, fun hc => ?_⟩
      · have h := x_pos h (hc16.mp hc)
        exact xs_b_Li_makeLine_86 h e_u e_x1 e_x2 e_x3 e_x4 e_x5 e_x6 e_s0 hS hR9 hK
      · have h := x_neg h (fun q => hc (hc16.mpr q))
        exact xs_b_Li_makeLine_82 h e_u e_x1 e_x2 e_x3 e_x4 e_x5 e_x6 e_s0 hS hR9 hK
noncomputable def x_b_Li_makeLine_9 (a_u : Nat) (a_x1 : Nat) (a_x2 : Nat) (a_x3 : Nat) (a_x4 : Nat) (a_x5 : Nat) (a_x6 : Nat) (t : X8) (r_R9 : Nat → Nat → Nat → Nat → Nat → Nat → X8 → Bool) (k_K : Nat → X8 → Bool) : Bool :=
  rdi t a_u 1 fun v1 => cond (!(w_lt a_x6 (w_add v1 a_x2))) (rdr t a_u 3 fun o4 => cond (Nat.beq o4 1000000) false <| rdr t a_u 4 fun o7 => cond (Nat.beq o7 1000000) false <| frc (w_add v1 a_x2) fun f10 => wrr t a_u 3 o7 fun t12 => wrr t12 a_u 4 o4 fun t14 => k_K f10 t14) (cond (!(w_lt a_x5 a_x2)) (x_b_Li_makeLine_51 a_u a_x1 a_x2 a_x3 a_x4 a_x5 a_x6 0 t r_R9 k_K) (rdr t a_u 3 fun o17 => cond (Nat.beq o17 1000000) false <| and (Nat.beq (clx o17) 902) <| frc (w_mul 2 a_x5) fun f21 => and (Nat.blt f21 (lnx o17)) <| frc (w_add (w_mul 2 a_x5) 1) fun f24 => and (Nat.blt f24 (lnx o17)) <| rda t o17 f21 fun v27 => rda t o17 f24 fun v29 => frc (w_add v27 v29) fun f31 => x_b_Li_makeLine_51 a_u a_x1 a_x2 a_x3 a_x4 a_x5 a_x6 f31 t r_R9 k_K))
set_option maxRecDepth 20000 in
set_option maxHeartbeats 1000000 in
theorem xs_b_Li_makeLine_9 {u a_u : Nat} {x1 : Int32} {a_x1 : Nat} {x2 : Int32} {a_x2 : Nat} {x3 a_x3 : Nat} {x4 : Int32} {a_x4 : Nat} {x5 : Int32} {a_x5 : Nat} {x6 : Int32} {a_x6 : Nat} {S : cs} {t : X8} {R9 : Int32 → Int32 → Nat → Int32 → Int32 → Int32 → cs → Prop} {r_R9 : Nat → Nat → Nat → Nat → Nat → Nat → X8 → Bool} {K : Int32 → cs → Prop} {k_K : Nat → X8 → Bool} (h : x_b_Li_makeLine_9 a_u a_x1 a_x2 a_x3 a_x4 a_x5 a_x6 t r_R9 k_K = true) (e_u : u = a_u) (e_x1 : x1 = Int32.ofNat a_x1) (e_x2 : x2 = Int32.ofNat a_x2) (e_x3 : x3 = a_x3) (e_x4 : x4 = Int32.ofNat a_x4) (e_x5 : x5 = Int32.ofNat a_x5) (e_x6 : x6 = Int32.ofNat a_x6) (hS : RC S t) (hR9 : ∀ {y0 : Int32} {b0 : Nat} {y1 : Int32} {b1 : Nat} {y2 b2 : Nat} {y3 : Int32} {b3 : Nat} {y4 : Int32} {b4 : Nat} {y5 : Int32} {b5 : Nat} {yS : cs} {yt : X8}, r_R9 b0 b1 b2 b3 b4 b5 yt = true → y0 = Int32.ofNat b0 → y1 = Int32.ofNat b1 → y2 = b2 → y3 = Int32.ofNat b3 → y4 = Int32.ofNat b4 → y5 = Int32.ofNat b5 → RC yS yt → R9 y0 y1 y2 y3 y4 y5 yS) (hK : ∀ {y0 : Int32} {b0 : Nat} {yS : cs} {yt : X8}, k_K b0 yt = true → y0 = Int32.ofNat b0 → RC yS yt → K y0 yS) : b_Li_makeLine_9 UL u x1 x2 x3 x4 x5 x6 S R9 K := by
  unfold b_Li_makeLine_9
  unfold x_b_Li_makeLine_9 at h
  obtain ⟨v1, h, q2⟩ := rdi_ok h hS e_u
  have hc3 := c_le' (n_add q2 e_x2) e_x6
  refine ⟨fun hc => ?_, fun hc => ?_⟩
  · have h := x_pos h (hc3.mp hc)
    obtain ⟨o4, h, q5⟩ := rdr_ok h hS e_u
    obtain ⟨n6, h⟩ := nu_ok h
    refine ⟨nu_no n6 q5, ?_⟩
    obtain ⟨o7, h, q8⟩ := rdr_ok h hS e_u
    obtain ⟨n9, h⟩ := nu_ok h
    refine ⟨nu_no n9 q8, ?_⟩
    refine ⟨nu_no n9 q8, ?_⟩
    refine ⟨nu_no n6 q5, ?_⟩
    have h := frc_ok h
    have p11 := n_add q2 e_x2
    obtain ⟨t12, h, hS13⟩ := wrr_ok h hS e_u q8
    obtain ⟨t14, h, hS15⟩ := wrr_ok h hS13 e_u q5
    exact hK h p11 hS15
  · have h := x_neg h (fun q => hc (hc3.mpr q))
    have hc16 := c_le' e_x2 e_x5
    refine ⟨fun hc => ?_, fun hc => ?_⟩
    · have h := x_pos h (hc16.mp hc)
      exact xs_b_Li_makeLine_51 h e_u e_x1 e_x2 e_x3 e_x4 e_x5 e_x6 ((rfl : (0 : Int32) = Int32.ofNat 0)) hS hR9 hK
    · have h := x_neg h (fun q => hc (hc16.mpr q))
      obtain ⟨o17, h, q18⟩ := rdr_ok h hS e_u
      obtain ⟨n19, h⟩ := nu_ok h
      refine ⟨nu_no n19 q18, ?_⟩
      obtain ⟨n20, h⟩ := an_ok h
      refine ⟨cl_ok n20 q18 (by decide), ?_⟩
      have h := frc_ok h
      have p22 := n_mul ((rfl : (2 : Int32) = Int32.ofNat 2)) e_x5
      obtain ⟨n23, h⟩ := an_ok h
      refine ⟨vpc_ok n23 p22 q18, ?_⟩
      refine ⟨nu_no n19 q18, ?_⟩
      have h := frc_ok h
      have p25 := n_add (n_mul ((rfl : (2 : Int32) = Int32.ofNat 2)) e_x5) ((rfl : (1 : Int32) = Int32.ofNat 1))
      obtain ⟨n26, h⟩ := an_ok h
      refine ⟨vpc_ok n26 p25 q18, ?_⟩
      obtain ⟨v27, h, q28⟩ := rda_ok h hS q18 p22
      obtain ⟨v29, h, q30⟩ := rda_ok h hS q18 p25
      have h := frc_ok h
      have p32 := n_add q28 q30
      exact xs_b_Li_makeLine_51 h e_u e_x1 e_x2 e_x3 e_x4 e_x5 e_x6 p32 hS hR9 hK
noncomputable def xl_e_Li_makeLine_9 (a_u : Nat) (k_K : Nat → X8 → Bool) (n : Nat) : Nat → Nat → Nat → Nat → Nat → Nat → X8 → Bool := Nat.rec (motive := fun _ => Nat → Nat → Nat → Nat → Nat → Nat → X8 → Bool) (fun _ _ _ _ _ _ _ => false) (fun _ ih b_x1 b_x2 b_x3 b_x4 b_x5 b_x6 bt => x_b_Li_makeLine_9 a_u b_x1 b_x2 b_x3 b_x4 b_x5 b_x6 bt ih k_K) n
noncomputable def x_e_Li_makeLine_9 (a_u : Nat) (a_x1 : Nat) (a_x2 : Nat) (a_x3 : Nat) (a_x4 : Nat) (a_x5 : Nat) (a_x6 : Nat) (t : X8) (k_K : Nat → X8 → Bool) : Bool := xl_e_Li_makeLine_9 a_u k_K 200000 a_x1 a_x2 a_x3 a_x4 a_x5 a_x6 t
def xq_e_Li_makeLine_9 (a_u : Nat) (k_K : Nat → X8 → Bool) (n : Nat) (y_x1 : Int32) (y_x2 : Int32) (y_x3 : Nat) (y_x4 : Int32) (y_x5 : Int32) (y_x6 : Int32) (yS : cs) : Prop := ∃ (b_x1 : Nat) (b_x2 : Nat) (b_x3 : Nat) (b_x4 : Nat) (b_x5 : Nat) (b_x6 : Nat) (bt : X8), y_x1 = Int32.ofNat b_x1 ∧ y_x2 = Int32.ofNat b_x2 ∧ y_x3 = b_x3 ∧ y_x4 = Int32.ofNat b_x4 ∧ y_x5 = Int32.ofNat b_x5 ∧ y_x6 = Int32.ofNat b_x6 ∧ RC yS bt ∧ xl_e_Li_makeLine_9 a_u k_K n b_x1 b_x2 b_x3 b_x4 b_x5 b_x6 bt = true
set_option maxRecDepth 20000 in
theorem xs_e_Li_makeLine_9 {u a_u : Nat} {x1 : Int32} {a_x1 : Nat} {x2 : Int32} {a_x2 : Nat} {x3 a_x3 : Nat} {x4 : Int32} {a_x4 : Nat} {x5 : Int32} {a_x5 : Nat} {x6 : Int32} {a_x6 : Nat} {S : cs} {t : X8} {K : Int32 → cs → Prop} {k_K : Nat → X8 → Bool} (h : x_e_Li_makeLine_9 a_u a_x1 a_x2 a_x3 a_x4 a_x5 a_x6 t k_K = true) (e_u : u = a_u) (e_x1 : x1 = Int32.ofNat a_x1) (e_x2 : x2 = Int32.ofNat a_x2) (e_x3 : x3 = a_x3) (e_x4 : x4 = Int32.ofNat a_x4) (e_x5 : x5 = Int32.ofNat a_x5) (e_x6 : x6 = Int32.ofNat a_x6) (hS : RC S t) (hK : ∀ {y0 : Int32} {b0 : Nat} {yS : cs} {yt : X8}, k_K b0 yt = true → y0 = Int32.ofNat b0 → RC yS yt → K y0 yS) : e_Li_makeLine_9 UL u x1 x2 x3 x4 x5 x6 S K := by
  refine ⟨fun y_x1 y_x2 y_x3 y_x4 y_x5 y_x6 yS => ∃ n, xq_e_Li_makeLine_9 a_u k_K n y_x1 y_x2 y_x3 y_x4 y_x5 y_x6 yS, fun y_x1 y_x2 y_x3 y_x4 y_x5 y_x6 yS => mf (fun n => xq_e_Li_makeLine_9 a_u k_K n y_x1 y_x2 y_x3 y_x4 y_x5 y_x6 yS), ⟨200000, a_x1, a_x2, a_x3, a_x4, a_x5, a_x6, t, e_x1, e_x2, e_x3, e_x4, e_x5, e_x6, hS, h⟩, fun y_x1 y_x2 y_x3 y_x4 y_x5 y_x6 yS hI => ?_⟩
  obtain ⟨m, hm, hq⟩ := mf_ok hI
  obtain ⟨b_x1, b_x2, b_x3, b_x4, b_x5, b_x6, bt, c_x1, c_x2, c_x3, c_x4, c_x5, c_x6, cS, h⟩ := hq
  cases m with
  | zero => exact absurd h Bool.false_ne_true
  | succ n => exact xs_b_Li_makeLine_9 h e_u c_x1 c_x2 c_x3 c_x4 c_x5 c_x6 cS (fun h d_x1 d_x2 d_x3 d_x4 d_x5 d_x6 dS => ⟨⟨n, _, _, _, _, _, _, _, d_x1, d_x2, d_x3, d_x4, d_x5, d_x6, dS, h⟩, Nat.lt_of_le_of_lt (mf_le ⟨_, _, _, _, _, _, _, d_x1, d_x2, d_x3, d_x4, d_x5, d_x6, dS, h⟩) (Nat.lt_of_lt_of_eq (Nat.lt_succ_self n) hm.symm)⟩) hK
noncomputable def x_p_Li_makeLine (a_u : Nat) (a_x1 : Nat) (a_x2 : Nat) (a_x3 : Nat) (t : X8) (k_K : Nat → X8 → Bool) : Bool :=
  x_e_Li_makeLine_9 a_u a_x1 a_x2 a_x3 0 0 0 t k_K
set_option maxRecDepth 20000 in
set_option maxHeartbeats 1000000 in
theorem xs_p_Li_makeLine {u a_u : Nat} {x1 : Int32} {a_x1 : Nat} {x2 : Int32} {a_x2 : Nat} {x3 a_x3 : Nat} {S : cs} {t : X8} {K : Int32 → cs → Prop} {k_K : Nat → X8 → Bool} (h : x_p_Li_makeLine a_u a_x1 a_x2 a_x3 t k_K = true) (e_u : u = a_u) (e_x1 : x1 = Int32.ofNat a_x1) (e_x2 : x2 = Int32.ofNat a_x2) (e_x3 : x3 = a_x3) (hS : RC S t) (hK : ∀ {y0 : Int32} {b0 : Nat} {yS : cs} {yt : X8}, k_K b0 yt = true → y0 = Int32.ofNat b0 → RC yS yt → K y0 yS) : p_Li_makeLine UL u x1 x2 x3 S K := by
  unfold p_Li_makeLine
  unfold x_p_Li_makeLine at h
  exact xs_e_Li_makeLine_9 h e_u e_x1 e_x2 e_x3 ((rfl : (0 : Int32) = Int32.ofNat 0)) ((rfl : (0 : Int32) = Int32.ofNat 0)) ((rfl : (0 : Int32) = Int32.ofNat 0)) hS hK
noncomputable def x_b_Li_setLengths_48 (a_u : Nat) (a_x1 : Nat) (a_x2 : Nat) (a_x3 : Nat) (t : X8) (r_R48 : Nat → Nat → Nat → X8 → Bool) (k_K : X8 → Bool) : Bool :=
  cond (!(w_lt a_x3 16)) (rdi t a_u 1 fun v2 => frc (w_sub (w_mul 2 v2) 2) fun f4 => x_e_Li_setLengths_86 a_u a_x1 f4 15 t k_K) (and (Nat.beq (clx a_x1) 5) <| rdr t a_x1 0 fun o7 => cond (Nat.beq o7 1000000) false <| frc (w_div a_x2 2) fun f10 => x_p_Li_makeLine a_u a_x3 f10 o7 t (fun v63_ t_S63 => frc (w_add a_x3 1) fun f12 => r_R48 a_x1 v63_ f12 t_S63))
set_option maxRecDepth 20000 in
set_option maxHeartbeats 1000000 in
theorem xs_b_Li_setLengths_48 {u a_u : Nat} {x1 a_x1 : Nat} {x2 : Int32} {a_x2 : Nat} {x3 : Int32} {a_x3 : Nat} {S : cs} {t : X8} {R48 : Nat → Int32 → Int32 → cs → Prop} {r_R48 : Nat → Nat → Nat → X8 → Bool} {K : cs → Prop} {k_K : X8 → Bool} (h : x_b_Li_setLengths_48 a_u a_x1 a_x2 a_x3 t r_R48 k_K = true) (e_u : u = a_u) (e_x1 : x1 = a_x1) (e_x2 : x2 = Int32.ofNat a_x2) (e_x3 : x3 = Int32.ofNat a_x3) (hS : RC S t) (hR48 : ∀ {y0 b0 : Nat} {y1 : Int32} {b1 : Nat} {y2 : Int32} {b2 : Nat} {yS : cs} {yt : X8}, r_R48 b0 b1 b2 yt = true → y0 = b0 → y1 = Int32.ofNat b1 → y2 = Int32.ofNat b2 → RC yS yt → R48 y0 y1 y2 yS) (hK : ∀ {yS : cs} {yt : X8}, k_K yt = true → RC yS yt → K yS) : b_Li_setLengths_48 UL u x1 x2 x3 S R48 K := by
  unfold b_Li_setLengths_48
  unfold x_b_Li_setLengths_48 at h
  have hc1 := c_le' ((rfl : (16 : Int32) = Int32.ofNat 16)) e_x3
  refine ⟨fun hc => ?_, fun hc => ?_⟩
  · have h := x_pos h (hc1.mp hc)
    obtain ⟨v2, h, q3⟩ := rdi_ok h hS e_u
    have h := frc_ok h
    have p5 := n_sub (n_mul ((rfl : (2 : Int32) = Int32.ofNat 2)) q3) ((rfl : (2 : Int32) = Int32.ofNat 2))
    exact xs_e_Li_setLengths_86 h e_u e_x1 p5 ((rfl : (15 : Int32) = Int32.ofNat 15)) hS hK
  · have h := x_neg h (fun q => hc (hc1.mpr q))
    obtain ⟨n6, h⟩ := an_ok h
    refine ⟨cl_ok n6 e_x1 (by decide), ?_⟩
    obtain ⟨o7, h, q8⟩ := rdr_ok h hS e_x1
    obtain ⟨n9, h⟩ := nu_ok h
    refine ⟨nu_no n9 q8, ?_⟩
    have h := frc_ok h
    have p11 := n_div e_x2 ((rfl : (2 : Int32) = Int32.ofNat 2))
    refine xs_p_Li_makeLine h e_u e_x3 p11 q8 hS (fun h e_v63 h_S63 => ?_)
    have h := frc_ok h
    have p13 := n_add e_x3 ((rfl : (1 : Int32) = Int32.ofNat 1))
    exact hR48 h e_x1 e_v63 p13 h_S63
noncomputable def xl_e_Li_setLengths_48 (a_u : Nat) (k_K : X8 → Bool) (n : Nat) : Nat → Nat → Nat → X8 → Bool := Nat.rec (motive := fun _ => Nat → Nat → Nat → X8 → Bool) (fun _ _ _ _ => false) (fun _ ih b_x1 b_x2 b_x3 bt => x_b_Li_setLengths_48 a_u b_x1 b_x2 b_x3 bt ih k_K) n
noncomputable def x_e_Li_setLengths_48 (a_u : Nat) (a_x1 : Nat) (a_x2 : Nat) (a_x3 : Nat) (t : X8) (k_K : X8 → Bool) : Bool := xl_e_Li_setLengths_48 a_u k_K 200000 a_x1 a_x2 a_x3 t
def xq_e_Li_setLengths_48 (a_u : Nat) (k_K : X8 → Bool) (n : Nat) (y_x1 : Nat) (y_x2 : Int32) (y_x3 : Int32) (yS : cs) : Prop := ∃ (b_x1 : Nat) (b_x2 : Nat) (b_x3 : Nat) (bt : X8), y_x1 = b_x1 ∧ y_x2 = Int32.ofNat b_x2 ∧ y_x3 = Int32.ofNat b_x3 ∧ RC yS bt ∧ xl_e_Li_setLengths_48 a_u k_K n b_x1 b_x2 b_x3 bt = true
set_option maxRecDepth 20000 in
theorem xs_e_Li_setLengths_48 {u a_u : Nat} {x1 a_x1 : Nat} {x2 : Int32} {a_x2 : Nat} {x3 : Int32} {a_x3 : Nat} {S : cs} {t : X8} {K : cs → Prop} {k_K : X8 → Bool} (h : x_e_Li_setLengths_48 a_u a_x1 a_x2 a_x3 t k_K = true) (e_u : u = a_u) (e_x1 : x1 = a_x1) (e_x2 : x2 = Int32.ofNat a_x2) (e_x3 : x3 = Int32.ofNat a_x3) (hS : RC S t) (hK : ∀ {yS : cs} {yt : X8}, k_K yt = true → RC yS yt → K yS) : e_Li_setLengths_48 UL u x1 x2 x3 S K := by
  refine ⟨fun y_x1 y_x2 y_x3 yS => ∃ n, xq_e_Li_setLengths_48 a_u k_K n y_x1 y_x2 y_x3 yS, fun y_x1 y_x2 y_x3 yS => mf (fun n => xq_e_Li_setLengths_48 a_u k_K n y_x1 y_x2 y_x3 yS), ⟨200000, a_x1, a_x2, a_x3, t, e_x1, e_x2, e_x3, hS, h⟩, fun y_x1 y_x2 y_x3 yS hI => ?_⟩
  obtain ⟨m, hm, hq⟩ := mf_ok hI
  obtain ⟨b_x1, b_x2, b_x3, bt, c_x1, c_x2, c_x3, cS, h⟩ := hq
  cases m with
  | zero => exact absurd h Bool.false_ne_true
  | succ n => exact xs_b_Li_setLengths_48 h e_u c_x1 c_x2 c_x3 cS (fun h d_x1 d_x2 d_x3 dS => ⟨⟨n, _, _, _, _, d_x1, d_x2, d_x3, dS, h⟩, Nat.lt_of_le_of_lt (mf_le ⟨_, _, _, _, d_x1, d_x2, d_x3, dS, h⟩) (Nat.lt_of_lt_of_eq (Nat.lt_succ_self n) hm.symm)⟩) hK
noncomputable def x_b_Li_setLengths_15 (a_u : Nat) (a_x1 : Nat) (a_x2 : Nat) (a_x3 : Nat) (t : X8) (r_R15 : Nat → Nat → Nat → X8 → Bool) (k_K : X8 → Bool) : Bool :=
  rdi t a_u 1 fun v1 => cond (!(w_lt a_x3 v1)) (x_e_Li_setLengths_48 a_u a_x1 a_x2 1 t k_K) (rdr t a_u 3 fun o4 => cond (Nat.beq o4 1000000) false <| and (Nat.beq (clx a_x1) 5) <| rdr t a_x1 0 fun o8 => cond (Nat.beq o8 1000000) false <| rdr t a_u 0 fun o11 => cond (Nat.beq o11 1000000) false <| and (Nat.beq (clx o11) 902) <| and (Nat.blt a_x3 (lnx o11)) <| and (Nat.beq (clx o8) 902) <| rda t o11 a_x3 fun v17 => and (Nat.blt v17 (lnx o8)) <| and (Nat.beq (clx o4) 902) <| and (Nat.blt a_x3 (lnx o4)) <| frc (w_add a_x3 1) fun f22 => rda t o8 v17 fun v26 => wra t o4 a_x3 v26 fun t24 => r_R15 a_x1 a_x2 f22 t24)
set_option maxRecDepth 20000 in
set_option maxHeartbeats 1000000 in
theorem xs_b_Li_setLengths_15 {u a_u : Nat} {x1 a_x1 : Nat} {x2 : Int32} {a_x2 : Nat} {x3 : Int32} {a_x3 : Nat} {S : cs} {t : X8} {R15 : Nat → Int32 → Int32 → cs → Prop} {r_R15 : Nat → Nat → Nat → X8 → Bool} {K : cs → Prop} {k_K : X8 → Bool} (h : x_b_Li_setLengths_15 a_u a_x1 a_x2 a_x3 t r_R15 k_K = true) (e_u : u = a_u) (e_x1 : x1 = a_x1) (e_x2 : x2 = Int32.ofNat a_x2) (e_x3 : x3 = Int32.ofNat a_x3) (hS : RC S t) (hR15 : ∀ {y0 b0 : Nat} {y1 : Int32} {b1 : Nat} {y2 : Int32} {b2 : Nat} {yS : cs} {yt : X8}, r_R15 b0 b1 b2 yt = true → y0 = b0 → y1 = Int32.ofNat b1 → y2 = Int32.ofNat b2 → RC yS yt → R15 y0 y1 y2 yS) (hK : ∀ {yS : cs} {yt : X8}, k_K yt = true → RC yS yt → K yS) : b_Li_setLengths_15 UL u x1 x2 x3 S R15 K := by
  unfold b_Li_setLengths_15
  unfold x_b_Li_setLengths_15 at h
  obtain ⟨v1, h, q2⟩ := rdi_ok h hS e_u
  have hc3 := c_le' q2 e_x3
  refine ⟨fun hc => ?_, fun hc => ?_⟩
  · have h := x_pos h (hc3.mp hc)
    exact xs_e_Li_setLengths_48 h e_u e_x1 e_x2 ((rfl : (1 : Int32) = Int32.ofNat 1)) hS hK
  · have h := x_neg h (fun q => hc (hc3.mpr q))
    obtain ⟨o4, h, q5⟩ := rdr_ok h hS e_u
    obtain ⟨n6, h⟩ := nu_ok h
    refine ⟨nu_no n6 q5, ?_⟩
    obtain ⟨n7, h⟩ := an_ok h
    refine ⟨cl_ok n7 e_x1 (by decide), ?_⟩
    obtain ⟨o8, h, q9⟩ := rdr_ok h hS e_x1
    obtain ⟨n10, h⟩ := nu_ok h
    refine ⟨nu_no n10 q9, ?_⟩
    obtain ⟨o11, h, q12⟩ := rdr_ok h hS e_u
    obtain ⟨n13, h⟩ := nu_ok h
    refine ⟨nu_no n13 q12, ?_⟩
    obtain ⟨n14, h⟩ := an_ok h
    refine ⟨cl_ok n14 q12 (by decide), ?_⟩
    obtain ⟨n15, h⟩ := an_ok h
    refine ⟨vpc_ok n15 e_x3 q12, ?_⟩
    obtain ⟨n16, h⟩ := an_ok h
    refine ⟨cl_ok n16 q9 (by decide), ?_⟩
    obtain ⟨v17, h, q18⟩ := rda_ok h hS q12 e_x3
    obtain ⟨n19, h⟩ := an_ok h
    refine ⟨vpc_ok n19 q18 q9, ?_⟩
    obtain ⟨n20, h⟩ := an_ok h
    refine ⟨cl_ok n20 q5 (by decide), ?_⟩
    obtain ⟨n21, h⟩ := an_ok h
    refine ⟨vpc_ok n21 e_x3 q5, ?_⟩
    have h := frc_ok h
    have p23 := n_add e_x3 ((rfl : (1 : Int32) = Int32.ofNat 1))
    obtain ⟨v26, h, q27⟩ := rda_ok h hS q9 q18
    obtain ⟨t24, h, hS25⟩ := wra_ok h hS q5 e_x3 q27
    exact hR15 h e_x1 e_x2 p23 hS25
noncomputable def xl_e_Li_setLengths_15 (a_u : Nat) (k_K : X8 → Bool) (n : Nat) : Nat → Nat → Nat → X8 → Bool := Nat.rec (motive := fun _ => Nat → Nat → Nat → X8 → Bool) (fun _ _ _ _ => false) (fun _ ih b_x1 b_x2 b_x3 bt => x_b_Li_setLengths_15 a_u b_x1 b_x2 b_x3 bt ih k_K) n
noncomputable def x_e_Li_setLengths_15 (a_u : Nat) (a_x1 : Nat) (a_x2 : Nat) (a_x3 : Nat) (t : X8) (k_K : X8 → Bool) : Bool := xl_e_Li_setLengths_15 a_u k_K 200000 a_x1 a_x2 a_x3 t
def xq_e_Li_setLengths_15 (a_u : Nat) (k_K : X8 → Bool) (n : Nat) (y_x1 : Nat) (y_x2 : Int32) (y_x3 : Int32) (yS : cs) : Prop := ∃ (b_x1 : Nat) (b_x2 : Nat) (b_x3 : Nat) (bt : X8), y_x1 = b_x1 ∧ y_x2 = Int32.ofNat b_x2 ∧ y_x3 = Int32.ofNat b_x3 ∧ RC yS bt ∧ xl_e_Li_setLengths_15 a_u k_K n b_x1 b_x2 b_x3 bt = true
set_option maxRecDepth 20000 in
theorem xs_e_Li_setLengths_15 {u a_u : Nat} {x1 a_x1 : Nat} {x2 : Int32} {a_x2 : Nat} {x3 : Int32} {a_x3 : Nat} {S : cs} {t : X8} {K : cs → Prop} {k_K : X8 → Bool} (h : x_e_Li_setLengths_15 a_u a_x1 a_x2 a_x3 t k_K = true) (e_u : u = a_u) (e_x1 : x1 = a_x1) (e_x2 : x2 = Int32.ofNat a_x2) (e_x3 : x3 = Int32.ofNat a_x3) (hS : RC S t) (hK : ∀ {yS : cs} {yt : X8}, k_K yt = true → RC yS yt → K yS) : e_Li_setLengths_15 UL u x1 x2 x3 S K := by
  refine ⟨fun y_x1 y_x2 y_x3 yS => ∃ n, xq_e_Li_setLengths_15 a_u k_K n y_x1 y_x2 y_x3 yS, fun y_x1 y_x2 y_x3 yS => mf (fun n => xq_e_Li_setLengths_15 a_u k_K n y_x1 y_x2 y_x3 yS), ⟨200000, a_x1, a_x2, a_x3, t, e_x1, e_x2, e_x3, hS, h⟩, fun y_x1 y_x2 y_x3 yS hI => ?_⟩
  obtain ⟨m, hm, hq⟩ := mf_ok hI
  obtain ⟨b_x1, b_x2, b_x3, bt, c_x1, c_x2, c_x3, cS, h⟩ := hq
  cases m with
  | zero => exact absurd h Bool.false_ne_true
  | succ n => exact xs_b_Li_setLengths_15 h e_u c_x1 c_x2 c_x3 cS (fun h d_x1 d_x2 d_x3 dS => ⟨⟨n, _, _, _, _, d_x1, d_x2, d_x3, dS, h⟩, Nat.lt_of_le_of_lt (mf_le ⟨_, _, _, _, d_x1, d_x2, d_x3, dS, h⟩) (Nat.lt_of_lt_of_eq (Nat.lt_succ_self n) hm.symm)⟩) hK
noncomputable def x_p_Li_setLengths (a_u : Nat) (a_x1 : Nat) (t : X8) (k_K : X8 → Bool) : Bool :=
  and (Nat.beq (clx a_x1) 5) <| rdr t a_x1 0 fun o2 => cond (Nat.beq o2 1000000) false <| x_p_Li_sortSymbols a_u o2 t (fun t_S5 => rdi t_S5 a_u 1 fun v5 => x_e_Li_setLengths_15 a_u a_x1 v5 0 t_S5 k_K)
set_option maxRecDepth 20000 in
set_option maxHeartbeats 1000000 in
theorem xs_p_Li_setLengths {u a_u : Nat} {x1 a_x1 : Nat} {S : cs} {t : X8} {K : cs → Prop} {k_K : X8 → Bool} (h : x_p_Li_setLengths a_u a_x1 t k_K = true) (e_u : u = a_u) (e_x1 : x1 = a_x1) (hS : RC S t) (hK : ∀ {yS : cs} {yt : X8}, k_K yt = true → RC yS yt → K yS) : p_Li_setLengths UL u x1 S K := by
  unfold p_Li_setLengths
  unfold x_p_Li_setLengths at h
  obtain ⟨n1, h⟩ := an_ok h
  refine ⟨cl_ok n1 e_x1 (by decide), ?_⟩
  obtain ⟨o2, h, q3⟩ := rdr_ok h hS e_x1
  obtain ⟨n4, h⟩ := nu_ok h
  refine ⟨nu_no n4 q3, ?_⟩
  refine xs_p_Li_sortSymbols h e_u q3 hS (fun h h_S5 => ?_)
  obtain ⟨v5, h, q6⟩ := rdi_ok h h_S5 e_u
  exact xs_e_Li_setLengths_15 h e_u e_x1 q6 ((rfl : (0 : Int32) = Int32.ofNat 0)) h_S5 hK
noncomputable def x_b_Oc_giveOut_74 (a_u : Nat) (a_x1 : Nat) (a_x2 : Nat) (a_x3 : Nat) (a_x4 : Nat) (t : X8) (r_R9 : Nat → Nat → X8 → Bool) (r_R23 : Nat → Nat → Nat → Nat → X8 → Bool) (k_K : X8 → Bool) : Bool :=
  frc (w_add a_x4 1) fun f1 => r_R23 a_x1 a_x2 a_x3 f1 t
set_option maxRecDepth 20000 in
set_option maxHeartbeats 1000000 in
theorem xs_b_Oc_giveOut_74 {u a_u : Nat} {x1 : Int32} {a_x1 : Nat} {x2 : Int32} {a_x2 : Nat} {x3 : Int32} {a_x3 : Nat} {x4 : Int32} {a_x4 : Nat} {S : cs} {t : X8} {R9 : Int32 → Int32 → cs → Prop} {r_R9 : Nat → Nat → X8 → Bool} {R23 : Int32 → Int32 → Int32 → Int32 → cs → Prop} {r_R23 : Nat → Nat → Nat → Nat → X8 → Bool} {K : cs → Prop} {k_K : X8 → Bool} (h : x_b_Oc_giveOut_74 a_u a_x1 a_x2 a_x3 a_x4 t r_R9 r_R23 k_K = true) (e_u : u = a_u) (e_x1 : x1 = Int32.ofNat a_x1) (e_x2 : x2 = Int32.ofNat a_x2) (e_x3 : x3 = Int32.ofNat a_x3) (e_x4 : x4 = Int32.ofNat a_x4) (hS : RC S t) (hR9 : ∀ {y0 : Int32} {b0 : Nat} {y1 : Int32} {b1 : Nat} {yS : cs} {yt : X8}, r_R9 b0 b1 yt = true → y0 = Int32.ofNat b0 → y1 = Int32.ofNat b1 → RC yS yt → R9 y0 y1 yS) (hR23 : ∀ {y0 : Int32} {b0 : Nat} {y1 : Int32} {b1 : Nat} {y2 : Int32} {b2 : Nat} {y3 : Int32} {b3 : Nat} {yS : cs} {yt : X8}, r_R23 b0 b1 b2 b3 yt = true → y0 = Int32.ofNat b0 → y1 = Int32.ofNat b1 → y2 = Int32.ofNat b2 → y3 = Int32.ofNat b3 → RC yS yt → R23 y0 y1 y2 y3 yS) (hK : ∀ {yS : cs} {yt : X8}, k_K yt = true → RC yS yt → K yS) : b_Oc_giveOut_74 UL u x1 x2 x3 x4 S R9 R23 K := by
  unfold b_Oc_giveOut_74
  unfold x_b_Oc_giveOut_74 at h
  have h := frc_ok h
  have p2 := n_add e_x4 ((rfl : (1 : Int32) = Int32.ofNat 1))
  exact hR23 h e_x1 e_x2 e_x3 p2 hS
noncomputable def x_b_Oc_giveOut_23 (a_u : Nat) (a_x1 : Nat) (a_x2 : Nat) (a_x3 : Nat) (a_x4 : Nat) (t : X8) (r_R9 : Nat → Nat → X8 → Bool) (r_R23 : Nat → Nat → Nat → Nat → X8 → Bool) (k_K : X8 → Bool) : Bool :=
  cond (!(w_lt a_x4 256)) (rdr t a_u 5 fun o2 => cond (Nat.beq o2 1000000) false <| and (Nat.beq (clx o2) 902) <| and (Nat.blt a_x2 (lnx o2)) <| frc (w_mul a_x1 2) fun f7 => frc (w_add a_x2 1) fun f9 => rdi t a_u 4 fun v13 => frc (w_sub v13 a_x3) fun f15 => wra t o2 a_x2 f15 fun t11 => r_R9 f7 f9 t11) (rdr t a_u 1 fun o17 => cond (Nat.beq o17 1000000) false <| and (Nat.beq (clx o17) 902) <| and (Nat.blt a_x4 (lnx o17)) <| rda t o17 a_x4 fun v22 => cond (w_eq v22 a_x2) (rdr t a_u 2 fun o25 => cond (Nat.beq o25 1000000) false <| and (Nat.beq (clx o25) 902) <| and (Nat.blt a_x4 (lnx o25)) <| rdr t a_u 3 fun o30 => cond (Nat.beq o30 1000000) false <| and (Nat.beq (clx o30) 902) <| wra t o25 a_x4 a_x1 fun t34 => rdi t34 a_u 4 fun v36 => rdr t34 a_u 3 fun o38 => and (Nat.blt v36 (lnx o38)) <| frc (w_add a_x1 1) fun f41 => wra t34 o38 v36 a_x4 fun t43 => rdi t43 a_u 4 fun v47 => frc (w_add v47 1) fun f49 => wri t43 a_u 4 f49 fun t45 => x_b_Oc_giveOut_74 a_u f41 a_x2 a_x3 a_x4 t45 r_R9 r_R23 k_K) (x_b_Oc_giveOut_74 a_u a_x1 a_x2 a_x3 a_x4 t r_R9 r_R23 k_K))
set_option maxRecDepth 20000 in
set_option maxHeartbeats 1000000 in
theorem xs_b_Oc_giveOut_23 {u a_u : Nat} {x1 : Int32} {a_x1 : Nat} {x2 : Int32} {a_x2 : Nat} {x3 : Int32} {a_x3 : Nat} {x4 : Int32} {a_x4 : Nat} {S : cs} {t : X8} {R9 : Int32 → Int32 → cs → Prop} {r_R9 : Nat → Nat → X8 → Bool} {R23 : Int32 → Int32 → Int32 → Int32 → cs → Prop} {r_R23 : Nat → Nat → Nat → Nat → X8 → Bool} {K : cs → Prop} {k_K : X8 → Bool} (h : x_b_Oc_giveOut_23 a_u a_x1 a_x2 a_x3 a_x4 t r_R9 r_R23 k_K = true) (e_u : u = a_u) (e_x1 : x1 = Int32.ofNat a_x1) (e_x2 : x2 = Int32.ofNat a_x2) (e_x3 : x3 = Int32.ofNat a_x3) (e_x4 : x4 = Int32.ofNat a_x4) (hS : RC S t) (hR9 : ∀ {y0 : Int32} {b0 : Nat} {y1 : Int32} {b1 : Nat} {yS : cs} {yt : X8}, r_R9 b0 b1 yt = true → y0 = Int32.ofNat b0 → y1 = Int32.ofNat b1 → RC yS yt → R9 y0 y1 yS) (hR23 : ∀ {y0 : Int32} {b0 : Nat} {y1 : Int32} {b1 : Nat} {y2 : Int32} {b2 : Nat} {y3 : Int32} {b3 : Nat} {yS : cs} {yt : X8}, r_R23 b0 b1 b2 b3 yt = true → y0 = Int32.ofNat b0 → y1 = Int32.ofNat b1 → y2 = Int32.ofNat b2 → y3 = Int32.ofNat b3 → RC yS yt → R23 y0 y1 y2 y3 yS) (hK : ∀ {yS : cs} {yt : X8}, k_K yt = true → RC yS yt → K yS) : b_Oc_giveOut_23 UL u x1 x2 x3 x4 S R9 R23 K := by
  unfold b_Oc_giveOut_23
  unfold x_b_Oc_giveOut_23 at h
  have hc1 := c_le' ((rfl : (256 : Int32) = Int32.ofNat 256)) e_x4
  refine ⟨fun hc => ?_, fun hc => ?_⟩
  · have h := x_pos h (hc1.mp hc)
    obtain ⟨o2, h, q3⟩ := rdr_ok h hS e_u
    obtain ⟨n4, h⟩ := nu_ok h
    refine ⟨nu_no n4 q3, ?_⟩
    obtain ⟨n5, h⟩ := an_ok h
    refine ⟨cl_ok n5 q3 (by decide), ?_⟩
    obtain ⟨n6, h⟩ := an_ok h
    refine ⟨vpc_ok n6 e_x2 q3, ?_⟩
    have h := frc_ok h
    have p8 := n_mul e_x1 ((rfl : (2 : Int32) = Int32.ofNat 2))
    have h := frc_ok h
    have p10 := n_add e_x2 ((rfl : (1 : Int32) = Int32.ofNat 1))
    obtain ⟨v13, h, q14⟩ := rdi_ok h hS e_u
    have h := frc_ok h
    have p16 := n_sub q14 e_x3
    obtain ⟨t11, h, hS12⟩ := wra_ok h hS q3 e_x2 p16
    exact hR9 h p8 p10 hS12
  · have h := x_neg h (fun q => hc (hc1.mpr q))
    obtain ⟨o17, h, q18⟩ := rdr_ok h hS e_u
    obtain ⟨n19, h⟩ := nu_ok h
    refine ⟨nu_no n19 q18, ?_⟩
    obtain ⟨n20, h⟩ := an_ok h
    refine ⟨cl_ok n20 q18 (by decide), ?_⟩
    obtain ⟨n21, h⟩ := an_ok h
    refine ⟨vpc_ok n21 e_x4 q18, ?_⟩
    obtain ⟨v22, h, q23⟩ := rda_ok h hS q18 e_x4
    have hc24 := c_eq' q23 e_x2
    refine ⟨fun hc => ?_, fun hc => ?_⟩
    · have h := x_neg h (fun q => hc (hc24.mpr q))
      exact xs_b_Oc_giveOut_74 h e_u e_x1 e_x2 e_x3 e_x4 hS hR9 hR23 hK
    · have h := x_pos h (hc24.mp hc)
      obtain ⟨o25, h, q26⟩ := rdr_ok h hS e_u
      obtain ⟨n27, h⟩ := nu_ok h
      refine ⟨nu_no n27 q26, ?_⟩
      obtain ⟨n28, h⟩ := an_ok h
      refine ⟨cl_ok n28 q26 (by decide), ?_⟩
      obtain ⟨n29, h⟩ := an_ok h
      refine ⟨vpc_ok n29 e_x4 q26, ?_⟩
      obtain ⟨o30, h, q31⟩ := rdr_ok h hS e_u
      obtain ⟨n32, h⟩ := nu_ok h
      refine ⟨nu_no n32 q31, ?_⟩
      obtain ⟨n33, h⟩ := an_ok h
      refine ⟨cl_ok n33 q31 (by decide), ?_⟩
      obtain ⟨t34, h, hS35⟩ := wra_ok h hS q26 e_x4 e_x1
      obtain ⟨v36, h, q37⟩ := rdi_ok h hS35 e_u
      obtain ⟨o38, h, q39⟩ := rdr_ok h hS35 e_u
      obtain ⟨n40, h⟩ := an_ok h
      refine ⟨vpc_ok n40 q37 q39, ?_⟩
      have h := frc_ok h
      have p42 := n_add e_x1 ((rfl : (1 : Int32) = Int32.ofNat 1))
      obtain ⟨t43, h, hS44⟩ := wra_ok h hS35 q39 q37 e_x4
      obtain ⟨v47, h, q48⟩ := rdi_ok h hS44 e_u
      have h := frc_ok h
      have p50 := n_add q48 ((rfl : (1 : Int32) = Int32.ofNat 1))
      obtain ⟨t45, h, hS46⟩ := wri_ok h hS44 e_u p50
      exact xs_b_Oc_giveOut_74 h e_u p42 e_x2 e_x3 e_x4 hS46 hR9 hR23 hK
noncomputable def xl_e_Oc_giveOut_23 (a_u : Nat) (r_R9 : Nat → Nat → X8 → Bool) (k_K : X8 → Bool) (n : Nat) : Nat → Nat → Nat → Nat → X8 → Bool := Nat.rec (motive := fun _ => Nat → Nat → Nat → Nat → X8 → Bool) (fun _ _ _ _ _ => false) (fun _ ih b_x1 b_x2 b_x3 b_x4 bt => x_b_Oc_giveOut_23 a_u b_x1 b_x2 b_x3 b_x4 bt r_R9 ih k_K) n
noncomputable def x_e_Oc_giveOut_23 (a_u : Nat) (a_x1 : Nat) (a_x2 : Nat) (a_x3 : Nat) (a_x4 : Nat) (t : X8) (r_R9 : Nat → Nat → X8 → Bool) (k_K : X8 → Bool) : Bool := xl_e_Oc_giveOut_23 a_u r_R9 k_K 200000 a_x1 a_x2 a_x3 a_x4 t
def xq_e_Oc_giveOut_23 (a_u : Nat) (r_R9 : Nat → Nat → X8 → Bool) (k_K : X8 → Bool) (n : Nat) (y_x1 : Int32) (y_x2 : Int32) (y_x3 : Int32) (y_x4 : Int32) (yS : cs) : Prop := ∃ (b_x1 : Nat) (b_x2 : Nat) (b_x3 : Nat) (b_x4 : Nat) (bt : X8), y_x1 = Int32.ofNat b_x1 ∧ y_x2 = Int32.ofNat b_x2 ∧ y_x3 = Int32.ofNat b_x3 ∧ y_x4 = Int32.ofNat b_x4 ∧ RC yS bt ∧ xl_e_Oc_giveOut_23 a_u r_R9 k_K n b_x1 b_x2 b_x3 b_x4 bt = true
set_option maxRecDepth 20000 in
theorem xs_e_Oc_giveOut_23 {u a_u : Nat} {x1 : Int32} {a_x1 : Nat} {x2 : Int32} {a_x2 : Nat} {x3 : Int32} {a_x3 : Nat} {x4 : Int32} {a_x4 : Nat} {S : cs} {t : X8} {R9 : Int32 → Int32 → cs → Prop} {r_R9 : Nat → Nat → X8 → Bool} {K : cs → Prop} {k_K : X8 → Bool} (h : x_e_Oc_giveOut_23 a_u a_x1 a_x2 a_x3 a_x4 t r_R9 k_K = true) (e_u : u = a_u) (e_x1 : x1 = Int32.ofNat a_x1) (e_x2 : x2 = Int32.ofNat a_x2) (e_x3 : x3 = Int32.ofNat a_x3) (e_x4 : x4 = Int32.ofNat a_x4) (hS : RC S t) (hR9 : ∀ {y0 : Int32} {b0 : Nat} {y1 : Int32} {b1 : Nat} {yS : cs} {yt : X8}, r_R9 b0 b1 yt = true → y0 = Int32.ofNat b0 → y1 = Int32.ofNat b1 → RC yS yt → R9 y0 y1 yS) (hK : ∀ {yS : cs} {yt : X8}, k_K yt = true → RC yS yt → K yS) : e_Oc_giveOut_23 UL u x1 x2 x3 x4 S R9 K := by
  refine ⟨fun y_x1 y_x2 y_x3 y_x4 yS => ∃ n, xq_e_Oc_giveOut_23 a_u r_R9 k_K n y_x1 y_x2 y_x3 y_x4 yS, fun y_x1 y_x2 y_x3 y_x4 yS => mf (fun n => xq_e_Oc_giveOut_23 a_u r_R9 k_K n y_x1 y_x2 y_x3 y_x4 yS), ⟨200000, a_x1, a_x2, a_x3, a_x4, t, e_x1, e_x2, e_x3, e_x4, hS, h⟩, fun y_x1 y_x2 y_x3 y_x4 yS hI => ?_⟩
  obtain ⟨m, hm, hq⟩ := mf_ok hI
  obtain ⟨b_x1, b_x2, b_x3, b_x4, bt, c_x1, c_x2, c_x3, c_x4, cS, h⟩ := hq
  cases m with
  | zero => exact absurd h Bool.false_ne_true
  | succ n => exact xs_b_Oc_giveOut_23 h e_u c_x1 c_x2 c_x3 c_x4 cS hR9 (fun h d_x1 d_x2 d_x3 d_x4 dS => ⟨⟨n, _, _, _, _, _, d_x1, d_x2, d_x3, d_x4, dS, h⟩, Nat.lt_of_le_of_lt (mf_le ⟨_, _, _, _, _, d_x1, d_x2, d_x3, d_x4, dS, h⟩) (Nat.lt_of_lt_of_eq (Nat.lt_succ_self n) hm.symm)⟩) hK
