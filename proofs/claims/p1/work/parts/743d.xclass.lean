noncomputable def x_b_Oc_giveOut_9 (a_u : Nat) (a_x1 : Nat) (a_x2 : Nat) (t : X8) (r_R9 : Nat → Nat → X8 → Bool) (k_K : X8 → Bool) : Bool :=
  cond (w_lt 16 a_x2) (k_K t) (rdi t a_u 4 fun v2 => x_e_Oc_giveOut_23 a_u a_x1 a_x2 v2 0 t r_R9 k_K)
set_option maxRecDepth 20000 in
set_option maxHeartbeats 1000000 in
theorem xs_b_Oc_giveOut_9 {u a_u : Nat} {x1 : Int32} {a_x1 : Nat} {x2 : Int32} {a_x2 : Nat} {S : cs} {t : X8} {R9 : Int32 → Int32 → cs → Prop} {r_R9 : Nat → Nat → X8 → Bool} {K : cs → Prop} {k_K : X8 → Bool} (h : x_b_Oc_giveOut_9 a_u a_x1 a_x2 t r_R9 k_K = true) (e_u : u = a_u) (e_x1 : x1 = Int32.ofNat a_x1) (e_x2 : x2 = Int32.ofNat a_x2) (hS : RC S t) (hR9 : ∀ {y0 : Int32} {b0 : Nat} {y1 : Int32} {b1 : Nat} {yS : cs} {yt : X8}, r_R9 b0 b1 yt = true → y0 = Int32.ofNat b0 → y1 = Int32.ofNat b1 → RC yS yt → R9 y0 y1 yS) (hK : ∀ {yS : cs} {yt : X8}, k_K yt = true → RC yS yt → K yS) : b_Oc_giveOut_9 UL u x1 x2 S R9 K := by
  unfold b_Oc_giveOut_9
  unfold x_b_Oc_giveOut_9 at h
  have hc1 := c_lt' ((rfl : (16 : Int32) = Int32.ofNat 16)) e_x2
  refine ⟨fun hc => ?_, fun hc => ?_⟩
  · have h := x_pos h (hc1.mp hc)
    exact hK h hS
  · have h := x_neg h (fun q => hc (hc1.mpr q))
    obtain ⟨v2, h, q3⟩ := rdi_ok h hS e_u
    exact xs_e_Oc_giveOut_23 h e_u e_x1 e_x2 q3 ((rfl : (0 : Int32) = Int32.ofNat 0)) hS hR9 hK
noncomputable def xl_e_Oc_giveOut_9 (a_u : Nat) (k_K : X8 → Bool) (n : Nat) : Nat → Nat → X8 → Bool := Nat.rec (motive := fun _ => Nat → Nat → X8 → Bool) (fun _ _ _ => false) (fun _ ih b_x1 b_x2 bt => x_b_Oc_giveOut_9 a_u b_x1 b_x2 bt ih k_K) n
noncomputable def x_e_Oc_giveOut_9 (a_u : Nat) (a_x1 : Nat) (a_x2 : Nat) (t : X8) (k_K : X8 → Bool) : Bool := xl_e_Oc_giveOut_9 a_u k_K 200000 a_x1 a_x2 t
def xq_e_Oc_giveOut_9 (a_u : Nat) (k_K : X8 → Bool) (n : Nat) (y_x1 : Int32) (y_x2 : Int32) (yS : cs) : Prop := ∃ (b_x1 : Nat) (b_x2 : Nat) (bt : X8), y_x1 = Int32.ofNat b_x1 ∧ y_x2 = Int32.ofNat b_x2 ∧ RC yS bt ∧ xl_e_Oc_giveOut_9 a_u k_K n b_x1 b_x2 bt = true
set_option maxRecDepth 20000 in
theorem xs_e_Oc_giveOut_9 {u a_u : Nat} {x1 : Int32} {a_x1 : Nat} {x2 : Int32} {a_x2 : Nat} {S : cs} {t : X8} {K : cs → Prop} {k_K : X8 → Bool} (h : x_e_Oc_giveOut_9 a_u a_x1 a_x2 t k_K = true) (e_u : u = a_u) (e_x1 : x1 = Int32.ofNat a_x1) (e_x2 : x2 = Int32.ofNat a_x2) (hS : RC S t) (hK : ∀ {yS : cs} {yt : X8}, k_K yt = true → RC yS yt → K yS) : e_Oc_giveOut_9 UL u x1 x2 S K := by
  refine ⟨fun y_x1 y_x2 yS => ∃ n, xq_e_Oc_giveOut_9 a_u k_K n y_x1 y_x2 yS, fun y_x1 y_x2 yS => mf (fun n => xq_e_Oc_giveOut_9 a_u k_K n y_x1 y_x2 yS), ⟨200000, a_x1, a_x2, t, e_x1, e_x2, hS, h⟩, fun y_x1 y_x2 yS hI => ?_⟩
  obtain ⟨m, hm, hq⟩ := mf_ok hI
  obtain ⟨b_x1, b_x2, bt, c_x1, c_x2, cS, h⟩ := hq
  cases m with
  | zero => exact absurd h Bool.false_ne_true
  | succ n => exact xs_b_Oc_giveOut_9 h e_u c_x1 c_x2 cS (fun h d_x1 d_x2 dS => ⟨⟨n, _, _, _, d_x1, d_x2, dS, h⟩, Nat.lt_of_le_of_lt (mf_le ⟨_, _, _, d_x1, d_x2, dS, h⟩) (Nat.lt_of_lt_of_eq (Nat.lt_succ_self n) hm.symm)⟩) hK
noncomputable def x_p_Oc_giveOut (a_u : Nat) (t : X8) (k_K : X8 → Bool) : Bool :=
  wri t a_u 4 0 fun t1 => x_e_Oc_giveOut_9 a_u 0 1 t1 k_K
set_option maxRecDepth 20000 in
set_option maxHeartbeats 1000000 in
theorem xs_p_Oc_giveOut {u a_u : Nat} {S : cs} {t : X8} {K : cs → Prop} {k_K : X8 → Bool} (h : x_p_Oc_giveOut a_u t k_K = true) (e_u : u = a_u) (hS : RC S t) (hK : ∀ {yS : cs} {yt : X8}, k_K yt = true → RC yS yt → K yS) : p_Oc_giveOut UL u S K := by
  unfold p_Oc_giveOut
  unfold x_p_Oc_giveOut at h
  obtain ⟨t1, h, hS2⟩ := wri_ok h hS e_u ((rfl : (0 : Int32) = Int32.ofNat 0))
  exact xs_e_Oc_giveOut_9 h e_u ((rfl : (0 : Int32) = Int32.ofNat 0)) ((rfl : (1 : Int32) = Int32.ofNat 1)) hS2 hK
noncomputable def x_b_Pa_makeCodes_51 (a_u : Nat) (a_x2 : Nat) (t : X8) (r_R51 : Nat → X8 → Bool) (k_K : X8 → Bool) : Bool :=
  rdi t a_u 8 fun v1 => cond (!(w_lt a_x2 v1)) (k_K t) (rdr t a_u 4 fun o4 => cond (Nat.beq o4 1000000) false <| rdr t a_u 5 fun o7 => cond (Nat.beq o7 1000000) false <| and (Nat.beq (clx o7) 950) <| and (Nat.blt a_x2 (lnx o7)) <| rdra t o7 a_x2 fun o12 => cond (Nat.beq o12 1000000) false <| and (Nat.beq (clx o4) 4) <| x_p_Li_setLengths o4 o12 t (fun t_S69 => rdr t_S69 a_u 5 fun o16 => cond (Nat.beq o16 1000000) false <| and (Nat.beq (clx o16) 950) <| and (Nat.blt a_x2 (lnx o16)) <| rdra t_S69 o16 a_x2 fun o21 => cond (Nat.beq o21 1000000) false <| and (Nat.beq (clx o21) 5) <| x_p_Oc_giveOut o21 t_S69 (fun t_S78 => rdr t_S78 a_u 4 fun o25 => cond (Nat.beq o25 1000000) false <| rdr t_S78 a_u 6 fun o28 => cond (Nat.beq o28 1000000) false <| and (Nat.beq (clx o28) 950) <| and (Nat.blt a_x2 (lnx o28)) <| rdra t_S78 o28 a_x2 fun o33 => cond (Nat.beq o33 1000000) false <| and (Nat.beq (clx o25) 4) <| x_p_Li_setLengths o25 o33 t_S78 (fun t_S91 => rdr t_S91 a_u 6 fun o37 => cond (Nat.beq o37 1000000) false <| and (Nat.beq (clx o37) 950) <| and (Nat.blt a_x2 (lnx o37)) <| rdra t_S91 o37 a_x2 fun o42 => cond (Nat.beq o42 1000000) false <| and (Nat.beq (clx o42) 5) <| x_p_Oc_giveOut o42 t_S91 (fun t_S100 => frc (w_add a_x2 1) fun f46 => r_R51 f46 t_S100)))))
set_option maxRecDepth 20000 in
set_option maxHeartbeats 1000000 in
theorem xs_b_Pa_makeCodes_51 {u a_u : Nat} {x2 : Int32} {a_x2 : Nat} {S : cs} {t : X8} {R51 : Int32 → cs → Prop} {r_R51 : Nat → X8 → Bool} {K : cs → Prop} {k_K : X8 → Bool} (h : x_b_Pa_makeCodes_51 a_u a_x2 t r_R51 k_K = true) (e_u : u = a_u) (e_x2 : x2 = Int32.ofNat a_x2) (hS : RC S t) (hR51 : ∀ {y0 : Int32} {b0 : Nat} {yS : cs} {yt : X8}, r_R51 b0 yt = true → y0 = Int32.ofNat b0 → RC yS yt → R51 y0 yS) (hK : ∀ {yS : cs} {yt : X8}, k_K yt = true → RC yS yt → K yS) : b_Pa_makeCodes_51 UL u x2 S R51 K := by
  unfold b_Pa_makeCodes_51
  unfold x_b_Pa_makeCodes_51 at h
  obtain ⟨v1, h, q2⟩ := rdi_ok h hS e_u
  have hc3 := c_le' q2 e_x2
  refine ⟨fun hc => ?_, fun hc => ?_⟩
  · have h := x_pos h (hc3.mp hc)
    exact hK h hS
  · have h := x_neg h (fun q => hc (hc3.mpr q))
    obtain ⟨o4, h, q5⟩ := rdr_ok h hS e_u
    obtain ⟨n6, h⟩ := nu_ok h
    refine ⟨nu_no n6 q5, ?_⟩
    obtain ⟨o7, h, q8⟩ := rdr_ok h hS e_u
    obtain ⟨n9, h⟩ := nu_ok h
    refine ⟨nu_no n9 q8, ?_⟩
    obtain ⟨n10, h⟩ := an_ok h
    refine ⟨cl_ok n10 q8 (by decide), ?_⟩
    obtain ⟨n11, h⟩ := an_ok h
    refine ⟨vpc_ok n11 e_x2 q8, ?_⟩
    obtain ⟨o12, h, q13⟩ := rdra_ok h hS q8 e_x2
    obtain ⟨n14, h⟩ := nu_ok h
    refine ⟨nu_no n14 q13, ?_⟩
    obtain ⟨n15, h⟩ := an_ok h
    refine ⟨cl_ok n15 q5 (by decide), ?_⟩
    refine xs_p_Li_setLengths h q5 q13 hS (fun h h_S69 => ?_)
    obtain ⟨o16, h, q17⟩ := rdr_ok h h_S69 e_u
    obtain ⟨n18, h⟩ := nu_ok h
    refine ⟨nu_no n18 q17, ?_⟩
    obtain ⟨n19, h⟩ := an_ok h
    refine ⟨cl_ok n19 q17 (by decide), ?_⟩
    obtain ⟨n20, h⟩ := an_ok h
    refine ⟨vpc_ok n20 e_x2 q17, ?_⟩
    obtain ⟨o21, h, q22⟩ := rdra_ok h h_S69 q17 e_x2
    obtain ⟨n23, h⟩ := nu_ok h
    refine ⟨nu_no n23 q22, ?_⟩
    obtain ⟨n24, h⟩ := an_ok h
    refine ⟨cl_ok n24 q22 (by decide), ?_⟩
    refine xs_p_Oc_giveOut h q22 h_S69 (fun h h_S78 => ?_)
    obtain ⟨o25, h, q26⟩ := rdr_ok h h_S78 e_u
    obtain ⟨n27, h⟩ := nu_ok h
    refine ⟨nu_no n27 q26, ?_⟩
    obtain ⟨o28, h, q29⟩ := rdr_ok h h_S78 e_u
    obtain ⟨n30, h⟩ := nu_ok h
    refine ⟨nu_no n30 q29, ?_⟩
    obtain ⟨n31, h⟩ := an_ok h
    refine ⟨cl_ok n31 q29 (by decide), ?_⟩
    obtain ⟨n32, h⟩ := an_ok h
    refine ⟨vpc_ok n32 e_x2 q29, ?_⟩
    obtain ⟨o33, h, q34⟩ := rdra_ok h h_S78 q29 e_x2
    obtain ⟨n35, h⟩ := nu_ok h
    refine ⟨nu_no n35 q34, ?_⟩
    obtain ⟨n36, h⟩ := an_ok h
    refine ⟨cl_ok n36 q26 (by decide), ?_⟩
    refine xs_p_Li_setLengths h q26 q34 h_S78 (fun h h_S91 => ?_)
    obtain ⟨o37, h, q38⟩ := rdr_ok h h_S91 e_u
    obtain ⟨n39, h⟩ := nu_ok h
    refine ⟨nu_no n39 q38, ?_⟩
    obtain ⟨n40, h⟩ := an_ok h
    refine ⟨cl_ok n40 q38 (by decide), ?_⟩
    obtain ⟨n41, h⟩ := an_ok h
    refine ⟨vpc_ok n41 e_x2 q38, ?_⟩
    obtain ⟨o42, h, q43⟩ := rdra_ok h h_S91 q38 e_x2
    obtain ⟨n44, h⟩ := nu_ok h
    refine ⟨nu_no n44 q43, ?_⟩
    obtain ⟨n45, h⟩ := an_ok h
    refine ⟨cl_ok n45 q43 (by decide), ?_⟩
    refine xs_p_Oc_giveOut h q43 h_S91 (fun h h_S100 => ?_)
    have h := frc_ok h
    have p47 := n_add e_x2 ((rfl : (1 : Int32) = Int32.ofNat 1))
    exact hR51 h p47 h_S100
noncomputable def xl_e_Pa_makeCodes_51 (a_u : Nat) (k_K : X8 → Bool) (n : Nat) : Nat → X8 → Bool := Nat.rec (motive := fun _ => Nat → X8 → Bool) (fun _ _ => false) (fun _ ih b_x2 bt => x_b_Pa_makeCodes_51 a_u b_x2 bt ih k_K) n
noncomputable def x_e_Pa_makeCodes_51 (a_u : Nat) (a_x2 : Nat) (t : X8) (k_K : X8 → Bool) : Bool := xl_e_Pa_makeCodes_51 a_u k_K 200000 a_x2 t
def xq_e_Pa_makeCodes_51 (a_u : Nat) (k_K : X8 → Bool) (n : Nat) (y_x2 : Int32) (yS : cs) : Prop := ∃ (b_x2 : Nat) (bt : X8), y_x2 = Int32.ofNat b_x2 ∧ RC yS bt ∧ xl_e_Pa_makeCodes_51 a_u k_K n b_x2 bt = true
set_option maxRecDepth 20000 in
theorem xs_e_Pa_makeCodes_51 {u a_u : Nat} {x2 : Int32} {a_x2 : Nat} {S : cs} {t : X8} {K : cs → Prop} {k_K : X8 → Bool} (h : x_e_Pa_makeCodes_51 a_u a_x2 t k_K = true) (e_u : u = a_u) (e_x2 : x2 = Int32.ofNat a_x2) (hS : RC S t) (hK : ∀ {yS : cs} {yt : X8}, k_K yt = true → RC yS yt → K yS) : e_Pa_makeCodes_51 UL u x2 S K := by
  refine ⟨fun y_x2 yS => ∃ n, xq_e_Pa_makeCodes_51 a_u k_K n y_x2 yS, fun y_x2 yS => mf (fun n => xq_e_Pa_makeCodes_51 a_u k_K n y_x2 yS), ⟨200000, a_x2, t, e_x2, hS, h⟩, fun y_x2 yS hI => ?_⟩
  obtain ⟨m, hm, hq⟩ := mf_ok hI
  obtain ⟨b_x2, bt, c_x2, cS, h⟩ := hq
  cases m with
  | zero => exact absurd h Bool.false_ne_true
  | succ n => exact xs_b_Pa_makeCodes_51 h e_u c_x2 cS (fun h d_x2 dS => ⟨⟨n, _, _, d_x2, dS, h⟩, Nat.lt_of_le_of_lt (mf_le ⟨_, _, d_x2, dS, h⟩) (Nat.lt_of_lt_of_eq (Nat.lt_succ_self n) hm.symm)⟩) hK
noncomputable def x_p_Oc_begin (a_u : Nat) (t : X8) (k_K : X8 → Bool) : Bool :=
  rdr t a_u 0 fun o1 => cond (Nat.beq o1 1000000) false <| x_p_Ar_fillI o1 0 t (fun t_S5 => rdr t_S5 a_u 1 fun o4 => cond (Nat.beq o4 1000000) false <| x_p_Ar_fillI o4 0 t_S5 (fun t_S13 => k_K t_S13))
set_option maxRecDepth 20000 in
set_option maxHeartbeats 1000000 in
theorem xs_p_Oc_begin {u a_u : Nat} {S : cs} {t : X8} {K : cs → Prop} {k_K : X8 → Bool} (h : x_p_Oc_begin a_u t k_K = true) (e_u : u = a_u) (hS : RC S t) (hK : ∀ {yS : cs} {yt : X8}, k_K yt = true → RC yS yt → K yS) : p_Oc_begin UL u S K := by
  unfold p_Oc_begin
  unfold x_p_Oc_begin at h
  obtain ⟨o1, h, q2⟩ := rdr_ok h hS e_u
  obtain ⟨n3, h⟩ := nu_ok h
  refine ⟨nu_no n3 q2, ?_⟩
  refine xs_p_Ar_fillI h q2 ((rfl : (0 : Int32) = Int32.ofNat 0)) hS (fun h h_S5 => ?_)
  obtain ⟨o4, h, q5⟩ := rdr_ok h h_S5 e_u
  obtain ⟨n6, h⟩ := nu_ok h
  refine ⟨nu_no n6 q5, ?_⟩
  refine xs_p_Ar_fillI h q5 ((rfl : (0 : Int32) = Int32.ofNat 0)) h_S5 (fun h h_S13 => ?_)
  exact hK h h_S13
noncomputable def x_b_Pa_makeCodes_2 (a_u : Nat) (a_x1 : Nat) (a_x2 : Nat) (t : X8) (r_R2 : Nat → Nat → X8 → Bool) (k_K : X8 → Bool) : Bool :=
  rdi t a_u 8 fun v1 => cond (!(w_lt a_x2 v1)) (wri t a_u 9 1 fun t4 => x_p_Pa_writeData a_u a_x1 t4 (fun t_S41 => wri t_S41 a_u 9 0 fun t6 => x_e_Pa_makeCodes_51 a_u 0 t6 k_K)) (rdr t a_u 5 fun o8 => cond (Nat.beq o8 1000000) false <| and (Nat.beq (clx o8) 950) <| and (Nat.blt a_x2 (lnx o8)) <| rdra t o8 a_x2 fun o13 => cond (Nat.beq o13 1000000) false <| and (Nat.beq (clx o13) 5) <| x_p_Oc_begin o13 t (fun t_S16 => rdr t_S16 a_u 6 fun o17 => cond (Nat.beq o17 1000000) false <| and (Nat.beq (clx o17) 950) <| and (Nat.blt a_x2 (lnx o17)) <| rdra t_S16 o17 a_x2 fun o22 => cond (Nat.beq o22 1000000) false <| and (Nat.beq (clx o22) 5) <| x_p_Oc_begin o22 t_S16 (fun t_S25 => frc (w_add a_x2 1) fun f26 => r_R2 a_x1 f26 t_S25)))
set_option maxRecDepth 20000 in
set_option maxHeartbeats 1000000 in
theorem xs_b_Pa_makeCodes_2 {u a_u : Nat} {x1 : Int32} {a_x1 : Nat} {x2 : Int32} {a_x2 : Nat} {S : cs} {t : X8} {R2 : Int32 → Int32 → cs → Prop} {r_R2 : Nat → Nat → X8 → Bool} {K : cs → Prop} {k_K : X8 → Bool} (h : x_b_Pa_makeCodes_2 a_u a_x1 a_x2 t r_R2 k_K = true) (e_u : u = a_u) (e_x1 : x1 = Int32.ofNat a_x1) (e_x2 : x2 = Int32.ofNat a_x2) (hS : RC S t) (hR2 : ∀ {y0 : Int32} {b0 : Nat} {y1 : Int32} {b1 : Nat} {yS : cs} {yt : X8}, r_R2 b0 b1 yt = true → y0 = Int32.ofNat b0 → y1 = Int32.ofNat b1 → RC yS yt → R2 y0 y1 yS) (hK : ∀ {yS : cs} {yt : X8}, k_K yt = true → RC yS yt → K yS) : b_Pa_makeCodes_2 UL u x1 x2 S R2 K := by
  unfold b_Pa_makeCodes_2
  unfold x_b_Pa_makeCodes_2 at h
  obtain ⟨v1, h, q2⟩ := rdi_ok h hS e_u
  have hc3 := c_le' q2 e_x2
  refine ⟨fun hc => ?_, fun hc => ?_⟩
  · have h := x_pos h (hc3.mp hc)
    obtain ⟨t4, h, hS5⟩ := wri_ok h hS e_u ((rfl : (1 : Int32) = Int32.ofNat 1))
    refine xs_p_Pa_writeData h e_u e_x1 hS5 (fun h h_S41 => ?_)
    obtain ⟨t6, h, hS7⟩ := wri_ok h h_S41 e_u ((rfl : (0 : Int32) = Int32.ofNat 0))
    exact xs_e_Pa_makeCodes_51 h e_u ((rfl : (0 : Int32) = Int32.ofNat 0)) hS7 hK
  · have h := x_neg h (fun q => hc (hc3.mpr q))
    obtain ⟨o8, h, q9⟩ := rdr_ok h hS e_u
    obtain ⟨n10, h⟩ := nu_ok h
    refine ⟨nu_no n10 q9, ?_⟩
    obtain ⟨n11, h⟩ := an_ok h
    refine ⟨cl_ok n11 q9 (by decide), ?_⟩
    obtain ⟨n12, h⟩ := an_ok h
    refine ⟨vpc_ok n12 e_x2 q9, ?_⟩
    obtain ⟨o13, h, q14⟩ := rdra_ok h hS q9 e_x2
    obtain ⟨n15, h⟩ := nu_ok h
    refine ⟨nu_no n15 q14, ?_⟩
    obtain ⟨n16, h⟩ := an_ok h
    refine ⟨cl_ok n16 q14 (by decide), ?_⟩
    refine xs_p_Oc_begin h q14 hS (fun h h_S16 => ?_)
    obtain ⟨o17, h, q18⟩ := rdr_ok h h_S16 e_u
    obtain ⟨n19, h⟩ := nu_ok h
    refine ⟨nu_no n19 q18, ?_⟩
    obtain ⟨n20, h⟩ := an_ok h
    refine ⟨cl_ok n20 q18 (by decide), ?_⟩
    obtain ⟨n21, h⟩ := an_ok h
    refine ⟨vpc_ok n21 e_x2 q18, ?_⟩
    obtain ⟨o22, h, q23⟩ := rdra_ok h h_S16 q18 e_x2
    obtain ⟨n24, h⟩ := nu_ok h
    refine ⟨nu_no n24 q23, ?_⟩
    obtain ⟨n25, h⟩ := an_ok h
    refine ⟨cl_ok n25 q23 (by decide), ?_⟩
    refine xs_p_Oc_begin h q23 h_S16 (fun h h_S25 => ?_)
    have h := frc_ok h
    have p27 := n_add e_x2 ((rfl : (1 : Int32) = Int32.ofNat 1))
    exact hR2 h e_x1 p27 h_S25
noncomputable def xl_e_Pa_makeCodes_2 (a_u : Nat) (k_K : X8 → Bool) (n : Nat) : Nat → Nat → X8 → Bool := Nat.rec (motive := fun _ => Nat → Nat → X8 → Bool) (fun _ _ _ => false) (fun _ ih b_x1 b_x2 bt => x_b_Pa_makeCodes_2 a_u b_x1 b_x2 bt ih k_K) n
noncomputable def x_e_Pa_makeCodes_2 (a_u : Nat) (a_x1 : Nat) (a_x2 : Nat) (t : X8) (k_K : X8 → Bool) : Bool := xl_e_Pa_makeCodes_2 a_u k_K 200000 a_x1 a_x2 t
def xq_e_Pa_makeCodes_2 (a_u : Nat) (k_K : X8 → Bool) (n : Nat) (y_x1 : Int32) (y_x2 : Int32) (yS : cs) : Prop := ∃ (b_x1 : Nat) (b_x2 : Nat) (bt : X8), y_x1 = Int32.ofNat b_x1 ∧ y_x2 = Int32.ofNat b_x2 ∧ RC yS bt ∧ xl_e_Pa_makeCodes_2 a_u k_K n b_x1 b_x2 bt = true
set_option maxRecDepth 20000 in
theorem xs_e_Pa_makeCodes_2 {u a_u : Nat} {x1 : Int32} {a_x1 : Nat} {x2 : Int32} {a_x2 : Nat} {S : cs} {t : X8} {K : cs → Prop} {k_K : X8 → Bool} (h : x_e_Pa_makeCodes_2 a_u a_x1 a_x2 t k_K = true) (e_u : u = a_u) (e_x1 : x1 = Int32.ofNat a_x1) (e_x2 : x2 = Int32.ofNat a_x2) (hS : RC S t) (hK : ∀ {yS : cs} {yt : X8}, k_K yt = true → RC yS yt → K yS) : e_Pa_makeCodes_2 UL u x1 x2 S K := by
  refine ⟨fun y_x1 y_x2 yS => ∃ n, xq_e_Pa_makeCodes_2 a_u k_K n y_x1 y_x2 yS, fun y_x1 y_x2 yS => mf (fun n => xq_e_Pa_makeCodes_2 a_u k_K n y_x1 y_x2 yS), ⟨200000, a_x1, a_x2, t, e_x1, e_x2, hS, h⟩, fun y_x1 y_x2 yS hI => ?_⟩
  obtain ⟨m, hm, hq⟩ := mf_ok hI
  obtain ⟨b_x1, b_x2, bt, c_x1, c_x2, cS, h⟩ := hq
  cases m with
  | zero => exact absurd h Bool.false_ne_true
  | succ n => exact xs_b_Pa_makeCodes_2 h e_u c_x1 c_x2 cS (fun h d_x1 d_x2 dS => ⟨⟨n, _, _, _, d_x1, d_x2, dS, h⟩, Nat.lt_of_le_of_lt (mf_le ⟨_, _, _, d_x1, d_x2, dS, h⟩) (Nat.lt_of_lt_of_eq (Nat.lt_succ_self n) hm.symm)⟩) hK
noncomputable def x_p_Pa_makeCodes (a_u : Nat) (a_x1 : Nat) (t : X8) (k_K : X8 → Bool) : Bool :=
  x_e_Pa_makeCodes_2 a_u a_x1 0 t k_K
set_option maxRecDepth 20000 in
set_option maxHeartbeats 1000000 in
theorem xs_p_Pa_makeCodes {u a_u : Nat} {x1 : Int32} {a_x1 : Nat} {S : cs} {t : X8} {K : cs → Prop} {k_K : X8 → Bool} (h : x_p_Pa_makeCodes a_u a_x1 t k_K = true) (e_u : u = a_u) (e_x1 : x1 = Int32.ofNat a_x1) (hS : RC S t) (hK : ∀ {yS : cs} {yt : X8}, k_K yt = true → RC yS yt → K yS) : p_Pa_makeCodes UL u x1 S K := by
  unfold p_Pa_makeCodes
  unfold x_p_Pa_makeCodes at h
  exact xs_e_Pa_makeCodes_2 h e_u e_x1 ((rfl : (0 : Int32) = Int32.ofNat 0)) hS hK
noncomputable def x_p_Ro_addTwo (a_u : Nat) (a_x1 : Nat) (t : X8) (k_K : X8 → Bool) : Bool :=
  frc (w_shr a_x1 8) fun f1 => x_p_Ro_add a_u f1 t (fun t_S5 => x_p_Ro_add a_u a_x1 t_S5 (fun t_S10 => k_K t_S10))
set_option maxRecDepth 20000 in
set_option maxHeartbeats 1000000 in
theorem xs_p_Ro_addTwo {u a_u : Nat} {x1 : Int32} {a_x1 : Nat} {S : cs} {t : X8} {K : cs → Prop} {k_K : X8 → Bool} (h : x_p_Ro_addTwo a_u a_x1 t k_K = true) (e_u : u = a_u) (e_x1 : x1 = Int32.ofNat a_x1) (hS : RC S t) (hK : ∀ {yS : cs} {yt : X8}, k_K yt = true → RC yS yt → K yS) : p_Ro_addTwo UL u x1 S K := by
  unfold p_Ro_addTwo
  unfold x_p_Ro_addTwo at h
  have h := frc_ok h
  have p2 := n_shr e_x1 ((rfl : (8 : Int32) = Int32.ofNat 8))
  refine xs_p_Ro_add h e_u p2 hS (fun h h_S5 => ?_)
  refine xs_p_Ro_add h e_u e_x1 h_S5 (fun h h_S10 => ?_)
  exact hK h h_S10
noncomputable def x_b_Pa_writeTables_43 (a_u : Nat) (a_x1 : Nat) (a_x2 : Nat) (a_x3 : Nat) (t : X8) (r_R25 : Nat → Nat → X8 → Bool) (r_R43 : Nat → Nat → Nat → X8 → Bool) (k_K : X8 → Bool) : Bool :=
  cond (!(w_lt a_x3 64)) (frc (w_add a_x2 1) fun f2 => r_R25 a_x1 f2 t) (rdr t a_u 0 fun o4 => cond (Nat.beq o4 1000000) false <| and (Nat.blt a_x3 64) <| and (Nat.beq (clx a_x1) 902) <| rd_sl a_x3 fun v9 => frc (w_add (w_mul 64 a_x2) v9) fun f11 => and (Nat.blt f11 (lnx a_x1)) <| and (Nat.beq (clx o4) 9) <| rda t a_x1 f11 fun v15 => x_p_Ro_add o4 v15 t (fun t_S65 => frc (w_add a_x3 1) fun f17 => r_R43 a_x1 a_x2 f17 t_S65))
set_option maxRecDepth 20000 in
set_option maxHeartbeats 1000000 in
theorem xs_b_Pa_writeTables_43 {u a_u : Nat} {x1 a_x1 : Nat} {x2 : Int32} {a_x2 : Nat} {x3 : Int32} {a_x3 : Nat} {S : cs} {t : X8} {R25 : Nat → Int32 → cs → Prop} {r_R25 : Nat → Nat → X8 → Bool} {R43 : Nat → Int32 → Int32 → cs → Prop} {r_R43 : Nat → Nat → Nat → X8 → Bool} {K : cs → Prop} {k_K : X8 → Bool} (h : x_b_Pa_writeTables_43 a_u a_x1 a_x2 a_x3 t r_R25 r_R43 k_K = true) (e_u : u = a_u) (e_x1 : x1 = a_x1) (e_x2 : x2 = Int32.ofNat a_x2) (e_x3 : x3 = Int32.ofNat a_x3) (hS : RC S t) (hR25 : ∀ {y0 b0 : Nat} {y1 : Int32} {b1 : Nat} {yS : cs} {yt : X8}, r_R25 b0 b1 yt = true → y0 = b0 → y1 = Int32.ofNat b1 → RC yS yt → R25 y0 y1 yS) (hR43 : ∀ {y0 b0 : Nat} {y1 : Int32} {b1 : Nat} {y2 : Int32} {b2 : Nat} {yS : cs} {yt : X8}, r_R43 b0 b1 b2 yt = true → y0 = b0 → y1 = Int32.ofNat b1 → y2 = Int32.ofNat b2 → RC yS yt → R43 y0 y1 y2 yS) (hK : ∀ {yS : cs} {yt : X8}, k_K yt = true → RC yS yt → K yS) : b_Pa_writeTables_43 UL u x1 x2 x3 S R25 R43 K := by
  unfold b_Pa_writeTables_43
  unfold x_b_Pa_writeTables_43 at h
  have hc1 := c_le' ((rfl : (64 : Int32) = Int32.ofNat 64)) e_x3
  refine ⟨fun hc => ?_, fun hc => ?_⟩
  · have h := x_pos h (hc1.mp hc)
    have h := frc_ok h
    have p3 := n_add e_x2 ((rfl : (1 : Int32) = Int32.ofNat 1))
    exact hR25 h e_x1 p3 hS
  · have h := x_neg h (fun q => hc (hc1.mpr q))
    obtain ⟨o4, h, q5⟩ := rdr_ok h hS e_u
    obtain ⟨n6, h⟩ := nu_ok h
    refine ⟨nu_no n6 q5, ?_⟩
    obtain ⟨n7, h⟩ := an_ok h
    refine ⟨n_vp e_x3 n7 (by decide), ?_⟩
    obtain ⟨n8, h⟩ := an_ok h
    refine ⟨cl_ok n8 e_x1 (by decide), ?_⟩
    obtain ⟨v9, h, q10⟩ := rd_sl_ok h e_x3
    have h := frc_ok h
    have p12 := n_add (n_mul ((rfl : (64 : Int32) = Int32.ofNat 64)) e_x2) q10
    obtain ⟨n13, h⟩ := an_ok h
    refine ⟨vpc_ok n13 p12 e_x1, ?_⟩
    obtain ⟨n14, h⟩ := an_ok h
    refine ⟨cl_ok n14 q5 (by decide), ?_⟩
    obtain ⟨v15, h, q16⟩ := rda_ok h hS e_x1 p12
    refine xs_p_Ro_add h q5 q16 hS (fun h h_S65 => ?_)
    have h := frc_ok h
    have p18 := n_add e_x3 ((rfl : (1 : Int32) = Int32.ofNat 1))
    exact hR43 h e_x1 e_x2 p18 h_S65
noncomputable def xl_e_Pa_writeTables_43 (a_u : Nat) (r_R25 : Nat → Nat → X8 → Bool) (k_K : X8 → Bool) (n : Nat) : Nat → Nat → Nat → X8 → Bool := Nat.rec (motive := fun _ => Nat → Nat → Nat → X8 → Bool) (fun _ _ _ _ => false) (fun _ ih b_x1 b_x2 b_x3 bt => x_b_Pa_writeTables_43 a_u b_x1 b_x2 b_x3 bt r_R25 ih k_K) n
noncomputable def x_e_Pa_writeTables_43 (a_u : Nat) (a_x1 : Nat) (a_x2 : Nat) (a_x3 : Nat) (t : X8) (r_R25 : Nat → Nat → X8 → Bool) (k_K : X8 → Bool) : Bool := xl_e_Pa_writeTables_43 a_u r_R25 k_K 200000 a_x1 a_x2 a_x3 t
def xq_e_Pa_writeTables_43 (a_u : Nat) (r_R25 : Nat → Nat → X8 → Bool) (k_K : X8 → Bool) (n : Nat) (y_x1 : Nat) (y_x2 : Int32) (y_x3 : Int32) (yS : cs) : Prop := ∃ (b_x1 : Nat) (b_x2 : Nat) (b_x3 : Nat) (bt : X8), y_x1 = b_x1 ∧ y_x2 = Int32.ofNat b_x2 ∧ y_x3 = Int32.ofNat b_x3 ∧ RC yS bt ∧ xl_e_Pa_writeTables_43 a_u r_R25 k_K n b_x1 b_x2 b_x3 bt = true
set_option maxRecDepth 20000 in
theorem xs_e_Pa_writeTables_43 {u a_u : Nat} {x1 a_x1 : Nat} {x2 : Int32} {a_x2 : Nat} {x3 : Int32} {a_x3 : Nat} {S : cs} {t : X8} {R25 : Nat → Int32 → cs → Prop} {r_R25 : Nat → Nat → X8 → Bool} {K : cs → Prop} {k_K : X8 → Bool} (h : x_e_Pa_writeTables_43 a_u a_x1 a_x2 a_x3 t r_R25 k_K = true) (e_u : u = a_u) (e_x1 : x1 = a_x1) (e_x2 : x2 = Int32.ofNat a_x2) (e_x3 : x3 = Int32.ofNat a_x3) (hS : RC S t) (hR25 : ∀ {y0 b0 : Nat} {y1 : Int32} {b1 : Nat} {yS : cs} {yt : X8}, r_R25 b0 b1 yt = true → y0 = b0 → y1 = Int32.ofNat b1 → RC yS yt → R25 y0 y1 yS) (hK : ∀ {yS : cs} {yt : X8}, k_K yt = true → RC yS yt → K yS) : e_Pa_writeTables_43 UL u x1 x2 x3 S R25 K := by
  refine ⟨fun y_x1 y_x2 y_x3 yS => ∃ n, xq_e_Pa_writeTables_43 a_u r_R25 k_K n y_x1 y_x2 y_x3 yS, fun y_x1 y_x2 y_x3 yS => mf (fun n => xq_e_Pa_writeTables_43 a_u r_R25 k_K n y_x1 y_x2 y_x3 yS), ⟨200000, a_x1, a_x2, a_x3, t, e_x1, e_x2, e_x3, hS, h⟩, fun y_x1 y_x2 y_x3 yS hI => ?_⟩
  obtain ⟨m, hm, hq⟩ := mf_ok hI
  obtain ⟨b_x1, b_x2, b_x3, bt, c_x1, c_x2, c_x3, cS, h⟩ := hq
  cases m with
  | zero => exact absurd h Bool.false_ne_true
  | succ n => exact xs_b_Pa_writeTables_43 h e_u c_x1 c_x2 c_x3 cS hR25 (fun h d_x1 d_x2 d_x3 dS => ⟨⟨n, _, _, _, _, d_x1, d_x2, d_x3, dS, h⟩, Nat.lt_of_le_of_lt (mf_le ⟨_, _, _, _, d_x1, d_x2, d_x3, dS, h⟩) (Nat.lt_of_lt_of_eq (Nat.lt_succ_self n) hm.symm)⟩) hK
noncomputable def x_b_Pa_writeTables_25 (a_u : Nat) (a_x1 : Nat) (a_x2 : Nat) (t : X8) (r_R25 : Nat → Nat → X8 → Bool) (k_K : X8 → Bool) : Bool :=
  rdi t a_u 8 fun v1 => cond (!(w_lt a_x2 v1)) (k_K t) (rdr t a_u 0 fun o4 => cond (Nat.beq o4 1000000) false <| and (Nat.beq (clx o4) 9) <| x_p_Ro_add o4 a_x2 t (fun t_S38 => x_e_Pa_writeTables_43 a_u a_x1 a_x2 0 t_S38 r_R25 k_K))
set_option maxRecDepth 20000 in
set_option maxHeartbeats 1000000 in
theorem xs_b_Pa_writeTables_25 {u a_u : Nat} {x1 a_x1 : Nat} {x2 : Int32} {a_x2 : Nat} {S : cs} {t : X8} {R25 : Nat → Int32 → cs → Prop} {r_R25 : Nat → Nat → X8 → Bool} {K : cs → Prop} {k_K : X8 → Bool} (h : x_b_Pa_writeTables_25 a_u a_x1 a_x2 t r_R25 k_K = true) (e_u : u = a_u) (e_x1 : x1 = a_x1) (e_x2 : x2 = Int32.ofNat a_x2) (hS : RC S t) (hR25 : ∀ {y0 b0 : Nat} {y1 : Int32} {b1 : Nat} {yS : cs} {yt : X8}, r_R25 b0 b1 yt = true → y0 = b0 → y1 = Int32.ofNat b1 → RC yS yt → R25 y0 y1 yS) (hK : ∀ {yS : cs} {yt : X8}, k_K yt = true → RC yS yt → K yS) : b_Pa_writeTables_25 UL u x1 x2 S R25 K := by
  unfold b_Pa_writeTables_25
  unfold x_b_Pa_writeTables_25 at h
  obtain ⟨v1, h, q2⟩ := rdi_ok h hS e_u
  have hc3 := c_le' q2 e_x2
  refine ⟨fun hc => ?_, fun hc => ?_⟩
  · have h := x_pos h (hc3.mp hc)
    exact hK h hS
  · have h := x_neg h (fun q => hc (hc3.mpr q))
    obtain ⟨o4, h, q5⟩ := rdr_ok h hS e_u
    obtain ⟨n6, h⟩ := nu_ok h
    refine ⟨nu_no n6 q5, ?_⟩
    obtain ⟨n7, h⟩ := an_ok h
    refine ⟨cl_ok n7 q5 (by decide), ?_⟩
    refine xs_p_Ro_add h q5 e_x2 hS (fun h h_S38 => ?_)
    exact xs_e_Pa_writeTables_43 h e_u e_x1 e_x2 ((rfl : (0 : Int32) = Int32.ofNat 0)) h_S38 hR25 hK
noncomputable def xl_e_Pa_writeTables_25 (a_u : Nat) (k_K : X8 → Bool) (n : Nat) : Nat → Nat → X8 → Bool := Nat.rec (motive := fun _ => Nat → Nat → X8 → Bool) (fun _ _ _ => false) (fun _ ih b_x1 b_x2 bt => x_b_Pa_writeTables_25 a_u b_x1 b_x2 bt ih k_K) n
noncomputable def x_e_Pa_writeTables_25 (a_u : Nat) (a_x1 : Nat) (a_x2 : Nat) (t : X8) (k_K : X8 → Bool) : Bool := xl_e_Pa_writeTables_25 a_u k_K 200000 a_x1 a_x2 t
def xq_e_Pa_writeTables_25 (a_u : Nat) (k_K : X8 → Bool) (n : Nat) (y_x1 : Nat) (y_x2 : Int32) (yS : cs) : Prop := ∃ (b_x1 : Nat) (b_x2 : Nat) (bt : X8), y_x1 = b_x1 ∧ y_x2 = Int32.ofNat b_x2 ∧ RC yS bt ∧ xl_e_Pa_writeTables_25 a_u k_K n b_x1 b_x2 bt = true
set_option maxRecDepth 20000 in
theorem xs_e_Pa_writeTables_25 {u a_u : Nat} {x1 a_x1 : Nat} {x2 : Int32} {a_x2 : Nat} {S : cs} {t : X8} {K : cs → Prop} {k_K : X8 → Bool} (h : x_e_Pa_writeTables_25 a_u a_x1 a_x2 t k_K = true) (e_u : u = a_u) (e_x1 : x1 = a_x1) (e_x2 : x2 = Int32.ofNat a_x2) (hS : RC S t) (hK : ∀ {yS : cs} {yt : X8}, k_K yt = true → RC yS yt → K yS) : e_Pa_writeTables_25 UL u x1 x2 S K := by
  refine ⟨fun y_x1 y_x2 yS => ∃ n, xq_e_Pa_writeTables_25 a_u k_K n y_x1 y_x2 yS, fun y_x1 y_x2 yS => mf (fun n => xq_e_Pa_writeTables_25 a_u k_K n y_x1 y_x2 yS), ⟨200000, a_x1, a_x2, t, e_x1, e_x2, hS, h⟩, fun y_x1 y_x2 yS hI => ?_⟩
  obtain ⟨m, hm, hq⟩ := mf_ok hI
  obtain ⟨b_x1, b_x2, bt, c_x1, c_x2, cS, h⟩ := hq
  cases m with
  | zero => exact absurd h Bool.false_ne_true
  | succ n => exact xs_b_Pa_writeTables_25 h e_u c_x1 c_x2 cS (fun h d_x1 d_x2 dS => ⟨⟨n, _, _, _, d_x1, d_x2, dS, h⟩, Nat.lt_of_le_of_lt (mf_le ⟨_, _, _, d_x1, d_x2, dS, h⟩) (Nat.lt_of_lt_of_eq (Nat.lt_succ_self n) hm.symm)⟩) hK
noncomputable def x_p_Pa_writeTables (a_u : Nat) (a_x1 : Nat) (t : X8) (k_K : X8 → Bool) : Bool :=
  x_p_Pa_addMark a_u 219 t (fun t_S4 => rdr t_S4 a_u 0 fun o1 => cond (Nat.beq o1 1000000) false <| and (Nat.beq (clx o1) 9) <| rdi t_S4 a_u 8 fun v5 => frc (w_add 2 (w_mul 65 v5)) fun f7 => x_p_Ro_addTwo o1 f7 t_S4 (fun t_S20 => x_e_Pa_writeTables_25 a_u a_x1 0 t_S20 k_K))
set_option maxRecDepth 20000 in
set_option maxHeartbeats 1000000 in
theorem xs_p_Pa_writeTables {u a_u : Nat} {x1 a_x1 : Nat} {S : cs} {t : X8} {K : cs → Prop} {k_K : X8 → Bool} (h : x_p_Pa_writeTables a_u a_x1 t k_K = true) (e_u : u = a_u) (e_x1 : x1 = a_x1) (hS : RC S t) (hK : ∀ {yS : cs} {yt : X8}, k_K yt = true → RC yS yt → K yS) : p_Pa_writeTables UL u x1 S K := by
  unfold p_Pa_writeTables
  unfold x_p_Pa_writeTables at h
  refine xs_p_Pa_addMark h e_u ((rfl : (219 : Int32) = Int32.ofNat 219)) hS (fun h h_S4 => ?_)
  obtain ⟨o1, h, q2⟩ := rdr_ok h h_S4 e_u
  obtain ⟨n3, h⟩ := nu_ok h
  refine ⟨nu_no n3 q2, ?_⟩
  obtain ⟨n4, h⟩ := an_ok h
  refine ⟨cl_ok n4 q2 (by decide), ?_⟩
  obtain ⟨v5, h, q6⟩ := rdi_ok h h_S4 e_u
  have h := frc_ok h
  have p8 := n_add ((rfl : (2 : Int32) = Int32.ofNat 2)) (n_mul ((rfl : (65 : Int32) = Int32.ofNat 65)) q6)
  refine xs_p_Ro_addTwo h q2 p8 h_S4 (fun h h_S20 => ?_)
  exact xs_e_Pa_writeTables_25 h e_u e_x1 ((rfl : (0 : Int32) = Int32.ofNat 0)) h_S20 hK
noncomputable def x_b_Pa_writeFrame_79 (a_u : Nat) (a_x1 : Nat) (t : X8) (r_R79 : Nat → X8 → Bool) (k_K : X8 → Bool) : Bool :=
  rdr t a_u 2 fun o1 => cond (Nat.beq o1 1000000) false <| and (Nat.beq (clx o1) 7) <| rdi t o1 2 fun v5 => cond (!(w_lt a_x1 v5)) (k_K t) (rdr t a_u 0 fun o8 => cond (Nat.beq o8 1000000) false <| and (Nat.beq (clx o8) 9) <| frc (w_add a_x1 1) fun f12 => x_p_Ro_add o8 f12 t (fun t_S97 => rdr t_S97 a_u 0 fun o14 => cond (Nat.beq o14 1000000) false <| rdr t_S97 a_u 2 fun o17 => cond (Nat.beq o17 1000000) false <| and (Nat.beq (clx o17) 7) <| rdr t_S97 o17 3 fun o21 => cond (Nat.beq o21 1000000) false <| and (Nat.beq (clx o21) 902) <| and (Nat.blt a_x1 (lnx o21)) <| rdr t_S97 o17 4 fun o26 => cond (Nat.beq o26 1000000) false <| and (Nat.beq (clx o26) 902) <| and (Nat.blt a_x1 (lnx o26)) <| and (Nat.beq (clx o14) 9) <| rda t_S97 o21 a_x1 fun v32 => rda t_S97 o26 a_x1 fun v34 => frc (w_add (w_mul 16 v32) v34) fun f36 => x_p_Ro_add o14 f36 t_S97 (fun t_S126 => rdr t_S126 a_u 0 fun o38 => cond (Nat.beq o38 1000000) false <| x_p_Pa_kindOf a_x1 (fun v134_ => and (Nat.beq (clx o38) 9) <| x_p_Ro_add o38 v134_ t_S126 (fun t_S137 => r_R79 f12 t_S137)))))
set_option maxRecDepth 20000 in
set_option maxHeartbeats 1000000 in
theorem xs_b_Pa_writeFrame_79 {u a_u : Nat} {x1 : Int32} {a_x1 : Nat} {S : cs} {t : X8} {R79 : Int32 → cs → Prop} {r_R79 : Nat → X8 → Bool} {K : cs → Prop} {k_K : X8 → Bool} (h : x_b_Pa_writeFrame_79 a_u a_x1 t r_R79 k_K = true) (e_u : u = a_u) (e_x1 : x1 = Int32.ofNat a_x1) (hS : RC S t) (hR79 : ∀ {y0 : Int32} {b0 : Nat} {yS : cs} {yt : X8}, r_R79 b0 yt = true → y0 = Int32.ofNat b0 → RC yS yt → R79 y0 yS) (hK : ∀ {yS : cs} {yt : X8}, k_K yt = true → RC yS yt → K yS) : b_Pa_writeFrame_79 UL u x1 S R79 K := by
  unfold b_Pa_writeFrame_79
  unfold x_b_Pa_writeFrame_79 at h
  obtain ⟨o1, h, q2⟩ := rdr_ok h hS e_u
  obtain ⟨n3, h⟩ := nu_ok h
  refine ⟨nu_no n3 q2, ?_⟩
  obtain ⟨n4, h⟩ := an_ok h
  refine ⟨cl_ok n4 q2 (by decide), ?_⟩
  obtain ⟨v5, h, q6⟩ := rdi_ok h hS q2
  have hc7 := c_le' q6 e_x1
  refine ⟨fun hc => ?_, fun hc => ?_⟩
  · have h := x_pos h (hc7.mp hc)
    exact hK h hS
  · have h := x_neg h (fun q => hc (hc7.mpr q))
    obtain ⟨o8, h, q9⟩ := rdr_ok h hS e_u
    obtain ⟨n10, h⟩ := nu_ok h
    refine ⟨nu_no n10 q9, ?_⟩
    obtain ⟨n11, h⟩ := an_ok h
    refine ⟨cl_ok n11 q9 (by decide), ?_⟩
    have h := frc_ok h
    have p13 := n_add e_x1 ((rfl : (1 : Int32) = Int32.ofNat 1))
    refine xs_p_Ro_add h q9 p13 hS (fun h h_S97 => ?_)
    obtain ⟨o14, h, q15⟩ := rdr_ok h h_S97 e_u
    obtain ⟨n16, h⟩ := nu_ok h
    refine ⟨nu_no n16 q15, ?_⟩
    obtain ⟨o17, h, q18⟩ := rdr_ok h h_S97 e_u
    obtain ⟨n19, h⟩ := nu_ok h
    refine ⟨nu_no n19 q18, ?_⟩
    obtain ⟨n20, h⟩ := an_ok h
    refine ⟨cl_ok n20 q18 (by decide), ?_⟩
    obtain ⟨o21, h, q22⟩ := rdr_ok h h_S97 q18
    obtain ⟨n23, h⟩ := nu_ok h
    refine ⟨nu_no n23 q22, ?_⟩
    obtain ⟨n24, h⟩ := an_ok h
    refine ⟨cl_ok n24 q22 (by decide), ?_⟩
    obtain ⟨n25, h⟩ := an_ok h
    refine ⟨vpc_ok n25 e_x1 q22, ?_⟩
    refine ⟨nu_no n19 q18, ?_⟩
    obtain ⟨o26, h, q27⟩ := rdr_ok h h_S97 q18
    obtain ⟨n28, h⟩ := nu_ok h
    refine ⟨nu_no n28 q27, ?_⟩
    obtain ⟨n29, h⟩ := an_ok h
    refine ⟨cl_ok n29 q27 (by decide), ?_⟩
    obtain ⟨n30, h⟩ := an_ok h
    refine ⟨vpc_ok n30 e_x1 q27, ?_⟩
    obtain ⟨n31, h⟩ := an_ok h
    refine ⟨cl_ok n31 q15 (by decide), ?_⟩
    obtain ⟨v32, h, q33⟩ := rda_ok h h_S97 q22 e_x1
    obtain ⟨v34, h, q35⟩ := rda_ok h h_S97 q27 e_x1
    have h := frc_ok h
    have p37 := n_add (n_mul ((rfl : (16 : Int32) = Int32.ofNat 16)) q33) q35
    refine xs_p_Ro_add h q15 p37 h_S97 (fun h h_S126 => ?_)
    obtain ⟨o38, h, q39⟩ := rdr_ok h h_S126 e_u
    obtain ⟨n40, h⟩ := nu_ok h
    refine ⟨nu_no n40 q39, ?_⟩
    refine xs_p_Pa_kindOf h e_x1 (fun h e_v134 => ?_)
    obtain ⟨n41, h⟩ := an_ok h
    refine ⟨cl_ok n41 q39 (by decide), ?_⟩
    refine xs_p_Ro_add h q39 e_v134 h_S126 (fun h h_S137 => ?_)
    exact hR79 h p13 h_S137
noncomputable def xl_e_Pa_writeFrame_79 (a_u : Nat) (k_K : X8 → Bool) (n : Nat) : Nat → X8 → Bool := Nat.rec (motive := fun _ => Nat → X8 → Bool) (fun _ _ => false) (fun _ ih b_x1 bt => x_b_Pa_writeFrame_79 a_u b_x1 bt ih k_K) n
noncomputable def x_e_Pa_writeFrame_79 (a_u : Nat) (a_x1 : Nat) (t : X8) (k_K : X8 → Bool) : Bool := xl_e_Pa_writeFrame_79 a_u k_K 200000 a_x1 t
def xq_e_Pa_writeFrame_79 (a_u : Nat) (k_K : X8 → Bool) (n : Nat) (y_x1 : Int32) (yS : cs) : Prop := ∃ (b_x1 : Nat) (bt : X8), y_x1 = Int32.ofNat b_x1 ∧ RC yS bt ∧ xl_e_Pa_writeFrame_79 a_u k_K n b_x1 bt = true
set_option maxRecDepth 20000 in
theorem xs_e_Pa_writeFrame_79 {u a_u : Nat} {x1 : Int32} {a_x1 : Nat} {S : cs} {t : X8} {K : cs → Prop} {k_K : X8 → Bool} (h : x_e_Pa_writeFrame_79 a_u a_x1 t k_K = true) (e_u : u = a_u) (e_x1 : x1 = Int32.ofNat a_x1) (hS : RC S t) (hK : ∀ {yS : cs} {yt : X8}, k_K yt = true → RC yS yt → K yS) : e_Pa_writeFrame_79 UL u x1 S K := by
  refine ⟨fun y_x1 yS => ∃ n, xq_e_Pa_writeFrame_79 a_u k_K n y_x1 yS, fun y_x1 yS => mf (fun n => xq_e_Pa_writeFrame_79 a_u k_K n y_x1 yS), ⟨200000, a_x1, t, e_x1, hS, h⟩, fun y_x1 yS hI => ?_⟩
  obtain ⟨m, hm, hq⟩ := mf_ok hI
  obtain ⟨b_x1, bt, c_x1, cS, h⟩ := hq
  cases m with
  | zero => exact absurd h Bool.false_ne_true
  | succ n => exact xs_b_Pa_writeFrame_79 h e_u c_x1 cS (fun h d_x1 dS => ⟨⟨n, _, _, d_x1, dS, h⟩, Nat.lt_of_le_of_lt (mf_le ⟨_, _, d_x1, dS, h⟩) (Nat.lt_of_lt_of_eq (Nat.lt_succ_self n) hm.symm)⟩) hK
noncomputable def x_p_Pa_writeFrame (a_u : Nat) (t : X8) (k_K : X8 → Bool) : Bool :=
  x_p_Pa_addMark a_u 192 t (fun t_S4 => rdr t_S4 a_u 0 fun o1 => cond (Nat.beq o1 1000000) false <| rdr t_S4 a_u 2 fun o4 => cond (Nat.beq o4 1000000) false <| and (Nat.beq (clx o4) 7) <| and (Nat.beq (clx o1) 9) <| rdi t_S4 o4 2 fun v9 => frc (w_add 8 (w_mul 3 v9)) fun f11 => x_p_Ro_addTwo o1 f11 t_S4 (fun t_S23 => rdr t_S23 a_u 0 fun o13 => cond (Nat.beq o13 1000000) false <| and (Nat.beq (clx o13) 9) <| x_p_Ro_add o13 8 t_S23 (fun t_S32 => rdr t_S32 a_u 0 fun o17 => cond (Nat.beq o17 1000000) false <| rdr t_S32 a_u 2 fun o20 => cond (Nat.beq o20 1000000) false <| and (Nat.beq (clx o20) 7) <| and (Nat.beq (clx o17) 9) <| rdi t_S32 o20 1 fun v25 => x_p_Ro_addTwo o17 v25 t_S32 (fun t_S46 => rdr t_S46 a_u 0 fun o27 => cond (Nat.beq o27 1000000) false <| rdr t_S46 a_u 2 fun o30 => cond (Nat.beq o30 1000000) false <| and (Nat.beq (clx o30) 7) <| and (Nat.beq (clx o27) 9) <| rdi t_S46 o30 0 fun v35 => x_p_Ro_addTwo o27 v35 t_S46 (fun t_S60 => rdr t_S60 a_u 0 fun o37 => cond (Nat.beq o37 1000000) false <| rdr t_S60 a_u 2 fun o40 => cond (Nat.beq o40 1000000) false <| and (Nat.beq (clx o40) 7) <| and (Nat.beq (clx o37) 9) <| rdi t_S60 o40 2 fun v45 => x_p_Ro_add o37 v45 t_S60 (fun t_S74 => x_e_Pa_writeFrame_79 a_u 0 t_S74 k_K))))))
set_option maxRecDepth 20000 in
set_option maxHeartbeats 1000000 in
theorem xs_p_Pa_writeFrame {u a_u : Nat} {S : cs} {t : X8} {K : cs → Prop} {k_K : X8 → Bool} (h : x_p_Pa_writeFrame a_u t k_K = true) (e_u : u = a_u) (hS : RC S t) (hK : ∀ {yS : cs} {yt : X8}, k_K yt = true → RC yS yt → K yS) : p_Pa_writeFrame UL u S K := by
  unfold p_Pa_writeFrame
  unfold x_p_Pa_writeFrame at h
  refine xs_p_Pa_addMark h e_u ((rfl : (192 : Int32) = Int32.ofNat 192)) hS (fun h h_S4 => ?_)
  obtain ⟨o1, h, q2⟩ := rdr_ok h h_S4 e_u
  obtain ⟨n3, h⟩ := nu_ok h
  refine ⟨nu_no n3 q2, ?_⟩
  obtain ⟨o4, h, q5⟩ := rdr_ok h h_S4 e_u
  obtain ⟨n6, h⟩ := nu_ok h
  refine ⟨nu_no n6 q5, ?_⟩
  obtain ⟨n7, h⟩ := an_ok h
  refine ⟨cl_ok n7 q5 (by decide), ?_⟩
  obtain ⟨n8, h⟩ := an_ok h
  refine ⟨cl_ok n8 q2 (by decide), ?_⟩
  obtain ⟨v9, h, q10⟩ := rdi_ok h h_S4 q5
  have h := frc_ok h
  have p12 := n_add ((rfl : (8 : Int32) = Int32.ofNat 8)) (n_mul ((rfl : (3 : Int32) = Int32.ofNat 3)) q10)
  refine xs_p_Ro_addTwo h q2 p12 h_S4 (fun h h_S23 => ?_)
  obtain ⟨o13, h, q14⟩ := rdr_ok h h_S23 e_u
  obtain ⟨n15, h⟩ := nu_ok h
  refine ⟨nu_no n15 q14, ?_⟩
  obtain ⟨n16, h⟩ := an_ok h
  refine ⟨cl_ok n16 q14 (by decide), ?_⟩
  refine xs_p_Ro_add h q14 ((rfl : (8 : Int32) = Int32.ofNat 8)) h_S23 (fun h h_S32 => ?_)
  obtain ⟨o17, h, q18⟩ := rdr_ok h h_S32 e_u
  obtain ⟨n19, h⟩ := nu_ok h
  refine ⟨nu_no n19 q18, ?_⟩
  obtain ⟨o20, h, q21⟩ := rdr_ok h h_S32 e_u
  obtain ⟨n22, h⟩ := nu_ok h
  refine ⟨nu_no n22 q21, ?_⟩
  obtain ⟨n23, h⟩ := an_ok h
  refine ⟨cl_ok n23 q21 (by decide), ?_⟩
  obtain ⟨n24, h⟩ := an_ok h
  refine ⟨cl_ok n24 q18 (by decide), ?_⟩
  obtain ⟨v25, h, q26⟩ := rdi_ok h h_S32 q21
  refine xs_p_Ro_addTwo h q18 q26 h_S32 (fun h h_S46 => ?_)
  obtain ⟨o27, h, q28⟩ := rdr_ok h h_S46 e_u
  obtain ⟨n29, h⟩ := nu_ok h
  refine ⟨nu_no n29 q28, ?_⟩
  obtain ⟨o30, h, q31⟩ := rdr_ok h h_S46 e_u
  obtain ⟨n32, h⟩ := nu_ok h
  refine ⟨nu_no n32 q31, ?_⟩
  obtain ⟨n33, h⟩ := an_ok h
  refine ⟨cl_ok n33 q31 (by decide), ?_⟩
  obtain ⟨n34, h⟩ := an_ok h
  refine ⟨cl_ok n34 q28 (by decide), ?_⟩
  obtain ⟨v35, h, q36⟩ := rdi_ok h h_S46 q31
  refine xs_p_Ro_addTwo h q28 q36 h_S46 (fun h h_S60 => ?_)
  obtain ⟨o37, h, q38⟩ := rdr_ok h h_S60 e_u
  obtain ⟨n39, h⟩ := nu_ok h
  refine ⟨nu_no n39 q38, ?_⟩
  obtain ⟨o40, h, q41⟩ := rdr_ok h h_S60 e_u
  obtain ⟨n42, h⟩ := nu_ok h
  refine ⟨nu_no n42 q41, ?_⟩
  obtain ⟨n43, h⟩ := an_ok h
  refine ⟨cl_ok n43 q41 (by decide), ?_⟩
  obtain ⟨n44, h⟩ := an_ok h
  refine ⟨cl_ok n44 q38 (by decide), ?_⟩
  obtain ⟨v45, h, q46⟩ := rdi_ok h h_S60 q41
  refine xs_p_Ro_add h q38 q46 h_S60 (fun h h_S74 => ?_)
  exact xs_e_Pa_writeFrame_79 h e_u ((rfl : (0 : Int32) = Int32.ofNat 0)) h_S74 hK
noncomputable def x_b_Pa_writeOwnCodes_37 (a_u : Nat) (a_x2 : Nat) (a_x3 : Nat) (t : X8) (r_R37 : Nat → Nat → X8 → Bool) (k_K : X8 → Bool) : Bool :=
  and (Nat.beq (clx a_x2) 5) <| rdi t a_x2 4 fun v2 => cond (!(w_lt a_x3 v2)) (k_K t) (rdr t a_u 0 fun o5 => cond (Nat.beq o5 1000000) false <| rdr t a_x2 3 fun o8 => cond (Nat.beq o8 1000000) false <| and (Nat.beq (clx o8) 902) <| and (Nat.blt a_x3 (lnx o8)) <| and (Nat.beq (clx o5) 9) <| rda t o8 a_x3 fun v14 => x_p_Ro_add o5 v14 t (fun t_S55 => frc (w_add a_x3 1) fun f16 => r_R37 a_x2 f16 t_S55))
set_option maxRecDepth 20000 in
set_option maxHeartbeats 1000000 in
theorem xs_b_Pa_writeOwnCodes_37 {u a_u : Nat} {x2 a_x2 : Nat} {x3 : Int32} {a_x3 : Nat} {S : cs} {t : X8} {R37 : Nat → Int32 → cs → Prop} {r_R37 : Nat → Nat → X8 → Bool} {K : cs → Prop} {k_K : X8 → Bool} (h : x_b_Pa_writeOwnCodes_37 a_u a_x2 a_x3 t r_R37 k_K = true) (e_u : u = a_u) (e_x2 : x2 = a_x2) (e_x3 : x3 = Int32.ofNat a_x3) (hS : RC S t) (hR37 : ∀ {y0 b0 : Nat} {y1 : Int32} {b1 : Nat} {yS : cs} {yt : X8}, r_R37 b0 b1 yt = true → y0 = b0 → y1 = Int32.ofNat b1 → RC yS yt → R37 y0 y1 yS) (hK : ∀ {yS : cs} {yt : X8}, k_K yt = true → RC yS yt → K yS) : b_Pa_writeOwnCodes_37 UL u x2 x3 S R37 K := by
  unfold b_Pa_writeOwnCodes_37
  unfold x_b_Pa_writeOwnCodes_37 at h
  obtain ⟨n1, h⟩ := an_ok h
  refine ⟨cl_ok n1 e_x2 (by decide), ?_⟩
  obtain ⟨v2, h, q3⟩ := rdi_ok h hS e_x2
  have hc4 := c_le' q3 e_x3
  refine ⟨fun hc => ?_, fun hc => ?_⟩
  · have h := x_pos h (hc4.mp hc)
    exact hK h hS
  · have h := x_neg h (fun q => hc (hc4.mpr q))
    obtain ⟨o5, h, q6⟩ := rdr_ok h hS e_u
    obtain ⟨n7, h⟩ := nu_ok h
    refine ⟨nu_no n7 q6, ?_⟩
    obtain ⟨o8, h, q9⟩ := rdr_ok h hS e_x2
    obtain ⟨n10, h⟩ := nu_ok h
    refine ⟨nu_no n10 q9, ?_⟩
    obtain ⟨n11, h⟩ := an_ok h
    refine ⟨cl_ok n11 q9 (by decide), ?_⟩
    obtain ⟨n12, h⟩ := an_ok h
    refine ⟨vpc_ok n12 e_x3 q9, ?_⟩
    obtain ⟨n13, h⟩ := an_ok h
    refine ⟨cl_ok n13 q6 (by decide), ?_⟩
    obtain ⟨v14, h, q15⟩ := rda_ok h hS q9 e_x3
    refine xs_p_Ro_add h q6 q15 hS (fun h h_S55 => ?_)
    have h := frc_ok h
    have p17 := n_add e_x3 ((rfl : (1 : Int32) = Int32.ofNat 1))
    exact hR37 h e_x2 p17 h_S55
noncomputable def xl_e_Pa_writeOwnCodes_37 (a_u : Nat) (k_K : X8 → Bool) (n : Nat) : Nat → Nat → X8 → Bool := Nat.rec (motive := fun _ => Nat → Nat → X8 → Bool) (fun _ _ _ => false) (fun _ ih b_x2 b_x3 bt => x_b_Pa_writeOwnCodes_37 a_u b_x2 b_x3 bt ih k_K) n
noncomputable def x_e_Pa_writeOwnCodes_37 (a_u : Nat) (a_x2 : Nat) (a_x3 : Nat) (t : X8) (k_K : X8 → Bool) : Bool := xl_e_Pa_writeOwnCodes_37 a_u k_K 200000 a_x2 a_x3 t
def xq_e_Pa_writeOwnCodes_37 (a_u : Nat) (k_K : X8 → Bool) (n : Nat) (y_x2 : Nat) (y_x3 : Int32) (yS : cs) : Prop := ∃ (b_x2 : Nat) (b_x3 : Nat) (bt : X8), y_x2 = b_x2 ∧ y_x3 = Int32.ofNat b_x3 ∧ RC yS bt ∧ xl_e_Pa_writeOwnCodes_37 a_u k_K n b_x2 b_x3 bt = true
set_option maxRecDepth 20000 in
theorem xs_e_Pa_writeOwnCodes_37 {u a_u : Nat} {x2 a_x2 : Nat} {x3 : Int32} {a_x3 : Nat} {S : cs} {t : X8} {K : cs → Prop} {k_K : X8 → Bool} (h : x_e_Pa_writeOwnCodes_37 a_u a_x2 a_x3 t k_K = true) (e_u : u = a_u) (e_x2 : x2 = a_x2) (e_x3 : x3 = Int32.ofNat a_x3) (hS : RC S t) (hK : ∀ {yS : cs} {yt : X8}, k_K yt = true → RC yS yt → K yS) : e_Pa_writeOwnCodes_37 UL u x2 x3 S K := by
  refine ⟨fun y_x2 y_x3 yS => ∃ n, xq_e_Pa_writeOwnCodes_37 a_u k_K n y_x2 y_x3 yS, fun y_x2 y_x3 yS => mf (fun n => xq_e_Pa_writeOwnCodes_37 a_u k_K n y_x2 y_x3 yS), ⟨200000, a_x2, a_x3, t, e_x2, e_x3, hS, h⟩, fun y_x2 y_x3 yS hI => ?_⟩
  obtain ⟨m, hm, hq⟩ := mf_ok hI
  obtain ⟨b_x2, b_x3, bt, c_x2, c_x3, cS, h⟩ := hq
  cases m with
  | zero => exact absurd h Bool.false_ne_true
  | succ n => exact xs_b_Pa_writeOwnCodes_37 h e_u c_x2 c_x3 cS (fun h d_x2 d_x3 dS => ⟨⟨n, _, _, _, d_x2, d_x3, dS, h⟩, Nat.lt_of_le_of_lt (mf_le ⟨_, _, _, d_x2, d_x3, dS, h⟩) (Nat.lt_of_lt_of_eq (Nat.lt_succ_self n) hm.symm)⟩) hK
noncomputable def x_b_Pa_writeOwnCodes_10 (a_u : Nat) (a_x2 : Nat) (a_x3 : Nat) (t : X8) (r_R10 : Nat → Nat → X8 → Bool) (k_K : X8 → Bool) : Bool :=
  cond (w_lt 16 a_x3) (x_e_Pa_writeOwnCodes_37 a_u a_x2 0 t k_K) (rdr t a_u 0 fun o2 => cond (Nat.beq o2 1000000) false <| and (Nat.beq (clx a_x2) 5) <| rdr t a_x2 5 fun o6 => cond (Nat.beq o6 1000000) false <| and (Nat.beq (clx o6) 902) <| and (Nat.blt a_x3 (lnx o6)) <| and (Nat.beq (clx o2) 9) <| rda t o6 a_x3 fun v12 => x_p_Ro_add o2 v12 t (fun t_S26 => frc (w_add a_x3 1) fun f14 => r_R10 a_x2 f14 t_S26))
set_option maxRecDepth 20000 in
set_option maxHeartbeats 1000000 in
theorem xs_b_Pa_writeOwnCodes_10 {u a_u : Nat} {x2 a_x2 : Nat} {x3 : Int32} {a_x3 : Nat} {S : cs} {t : X8} {R10 : Nat → Int32 → cs → Prop} {r_R10 : Nat → Nat → X8 → Bool} {K : cs → Prop} {k_K : X8 → Bool} (h : x_b_Pa_writeOwnCodes_10 a_u a_x2 a_x3 t r_R10 k_K = true) (e_u : u = a_u) (e_x2 : x2 = a_x2) (e_x3 : x3 = Int32.ofNat a_x3) (hS : RC S t) (hR10 : ∀ {y0 b0 : Nat} {y1 : Int32} {b1 : Nat} {yS : cs} {yt : X8}, r_R10 b0 b1 yt = true → y0 = b0 → y1 = Int32.ofNat b1 → RC yS yt → R10 y0 y1 yS) (hK : ∀ {yS : cs} {yt : X8}, k_K yt = true → RC yS yt → K yS) : b_Pa_writeOwnCodes_10 UL u x2 x3 S R10 K := by
  unfold b_Pa_writeOwnCodes_10
  unfold x_b_Pa_writeOwnCodes_10 at h
  have hc1 := c_lt' ((rfl : (16 : Int32) = Int32.ofNat 16)) e_x3
  refine ⟨fun hc => ?_, fun hc => ?_⟩
  · have h := x_pos h (hc1.mp hc)
    exact xs_e_Pa_writeOwnCodes_37 h e_u e_x2 ((rfl : (0 : Int32) = Int32.ofNat 0)) hS hK
  · have h := x_neg h (fun q => hc (hc1.mpr q))
    obtain ⟨o2, h, q3⟩ := rdr_ok h hS e_u
    obtain ⟨n4, h⟩ := nu_ok h
    refine ⟨nu_no n4 q3, ?_⟩
    obtain ⟨n5, h⟩ := an_ok h
    refine ⟨cl_ok n5 e_x2 (by decide), ?_⟩
    obtain ⟨o6, h, q7⟩ := rdr_ok h hS e_x2
    obtain ⟨n8, h⟩ := nu_ok h
    refine ⟨nu_no n8 q7, ?_⟩
    obtain ⟨n9, h⟩ := an_ok h
    refine ⟨cl_ok n9 q7 (by decide), ?_⟩
    obtain ⟨n10, h⟩ := an_ok h
    refine ⟨vpc_ok n10 e_x3 q7, ?_⟩
    obtain ⟨n11, h⟩ := an_ok h
    refine ⟨cl_ok n11 q3 (by decide), ?_⟩
    obtain ⟨v12, h, q13⟩ := rda_ok h hS q7 e_x3
    refine xs_p_Ro_add h q3 q13 hS (fun h h_S26 => ?_)
    have h := frc_ok h
    have p15 := n_add e_x3 ((rfl : (1 : Int32) = Int32.ofNat 1))
    exact hR10 h e_x2 p15 h_S26
noncomputable def xl_e_Pa_writeOwnCodes_10 (a_u : Nat) (k_K : X8 → Bool) (n : Nat) : Nat → Nat → X8 → Bool := Nat.rec (motive := fun _ => Nat → Nat → X8 → Bool) (fun _ _ _ => false) (fun _ ih b_x2 b_x3 bt => x_b_Pa_writeOwnCodes_10 a_u b_x2 b_x3 bt ih k_K) n
noncomputable def x_e_Pa_writeOwnCodes_10 (a_u : Nat) (a_x2 : Nat) (a_x3 : Nat) (t : X8) (k_K : X8 → Bool) : Bool := xl_e_Pa_writeOwnCodes_10 a_u k_K 200000 a_x2 a_x3 t
def xq_e_Pa_writeOwnCodes_10 (a_u : Nat) (k_K : X8 → Bool) (n : Nat) (y_x2 : Nat) (y_x3 : Int32) (yS : cs) : Prop := ∃ (b_x2 : Nat) (b_x3 : Nat) (bt : X8), y_x2 = b_x2 ∧ y_x3 = Int32.ofNat b_x3 ∧ RC yS bt ∧ xl_e_Pa_writeOwnCodes_10 a_u k_K n b_x2 b_x3 bt = true
set_option maxRecDepth 20000 in
theorem xs_e_Pa_writeOwnCodes_10 {u a_u : Nat} {x2 a_x2 : Nat} {x3 : Int32} {a_x3 : Nat} {S : cs} {t : X8} {K : cs → Prop} {k_K : X8 → Bool} (h : x_e_Pa_writeOwnCodes_10 a_u a_x2 a_x3 t k_K = true) (e_u : u = a_u) (e_x2 : x2 = a_x2) (e_x3 : x3 = Int32.ofNat a_x3) (hS : RC S t) (hK : ∀ {yS : cs} {yt : X8}, k_K yt = true → RC yS yt → K yS) : e_Pa_writeOwnCodes_10 UL u x2 x3 S K := by
  refine ⟨fun y_x2 y_x3 yS => ∃ n, xq_e_Pa_writeOwnCodes_10 a_u k_K n y_x2 y_x3 yS, fun y_x2 y_x3 yS => mf (fun n => xq_e_Pa_writeOwnCodes_10 a_u k_K n y_x2 y_x3 yS), ⟨200000, a_x2, a_x3, t, e_x2, e_x3, hS, h⟩, fun y_x2 y_x3 yS hI => ?_⟩
  obtain ⟨m, hm, hq⟩ := mf_ok hI
  obtain ⟨b_x2, b_x3, bt, c_x2, c_x3, cS, h⟩ := hq
  cases m with
  | zero => exact absurd h Bool.false_ne_true
  | succ n => exact xs_b_Pa_writeOwnCodes_10 h e_u c_x2 c_x3 cS (fun h d_x2 d_x3 dS => ⟨⟨n, _, _, _, d_x2, d_x3, dS, h⟩, Nat.lt_of_le_of_lt (mf_le ⟨_, _, _, d_x2, d_x3, dS, h⟩) (Nat.lt_of_lt_of_eq (Nat.lt_succ_self n) hm.symm)⟩) hK
noncomputable def x_p_Pa_writeOwnCodes (a_u : Nat) (a_x1 : Nat) (a_x2 : Nat) (t : X8) (k_K : X8 → Bool) : Bool :=
  rdr t a_u 0 fun o1 => cond (Nat.beq o1 1000000) false <| and (Nat.beq (clx o1) 9) <| x_p_Ro_add o1 a_x1 t (fun t_S5 => x_e_Pa_writeOwnCodes_10 a_u a_x2 1 t_S5 k_K)
set_option maxRecDepth 20000 in
set_option maxHeartbeats 1000000 in
theorem xs_p_Pa_writeOwnCodes {u a_u : Nat} {x1 : Int32} {a_x1 : Nat} {x2 a_x2 : Nat} {S : cs} {t : X8} {K : cs → Prop} {k_K : X8 → Bool} (h : x_p_Pa_writeOwnCodes a_u a_x1 a_x2 t k_K = true) (e_u : u = a_u) (e_x1 : x1 = Int32.ofNat a_x1) (e_x2 : x2 = a_x2) (hS : RC S t) (hK : ∀ {yS : cs} {yt : X8}, k_K yt = true → RC yS yt → K yS) : p_Pa_writeOwnCodes UL u x1 x2 S K := by
  unfold p_Pa_writeOwnCodes
  unfold x_p_Pa_writeOwnCodes at h
  obtain ⟨o1, h, q2⟩ := rdr_ok h hS e_u
  obtain ⟨n3, h⟩ := nu_ok h
  refine ⟨nu_no n3 q2, ?_⟩
  obtain ⟨n4, h⟩ := an_ok h
  refine ⟨cl_ok n4 q2 (by decide), ?_⟩
  refine xs_p_Ro_add h q2 e_x1 hS (fun h h_S5 => ?_)
  exact xs_e_Pa_writeOwnCodes_10 h e_u e_x2 ((rfl : (1 : Int32) = Int32.ofNat 1)) h_S5 hK
noncomputable def x_b_Pa_writeCodes_60 (a_u : Nat) (a_x2 : Nat) (t : X8) (r_R60 : Nat → X8 → Bool) (k_K : X8 → Bool) : Bool :=
  rdi t a_u 8 fun v1 => cond (!(w_lt a_x2 v1)) (k_K t) (rdr t a_u 5 fun o4 => cond (Nat.beq o4 1000000) false <| and (Nat.beq (clx o4) 950) <| and (Nat.blt a_x2 (lnx o4)) <| rdra t o4 a_x2 fun o9 => cond (Nat.beq o9 1000000) false <| x_p_Pa_writeOwnCodes a_u a_x2 o9 t (fun t_S76 => rdr t_S76 a_u 6 fun o12 => cond (Nat.beq o12 1000000) false <| and (Nat.beq (clx o12) 950) <| and (Nat.blt a_x2 (lnx o12)) <| rdra t_S76 o12 a_x2 fun o17 => cond (Nat.beq o17 1000000) false <| frc (w_add 16 a_x2) fun f20 => x_p_Pa_writeOwnCodes a_u f20 o17 t_S76 (fun t_S90 => frc (w_add a_x2 1) fun f22 => r_R60 f22 t_S90)))
set_option maxRecDepth 20000 in
set_option maxHeartbeats 1000000 in
theorem xs_b_Pa_writeCodes_60 {u a_u : Nat} {x2 : Int32} {a_x2 : Nat} {S : cs} {t : X8} {R60 : Int32 → cs → Prop} {r_R60 : Nat → X8 → Bool} {K : cs → Prop} {k_K : X8 → Bool} (h : x_b_Pa_writeCodes_60 a_u a_x2 t r_R60 k_K = true) (e_u : u = a_u) (e_x2 : x2 = Int32.ofNat a_x2) (hS : RC S t) (hR60 : ∀ {y0 : Int32} {b0 : Nat} {yS : cs} {yt : X8}, r_R60 b0 yt = true → y0 = Int32.ofNat b0 → RC yS yt → R60 y0 yS) (hK : ∀ {yS : cs} {yt : X8}, k_K yt = true → RC yS yt → K yS) : b_Pa_writeCodes_60 UL u x2 S R60 K := by
  unfold b_Pa_writeCodes_60
  unfold x_b_Pa_writeCodes_60 at h
  obtain ⟨v1, h, q2⟩ := rdi_ok h hS e_u
  have hc3 := c_le' q2 e_x2
  refine ⟨fun hc => ?_, fun hc => ?_⟩
  · have h := x_pos h (hc3.mp hc)
    exact hK h hS
  · have h := x_neg h (fun q => hc (hc3.mpr q))
    obtain ⟨o4, h, q5⟩ := rdr_ok h hS e_u
    obtain ⟨n6, h⟩ := nu_ok h
    refine ⟨nu_no n6 q5, ?_⟩
    obtain ⟨n7, h⟩ := an_ok h
    refine ⟨cl_ok n7 q5 (by decide), ?_⟩
    obtain ⟨n8, h⟩ := an_ok h
    refine ⟨vpc_ok n8 e_x2 q5, ?_⟩
    obtain ⟨o9, h, q10⟩ := rdra_ok h hS q5 e_x2
    obtain ⟨n11, h⟩ := nu_ok h
    refine ⟨nu_no n11 q10, ?_⟩
    refine xs_p_Pa_writeOwnCodes h e_u e_x2 q10 hS (fun h h_S76 => ?_)
    obtain ⟨o12, h, q13⟩ := rdr_ok h h_S76 e_u
    obtain ⟨n14, h⟩ := nu_ok h
    refine ⟨nu_no n14 q13, ?_⟩
    obtain ⟨n15, h⟩ := an_ok h
    refine ⟨cl_ok n15 q13 (by decide), ?_⟩
    obtain ⟨n16, h⟩ := an_ok h
    refine ⟨vpc_ok n16 e_x2 q13, ?_⟩
    obtain ⟨o17, h, q18⟩ := rdra_ok h h_S76 q13 e_x2
    obtain ⟨n19, h⟩ := nu_ok h
    refine ⟨nu_no n19 q18, ?_⟩
    have h := frc_ok h
    have p21 := n_add ((rfl : (16 : Int32) = Int32.ofNat 16)) e_x2
    refine xs_p_Pa_writeOwnCodes h e_u p21 q18 h_S76 (fun h h_S90 => ?_)
    have h := frc_ok h
    have p23 := n_add e_x2 ((rfl : (1 : Int32) = Int32.ofNat 1))
    exact hR60 h p23 h_S90
noncomputable def xl_e_Pa_writeCodes_60 (a_u : Nat) (k_K : X8 → Bool) (n : Nat) : Nat → X8 → Bool := Nat.rec (motive := fun _ => Nat → X8 → Bool) (fun _ _ => false) (fun _ ih b_x2 bt => x_b_Pa_writeCodes_60 a_u b_x2 bt ih k_K) n
noncomputable def x_e_Pa_writeCodes_60 (a_u : Nat) (a_x2 : Nat) (t : X8) (k_K : X8 → Bool) : Bool := xl_e_Pa_writeCodes_60 a_u k_K 200000 a_x2 t
def xq_e_Pa_writeCodes_60 (a_u : Nat) (k_K : X8 → Bool) (n : Nat) (y_x2 : Int32) (yS : cs) : Prop := ∃ (b_x2 : Nat) (bt : X8), y_x2 = Int32.ofNat b_x2 ∧ RC yS bt ∧ xl_e_Pa_writeCodes_60 a_u k_K n b_x2 bt = true
set_option maxRecDepth 20000 in
theorem xs_e_Pa_writeCodes_60 {u a_u : Nat} {x2 : Int32} {a_x2 : Nat} {S : cs} {t : X8} {K : cs → Prop} {k_K : X8 → Bool} (h : x_e_Pa_writeCodes_60 a_u a_x2 t k_K = true) (e_u : u = a_u) (e_x2 : x2 = Int32.ofNat a_x2) (hS : RC S t) (hK : ∀ {yS : cs} {yt : X8}, k_K yt = true → RC yS yt → K yS) : e_Pa_writeCodes_60 UL u x2 S K := by
  refine ⟨fun y_x2 yS => ∃ n, xq_e_Pa_writeCodes_60 a_u k_K n y_x2 yS, fun y_x2 yS => mf (fun n => xq_e_Pa_writeCodes_60 a_u k_K n y_x2 yS), ⟨200000, a_x2, t, e_x2, hS, h⟩, fun y_x2 yS hI => ?_⟩
  obtain ⟨m, hm, hq⟩ := mf_ok hI
  obtain ⟨b_x2, bt, c_x2, cS, h⟩ := hq
  cases m with
  | zero => exact absurd h Bool.false_ne_true
  | succ n => exact xs_b_Pa_writeCodes_60 h e_u c_x2 cS (fun h d_x2 dS => ⟨⟨n, _, _, d_x2, dS, h⟩, Nat.lt_of_le_of_lt (mf_le ⟨_, _, d_x2, dS, h⟩) (Nat.lt_of_lt_of_eq (Nat.lt_succ_self n) hm.symm)⟩) hK
noncomputable def x_b_Pa_writeCodes_4 (a_u : Nat) (a_x1 : Nat) (a_x2 : Nat) (t : X8) (r_R4 : Nat → Nat → X8 → Bool) (k_K : X8 → Bool) : Bool :=
  rdi t a_u 8 fun v1 => cond (!(w_lt a_x2 v1)) (x_p_Pa_addMark a_u 196 t (fun t_S47 => rdr t_S47 a_u 0 fun o4 => cond (Nat.beq o4 1000000) false <| and (Nat.beq (clx o4) 9) <| x_p_Ro_addTwo o4 a_x1 t_S47 (fun t_S55 => x_e_Pa_writeCodes_60 a_u 0 t_S55 k_K))) (rdr t a_u 5 fun o8 => cond (Nat.beq o8 1000000) false <| and (Nat.beq (clx o8) 950) <| and (Nat.blt a_x2 (lnx o8)) <| rdra t o8 a_x2 fun o13 => cond (Nat.beq o13 1000000) false <| and (Nat.beq (clx o13) 5) <| rdr t a_u 6 fun o17 => cond (Nat.beq o17 1000000) false <| and (Nat.beq (clx o17) 950) <| and (Nat.blt a_x2 (lnx o17)) <| rdra t o17 a_x2 fun o22 => cond (Nat.beq o22 1000000) false <| and (Nat.beq (clx o22) 5) <| rdi t o13 4 fun v26 => rdi t o22 4 fun v28 => frc (w_add a_x1 (w_add (w_add 34 v26) v28)) fun f30 => frc (w_add a_x2 1) fun f32 => r_R4 f30 f32 t)
set_option maxRecDepth 20000 in
set_option maxHeartbeats 1000000 in
theorem xs_b_Pa_writeCodes_4 {u a_u : Nat} {x1 : Int32} {a_x1 : Nat} {x2 : Int32} {a_x2 : Nat} {S : cs} {t : X8} {R4 : Int32 → Int32 → cs → Prop} {r_R4 : Nat → Nat → X8 → Bool} {K : cs → Prop} {k_K : X8 → Bool} (h : x_b_Pa_writeCodes_4 a_u a_x1 a_x2 t r_R4 k_K = true) (e_u : u = a_u) (e_x1 : x1 = Int32.ofNat a_x1) (e_x2 : x2 = Int32.ofNat a_x2) (hS : RC S t) (hR4 : ∀ {y0 : Int32} {b0 : Nat} {y1 : Int32} {b1 : Nat} {yS : cs} {yt : X8}, r_R4 b0 b1 yt = true → y0 = Int32.ofNat b0 → y1 = Int32.ofNat b1 → RC yS yt → R4 y0 y1 yS) (hK : ∀ {yS : cs} {yt : X8}, k_K yt = true → RC yS yt → K yS) : b_Pa_writeCodes_4 UL u x1 x2 S R4 K := by
  unfold b_Pa_writeCodes_4
  unfold x_b_Pa_writeCodes_4 at h
  obtain ⟨v1, h, q2⟩ := rdi_ok h hS e_u
  have hc3 := c_le' q2 e_x2
  refine ⟨fun hc => ?_, fun hc => ?_⟩
  · have h := x_pos h (hc3.mp hc)
    refine xs_p_Pa_addMark h e_u ((rfl : (196 : Int32) = Int32.ofNat 196)) hS (fun h h_S47 => ?_)
    obtain ⟨o4, h, q5⟩ := rdr_ok h h_S47 e_u
    obtain ⟨n6, h⟩ := nu_ok h
    refine ⟨nu_no n6 q5, ?_⟩
    obtain ⟨n7, h⟩ := an_ok h
    refine ⟨cl_ok n7 q5 (by decide), ?_⟩
    refine xs_p_Ro_addTwo h q5 e_x1 h_S47 (fun h h_S55 => ?_)
    exact xs_e_Pa_writeCodes_60 h e_u ((rfl : (0 : Int32) = Int32.ofNat 0)) h_S55 hK
  · have h := x_neg h (fun q => hc (hc3.mpr q))
    obtain ⟨o8, h, q9⟩ := rdr_ok h hS e_u
    obtain ⟨n10, h⟩ := nu_ok h
    refine ⟨nu_no n10 q9, ?_⟩
    obtain ⟨n11, h⟩ := an_ok h
    refine ⟨cl_ok n11 q9 (by decide), ?_⟩
    obtain ⟨n12, h⟩ := an_ok h
    refine ⟨vpc_ok n12 e_x2 q9, ?_⟩
    obtain ⟨o13, h, q14⟩ := rdra_ok h hS q9 e_x2
    obtain ⟨n15, h⟩ := nu_ok h
    refine ⟨nu_no n15 q14, ?_⟩
    obtain ⟨n16, h⟩ := an_ok h
    refine ⟨cl_ok n16 q14 (by decide), ?_⟩
    obtain ⟨o17, h, q18⟩ := rdr_ok h hS e_u
    obtain ⟨n19, h⟩ := nu_ok h
    refine ⟨nu_no n19 q18, ?_⟩
    obtain ⟨n20, h⟩ := an_ok h
    refine ⟨cl_ok n20 q18 (by decide), ?_⟩
    obtain ⟨n21, h⟩ := an_ok h
    refine ⟨vpc_ok n21 e_x2 q18, ?_⟩
    obtain ⟨o22, h, q23⟩ := rdra_ok h hS q18 e_x2
    obtain ⟨n24, h⟩ := nu_ok h
    refine ⟨nu_no n24 q23, ?_⟩
    obtain ⟨n25, h⟩ := an_ok h
    refine ⟨cl_ok n25 q23 (by decide), ?_⟩
    obtain ⟨v26, h, q27⟩ := rdi_ok h hS q14
    obtain ⟨v28, h, q29⟩ := rdi_ok h hS q23
    have h := frc_ok h
    have p31 := n_add e_x1 (n_add (n_add ((rfl : (34 : Int32) = Int32.ofNat 34)) q27) q29)
    have h := frc_ok h
    have p33 := n_add e_x2 ((rfl : (1 : Int32) = Int32.ofNat 1))
    exact hR4 h p31 p33 hS
noncomputable def xl_e_Pa_writeCodes_4 (a_u : Nat) (k_K : X8 → Bool) (n : Nat) : Nat → Nat → X8 → Bool := Nat.rec (motive := fun _ => Nat → Nat → X8 → Bool) (fun _ _ _ => false) (fun _ ih b_x1 b_x2 bt => x_b_Pa_writeCodes_4 a_u b_x1 b_x2 bt ih k_K) n
noncomputable def x_e_Pa_writeCodes_4 (a_u : Nat) (a_x1 : Nat) (a_x2 : Nat) (t : X8) (k_K : X8 → Bool) : Bool := xl_e_Pa_writeCodes_4 a_u k_K 200000 a_x1 a_x2 t
def xq_e_Pa_writeCodes_4 (a_u : Nat) (k_K : X8 → Bool) (n : Nat) (y_x1 : Int32) (y_x2 : Int32) (yS : cs) : Prop := ∃ (b_x1 : Nat) (b_x2 : Nat) (bt : X8), y_x1 = Int32.ofNat b_x1 ∧ y_x2 = Int32.ofNat b_x2 ∧ RC yS bt ∧ xl_e_Pa_writeCodes_4 a_u k_K n b_x1 b_x2 bt = true
set_option maxRecDepth 20000 in
theorem xs_e_Pa_writeCodes_4 {u a_u : Nat} {x1 : Int32} {a_x1 : Nat} {x2 : Int32} {a_x2 : Nat} {S : cs} {t : X8} {K : cs → Prop} {k_K : X8 → Bool} (h : x_e_Pa_writeCodes_4 a_u a_x1 a_x2 t k_K = true) (e_u : u = a_u) (e_x1 : x1 = Int32.ofNat a_x1) (e_x2 : x2 = Int32.ofNat a_x2) (hS : RC S t) (hK : ∀ {yS : cs} {yt : X8}, k_K yt = true → RC yS yt → K yS) : e_Pa_writeCodes_4 UL u x1 x2 S K := by
  refine ⟨fun y_x1 y_x2 yS => ∃ n, xq_e_Pa_writeCodes_4 a_u k_K n y_x1 y_x2 yS, fun y_x1 y_x2 yS => mf (fun n => xq_e_Pa_writeCodes_4 a_u k_K n y_x1 y_x2 yS), ⟨200000, a_x1, a_x2, t, e_x1, e_x2, hS, h⟩, fun y_x1 y_x2 yS hI => ?_⟩
  obtain ⟨m, hm, hq⟩ := mf_ok hI
  obtain ⟨b_x1, b_x2, bt, c_x1, c_x2, cS, h⟩ := hq
  cases m with
  | zero => exact absurd h Bool.false_ne_true
  | succ n => exact xs_b_Pa_writeCodes_4 h e_u c_x1 c_x2 cS (fun h d_x1 d_x2 dS => ⟨⟨n, _, _, _, d_x1, d_x2, dS, h⟩, Nat.lt_of_le_of_lt (mf_le ⟨_, _, _, d_x1, d_x2, dS, h⟩) (Nat.lt_of_lt_of_eq (Nat.lt_succ_self n) hm.symm)⟩) hK
noncomputable def x_p_Pa_writeCodes (a_u : Nat) (t : X8) (k_K : X8 → Bool) : Bool :=
  x_e_Pa_writeCodes_4 a_u 2 0 t k_K
set_option maxRecDepth 20000 in
set_option maxHeartbeats 1000000 in
theorem xs_p_Pa_writeCodes {u a_u : Nat} {S : cs} {t : X8} {K : cs → Prop} {k_K : X8 → Bool} (h : x_p_Pa_writeCodes a_u t k_K = true) (e_u : u = a_u) (hS : RC S t) (hK : ∀ {yS : cs} {yt : X8}, k_K yt = true → RC yS yt → K yS) : p_Pa_writeCodes UL u S K := by
  unfold p_Pa_writeCodes
  unfold x_p_Pa_writeCodes at h
  exact xs_e_Pa_writeCodes_4 h e_u ((rfl : (2 : Int32) = Int32.ofNat 2)) ((rfl : (0 : Int32) = Int32.ofNat 0)) hS hK
noncomputable def x_b_Pa_writeScan_42 (a_u : Nat) (a_x1 : Nat) (t : X8) (r_R42 : Nat → X8 → Bool) (k_K : X8 → Bool) : Bool :=
  rdr t a_u 2 fun o1 => cond (Nat.beq o1 1000000) false <| and (Nat.beq (clx o1) 7) <| rdi t o1 2 fun v5 => cond (!(w_lt a_x1 v5)) (rdr t a_u 0 fun o8 => cond (Nat.beq o8 1000000) false <| and (Nat.beq (clx o8) 9) <| x_p_Ro_add o8 0 t (fun t_S88 => rdr t_S88 a_u 0 fun o12 => cond (Nat.beq o12 1000000) false <| and (Nat.beq (clx o12) 9) <| x_p_Ro_add o12 63 t_S88 (fun t_S97 => rdr t_S97 a_u 0 fun o16 => cond (Nat.beq o16 1000000) false <| and (Nat.beq (clx o16) 9) <| x_p_Ro_add o16 0 t_S97 (fun t_S105 => k_K t_S105)))) (rdr t a_u 0 fun o20 => cond (Nat.beq o20 1000000) false <| and (Nat.beq (clx o20) 9) <| frc (w_add a_x1 1) fun f24 => x_p_Ro_add o20 f24 t (fun t_S60 => rdr t_S60 a_u 0 fun o26 => cond (Nat.beq o26 1000000) false <| x_p_Pa_kindOf a_x1 (fun v70_ => and (Nat.beq (clx o26) 9) <| frc (w_mul 17 v70_) fun f30 => x_p_Ro_add o26 f30 t_S60 (fun t_S74 => r_R42 f24 t_S74))))
set_option maxRecDepth 20000 in
set_option maxHeartbeats 1000000 in
theorem xs_b_Pa_writeScan_42 {u a_u : Nat} {x1 : Int32} {a_x1 : Nat} {S : cs} {t : X8} {R42 : Int32 → cs → Prop} {r_R42 : Nat → X8 → Bool} {K : cs → Prop} {k_K : X8 → Bool} (h : x_b_Pa_writeScan_42 a_u a_x1 t r_R42 k_K = true) (e_u : u = a_u) (e_x1 : x1 = Int32.ofNat a_x1) (hS : RC S t) (hR42 : ∀ {y0 : Int32} {b0 : Nat} {yS : cs} {yt : X8}, r_R42 b0 yt = true → y0 = Int32.ofNat b0 → RC yS yt → R42 y0 yS) (hK : ∀ {yS : cs} {yt : X8}, k_K yt = true → RC yS yt → K yS) : b_Pa_writeScan_42 UL u x1 S R42 K := by
  unfold b_Pa_writeScan_42
  unfold x_b_Pa_writeScan_42 at h
  obtain ⟨o1, h, q2⟩ := rdr_ok h hS e_u
  obtain ⟨n3, h⟩ := nu_ok h
  refine ⟨nu_no n3 q2, ?_⟩
  obtain ⟨n4, h⟩ := an_ok h
  refine ⟨cl_ok n4 q2 (by decide), ?_⟩
  obtain ⟨v5, h, q6⟩ := rdi_ok h hS q2
  have hc7 := c_le' q6 e_x1
  refine ⟨fun hc => ?_, fun hc => ?_⟩
  · have h := x_pos h (hc7.mp hc)
    obtain ⟨o8, h, q9⟩ := rdr_ok h hS e_u
    obtain ⟨n10, h⟩ := nu_ok h
    refine ⟨nu_no n10 q9, ?_⟩
    obtain ⟨n11, h⟩ := an_ok h
    refine ⟨cl_ok n11 q9 (by decide), ?_⟩
    refine xs_p_Ro_add h q9 ((rfl : (0 : Int32) = Int32.ofNat 0)) hS (fun h h_S88 => ?_)
    obtain ⟨o12, h, q13⟩ := rdr_ok h h_S88 e_u
    obtain ⟨n14, h⟩ := nu_ok h
    refine ⟨nu_no n14 q13, ?_⟩
    obtain ⟨n15, h⟩ := an_ok h
    refine ⟨cl_ok n15 q13 (by decide), ?_⟩
    refine xs_p_Ro_add h q13 ((rfl : (63 : Int32) = Int32.ofNat 63)) h_S88 (fun h h_S97 => ?_)
    obtain ⟨o16, h, q17⟩ := rdr_ok h h_S97 e_u
    obtain ⟨n18, h⟩ := nu_ok h
    refine ⟨nu_no n18 q17, ?_⟩
    obtain ⟨n19, h⟩ := an_ok h
    refine ⟨cl_ok n19 q17 (by decide), ?_⟩
    refine xs_p_Ro_add h q17 ((rfl : (0 : Int32) = Int32.ofNat 0)) h_S97 (fun h h_S105 => ?_)
    exact hK h h_S105
  · have h := x_neg h (fun q => hc (hc7.mpr q))
    obtain ⟨o20, h, q21⟩ := rdr_ok h hS e_u
    obtain ⟨n22, h⟩ := nu_ok h
    refine ⟨nu_no n22 q21, ?_⟩
    obtain ⟨n23, h⟩ := an_ok h
    refine ⟨cl_ok n23 q21 (by decide), ?_⟩
    have h := frc_ok h
    have p25 := n_add e_x1 ((rfl : (1 : Int32) = Int32.ofNat 1))
    refine xs_p_Ro_add h q21 p25 hS (fun h h_S60 => ?_)
    obtain ⟨o26, h, q27⟩ := rdr_ok h h_S60 e_u
    obtain ⟨n28, h⟩ := nu_ok h
    refine ⟨nu_no n28 q27, ?_⟩
    refine xs_p_Pa_kindOf h e_x1 (fun h e_v70 => ?_)
    obtain ⟨n29, h⟩ := an_ok h
    refine ⟨cl_ok n29 q27 (by decide), ?_⟩
    have h := frc_ok h
    have p31 := n_mul ((rfl : (17 : Int32) = Int32.ofNat 17)) e_v70
    refine xs_p_Ro_add h q27 p31 h_S60 (fun h h_S74 => ?_)
    exact hR42 h p25 h_S74
noncomputable def xl_e_Pa_writeScan_42 (a_u : Nat) (k_K : X8 → Bool) (n : Nat) : Nat → X8 → Bool := Nat.rec (motive := fun _ => Nat → X8 → Bool) (fun _ _ => false) (fun _ ih b_x1 bt => x_b_Pa_writeScan_42 a_u b_x1 bt ih k_K) n
noncomputable def x_e_Pa_writeScan_42 (a_u : Nat) (a_x1 : Nat) (t : X8) (k_K : X8 → Bool) : Bool := xl_e_Pa_writeScan_42 a_u k_K 200000 a_x1 t
def xq_e_Pa_writeScan_42 (a_u : Nat) (k_K : X8 → Bool) (n : Nat) (y_x1 : Int32) (yS : cs) : Prop := ∃ (b_x1 : Nat) (bt : X8), y_x1 = Int32.ofNat b_x1 ∧ RC yS bt ∧ xl_e_Pa_writeScan_42 a_u k_K n b_x1 bt = true
set_option maxRecDepth 20000 in
theorem xs_e_Pa_writeScan_42 {u a_u : Nat} {x1 : Int32} {a_x1 : Nat} {S : cs} {t : X8} {K : cs → Prop} {k_K : X8 → Bool} (h : x_e_Pa_writeScan_42 a_u a_x1 t k_K = true) (e_u : u = a_u) (e_x1 : x1 = Int32.ofNat a_x1) (hS : RC S t) (hK : ∀ {yS : cs} {yt : X8}, k_K yt = true → RC yS yt → K yS) : e_Pa_writeScan_42 UL u x1 S K := by
  refine ⟨fun y_x1 yS => ∃ n, xq_e_Pa_writeScan_42 a_u k_K n y_x1 yS, fun y_x1 yS => mf (fun n => xq_e_Pa_writeScan_42 a_u k_K n y_x1 yS), ⟨200000, a_x1, t, e_x1, hS, h⟩, fun y_x1 yS hI => ?_⟩
  obtain ⟨m, hm, hq⟩ := mf_ok hI
  obtain ⟨b_x1, bt, c_x1, cS, h⟩ := hq
  cases m with
  | zero => exact absurd h Bool.false_ne_true
  | succ n => exact xs_b_Pa_writeScan_42 h e_u c_x1 cS (fun h d_x1 dS => ⟨⟨n, _, _, d_x1, dS, h⟩, Nat.lt_of_le_of_lt (mf_le ⟨_, _, d_x1, dS, h⟩) (Nat.lt_of_lt_of_eq (Nat.lt_succ_self n) hm.symm)⟩) hK
noncomputable def x_p_Pa_writeScan (a_u : Nat) (t : X8) (k_K : X8 → Bool) : Bool :=
  x_p_Pa_addMark a_u 218 t (fun t_S4 => rdr t_S4 a_u 0 fun o1 => cond (Nat.beq o1 1000000) false <| rdr t_S4 a_u 2 fun o4 => cond (Nat.beq o4 1000000) false <| and (Nat.beq (clx o4) 7) <| and (Nat.beq (clx o1) 9) <| rdi t_S4 o4 2 fun v9 => frc (w_add 6 (w_mul 2 v9)) fun f11 => x_p_Ro_addTwo o1 f11 t_S4 (fun t_S23 => rdr t_S23 a_u 0 fun o13 => cond (Nat.beq o13 1000000) false <| rdr t_S23 a_u 2 fun o16 => cond (Nat.beq o16 1000000) false <| and (Nat.beq (clx o16) 7) <| and (Nat.beq (clx o13) 9) <| rdi t_S23 o16 2 fun v21 => x_p_Ro_add o13 v21 t_S23 (fun t_S37 => x_e_Pa_writeScan_42 a_u 0 t_S37 k_K)))
set_option maxRecDepth 20000 in
set_option maxHeartbeats 1000000 in
theorem xs_p_Pa_writeScan {u a_u : Nat} {S : cs} {t : X8} {K : cs → Prop} {k_K : X8 → Bool} (h : x_p_Pa_writeScan a_u t k_K = true) (e_u : u = a_u) (hS : RC S t) (hK : ∀ {yS : cs} {yt : X8}, k_K yt = true → RC yS yt → K yS) : p_Pa_writeScan UL u S K := by
  unfold p_Pa_writeScan
  unfold x_p_Pa_writeScan at h
  refine xs_p_Pa_addMark h e_u ((rfl : (218 : Int32) = Int32.ofNat 218)) hS (fun h h_S4 => ?_)
  obtain ⟨o1, h, q2⟩ := rdr_ok h h_S4 e_u
  obtain ⟨n3, h⟩ := nu_ok h
  refine ⟨nu_no n3 q2, ?_⟩
  obtain ⟨o4, h, q5⟩ := rdr_ok h h_S4 e_u
  obtain ⟨n6, h⟩ := nu_ok h
  refine ⟨nu_no n6 q5, ?_⟩
  obtain ⟨n7, h⟩ := an_ok h
  refine ⟨cl_ok n7 q5 (by decide), ?_⟩
  obtain ⟨n8, h⟩ := an_ok h
  refine ⟨cl_ok n8 q2 (by decide), ?_⟩
  obtain ⟨v9, h, q10⟩ := rdi_ok h h_S4 q5
  have h := frc_ok h
  have p12 := n_add ((rfl : (6 : Int32) = Int32.ofNat 6)) (n_mul ((rfl : (2 : Int32) = Int32.ofNat 2)) q10)
  refine xs_p_Ro_addTwo h q2 p12 h_S4 (fun h h_S23 => ?_)
  obtain ⟨o13, h, q14⟩ := rdr_ok h h_S23 e_u
  obtain ⟨n15, h⟩ := nu_ok h
  refine ⟨nu_no n15 q14, ?_⟩
  obtain ⟨o16, h, q17⟩ := rdr_ok h h_S23 e_u
  obtain ⟨n18, h⟩ := nu_ok h
  refine ⟨nu_no n18 q17, ?_⟩
  obtain ⟨n19, h⟩ := an_ok h
  refine ⟨cl_ok n19 q17 (by decide), ?_⟩
  obtain ⟨n20, h⟩ := an_ok h
  refine ⟨cl_ok n20 q14 (by decide), ?_⟩
  obtain ⟨v21, h, q22⟩ := rdi_ok h h_S23 q17
  refine xs_p_Ro_add h q14 q22 h_S23 (fun h h_S37 => ?_)
  exact xs_e_Pa_writeScan_42 h e_u ((rfl : (0 : Int32) = Int32.ofNat 0)) h_S37 hK
noncomputable def x_b_Pa_write_55 (a_u : Nat) (a_x2 : Nat) (t : X8) (k_K : X8 → Bool) : Bool :=
  x_p_Pa_writeScan a_u t (fun t_S56 => x_p_Pa_writeData a_u a_x2 t_S56 (fun t_S61 => x_p_Pa_addMark a_u 217 t_S61 (fun t_S68 => k_K t_S68)))
set_option maxRecDepth 20000 in
set_option maxHeartbeats 1000000 in
theorem xs_b_Pa_write_55 {u a_u : Nat} {x2 : Int32} {a_x2 : Nat} {S : cs} {t : X8} {K : cs → Prop} {k_K : X8 → Bool} (h : x_b_Pa_write_55 a_u a_x2 t k_K = true) (e_u : u = a_u) (e_x2 : x2 = Int32.ofNat a_x2) (hS : RC S t) (hK : ∀ {yS : cs} {yt : X8}, k_K yt = true → RC yS yt → K yS) : b_Pa_write_55 UL u x2 S K := by
  unfold b_Pa_write_55
  unfold x_b_Pa_write_55 at h
  refine xs_p_Pa_writeScan h e_u hS (fun h h_S56 => ?_)
  refine xs_p_Pa_writeData h e_u e_x2 h_S56 (fun h h_S61 => ?_)
  refine xs_p_Pa_addMark h e_u ((rfl : (217 : Int32) = Int32.ofNat 217)) h_S61 (fun h h_S68 => ?_)
  exact hK h h_S68
noncomputable def x_p_Pa_write (a_u : Nat) (a_x1 : Nat) (a_x2 : Nat) (t : X8) (k_K : X8 → Bool) : Bool :=
  rdr t a_u 0 fun o1 => cond (Nat.beq o1 1000000) false <| and (Nat.beq (clx o1) 9) <| wri t o1 1 0 fun t5 => x_p_Pa_addMark a_u 216 t5 (fun t_S12 => x_p_Pa_writeTables a_u a_x1 t_S12 (fun t_S17 => x_p_Pa_writeFrame a_u t_S17 (fun t_S21 => x_p_Pa_writeCodes a_u t_S21 (fun t_S25 => cond (!(w_lt 0 a_x2)) (x_b_Pa_write_55 a_u a_x2 t_S25 k_K) (x_p_Pa_addMark a_u 221 t_S25 (fun t_S36 => rdr t_S36 a_u 0 fun o8 => cond (Nat.beq o8 1000000) false <| and (Nat.beq (clx o8) 9) <| x_p_Ro_addTwo o8 4 t_S36 (fun t_S44 => rdr t_S44 a_u 0 fun o12 => cond (Nat.beq o12 1000000) false <| and (Nat.beq (clx o12) 9) <| x_p_Ro_addTwo o12 a_x2 t_S44 (fun t_S52 => x_b_Pa_write_55 a_u a_x2 t_S52 k_K))))))))
set_option maxRecDepth 20000 in
set_option maxHeartbeats 1000000 in
theorem xs_p_Pa_write {u a_u : Nat} {x1 a_x1 : Nat} {x2 : Int32} {a_x2 : Nat} {S : cs} {t : X8} {K : cs → Prop} {k_K : X8 → Bool} (h : x_p_Pa_write a_u a_x1 a_x2 t k_K = true) (e_u : u = a_u) (e_x1 : x1 = a_x1) (e_x2 : x2 = Int32.ofNat a_x2) (hS : RC S t) (hK : ∀ {yS : cs} {yt : X8}, k_K yt = true → RC yS yt → K yS) : p_Pa_write UL u x1 x2 S K := by
  unfold p_Pa_write
  unfold x_p_Pa_write at h
  obtain ⟨o1, h, q2⟩ := rdr_ok h hS e_u
  obtain ⟨n3, h⟩ := nu_ok h
  refine ⟨nu_no n3 q2, ?_⟩
  obtain ⟨n4, h⟩ := an_ok h
  refine ⟨cl_ok n4 q2 (by decide), ?_⟩
  obtain ⟨t5, h, hS6⟩ := wri_ok h hS q2 ((rfl : (0 : Int32) = Int32.ofNat 0))
  refine xs_p_Pa_addMark h e_u ((rfl : (216 : Int32) = Int32.ofNat 216)) hS6 (fun h h_S12 => ?_)
  refine xs_p_Pa_writeTables h e_u e_x1 h_S12 (fun h h_S17 => ?_)
  refine xs_p_Pa_writeFrame h e_u h_S17 (fun h h_S21 => ?_)
  refine xs_p_Pa_writeCodes h e_u h_S21 (fun h h_S25 => ?_)
  have hc7 := c_le' e_x2 ((rfl : (0 : Int32) = Int32.ofNat 0))
  refine ⟨fun hc => ?_, fun hc => ?_⟩
  · have h := x_pos h (hc7.mp hc)
    exact xs_b_Pa_write_55 h e_u e_x2 h_S25 hK
  · have h := x_neg h (fun q => hc (hc7.mpr q))
    refine xs_p_Pa_addMark h e_u ((rfl : (221 : Int32) = Int32.ofNat 221)) h_S25 (fun h h_S36 => ?_)
    obtain ⟨o8, h, q9⟩ := rdr_ok h h_S36 e_u
    obtain ⟨n10, h⟩ := nu_ok h
    refine ⟨nu_no n10 q9, ?_⟩
    obtain ⟨n11, h⟩ := an_ok h
    refine ⟨cl_ok n11 q9 (by decide), ?_⟩
    refine xs_p_Ro_addTwo h q9 ((rfl : (4 : Int32) = Int32.ofNat 4)) h_S36 (fun h h_S44 => ?_)
    obtain ⟨o12, h, q13⟩ := rdr_ok h h_S44 e_u
    obtain ⟨n14, h⟩ := nu_ok h
    refine ⟨nu_no n14 q13, ?_⟩
    obtain ⟨n15, h⟩ := an_ok h
    refine ⟨cl_ok n15 q13 (by decide), ?_⟩
    refine xs_p_Ro_addTwo h q13 e_x2 h_S44 (fun h h_S52 => ?_)
    exact xs_b_Pa_write_55 h e_u e_x2 h_S52 hK
noncomputable def x_b_B_pack_99 (a_u : Nat) (a_x1 : Nat) (a_x2 : Nat) (a_x3 : Nat) (t : X8) (k_K : Nat → X8 → Bool) (k_T : Nat → X8 → Bool) : Bool :=
  rdr t a_u 2 fun o1 => cond (Nat.beq o1 1000000) false <| rdr t a_u 0 fun o4 => cond (Nat.beq o4 1000000) false <| rdr t a_u 1 fun o7 => cond (Nat.beq o7 1000000) false <| and (Nat.beq (clx o1) 6) <| x_p_Pa_makeLevels o1 o4 o7 a_x1 a_x2 t (fun t_S52 => rdr t_S52 a_u 2 fun o11 => cond (Nat.beq o11 1000000) false <| and (Nat.beq (clx o11) 6) <| x_p_Pa_makeCodes o11 a_x3 t_S52 (fun t_S60 => rdr t_S60 a_u 2 fun o15 => cond (Nat.beq o15 1000000) false <| rdr t_S60 a_u 1 fun o18 => cond (Nat.beq o18 1000000) false <| and (Nat.beq (clx o15) 6) <| x_p_Pa_write o15 o18 a_x3 t_S60 (fun t_S72 => rdr t_S72 a_u 4 fun o22 => cond (Nat.beq o22 1000000) false <| and (Nat.beq (clx o22) 9) <| rdi t_S72 o22 1 fun v26 => k_K v26 t_S72)))
set_option maxRecDepth 20000 in
set_option maxHeartbeats 1000000 in
theorem xs_b_B_pack_99 {u a_u : Nat} {x1 : Int32} {a_x1 : Nat} {x2 : Int32} {a_x2 : Nat} {x3 : Int32} {a_x3 : Nat} {S : cs} {t : X8} {K : Int32 → cs → Prop} {k_K : Nat → X8 → Bool} {T : Nat → cs → Prop} {k_T : Nat → X8 → Bool} (h : x_b_B_pack_99 a_u a_x1 a_x2 a_x3 t k_K k_T = true) (e_u : u = a_u) (e_x1 : x1 = Int32.ofNat a_x1) (e_x2 : x2 = Int32.ofNat a_x2) (e_x3 : x3 = Int32.ofNat a_x3) (hS : RC S t) (hK : ∀ {y0 : Int32} {b0 : Nat} {yS : cs} {yt : X8}, k_K b0 yt = true → y0 = Int32.ofNat b0 → RC yS yt → K y0 yS) (hT : ∀ {y0 : Nat} {yS : cs} {yt : X8}, k_T y0 yt = true → RC yS yt → T y0 yS) : b_B_pack_99 UL u x1 x2 x3 S K T := by
  unfold b_B_pack_99
  unfold x_b_B_pack_99 at h
  obtain ⟨o1, h, q2⟩ := rdr_ok h hS e_u
  obtain ⟨n3, h⟩ := nu_ok h
  refine ⟨nu_no n3 q2, ?_⟩
  obtain ⟨o4, h, q5⟩ := rdr_ok h hS e_u
  obtain ⟨n6, h⟩ := nu_ok h
  refine ⟨nu_no n6 q5, ?_⟩
  obtain ⟨o7, h, q8⟩ := rdr_ok h hS e_u
  obtain ⟨n9, h⟩ := nu_ok h
  refine ⟨nu_no n9 q8, ?_⟩
  obtain ⟨n10, h⟩ := an_ok h
  refine ⟨cl_ok n10 q2 (by decide), ?_⟩
  refine xs_p_Pa_makeLevels h q2 q5 q8 e_x1 e_x2 hS (fun h h_S52 => ?_)
  obtain ⟨o11, h, q12⟩ := rdr_ok h h_S52 e_u
  obtain ⟨n13, h⟩ := nu_ok h
  refine ⟨nu_no n13 q12, ?_⟩
  obtain ⟨n14, h⟩ := an_ok h
  refine ⟨cl_ok n14 q12 (by decide), ?_⟩
  refine xs_p_Pa_makeCodes h q12 e_x3 h_S52 (fun h h_S60 => ?_)
  obtain ⟨o15, h, q16⟩ := rdr_ok h h_S60 e_u
  obtain ⟨n17, h⟩ := nu_ok h
  refine ⟨nu_no n17 q16, ?_⟩
  obtain ⟨o18, h, q19⟩ := rdr_ok h h_S60 e_u
  obtain ⟨n20, h⟩ := nu_ok h
  refine ⟨nu_no n20 q19, ?_⟩
  obtain ⟨n21, h⟩ := an_ok h
  refine ⟨cl_ok n21 q16 (by decide), ?_⟩
  refine xs_p_Pa_write h q16 q19 e_x3 h_S60 (fun h h_S72 => ?_)
  obtain ⟨o22, h, q23⟩ := rdr_ok h h_S72 e_u
  obtain ⟨n24, h⟩ := nu_ok h
  refine ⟨nu_no n24 q23, ?_⟩
  obtain ⟨n25, h⟩ := an_ok h
  refine ⟨cl_ok n25 q23 (by decide), ?_⟩
  obtain ⟨v26, h, q27⟩ := rdi_ok h h_S72 q23
  exact hK h q27 h_S72
noncomputable def x_b_Pa_writeData_55_x1 (a_u : Nat) (a_x2 : Nat) (a_x3 : Nat) (a_x4 : Nat) (t : X8) (r_R12 : Nat → Nat → X8 → Bool) (r_R55 : Nat → Nat → Nat → X8 → Bool) (k_K : X8 → Bool) : Bool :=
  rdr t a_u 3 fun o1 => cond (Nat.beq o1 1000000) false <| and (Nat.beq (clx o1) 10) <| rdi t o1 5 fun v5 => cond (!(w_lt a_x4 v5)) (frc (w_add a_x3 1) fun f8 => r_R12 a_x2 f8 t) (rdr t o1 7 fun o10 => cond (Nat.beq o10 1000000) false <| and (Nat.beq (clx o10) 902) <| frc (w_add (w_mul v5 a_x3) a_x4) fun f14 => and (Nat.blt f14 (lnx o10)) <| rda t o10 f14 fun v17 => x_p_Pa_writeBlock a_u v17 t (fun t_S88 => frc (w_add a_x4 1) fun f19 => r_R55 a_x2 a_x3 f19 t_S88))
set_option maxRecDepth 20000 in
set_option maxHeartbeats 1000000 in
theorem xs_b_Pa_writeData_55_x1 {u a_u : Nat} {x1 : Int32} {x2 : Int32} {a_x2 : Nat} {x3 : Int32} {a_x3 : Nat} {x4 : Int32} {a_x4 : Nat} {S : cs} {t : X8} {R12 : Int32 → Int32 → Int32 → cs → Prop} {r_R12 : Nat → Nat → X8 → Bool} {R55 : Int32 → Int32 → Int32 → Int32 → cs → Prop} {r_R55 : Nat → Nat → Nat → X8 → Bool} {K : cs → Prop} {k_K : X8 → Bool} (h : x_b_Pa_writeData_55_x1 a_u a_x2 a_x3 a_x4 t r_R12 r_R55 k_K = true) (e_u : u = a_u) (g_x1 : 0 < x1) (e_x2 : x2 = Int32.ofNat a_x2) (e_x3 : x3 = Int32.ofNat a_x3) (e_x4 : x4 = Int32.ofNat a_x4) (hS : RC S t) (hR12 : ∀ {y0 : Int32} {y1 : Int32} {b1 : Nat} {y2 : Int32} {b2 : Nat} {yS : cs} {yt : X8}, r_R12 b1 b2 yt = true → 0 < y0 → y1 = Int32.ofNat b1 → y2 = Int32.ofNat b2 → RC yS yt → R12 y0 y1 y2 yS) (hR55 : ∀ {y0 : Int32} {y1 : Int32} {b1 : Nat} {y2 : Int32} {b2 : Nat} {y3 : Int32} {b3 : Nat} {yS : cs} {yt : X8}, r_R55 b1 b2 b3 yt = true → 0 < y0 → y1 = Int32.ofNat b1 → y2 = Int32.ofNat b2 → y3 = Int32.ofNat b3 → RC yS yt → R55 y0 y1 y2 y3 yS) (hK : ∀ {yS : cs} {yt : X8}, k_K yt = true → RC yS yt → K yS) : b_Pa_writeData_55 UL u x1 x2 x3 x4 S R12 R55 K := by
  unfold b_Pa_writeData_55
  unfold x_b_Pa_writeData_55_x1 at h
  obtain ⟨o1, h, q2⟩ := rdr_ok h hS e_u
  obtain ⟨n3, h⟩ := nu_ok h
  refine ⟨nu_no n3 q2, ?_⟩
  obtain ⟨n4, h⟩ := an_ok h
  refine ⟨cl_ok n4 q2 (by decide), ?_⟩
  obtain ⟨v5, h, q6⟩ := rdi_ok h hS q2
  have hc7 := c_le' q6 e_x4
  refine ⟨fun hc => ?_, fun hc => ?_⟩
  · have h := x_pos h (hc7.mp hc)
    have h := frc_ok h
    have p9 := n_add e_x3 ((rfl : (1 : Int32) = Int32.ofNat 1))
    exact hR12 h g_x1 e_x2 p9 hS
  · have h := x_neg h (fun q => hc (hc7.mpr q))
    refine ⟨nu_no n3 q2, ?_⟩
    obtain ⟨o10, h, q11⟩ := rdr_ok h hS q2
    obtain ⟨n12, h⟩ := nu_ok h
    refine ⟨nu_no n12 q11, ?_⟩
    refine ⟨nu_no n3 q2, ?_⟩
    obtain ⟨n13, h⟩ := an_ok h
    refine ⟨cl_ok n13 q11 (by decide), ?_⟩
    have h := frc_ok h
    have p15 := n_add (n_mul q6 e_x3) e_x4
    obtain ⟨n16, h⟩ := an_ok h
    refine ⟨vpc_ok n16 p15 q11, ?_⟩
    obtain ⟨v17, h, q18⟩ := rda_ok h hS q11 p15
    refine xs_p_Pa_writeBlock h e_u q18 hS (fun h h_S88 => ?_)
    have h := frc_ok h
    have p20 := n_add e_x4 ((rfl : (1 : Int32) = Int32.ofNat 1))
    exact hR55 h g_x1 e_x2 e_x3 p20 h_S88
noncomputable def xl_e_Pa_writeData_55_x1 (a_u : Nat) (r_R12 : Nat → Nat → X8 → Bool) (k_K : X8 → Bool) (n : Nat) : Nat → Nat → Nat → X8 → Bool := Nat.rec (motive := fun _ => Nat → Nat → Nat → X8 → Bool) (fun _ _ _ _ => false) (fun _ ih b_x2 b_x3 b_x4 bt => x_b_Pa_writeData_55_x1 a_u b_x2 b_x3 b_x4 bt r_R12 ih k_K) n
noncomputable def x_e_Pa_writeData_55_x1 (a_u : Nat) (a_x2 : Nat) (a_x3 : Nat) (a_x4 : Nat) (t : X8) (r_R12 : Nat → Nat → X8 → Bool) (k_K : X8 → Bool) : Bool := xl_e_Pa_writeData_55_x1 a_u r_R12 k_K 200000 a_x2 a_x3 a_x4 t
def xq_e_Pa_writeData_55_x1 (a_u : Nat) (r_R12 : Nat → Nat → X8 → Bool) (k_K : X8 → Bool) (n : Nat) (y_x1 : Int32) (y_x2 : Int32) (y_x3 : Int32) (y_x4 : Int32) (yS : cs) : Prop := ∃ (b_x2 : Nat) (b_x3 : Nat) (b_x4 : Nat) (bt : X8), 0 < y_x1 ∧ y_x2 = Int32.ofNat b_x2 ∧ y_x3 = Int32.ofNat b_x3 ∧ y_x4 = Int32.ofNat b_x4 ∧ RC yS bt ∧ xl_e_Pa_writeData_55_x1 a_u r_R12 k_K n b_x2 b_x3 b_x4 bt = true
set_option maxRecDepth 20000 in
theorem xs_e_Pa_writeData_55_x1 {u a_u : Nat} {x1 : Int32} {x2 : Int32} {a_x2 : Nat} {x3 : Int32} {a_x3 : Nat} {x4 : Int32} {a_x4 : Nat} {S : cs} {t : X8} {R12 : Int32 → Int32 → Int32 → cs → Prop} {r_R12 : Nat → Nat → X8 → Bool} {K : cs → Prop} {k_K : X8 → Bool} (h : x_e_Pa_writeData_55_x1 a_u a_x2 a_x3 a_x4 t r_R12 k_K = true) (e_u : u = a_u) (g_x1 : 0 < x1) (e_x2 : x2 = Int32.ofNat a_x2) (e_x3 : x3 = Int32.ofNat a_x3) (e_x4 : x4 = Int32.ofNat a_x4) (hS : RC S t) (hR12 : ∀ {y0 : Int32} {y1 : Int32} {b1 : Nat} {y2 : Int32} {b2 : Nat} {yS : cs} {yt : X8}, r_R12 b1 b2 yt = true → 0 < y0 → y1 = Int32.ofNat b1 → y2 = Int32.ofNat b2 → RC yS yt → R12 y0 y1 y2 yS) (hK : ∀ {yS : cs} {yt : X8}, k_K yt = true → RC yS yt → K yS) : e_Pa_writeData_55 UL u x1 x2 x3 x4 S R12 K := by
  refine ⟨fun y_x1 y_x2 y_x3 y_x4 yS => ∃ n, xq_e_Pa_writeData_55_x1 a_u r_R12 k_K n y_x1 y_x2 y_x3 y_x4 yS, fun y_x1 y_x2 y_x3 y_x4 yS => mf (fun n => xq_e_Pa_writeData_55_x1 a_u r_R12 k_K n y_x1 y_x2 y_x3 y_x4 yS), ⟨200000, a_x2, a_x3, a_x4, t, g_x1, e_x2, e_x3, e_x4, hS, h⟩, fun y_x1 y_x2 y_x3 y_x4 yS hI => ?_⟩
  obtain ⟨m, hm, hq⟩ := mf_ok hI
  obtain ⟨b_x2, b_x3, b_x4, bt, c_x1, c_x2, c_x3, c_x4, cS, h⟩ := hq
  cases m with
  | zero => exact absurd h Bool.false_ne_true
  | succ n => exact xs_b_Pa_writeData_55_x1 h e_u c_x1 c_x2 c_x3 c_x4 cS hR12 (fun h d_x1 d_x2 d_x3 d_x4 dS => ⟨⟨n, _, _, _, _, d_x1, d_x2, d_x3, d_x4, dS, h⟩, Nat.lt_of_le_of_lt (mf_le ⟨_, _, _, _, d_x1, d_x2, d_x3, d_x4, dS, h⟩) (Nat.lt_of_lt_of_eq (Nat.lt_succ_self n) hm.symm)⟩) hK
noncomputable def x_b_Pa_writeData_52_x1 (a_u : Nat) (a_x2 : Nat) (a_x3 : Nat) (t : X8) (r_R12 : Nat → Nat → X8 → Bool) (k_K : X8 → Bool) : Bool :=
  x_e_Pa_writeData_55_x1 a_u a_x2 a_x3 0 t r_R12 k_K
set_option maxRecDepth 20000 in
set_option maxHeartbeats 1000000 in
theorem xs_b_Pa_writeData_52_x1 {u a_u : Nat} {x1 : Int32} {x2 : Int32} {a_x2 : Nat} {x3 : Int32} {a_x3 : Nat} {S : cs} {t : X8} {R12 : Int32 → Int32 → Int32 → cs → Prop} {r_R12 : Nat → Nat → X8 → Bool} {K : cs → Prop} {k_K : X8 → Bool} (h : x_b_Pa_writeData_52_x1 a_u a_x2 a_x3 t r_R12 k_K = true) (e_u : u = a_u) (g_x1 : 0 < x1) (e_x2 : x2 = Int32.ofNat a_x2) (e_x3 : x3 = Int32.ofNat a_x3) (hS : RC S t) (hR12 : ∀ {y0 : Int32} {y1 : Int32} {b1 : Nat} {y2 : Int32} {b2 : Nat} {yS : cs} {yt : X8}, r_R12 b1 b2 yt = true → 0 < y0 → y1 = Int32.ofNat b1 → y2 = Int32.ofNat b2 → RC yS yt → R12 y0 y1 y2 yS) (hK : ∀ {yS : cs} {yt : X8}, k_K yt = true → RC yS yt → K yS) : b_Pa_writeData_52 UL u x1 x2 x3 S R12 K := by
  unfold b_Pa_writeData_52
  unfold x_b_Pa_writeData_52_x1 at h
  exact xs_e_Pa_writeData_55_x1 h e_u g_x1 e_x2 e_x3 ((rfl : (0 : Int32) = Int32.ofNat 0)) hS hR12 hK
noncomputable def x_b_Pa_writeData_12_x1 (a_u : Nat) (a_x2 : Nat) (a_x3 : Nat) (t : X8) (r_R12 : Nat → Nat → X8 → Bool) (k_K : X8 → Bool) : Bool :=
  rdr t a_u 3 fun o1 => cond (Nat.beq o1 1000000) false <| and (Nat.beq (clx o1) 10) <| rdi t o1 4 fun v5 => cond (!(w_lt a_x3 v5)) (x_p_Pa_fillByte a_u t (fun t_S104 => k_K t_S104)) (cond (!(w_lt 0 a_x3)) (x_b_Pa_writeData_52_x1 a_u a_x2 a_x3 t r_R12 k_K) (false))
set_option maxRecDepth 20000 in
set_option maxHeartbeats 1000000 in
theorem xs_b_Pa_writeData_12_x1 {u a_u : Nat} {x1 : Int32} {x2 : Int32} {a_x2 : Nat} {x3 : Int32} {a_x3 : Nat} {S : cs} {t : X8} {R12 : Int32 → Int32 → Int32 → cs → Prop} {r_R12 : Nat → Nat → X8 → Bool} {K : cs → Prop} {k_K : X8 → Bool} (h : x_b_Pa_writeData_12_x1 a_u a_x2 a_x3 t r_R12 k_K = true) (e_u : u = a_u) (g_x1 : 0 < x1) (e_x2 : x2 = Int32.ofNat a_x2) (e_x3 : x3 = Int32.ofNat a_x3) (hS : RC S t) (hR12 : ∀ {y0 : Int32} {y1 : Int32} {b1 : Nat} {y2 : Int32} {b2 : Nat} {yS : cs} {yt : X8}, r_R12 b1 b2 yt = true → 0 < y0 → y1 = Int32.ofNat b1 → y2 = Int32.ofNat b2 → RC yS yt → R12 y0 y1 y2 yS) (hK : ∀ {yS : cs} {yt : X8}, k_K yt = true → RC yS yt → K yS) : b_Pa_writeData_12 UL u x1 x2 x3 S R12 K := by
  unfold b_Pa_writeData_12
  unfold x_b_Pa_writeData_12_x1 at h
  obtain ⟨o1, h, q2⟩ := rdr_ok h hS e_u
  obtain ⟨n3, h⟩ := nu_ok h
  refine ⟨nu_no n3 q2, ?_⟩
  obtain ⟨n4, h⟩ := an_ok h
  refine ⟨cl_ok n4 q2 (by decide), ?_⟩
  obtain ⟨v5, h, q6⟩ := rdi_ok h hS q2
  have hc7 := c_le' q6 e_x3
  refine ⟨fun hc => ?_, fun hc => ?_⟩
  · have h := x_pos h (hc7.mp hc)
    refine xs_p_Pa_fillByte h e_u hS (fun h h_S104 => ?_)
    exact hK h h_S104
  · have h := x_neg h (fun q => hc (hc7.mpr q))
    refine ⟨fun hc => absurd hc (g_le g_x1), fun _ => ?_⟩
    have hc8 := c_le' e_x3 ((rfl : (0 : Int32) = Int32.ofNat 0))
    refine ⟨fun hc => ?_, fun hc => ?_⟩
    · have h := x_pos h (hc8.mp hc)
      exact xs_b_Pa_writeData_52_x1 h e_u g_x1 e_x2 e_x3 hS hR12 hK
    · have h := x_neg h (fun q => hc (hc8.mpr q))
      refine ⟨g_ne g_x1, ?_⟩
      exact absurd h Bool.false_ne_true
noncomputable def xl_e_Pa_writeData_12_x1 (a_u : Nat) (k_K : X8 → Bool) (n : Nat) : Nat → Nat → X8 → Bool := Nat.rec (motive := fun _ => Nat → Nat → X8 → Bool) (fun _ _ _ => false) (fun _ ih b_x2 b_x3 bt => x_b_Pa_writeData_12_x1 a_u b_x2 b_x3 bt ih k_K) n
noncomputable def x_e_Pa_writeData_12_x1 (a_u : Nat) (a_x2 : Nat) (a_x3 : Nat) (t : X8) (k_K : X8 → Bool) : Bool := xl_e_Pa_writeData_12_x1 a_u k_K 200000 a_x2 a_x3 t
def xq_e_Pa_writeData_12_x1 (a_u : Nat) (k_K : X8 → Bool) (n : Nat) (y_x1 : Int32) (y_x2 : Int32) (y_x3 : Int32) (yS : cs) : Prop := ∃ (b_x2 : Nat) (b_x3 : Nat) (bt : X8), 0 < y_x1 ∧ y_x2 = Int32.ofNat b_x2 ∧ y_x3 = Int32.ofNat b_x3 ∧ RC yS bt ∧ xl_e_Pa_writeData_12_x1 a_u k_K n b_x2 b_x3 bt = true
set_option maxRecDepth 20000 in
theorem xs_e_Pa_writeData_12_x1 {u a_u : Nat} {x1 : Int32} {x2 : Int32} {a_x2 : Nat} {x3 : Int32} {a_x3 : Nat} {S : cs} {t : X8} {K : cs → Prop} {k_K : X8 → Bool} (h : x_e_Pa_writeData_12_x1 a_u a_x2 a_x3 t k_K = true) (e_u : u = a_u) (g_x1 : 0 < x1) (e_x2 : x2 = Int32.ofNat a_x2) (e_x3 : x3 = Int32.ofNat a_x3) (hS : RC S t) (hK : ∀ {yS : cs} {yt : X8}, k_K yt = true → RC yS yt → K yS) : e_Pa_writeData_12 UL u x1 x2 x3 S K := by
  refine ⟨fun y_x1 y_x2 y_x3 yS => ∃ n, xq_e_Pa_writeData_12_x1 a_u k_K n y_x1 y_x2 y_x3 yS, fun y_x1 y_x2 y_x3 yS => mf (fun n => xq_e_Pa_writeData_12_x1 a_u k_K n y_x1 y_x2 y_x3 yS), ⟨200000, a_x2, a_x3, t, g_x1, e_x2, e_x3, hS, h⟩, fun y_x1 y_x2 y_x3 yS hI => ?_⟩
  obtain ⟨m, hm, hq⟩ := mf_ok hI
  obtain ⟨b_x2, b_x3, bt, c_x1, c_x2, c_x3, cS, h⟩ := hq
  cases m with
  | zero => exact absurd h Bool.false_ne_true
  | succ n => exact xs_b_Pa_writeData_12_x1 h e_u c_x1 c_x2 c_x3 cS (fun h d_x1 d_x2 d_x3 dS => ⟨⟨n, _, _, _, d_x1, d_x2, d_x3, dS, h⟩, Nat.lt_of_le_of_lt (mf_le ⟨_, _, _, d_x1, d_x2, d_x3, dS, h⟩) (Nat.lt_of_lt_of_eq (Nat.lt_succ_self n) hm.symm)⟩) hK
noncomputable def x_p_Pa_writeData_x1 (a_u : Nat) (t : X8) (k_K : X8 → Bool) : Bool :=
  rdr t a_u 7 fun o1 => cond (Nat.beq o1 1000000) false <| x_p_Ar_fillI o1 0 t (fun t_S5 => x_e_Pa_writeData_12_x1 a_u 0 0 t_S5 k_K)
set_option maxRecDepth 20000 in
set_option maxHeartbeats 1000000 in
theorem xs_p_Pa_writeData_x1 {u a_u : Nat} {x1 : Int32} {S : cs} {t : X8} {K : cs → Prop} {k_K : X8 → Bool} (h : x_p_Pa_writeData_x1 a_u t k_K = true) (e_u : u = a_u) (g_x1 : 0 < x1) (hS : RC S t) (hK : ∀ {yS : cs} {yt : X8}, k_K yt = true → RC yS yt → K yS) : p_Pa_writeData UL u x1 S K := by
  unfold p_Pa_writeData
  unfold x_p_Pa_writeData_x1 at h
  obtain ⟨o1, h, q2⟩ := rdr_ok h hS e_u
  obtain ⟨n3, h⟩ := nu_ok h
  refine ⟨nu_no n3 q2, ?_⟩
  refine xs_p_Ar_fillI h q2 ((rfl : (0 : Int32) = Int32.ofNat 0)) hS (fun h h_S5 => ?_)
  exact xs_e_Pa_writeData_12_x1 h e_u g_x1 ((rfl : (0 : Int32) = Int32.ofNat 0)) ((rfl : (0 : Int32) = Int32.ofNat 0)) h_S5 hK
noncomputable def x_b_Pa_makeCodes_51_x1 (a_u : Nat) (a_x2 : Nat) (t : X8) (r_R51 : Nat → X8 → Bool) (k_K : X8 → Bool) : Bool :=
  rdi t a_u 8 fun v1 => cond (!(w_lt a_x2 v1)) (k_K t) (rdr t a_u 4 fun o4 => cond (Nat.beq o4 1000000) false <| rdr t a_u 5 fun o7 => cond (Nat.beq o7 1000000) false <| and (Nat.beq (clx o7) 950) <| and (Nat.blt a_x2 (lnx o7)) <| rdra t o7 a_x2 fun o12 => cond (Nat.beq o12 1000000) false <| and (Nat.beq (clx o4) 4) <| x_p_Li_setLengths o4 o12 t (fun t_S69 => rdr t_S69 a_u 5 fun o16 => cond (Nat.beq o16 1000000) false <| and (Nat.beq (clx o16) 950) <| and (Nat.blt a_x2 (lnx o16)) <| rdra t_S69 o16 a_x2 fun o21 => cond (Nat.beq o21 1000000) false <| and (Nat.beq (clx o21) 5) <| x_p_Oc_giveOut o21 t_S69 (fun t_S78 => rdr t_S78 a_u 4 fun o25 => cond (Nat.beq o25 1000000) false <| rdr t_S78 a_u 6 fun o28 => cond (Nat.beq o28 1000000) false <| and (Nat.beq (clx o28) 950) <| and (Nat.blt a_x2 (lnx o28)) <| rdra t_S78 o28 a_x2 fun o33 => cond (Nat.beq o33 1000000) false <| and (Nat.beq (clx o25) 4) <| x_p_Li_setLengths o25 o33 t_S78 (fun t_S91 => rdr t_S91 a_u 6 fun o37 => cond (Nat.beq o37 1000000) false <| and (Nat.beq (clx o37) 950) <| and (Nat.blt a_x2 (lnx o37)) <| rdra t_S91 o37 a_x2 fun o42 => cond (Nat.beq o42 1000000) false <| and (Nat.beq (clx o42) 5) <| x_p_Oc_giveOut o42 t_S91 (fun t_S100 => frc (w_add a_x2 1) fun f46 => r_R51 f46 t_S100)))))
set_option maxRecDepth 20000 in
set_option maxHeartbeats 1000000 in
theorem xs_b_Pa_makeCodes_51_x1 {u a_u : Nat} {x2 : Int32} {a_x2 : Nat} {S : cs} {t : X8} {R51 : Int32 → cs → Prop} {r_R51 : Nat → X8 → Bool} {K : cs → Prop} {k_K : X8 → Bool} (h : x_b_Pa_makeCodes_51_x1 a_u a_x2 t r_R51 k_K = true) (e_u : u = a_u) (e_x2 : x2 = Int32.ofNat a_x2) (hS : RC S t) (hR51 : ∀ {y0 : Int32} {b0 : Nat} {yS : cs} {yt : X8}, r_R51 b0 yt = true → y0 = Int32.ofNat b0 → RC yS yt → R51 y0 yS) (hK : ∀ {yS : cs} {yt : X8}, k_K yt = true → RC yS yt → K yS) : b_Pa_makeCodes_51 UL u x2 S R51 K := by
  unfold b_Pa_makeCodes_51
  unfold x_b_Pa_makeCodes_51_x1 at h
  obtain ⟨v1, h, q2⟩ := rdi_ok h hS e_u
  have hc3 := c_le' q2 e_x2
  refine ⟨fun hc => ?_, fun hc => ?_⟩
  · have h := x_pos h (hc3.mp hc)
    exact hK h hS
  · have h := x_neg h (fun q => hc (hc3.mpr q))
    obtain ⟨o4, h, q5⟩ := rdr_ok h hS e_u
    obtain ⟨n6, h⟩ := nu_ok h
    refine ⟨nu_no n6 q5, ?_⟩
    obtain ⟨o7, h, q8⟩ := rdr_ok h hS e_u
    obtain ⟨n9, h⟩ := nu_ok h
    refine ⟨nu_no n9 q8, ?_⟩
    obtain ⟨n10, h⟩ := an_ok h
    refine ⟨cl_ok n10 q8 (by decide), ?_⟩
    obtain ⟨n11, h⟩ := an_ok h
    refine ⟨vpc_ok n11 e_x2 q8, ?_⟩
    obtain ⟨o12, h, q13⟩ := rdra_ok h hS q8 e_x2
    obtain ⟨n14, h⟩ := nu_ok h
    refine ⟨nu_no n14 q13, ?_⟩
    obtain ⟨n15, h⟩ := an_ok h
    refine ⟨cl_ok n15 q5 (by decide), ?_⟩
    refine xs_p_Li_setLengths h q5 q13 hS (fun h h_S69 => ?_)
    obtain ⟨o16, h, q17⟩ := rdr_ok h h_S69 e_u
    obtain ⟨n18, h⟩ := nu_ok h
    refine ⟨nu_no n18 q17, ?_⟩
    obtain ⟨n19, h⟩ := an_ok h
    refine ⟨cl_ok n19 q17 (by decide), ?_⟩
    obtain ⟨n20, h⟩ := an_ok h
    refine ⟨vpc_ok n20 e_x2 q17, ?_⟩
    obtain ⟨o21, h, q22⟩ := rdra_ok h h_S69 q17 e_x2
    obtain ⟨n23, h⟩ := nu_ok h
    refine ⟨nu_no n23 q22, ?_⟩
    obtain ⟨n24, h⟩ := an_ok h
    refine ⟨cl_ok n24 q22 (by decide), ?_⟩
    refine xs_p_Oc_giveOut h q22 h_S69 (fun h h_S78 => ?_)
    obtain ⟨o25, h, q26⟩ := rdr_ok h h_S78 e_u
    obtain ⟨n27, h⟩ := nu_ok h
    refine ⟨nu_no n27 q26, ?_⟩
    obtain ⟨o28, h, q29⟩ := rdr_ok h h_S78 e_u
    obtain ⟨n30, h⟩ := nu_ok h
    refine ⟨nu_no n30 q29, ?_⟩
    obtain ⟨n31, h⟩ := an_ok h
    refine ⟨cl_ok n31 q29 (by decide), ?_⟩
    obtain ⟨n32, h⟩ := an_ok h
    refine ⟨vpc_ok n32 e_x2 q29, ?_⟩
    obtain ⟨o33, h, q34⟩ := rdra_ok h h_S78 q29 e_x2
    obtain ⟨n35, h⟩ := nu_ok h
    refine ⟨nu_no n35 q34, ?_⟩
    obtain ⟨n36, h⟩ := an_ok h
    refine ⟨cl_ok n36 q26 (by decide), ?_⟩
    refine xs_p_Li_setLengths h q26 q34 h_S78 (fun h h_S91 => ?_)
    obtain ⟨o37, h, q38⟩ := rdr_ok h h_S91 e_u
    obtain ⟨n39, h⟩ := nu_ok h
    refine ⟨nu_no n39 q38, ?_⟩
    obtain ⟨n40, h⟩ := an_ok h
    refine ⟨cl_ok n40 q38 (by decide), ?_⟩
    obtain ⟨n41, h⟩ := an_ok h
    refine ⟨vpc_ok n41 e_x2 q38, ?_⟩
    obtain ⟨o42, h, q43⟩ := rdra_ok h h_S91 q38 e_x2
    obtain ⟨n44, h⟩ := nu_ok h
    refine ⟨nu_no n44 q43, ?_⟩
    obtain ⟨n45, h⟩ := an_ok h
    refine ⟨cl_ok n45 q43 (by decide), ?_⟩
    refine xs_p_Oc_giveOut h q43 h_S91 (fun h h_S100 => ?_)
    have h := frc_ok h
    have p47 := n_add e_x2 ((rfl : (1 : Int32) = Int32.ofNat 1))
    exact hR51 h p47 h_S100
noncomputable def xl_e_Pa_makeCodes_51_x1 (a_u : Nat) (k_K : X8 → Bool) (n : Nat) : Nat → X8 → Bool := Nat.rec (motive := fun _ => Nat → X8 → Bool) (fun _ _ => false) (fun _ ih b_x2 bt => x_b_Pa_makeCodes_51_x1 a_u b_x2 bt ih k_K) n
noncomputable def x_e_Pa_makeCodes_51_x1 (a_u : Nat) (a_x2 : Nat) (t : X8) (k_K : X8 → Bool) : Bool := xl_e_Pa_makeCodes_51_x1 a_u k_K 200000 a_x2 t
def xq_e_Pa_makeCodes_51_x1 (a_u : Nat) (k_K : X8 → Bool) (n : Nat) (y_x2 : Int32) (yS : cs) : Prop := ∃ (b_x2 : Nat) (bt : X8), y_x2 = Int32.ofNat b_x2 ∧ RC yS bt ∧ xl_e_Pa_makeCodes_51_x1 a_u k_K n b_x2 bt = true
set_option maxRecDepth 20000 in
theorem xs_e_Pa_makeCodes_51_x1 {u a_u : Nat} {x2 : Int32} {a_x2 : Nat} {S : cs} {t : X8} {K : cs → Prop} {k_K : X8 → Bool} (h : x_e_Pa_makeCodes_51_x1 a_u a_x2 t k_K = true) (e_u : u = a_u) (e_x2 : x2 = Int32.ofNat a_x2) (hS : RC S t) (hK : ∀ {yS : cs} {yt : X8}, k_K yt = true → RC yS yt → K yS) : e_Pa_makeCodes_51 UL u x2 S K := by
  refine ⟨fun y_x2 yS => ∃ n, xq_e_Pa_makeCodes_51_x1 a_u k_K n y_x2 yS, fun y_x2 yS => mf (fun n => xq_e_Pa_makeCodes_51_x1 a_u k_K n y_x2 yS), ⟨200000, a_x2, t, e_x2, hS, h⟩, fun y_x2 yS hI => ?_⟩
  obtain ⟨m, hm, hq⟩ := mf_ok hI
  obtain ⟨b_x2, bt, c_x2, cS, h⟩ := hq
  cases m with
  | zero => exact absurd h Bool.false_ne_true
  | succ n => exact xs_b_Pa_makeCodes_51_x1 h e_u c_x2 cS (fun h d_x2 dS => ⟨⟨n, _, _, d_x2, dS, h⟩, Nat.lt_of_le_of_lt (mf_le ⟨_, _, d_x2, dS, h⟩) (Nat.lt_of_lt_of_eq (Nat.lt_succ_self n) hm.symm)⟩) hK
noncomputable def x_b_Pa_makeCodes_2_x1 (a_u : Nat) (a_x2 : Nat) (t : X8) (r_R2 : Nat → X8 → Bool) (k_K : X8 → Bool) : Bool :=
  rdi t a_u 8 fun v1 => cond (!(w_lt a_x2 v1)) (wri t a_u 9 1 fun t4 => x_p_Pa_writeData_x1 a_u t4 (fun t_S41 => wri t_S41 a_u 9 0 fun t6 => x_e_Pa_makeCodes_51_x1 a_u 0 t6 k_K)) (rdr t a_u 5 fun o8 => cond (Nat.beq o8 1000000) false <| and (Nat.beq (clx o8) 950) <| and (Nat.blt a_x2 (lnx o8)) <| rdra t o8 a_x2 fun o13 => cond (Nat.beq o13 1000000) false <| and (Nat.beq (clx o13) 5) <| x_p_Oc_begin o13 t (fun t_S16 => rdr t_S16 a_u 6 fun o17 => cond (Nat.beq o17 1000000) false <| and (Nat.beq (clx o17) 950) <| and (Nat.blt a_x2 (lnx o17)) <| rdra t_S16 o17 a_x2 fun o22 => cond (Nat.beq o22 1000000) false <| and (Nat.beq (clx o22) 5) <| x_p_Oc_begin o22 t_S16 (fun t_S25 => frc (w_add a_x2 1) fun f26 => r_R2 f26 t_S25)))
set_option maxRecDepth 20000 in
set_option maxHeartbeats 1000000 in
theorem xs_b_Pa_makeCodes_2_x1 {u a_u : Nat} {x1 : Int32} {x2 : Int32} {a_x2 : Nat} {S : cs} {t : X8} {R2 : Int32 → Int32 → cs → Prop} {r_R2 : Nat → X8 → Bool} {K : cs → Prop} {k_K : X8 → Bool} (h : x_b_Pa_makeCodes_2_x1 a_u a_x2 t r_R2 k_K = true) (e_u : u = a_u) (g_x1 : 0 < x1) (e_x2 : x2 = Int32.ofNat a_x2) (hS : RC S t) (hR2 : ∀ {y0 : Int32} {y1 : Int32} {b1 : Nat} {yS : cs} {yt : X8}, r_R2 b1 yt = true → 0 < y0 → y1 = Int32.ofNat b1 → RC yS yt → R2 y0 y1 yS) (hK : ∀ {yS : cs} {yt : X8}, k_K yt = true → RC yS yt → K yS) : b_Pa_makeCodes_2 UL u x1 x2 S R2 K := by
  unfold b_Pa_makeCodes_2
  unfold x_b_Pa_makeCodes_2_x1 at h
  obtain ⟨v1, h, q2⟩ := rdi_ok h hS e_u
  have hc3 := c_le' q2 e_x2
  refine ⟨fun hc => ?_, fun hc => ?_⟩
  · have h := x_pos h (hc3.mp hc)
    obtain ⟨t4, h, hS5⟩ := wri_ok h hS e_u ((rfl : (1 : Int32) = Int32.ofNat 1))
    refine xs_p_Pa_writeData_x1 h e_u g_x1 hS5 (fun h h_S41 => ?_)
    obtain ⟨t6, h, hS7⟩ := wri_ok h h_S41 e_u ((rfl : (0 : Int32) = Int32.ofNat 0))
    exact xs_e_Pa_makeCodes_51_x1 h e_u ((rfl : (0 : Int32) = Int32.ofNat 0)) hS7 hK
  · have h := x_neg h (fun q => hc (hc3.mpr q))
    obtain ⟨o8, h, q9⟩ := rdr_ok h hS e_u
    obtain ⟨n10, h⟩ := nu_ok h
    refine ⟨nu_no n10 q9, ?_⟩
    obtain ⟨n11, h⟩ := an_ok h
    refine ⟨cl_ok n11 q9 (by decide), ?_⟩
    obtain ⟨n12, h⟩ := an_ok h
    refine ⟨vpc_ok n12 e_x2 q9, ?_⟩
    obtain ⟨o13, h, q14⟩ := rdra_ok h hS q9 e_x2
    obtain ⟨n15, h⟩ := nu_ok h
    refine ⟨nu_no n15 q14, ?_⟩
    obtain ⟨n16, h⟩ := an_ok h
    refine ⟨cl_ok n16 q14 (by decide), ?_⟩
    refine xs_p_Oc_begin h q14 hS (fun h h_S16 => ?_)
    obtain ⟨o17, h, q18⟩ := rdr_ok h h_S16 e_u
    obtain ⟨n19, h⟩ := nu_ok h
    refine ⟨nu_no n19 q18, ?_⟩
    obtain ⟨n20, h⟩ := an_ok h
    refine ⟨cl_ok n20 q18 (by decide), ?_⟩
    obtain ⟨n21, h⟩ := an_ok h
    refine ⟨vpc_ok n21 e_x2 q18, ?_⟩
    obtain ⟨o22, h, q23⟩ := rdra_ok h h_S16 q18 e_x2
    obtain ⟨n24, h⟩ := nu_ok h
    refine ⟨nu_no n24 q23, ?_⟩
    obtain ⟨n25, h⟩ := an_ok h
    refine ⟨cl_ok n25 q23 (by decide), ?_⟩
    refine xs_p_Oc_begin h q23 h_S16 (fun h h_S25 => ?_)
    have h := frc_ok h
    have p27 := n_add e_x2 ((rfl : (1 : Int32) = Int32.ofNat 1))
    exact hR2 h g_x1 p27 h_S25
noncomputable def xl_e_Pa_makeCodes_2_x1 (a_u : Nat) (k_K : X8 → Bool) (n : Nat) : Nat → X8 → Bool := Nat.rec (motive := fun _ => Nat → X8 → Bool) (fun _ _ => false) (fun _ ih b_x2 bt => x_b_Pa_makeCodes_2_x1 a_u b_x2 bt ih k_K) n
noncomputable def x_e_Pa_makeCodes_2_x1 (a_u : Nat) (a_x2 : Nat) (t : X8) (k_K : X8 → Bool) : Bool := xl_e_Pa_makeCodes_2_x1 a_u k_K 200000 a_x2 t
def xq_e_Pa_makeCodes_2_x1 (a_u : Nat) (k_K : X8 → Bool) (n : Nat) (y_x1 : Int32) (y_x2 : Int32) (yS : cs) : Prop := ∃ (b_x2 : Nat) (bt : X8), 0 < y_x1 ∧ y_x2 = Int32.ofNat b_x2 ∧ RC yS bt ∧ xl_e_Pa_makeCodes_2_x1 a_u k_K n b_x2 bt = true
set_option maxRecDepth 20000 in
theorem xs_e_Pa_makeCodes_2_x1 {u a_u : Nat} {x1 : Int32} {x2 : Int32} {a_x2 : Nat} {S : cs} {t : X8} {K : cs → Prop} {k_K : X8 → Bool} (h : x_e_Pa_makeCodes_2_x1 a_u a_x2 t k_K = true) (e_u : u = a_u) (g_x1 : 0 < x1) (e_x2 : x2 = Int32.ofNat a_x2) (hS : RC S t) (hK : ∀ {yS : cs} {yt : X8}, k_K yt = true → RC yS yt → K yS) : e_Pa_makeCodes_2 UL u x1 x2 S K := by
  refine ⟨fun y_x1 y_x2 yS => ∃ n, xq_e_Pa_makeCodes_2_x1 a_u k_K n y_x1 y_x2 yS, fun y_x1 y_x2 yS => mf (fun n => xq_e_Pa_makeCodes_2_x1 a_u k_K n y_x1 y_x2 yS), ⟨200000, a_x2, t, g_x1, e_x2, hS, h⟩, fun y_x1 y_x2 yS hI => ?_⟩
  obtain ⟨m, hm, hq⟩ := mf_ok hI
  obtain ⟨b_x2, bt, c_x1, c_x2, cS, h⟩ := hq
  cases m with
  | zero => exact absurd h Bool.false_ne_true
  | succ n => exact xs_b_Pa_makeCodes_2_x1 h e_u c_x1 c_x2 cS (fun h d_x1 d_x2 dS => ⟨⟨n, _, _, d_x1, d_x2, dS, h⟩, Nat.lt_of_le_of_lt (mf_le ⟨_, _, d_x1, d_x2, dS, h⟩) (Nat.lt_of_lt_of_eq (Nat.lt_succ_self n) hm.symm)⟩) hK
noncomputable def x_p_Pa_makeCodes_x1 (a_u : Nat) (t : X8) (k_K : X8 → Bool) : Bool :=
  x_e_Pa_makeCodes_2_x1 a_u 0 t k_K
set_option maxRecDepth 20000 in
set_option maxHeartbeats 1000000 in
theorem xs_p_Pa_makeCodes_x1 {u a_u : Nat} {x1 : Int32} {S : cs} {t : X8} {K : cs → Prop} {k_K : X8 → Bool} (h : x_p_Pa_makeCodes_x1 a_u t k_K = true) (e_u : u = a_u) (g_x1 : 0 < x1) (hS : RC S t) (hK : ∀ {yS : cs} {yt : X8}, k_K yt = true → RC yS yt → K yS) : p_Pa_makeCodes UL u x1 S K := by
  unfold p_Pa_makeCodes
  unfold x_p_Pa_makeCodes_x1 at h
  exact xs_e_Pa_makeCodes_2_x1 h e_u g_x1 ((rfl : (0 : Int32) = Int32.ofNat 0)) hS hK
noncomputable def x_b_Ro_add_36_x1 (a_u : Nat) (t : X8) (k_K : X8 → Bool) : Bool :=
  k_K t
set_option maxRecDepth 20000 in
set_option maxHeartbeats 1000000 in
theorem xs_b_Ro_add_36_x1 {u a_u : Nat} {S : cs} {t : X8} {K : cs → Prop} {k_K : X8 → Bool} (h : x_b_Ro_add_36_x1 a_u t k_K = true) (e_u : u = a_u) (hS : RC S t) (hK : ∀ {yS : cs} {yt : X8}, k_K yt = true → RC yS yt → K yS) : b_Ro_add_36 UL u S K := by
  unfold b_Ro_add_36
  unfold x_b_Ro_add_36_x1 at h
  exact hK h hS
noncomputable def x_p_Ro_add_x1 (a_u : Nat) (t : X8) (k_K : X8 → Bool) : Bool :=
  rdr t a_u 0 fun o1 => cond (Nat.beq o1 1000000) false <| and (Nat.beq (clx o1) 902) <| and (Nat.blt o1 116) <| rdi t a_u 1 fun v6 => cond (!(w_lt v6 (lnx o1))) (x_b_Ro_add_36_x1 a_u t k_K) (and (Nat.blt v6 (lnx o1)) <| wra_h t o1 v6 fun t10 => rdi t10 a_u 1 fun v14 => frc (w_add v14 1) fun f16 => wri t10 a_u 1 f16 fun t12 => x_b_Ro_add_36_x1 a_u t12 k_K)
set_option maxRecDepth 20000 in
set_option maxHeartbeats 1000000 in
theorem xs_p_Ro_add_x1 {u a_u : Nat} {x1 : Int32} {S : cs} {t : X8} {K : cs → Prop} {k_K : X8 → Bool} (h : x_p_Ro_add_x1 a_u t k_K = true) (e_u : u = a_u) (g_x1 : True) (hS : RC S t) (hK : ∀ {yS : cs} {yt : X8}, k_K yt = true → RC yS yt → K yS) : p_Ro_add UL u x1 S K := by
  unfold p_Ro_add
  unfold x_p_Ro_add_x1 at h
  obtain ⟨o1, h, q2⟩ := rdr_ok h hS e_u
  obtain ⟨n3, h⟩ := nu_ok h
  refine ⟨nu_no n3 q2, ?_⟩
  obtain ⟨n4, h⟩ := an_ok h
  refine ⟨cl_ok n4 q2 (by decide), ?_⟩
  obtain ⟨n5, h⟩ := an_ok h
  obtain ⟨v6, h, q7⟩ := rdi_ok h hS e_u
  have hc8 := c_le' (n_ln n5 q2) q7
  refine ⟨fun hc => ?_, fun hc => ?_⟩
  · have h := x_pos h (hc8.mp hc)
    exact xs_b_Ro_add_36_x1 h e_u hS hK
  · have h := x_neg h (fun q => hc (hc8.mpr q))
    refine ⟨nu_no n3 q2, ?_⟩
    obtain ⟨n9, h⟩ := an_ok h
    refine ⟨vpc_ok n9 q7 q2, ?_⟩
    obtain ⟨t10, h, hS11⟩ := wra_h_ok h hS q2 q7
    obtain ⟨v14, h, q15⟩ := rdi_ok h hS11 e_u
    have h := frc_ok h
    have p17 := n_add q15 ((rfl : (1 : Int32) = Int32.ofNat 1))
    obtain ⟨t12, h, hS13⟩ := wri_ok h hS11 e_u p17
    exact xs_b_Ro_add_36_x1 h e_u hS13 hK
noncomputable def x_p_Ro_addTwo_x1 (a_u : Nat) (t : X8) (k_K : X8 → Bool) : Bool :=
  x_p_Ro_add_x1 a_u t (fun t_S5 => x_p_Ro_add_x1 a_u t_S5 (fun t_S10 => k_K t_S10))
set_option maxRecDepth 20000 in
set_option maxHeartbeats 1000000 in
theorem xs_p_Ro_addTwo_x1 {u a_u : Nat} {x1 : Int32} {S : cs} {t : X8} {K : cs → Prop} {k_K : X8 → Bool} (h : x_p_Ro_addTwo_x1 a_u t k_K = true) (e_u : u = a_u) (g_x1 : True) (hS : RC S t) (hK : ∀ {yS : cs} {yt : X8}, k_K yt = true → RC yS yt → K yS) : p_Ro_addTwo UL u x1 S K := by
  unfold p_Ro_addTwo
  unfold x_p_Ro_addTwo_x1 at h
  refine xs_p_Ro_add_x1 h e_u trivial hS (fun h h_S5 => ?_)
  refine xs_p_Ro_add_x1 h e_u trivial h_S5 (fun h h_S10 => ?_)
  exact hK h h_S10
noncomputable def x_b_Pa_write_55_x2 (a_u : Nat) (t : X8) (k_K : X8 → Bool) : Bool :=
  x_p_Pa_writeScan a_u t (fun t_S56 => x_p_Pa_writeData_x1 a_u t_S56 (fun t_S61 => x_p_Pa_addMark a_u 217 t_S61 (fun t_S68 => k_K t_S68)))
set_option maxRecDepth 20000 in
set_option maxHeartbeats 1000000 in
theorem xs_b_Pa_write_55_x2 {u a_u : Nat} {x2 : Int32} {S : cs} {t : X8} {K : cs → Prop} {k_K : X8 → Bool} (h : x_b_Pa_write_55_x2 a_u t k_K = true) (e_u : u = a_u) (g_x2 : 0 < x2) (hS : RC S t) (hK : ∀ {yS : cs} {yt : X8}, k_K yt = true → RC yS yt → K yS) : b_Pa_write_55 UL u x2 S K := by
  unfold b_Pa_write_55
  unfold x_b_Pa_write_55_x2 at h
  refine xs_p_Pa_writeScan h e_u hS (fun h h_S56 => ?_)
  refine xs_p_Pa_writeData_x1 h e_u g_x2 h_S56 (fun h h_S61 => ?_)
  refine xs_p_Pa_addMark h e_u ((rfl : (217 : Int32) = Int32.ofNat 217)) h_S61 (fun h h_S68 => ?_)
  exact hK h h_S68
noncomputable def x_p_Pa_write_x2 (a_u : Nat) (a_x1 : Nat) (t : X8) (k_K : X8 → Bool) : Bool :=
  rdr t a_u 0 fun o1 => cond (Nat.beq o1 1000000) false <| and (Nat.beq (clx o1) 9) <| wri t o1 1 0 fun t5 => x_p_Pa_addMark a_u 216 t5 (fun t_S12 => x_p_Pa_writeTables a_u a_x1 t_S12 (fun t_S17 => x_p_Pa_writeFrame a_u t_S17 (fun t_S21 => x_p_Pa_writeCodes a_u t_S21 (fun t_S25 => x_p_Pa_addMark a_u 221 t_S25 (fun t_S36 => rdr t_S36 a_u 0 fun o7 => cond (Nat.beq o7 1000000) false <| and (Nat.beq (clx o7) 9) <| x_p_Ro_addTwo o7 4 t_S36 (fun t_S44 => rdr t_S44 a_u 0 fun o11 => cond (Nat.beq o11 1000000) false <| and (Nat.beq (clx o11) 9) <| x_p_Ro_addTwo_x1 o11 t_S44 (fun t_S52 => x_b_Pa_write_55_x2 a_u t_S52 k_K)))))))
set_option maxRecDepth 20000 in
set_option maxHeartbeats 1000000 in
theorem xs_p_Pa_write_x2 {u a_u : Nat} {x1 a_x1 : Nat} {x2 : Int32} {S : cs} {t : X8} {K : cs → Prop} {k_K : X8 → Bool} (h : x_p_Pa_write_x2 a_u a_x1 t k_K = true) (e_u : u = a_u) (e_x1 : x1 = a_x1) (g_x2 : 0 < x2) (hS : RC S t) (hK : ∀ {yS : cs} {yt : X8}, k_K yt = true → RC yS yt → K yS) : p_Pa_write UL u x1 x2 S K := by
  unfold p_Pa_write
  unfold x_p_Pa_write_x2 at h
  obtain ⟨o1, h, q2⟩ := rdr_ok h hS e_u
  obtain ⟨n3, h⟩ := nu_ok h
  refine ⟨nu_no n3 q2, ?_⟩
  obtain ⟨n4, h⟩ := an_ok h
  refine ⟨cl_ok n4 q2 (by decide), ?_⟩
  obtain ⟨t5, h, hS6⟩ := wri_ok h hS q2 ((rfl : (0 : Int32) = Int32.ofNat 0))
  refine xs_p_Pa_addMark h e_u ((rfl : (216 : Int32) = Int32.ofNat 216)) hS6 (fun h h_S12 => ?_)
  refine xs_p_Pa_writeTables h e_u e_x1 h_S12 (fun h h_S17 => ?_)
  refine xs_p_Pa_writeFrame h e_u h_S17 (fun h h_S21 => ?_)
  refine xs_p_Pa_writeCodes h e_u h_S21 (fun h h_S25 => ?_)
  refine ⟨fun hc => absurd hc (g_le g_x2), fun _ => ?_⟩
  refine xs_p_Pa_addMark h e_u ((rfl : (221 : Int32) = Int32.ofNat 221)) h_S25 (fun h h_S36 => ?_)
  obtain ⟨o7, h, q8⟩ := rdr_ok h h_S36 e_u
  obtain ⟨n9, h⟩ := nu_ok h
  refine ⟨nu_no n9 q8, ?_⟩
  obtain ⟨n10, h⟩ := an_ok h
  refine ⟨cl_ok n10 q8 (by decide), ?_⟩
  refine xs_p_Ro_addTwo h q8 ((rfl : (4 : Int32) = Int32.ofNat 4)) h_S36 (fun h h_S44 => ?_)
  obtain ⟨o11, h, q12⟩ := rdr_ok h h_S44 e_u
  obtain ⟨n13, h⟩ := nu_ok h
  refine ⟨nu_no n13 q12, ?_⟩
  obtain ⟨n14, h⟩ := an_ok h
  refine ⟨cl_ok n14 q12 (by decide), ?_⟩
  refine xs_p_Ro_addTwo_x1 h q12 trivial h_S44 (fun h h_S52 => ?_)
  exact xs_b_Pa_write_55_x2 h e_u g_x2 h_S52 hK
noncomputable def x_b_B_pack_99_x3 (a_u : Nat) (a_x1 : Nat) (a_x2 : Nat) (t : X8) (k_K : Nat → X8 → Bool) (k_T : Nat → X8 → Bool) : Bool :=
  rdr t a_u 2 fun o1 => cond (Nat.beq o1 1000000) false <| rdr t a_u 0 fun o4 => cond (Nat.beq o4 1000000) false <| rdr t a_u 1 fun o7 => cond (Nat.beq o7 1000000) false <| and (Nat.beq (clx o1) 6) <| x_p_Pa_makeLevels o1 o4 o7 a_x1 a_x2 t (fun t_S52 => rdr t_S52 a_u 2 fun o11 => cond (Nat.beq o11 1000000) false <| and (Nat.beq (clx o11) 6) <| x_p_Pa_makeCodes_x1 o11 t_S52 (fun t_S60 => rdr t_S60 a_u 2 fun o15 => cond (Nat.beq o15 1000000) false <| rdr t_S60 a_u 1 fun o18 => cond (Nat.beq o18 1000000) false <| and (Nat.beq (clx o15) 6) <| x_p_Pa_write_x2 o15 o18 t_S60 (fun t_S72 => rdr t_S72 a_u 4 fun o22 => cond (Nat.beq o22 1000000) false <| and (Nat.beq (clx o22) 9) <| rdi t_S72 o22 1 fun v26 => k_K v26 t_S72)))
set_option maxRecDepth 20000 in
set_option maxHeartbeats 1000000 in
theorem xs_b_B_pack_99_x3 {u a_u : Nat} {x1 : Int32} {a_x1 : Nat} {x2 : Int32} {a_x2 : Nat} {x3 : Int32} {S : cs} {t : X8} {K : Int32 → cs → Prop} {k_K : Nat → X8 → Bool} {T : Nat → cs → Prop} {k_T : Nat → X8 → Bool} (h : x_b_B_pack_99_x3 a_u a_x1 a_x2 t k_K k_T = true) (e_u : u = a_u) (e_x1 : x1 = Int32.ofNat a_x1) (e_x2 : x2 = Int32.ofNat a_x2) (g_x3 : 0 < x3) (hS : RC S t) (hK : ∀ {y0 : Int32} {b0 : Nat} {yS : cs} {yt : X8}, k_K b0 yt = true → y0 = Int32.ofNat b0 → RC yS yt → K y0 yS) (hT : ∀ {y0 : Nat} {yS : cs} {yt : X8}, k_T y0 yt = true → RC yS yt → T y0 yS) : b_B_pack_99 UL u x1 x2 x3 S K T := by
  unfold b_B_pack_99
  unfold x_b_B_pack_99_x3 at h
  obtain ⟨o1, h, q2⟩ := rdr_ok h hS e_u
  obtain ⟨n3, h⟩ := nu_ok h
  refine ⟨nu_no n3 q2, ?_⟩
  obtain ⟨o4, h, q5⟩ := rdr_ok h hS e_u
  obtain ⟨n6, h⟩ := nu_ok h
  refine ⟨nu_no n6 q5, ?_⟩
  obtain ⟨o7, h, q8⟩ := rdr_ok h hS e_u
  obtain ⟨n9, h⟩ := nu_ok h
  refine ⟨nu_no n9 q8, ?_⟩
  obtain ⟨n10, h⟩ := an_ok h
  refine ⟨cl_ok n10 q2 (by decide), ?_⟩
  refine xs_p_Pa_makeLevels h q2 q5 q8 e_x1 e_x2 hS (fun h h_S52 => ?_)
  obtain ⟨o11, h, q12⟩ := rdr_ok h h_S52 e_u
  obtain ⟨n13, h⟩ := nu_ok h
  refine ⟨nu_no n13 q12, ?_⟩
  obtain ⟨n14, h⟩ := an_ok h
  refine ⟨cl_ok n14 q12 (by decide), ?_⟩
  refine xs_p_Pa_makeCodes_x1 h q12 g_x3 h_S52 (fun h h_S60 => ?_)
  obtain ⟨o15, h, q16⟩ := rdr_ok h h_S60 e_u
  obtain ⟨n17, h⟩ := nu_ok h
  refine ⟨nu_no n17 q16, ?_⟩
  obtain ⟨o18, h, q19⟩ := rdr_ok h h_S60 e_u
  obtain ⟨n20, h⟩ := nu_ok h
  refine ⟨nu_no n20 q19, ?_⟩
  obtain ⟨n21, h⟩ := an_ok h
  refine ⟨cl_ok n21 q16 (by decide), ?_⟩
  refine xs_p_Pa_write_x2 h q16 q19 g_x3 h_S60 (fun h h_S72 => ?_)
  obtain ⟨o22, h, q23⟩ := rdr_ok h h_S72 e_u
  obtain ⟨n24, h⟩ := nu_ok h
  refine ⟨nu_no n24 q23, ?_⟩
  obtain ⟨n25, h⟩ := an_ok h
  refine ⟨cl_ok n25 q23 (by decide), ?_⟩
  obtain ⟨v26, h, q27⟩ := rdi_ok h h_S72 q23
  exact hK h q27 h_S72
