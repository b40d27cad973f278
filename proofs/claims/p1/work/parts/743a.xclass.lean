def b_B_pack_99 (U : ut) (u : Nat) (x1 : Int32) (x2 : Int32) (x3 : Int32) (S : cs) (K : Int32 → cs → Prop) (T : Nat → cs → Prop) : Prop :=
  ¬ S.2.2 u 2 = NU ∧ (¬ S.2.2 u 0 = NU ∧ (¬ S.2.2 u 1 = NU ∧ (c_cl U (S.2.2 u 2) = 6 ∧ (p_Pa_makeLevels U (S.2.2 u 2) (S.2.2 u 0) (S.2.2 u 1) x1 x2 S (fun S52 => ¬ S52.2.2 u 2 = NU ∧ (c_cl U (S52.2.2 u 2) = 6 ∧ (p_Pa_makeCodes U (S52.2.2 u 2) x3 S52 (fun S60 => ¬ S60.2.2 u 2 = NU ∧ (¬ S60.2.2 u 1 = NU ∧ (c_cl U (S60.2.2 u 2) = 6 ∧ (p_Pa_write U (S60.2.2 u 2) (S60.2.2 u 1) x3 S60 (fun S72 => ¬ S72.2.2 u 4 = NU ∧ (c_cl U (S72.2.2 u 4) = 9 ∧ (K (S72.1 (S72.2.2 u 4) 1) S72))))))))))))))
noncomputable def x_b_Ar_fillI_5 (a_x0 : Nat) (a_x1 : Nat) (a_x2 : Nat) (a_x3 : Nat) (t : X8) (r_R5 : Nat → Nat → Nat → Nat → X8 → Bool) (k_K : X8 → Bool) : Bool :=
  cond (!(w_lt a_x2 a_x3)) (k_K t) (and (Nat.beq (clx a_x0) 902) <| and (Nat.blt a_x2 (lnx a_x0)) <| frc (w_add a_x2 1) fun f4 => wra t a_x0 a_x2 a_x1 fun t6 => r_R5 a_x0 a_x1 f4 a_x3 t6)
set_option maxRecDepth 20000 in
set_option maxHeartbeats 1000000 in
theorem xs_b_Ar_fillI_5 {x0 a_x0 : Nat} {x1 : Int32} {a_x1 : Nat} {x2 : Int32} {a_x2 : Nat} {x3 : Int32} {a_x3 : Nat} {S : cs} {t : X8} {R5 : Nat → Int32 → Int32 → Int32 → cs → Prop} {r_R5 : Nat → Nat → Nat → Nat → X8 → Bool} {K : cs → Prop} {k_K : X8 → Bool} (h : x_b_Ar_fillI_5 a_x0 a_x1 a_x2 a_x3 t r_R5 k_K = true) (e_x0 : x0 = a_x0) (e_x1 : x1 = Int32.ofNat a_x1) (e_x2 : x2 = Int32.ofNat a_x2) (e_x3 : x3 = Int32.ofNat a_x3) (hS : RC S t) (hR5 : ∀ {y0 b0 : Nat} {y1 : Int32} {b1 : Nat} {y2 : Int32} {b2 : Nat} {y3 : Int32} {b3 : Nat} {yS : cs} {yt : X8}, r_R5 b0 b1 b2 b3 yt = true → y0 = b0 → y1 = Int32.ofNat b1 → y2 = Int32.ofNat b2 → y3 = Int32.ofNat b3 → RC yS yt → R5 y0 y1 y2 y3 yS) (hK : ∀ {yS : cs} {yt : X8}, k_K yt = true → RC yS yt → K yS) : b_Ar_fillI_5 UL x0 x1 x2 x3 S R5 K := by
  unfold b_Ar_fillI_5
  unfold x_b_Ar_fillI_5 at h
  have hc1 := c_le' e_x3 e_x2
  refine ⟨fun hc => ?_, fun hc => ?_⟩
  · have h := x_pos h (hc1.mp hc)
    exact hK h hS
  · have h := x_neg h (fun q => hc (hc1.mpr q))
    obtain ⟨n2, h⟩ := an_ok h
    refine ⟨cl_ok n2 e_x0 (by decide), ?_⟩
    obtain ⟨n3, h⟩ := an_ok h
    refine ⟨vpc_ok n3 e_x2 e_x0, ?_⟩
    have h := frc_ok h
    have p5 := n_add e_x2 ((rfl : (1 : Int32) = Int32.ofNat 1))
    obtain ⟨t6, h, hS7⟩ := wra_ok h hS e_x0 e_x2 e_x1
    exact hR5 h e_x0 e_x1 p5 e_x3 hS7
noncomputable def xl_e_Ar_fillI_5 (k_K : X8 → Bool) (n : Nat) : Nat → Nat → Nat → Nat → X8 → Bool := Nat.rec (motive := fun _ => Nat → Nat → Nat → Nat → X8 → Bool) (fun _ _ _ _ _ => false) (fun _ ih b_x0 b_x1 b_x2 b_x3 bt => x_b_Ar_fillI_5 b_x0 b_x1 b_x2 b_x3 bt ih k_K) n
noncomputable def x_e_Ar_fillI_5 (a_x0 : Nat) (a_x1 : Nat) (a_x2 : Nat) (a_x3 : Nat) (t : X8) (k_K : X8 → Bool) : Bool := xl_e_Ar_fillI_5 k_K 200000 a_x0 a_x1 a_x2 a_x3 t
def xq_e_Ar_fillI_5 (k_K : X8 → Bool) (n : Nat) (y_x0 : Nat) (y_x1 : Int32) (y_x2 : Int32) (y_x3 : Int32) (yS : cs) : Prop := ∃ (b_x0 : Nat) (b_x1 : Nat) (b_x2 : Nat) (b_x3 : Nat) (bt : X8), y_x0 = b_x0 ∧ y_x1 = Int32.ofNat b_x1 ∧ y_x2 = Int32.ofNat b_x2 ∧ y_x3 = Int32.ofNat b_x3 ∧ RC yS bt ∧ xl_e_Ar_fillI_5 k_K n b_x0 b_x1 b_x2 b_x3 bt = true
set_option maxRecDepth 20000 in
theorem xs_e_Ar_fillI_5 {x0 a_x0 : Nat} {x1 : Int32} {a_x1 : Nat} {x2 : Int32} {a_x2 : Nat} {x3 : Int32} {a_x3 : Nat} {S : cs} {t : X8} {K : cs → Prop} {k_K : X8 → Bool} (h : x_e_Ar_fillI_5 a_x0 a_x1 a_x2 a_x3 t k_K = true) (e_x0 : x0 = a_x0) (e_x1 : x1 = Int32.ofNat a_x1) (e_x2 : x2 = Int32.ofNat a_x2) (e_x3 : x3 = Int32.ofNat a_x3) (hS : RC S t) (hK : ∀ {yS : cs} {yt : X8}, k_K yt = true → RC yS yt → K yS) : e_Ar_fillI_5 UL x0 x1 x2 x3 S K := by
  refine ⟨fun y_x0 y_x1 y_x2 y_x3 yS => ∃ n, xq_e_Ar_fillI_5 k_K n y_x0 y_x1 y_x2 y_x3 yS, fun y_x0 y_x1 y_x2 y_x3 yS => mf (fun n => xq_e_Ar_fillI_5 k_K n y_x0 y_x1 y_x2 y_x3 yS), ⟨200000, a_x0, a_x1, a_x2, a_x3, t, e_x0, e_x1, e_x2, e_x3, hS, h⟩, fun y_x0 y_x1 y_x2 y_x3 yS hI => ?_⟩
  obtain ⟨m, hm, hq⟩ := mf_ok hI
  obtain ⟨b_x0, b_x1, b_x2, b_x3, bt, c_x0, c_x1, c_x2, c_x3, cS, h⟩ := hq
  cases m with
  | zero => exact absurd h Bool.false_ne_true
  | succ n => exact xs_b_Ar_fillI_5 h c_x0 c_x1 c_x2 c_x3 cS (fun h d_x0 d_x1 d_x2 d_x3 dS => ⟨⟨n, _, _, _, _, _, d_x0, d_x1, d_x2, d_x3, dS, h⟩, Nat.lt_of_le_of_lt (mf_le ⟨_, _, _, _, _, d_x0, d_x1, d_x2, d_x3, dS, h⟩) (Nat.lt_of_lt_of_eq (Nat.lt_succ_self n) hm.symm)⟩) hK
noncomputable def x_p_Ar_fillI (a_x0 : Nat) (a_x1 : Nat) (t : X8) (k_K : X8 → Bool) : Bool :=
  and (Nat.beq (clx a_x0) 902) <| and (Nat.blt a_x0 116) <| frc (lnx a_x0) fun f3 => x_e_Ar_fillI_5 a_x0 a_x1 0 f3 t k_K
set_option maxRecDepth 20000 in
set_option maxHeartbeats 1000000 in
theorem xs_p_Ar_fillI {x0 a_x0 : Nat} {x1 : Int32} {a_x1 : Nat} {S : cs} {t : X8} {K : cs → Prop} {k_K : X8 → Bool} (h : x_p_Ar_fillI a_x0 a_x1 t k_K = true) (e_x0 : x0 = a_x0) (e_x1 : x1 = Int32.ofNat a_x1) (hS : RC S t) (hK : ∀ {yS : cs} {yt : X8}, k_K yt = true → RC yS yt → K yS) : p_Ar_fillI UL x0 x1 S K := by
  unfold p_Ar_fillI
  unfold x_p_Ar_fillI at h
  obtain ⟨n1, h⟩ := an_ok h
  refine ⟨cl_ok n1 e_x0 (by decide), ?_⟩
  obtain ⟨n2, h⟩ := an_ok h
  have h := frc_ok h
  have p4 := n_ln n2 e_x0
  exact xs_e_Ar_fillI_5 h e_x0 e_x1 ((rfl : (0 : Int32) = Int32.ofNat 0)) p4 hS hK
noncomputable def x_p_Pi_begin (a_u : Nat) (a_x1 : Nat) (a_x2 : Nat) (a_x3 : Nat) (t : X8) (k_K : X8 → Bool) : Bool :=
  rdr t a_u 13 fun o1 => cond (Nat.beq o1 1000000) false <| wri t a_u 0 a_x1 fun t4 => wri t4 a_u 1 a_x2 fun t6 => wri t6 a_u 2 a_x3 fun t8 => wri t8 a_u 5 1 fun t10 => wri t10 a_u 6 1 fun t12 => wri t12 a_u 16 0 fun t14 => x_p_Ar_fillI o1 0 t14 (fun t_S35 => k_K t_S35)
set_option maxRecDepth 20000 in
set_option maxHeartbeats 1000000 in
theorem xs_p_Pi_begin {u a_u : Nat} {x1 : Int32} {a_x1 : Nat} {x2 : Int32} {a_x2 : Nat} {x3 : Int32} {a_x3 : Nat} {S : cs} {t : X8} {K : cs → Prop} {k_K : X8 → Bool} (h : x_p_Pi_begin a_u a_x1 a_x2 a_x3 t k_K = true) (e_u : u = a_u) (e_x1 : x1 = Int32.ofNat a_x1) (e_x2 : x2 = Int32.ofNat a_x2) (e_x3 : x3 = Int32.ofNat a_x3) (hS : RC S t) (hK : ∀ {yS : cs} {yt : X8}, k_K yt = true → RC yS yt → K yS) : p_Pi_begin UL u x1 x2 x3 S K := by
  unfold p_Pi_begin
  unfold x_p_Pi_begin at h
  obtain ⟨o1, h, q2⟩ := rdr_ok h hS e_u
  obtain ⟨n3, h⟩ := nu_ok h
  refine ⟨nu_no n3 q2, ?_⟩
  obtain ⟨t4, h, hS5⟩ := wri_ok h hS e_u e_x1
  obtain ⟨t6, h, hS7⟩ := wri_ok h hS5 e_u e_x2
  obtain ⟨t8, h, hS9⟩ := wri_ok h hS7 e_u e_x3
  obtain ⟨t10, h, hS11⟩ := wri_ok h hS9 e_u ((rfl : (1 : Int32) = Int32.ofNat 1))
  obtain ⟨t12, h, hS13⟩ := wri_ok h hS11 e_u ((rfl : (1 : Int32) = Int32.ofNat 1))
  obtain ⟨t14, h, hS15⟩ := wri_ok h hS13 e_u ((rfl : (0 : Int32) = Int32.ofNat 0))
  refine xs_p_Ar_fillI h q2 ((rfl : (0 : Int32) = Int32.ofNat 0)) hS15 (fun h h_S35 => ?_)
  exact hK h h_S35
noncomputable def x_b_Pi_upward_16 (a_s0 : Nat) (k_K : Nat → Bool) : Bool :=
  k_K a_s0
set_option maxRecDepth 20000 in
set_option maxHeartbeats 1000000 in
theorem xs_b_Pi_upward_16 {s0 : Int32} {a_s0 : Nat} {K : Int32 → Prop} {k_K : Nat → Bool} (h : x_b_Pi_upward_16 a_s0 k_K = true) (e_s0 : s0 = Int32.ofNat a_s0) (hK : ∀ {y0 : Int32} {b0 : Nat}, k_K b0 = true → y0 = Int32.ofNat b0 → K y0) : b_Pi_upward_16 s0 K := by
  unfold b_Pi_upward_16
  unfold x_b_Pi_upward_16 at h
  exact hK h e_s0
noncomputable def x_p_Pi_upward (a_x0 : Nat) (a_x1 : Nat) (k_K : Nat → Bool) : Bool :=
  cond (!(w_lt a_x1 1)) (cond (w_eq a_x1 0) false <| frc (w_div (w_sub (w_add a_x0 a_x1) 1) a_x1) fun f3 => x_b_Pi_upward_16 f3 k_K) (x_b_Pi_upward_16 a_x0 k_K)
set_option maxRecDepth 20000 in
set_option maxHeartbeats 1000000 in
theorem xs_p_Pi_upward {x0 : Int32} {a_x0 : Nat} {x1 : Int32} {a_x1 : Nat} {K : Int32 → Prop} {k_K : Nat → Bool} (h : x_p_Pi_upward a_x0 a_x1 k_K = true) (e_x0 : x0 = Int32.ofNat a_x0) (e_x1 : x1 = Int32.ofNat a_x1) (hK : ∀ {y0 : Int32} {b0 : Nat}, k_K b0 = true → y0 = Int32.ofNat b0 → K y0) : p_Pi_upward x0 x1 K := by
  unfold p_Pi_upward
  unfold x_p_Pi_upward at h
  have hc1 := c_le' ((rfl : (1 : Int32) = Int32.ofNat 1)) e_x1
  refine ⟨fun hc => ?_, fun hc => ?_⟩
  · have h := x_pos h (hc1.mp hc)
    obtain ⟨n2, h⟩ := nu_ok h
    refine ⟨fun q => absurd ((c_eq' e_x1 ((rfl : (0 : Int32) = Int32.ofNat 0))).mp q) (by rw [n2]; exact Bool.false_ne_true), ?_⟩
    have h := frc_ok h
    have p4 := n_div (n_sub (n_add e_x0 e_x1) ((rfl : (1 : Int32) = Int32.ofNat 1))) e_x1
    exact xs_b_Pi_upward_16 h p4 hK
  · have h := x_neg h (fun q => hc (hc1.mpr q))
    exact xs_b_Pi_upward_16 h e_x0 hK
noncomputable def x_b_Pi_measure_38 (a_u : Nat) (a_x1 : Nat) (t : X8) (r_R38 : Nat → X8 → Bool) (k_K : X8 → Bool) : Bool :=
  rdi t a_u 2 fun v1 => cond (!(w_lt a_x1 v1)) (k_K t) (rdr t a_u 9 fun o4 => cond (Nat.beq o4 1000000) false <| rdr t a_u 3 fun o7 => cond (Nat.beq o7 1000000) false <| and (Nat.beq (clx o7) 902) <| and (Nat.blt a_x1 (lnx o7)) <| rdi t a_u 0 fun v12 => rda t o7 a_x1 fun v14 => rdi t a_u 5 fun v16 => frc (w_mul v12 v14) fun f18 => x_p_Pi_upward f18 v16 (fun v66_ => and (Nat.beq (clx o4) 902) <| and (Nat.blt a_x1 (lnx o4)) <| rdr t a_u 10 fun o22 => cond (Nat.beq o22 1000000) false <| rdr t a_u 4 fun o25 => cond (Nat.beq o25 1000000) false <| and (Nat.beq (clx o25) 902) <| and (Nat.blt a_x1 (lnx o25)) <| wra t o4 a_x1 v66_ fun t30 => rdi t30 a_u 1 fun v32 => rdr t30 a_u 4 fun o34 => rda t30 o34 a_x1 fun v36 => rdi t30 a_u 6 fun v38 => frc (w_mul v32 v36) fun f40 => x_p_Pi_upward f40 v38 (fun v90_ => rdr t30 a_u 10 fun o42 => and (Nat.beq (clx o42) 902) <| and (Nat.blt a_x1 (lnx o42)) <| rdr t30 a_u 11 fun o46 => cond (Nat.beq o46 1000000) false <| rdr t30 a_u 3 fun o49 => cond (Nat.beq o49 1000000) false <| and (Nat.blt a_x1 (lnx o49)) <| and (Nat.beq (clx o46) 902) <| and (Nat.blt a_x1 (lnx o46)) <| rdr t30 a_u 12 fun o55 => cond (Nat.beq o55 1000000) false <| cond (Nat.beq o34 1000000) false <| and (Nat.blt a_x1 (lnx o34)) <| and (Nat.beq (clx o55) 902) <| and (Nat.blt a_x1 (lnx o55)) <| frc (w_add a_x1 1) fun f62 => wra t30 o42 a_x1 v90_ fun t64 => rdr t64 a_u 11 fun o68 => rdr t64 a_u 3 fun o70 => rda t64 o70 a_x1 fun v72 => rdi t64 a_u 7 fun v74 => frc (w_mul v72 v74) fun f76 => wra t64 o68 a_x1 f76 fun t66 => rdr t66 a_u 12 fun o80 => rdr t66 a_u 11 fun o82 => rda t66 o82 a_x1 fun v84 => rdr t66 a_u 4 fun o86 => rda t66 o86 a_x1 fun v88 => rdi t66 a_u 8 fun v90 => frc (w_mul (w_mul v84 v88) v90) fun f92 => wra t66 o80 a_x1 f92 fun t78 => r_R38 f62 t78)))
set_option maxRecDepth 20000 in
set_option maxHeartbeats 1000000 in
theorem xs_b_Pi_measure_38 {u a_u : Nat} {x1 : Int32} {a_x1 : Nat} {S : cs} {t : X8} {R38 : Int32 → cs → Prop} {r_R38 : Nat → X8 → Bool} {K : cs → Prop} {k_K : X8 → Bool} (h : x_b_Pi_measure_38 a_u a_x1 t r_R38 k_K = true) (e_u : u = a_u) (e_x1 : x1 = Int32.ofNat a_x1) (hS : RC S t) (hR38 : ∀ {y0 : Int32} {b0 : Nat} {yS : cs} {yt : X8}, r_R38 b0 yt = true → y0 = Int32.ofNat b0 → RC yS yt → R38 y0 yS) (hK : ∀ {yS : cs} {yt : X8}, k_K yt = true → RC yS yt → K yS) : b_Pi_measure_38 UL u x1 S R38 K := by
  unfold b_Pi_measure_38
  unfold x_b_Pi_measure_38 at h
  obtain ⟨v1, h, q2⟩ := rdi_ok h hS e_u
  have hc3 := c_le' q2 e_x1
  refine ⟨fun hc => ?_, fun hc => ?_⟩
  · have h := x_pos h (hc3.mp hc)
    exact hK h hS
  · have h := x_neg h (fun q => hc (hc3.mpr q))
    obtain ⟨o4, h, q5⟩ := rdr_ok h hS e_u
    obtain ⟨n6, h⟩ := nu_ok h
    refine ⟨nu_no n6 q5, ?_⟩
    obtain ⟨o7, h, q8⟩ := rdr_ok h hS e_u
    obtain ⟨n9, h⟩ := nu_ok h
    refine ⟨nu_no n9 q8, ?_⟩
    obtain ⟨n10, h⟩ := an_ok h
    refine ⟨cl_ok n10 q8 (by decide), ?_⟩
    obtain ⟨n11, h⟩ := an_ok h
    refine ⟨vpc_ok n11 e_x1 q8, ?_⟩
    obtain ⟨v12, h, q13⟩ := rdi_ok h hS e_u
    obtain ⟨v14, h, q15⟩ := rda_ok h hS q8 e_x1
    obtain ⟨v16, h, q17⟩ := rdi_ok h hS e_u
    have h := frc_ok h
    have p19 := n_mul q13 q15
    refine xs_p_Pi_upward h p19 q17 (fun h e_v66 => ?_)
    obtain ⟨n20, h⟩ := an_ok h
    refine ⟨cl_ok n20 q5 (by decide), ?_⟩
    obtain ⟨n21, h⟩ := an_ok h
    refine ⟨vpc_ok n21 e_x1 q5, ?_⟩
    obtain ⟨o22, h, q23⟩ := rdr_ok h hS e_u
    obtain ⟨n24, h⟩ := nu_ok h
    refine ⟨nu_no n24 q23, ?_⟩
    obtain ⟨o25, h, q26⟩ := rdr_ok h hS e_u
    obtain ⟨n27, h⟩ := nu_ok h
    refine ⟨nu_no n27 q26, ?_⟩
    obtain ⟨n28, h⟩ := an_ok h
    refine ⟨cl_ok n28 q26 (by decide), ?_⟩
    obtain ⟨n29, h⟩ := an_ok h
    refine ⟨vpc_ok n29 e_x1 q26, ?_⟩
    obtain ⟨t30, h, hS31⟩ := wra_ok h hS q5 e_x1 e_v66
    obtain ⟨v32, h, q33⟩ := rdi_ok h hS31 e_u
    obtain ⟨o34, h, q35⟩ := rdr_ok h hS31 e_u
    obtain ⟨v36, h, q37⟩ := rda_ok h hS31 q35 e_x1
    obtain ⟨v38, h, q39⟩ := rdi_ok h hS31 e_u
    have h := frc_ok h
    have p41 := n_mul q33 q37
    refine xs_p_Pi_upward h p41 q39 (fun h e_v90 => ?_)
    obtain ⟨o42, h, q43⟩ := rdr_ok h hS31 e_u
    obtain ⟨n44, h⟩ := an_ok h
    refine ⟨cl_ok n44 q43 (by decide), ?_⟩
    obtain ⟨n45, h⟩ := an_ok h
    refine ⟨vpc_ok n45 e_x1 q43, ?_⟩
    obtain ⟨o46, h, q47⟩ := rdr_ok h hS31 e_u
    obtain ⟨n48, h⟩ := nu_ok h
    refine ⟨nu_no n48 q47, ?_⟩
    obtain ⟨o49, h, q50⟩ := rdr_ok h hS31 e_u
    obtain ⟨n51, h⟩ := nu_ok h
    refine ⟨nu_no n51 q50, ?_⟩
    obtain ⟨n52, h⟩ := an_ok h
    refine ⟨vpc_ok n52 e_x1 q50, ?_⟩
    obtain ⟨n53, h⟩ := an_ok h
    refine ⟨cl_ok n53 q47 (by decide), ?_⟩
    obtain ⟨n54, h⟩ := an_ok h
    refine ⟨vpc_ok n54 e_x1 q47, ?_⟩
    obtain ⟨o55, h, q56⟩ := rdr_ok h hS31 e_u
    obtain ⟨n57, h⟩ := nu_ok h
    refine ⟨nu_no n57 q56, ?_⟩
    refine ⟨nu_no n48 q47, ?_⟩
    refine ⟨vpc_ok n54 e_x1 q47, ?_⟩
    obtain ⟨n58, h⟩ := nu_ok h
    refine ⟨nu_no n58 q35, ?_⟩
    obtain ⟨n59, h⟩ := an_ok h
    refine ⟨vpc_ok n59 e_x1 q35, ?_⟩
    obtain ⟨n60, h⟩ := an_ok h
    refine ⟨cl_ok n60 q56 (by decide), ?_⟩
    obtain ⟨n61, h⟩ := an_ok h
    refine ⟨vpc_ok n61 e_x1 q56, ?_⟩
    have h := frc_ok h
    have p63 := n_add e_x1 ((rfl : (1 : Int32) = Int32.ofNat 1))
    obtain ⟨t64, h, hS65⟩ := wra_ok h hS31 q43 e_x1 e_v90
    obtain ⟨o68, h, q69⟩ := rdr_ok h hS65 e_u
    obtain ⟨o70, h, q71⟩ := rdr_ok h hS65 e_u
    obtain ⟨v72, h, q73⟩ := rda_ok h hS65 q71 e_x1
    obtain ⟨v74, h, q75⟩ := rdi_ok h hS65 e_u
    have h := frc_ok h
    have p77 := n_mul q73 q75
    obtain ⟨t66, h, hS67⟩ := wra_ok h hS65 q69 e_x1 p77
    obtain ⟨o80, h, q81⟩ := rdr_ok h hS67 e_u
    obtain ⟨o82, h, q83⟩ := rdr_ok h hS67 e_u
    obtain ⟨v84, h, q85⟩ := rda_ok h hS67 q83 e_x1
    obtain ⟨o86, h, q87⟩ := rdr_ok h hS67 e_u
    obtain ⟨v88, h, q89⟩ := rda_ok h hS67 q87 e_x1
    obtain ⟨v90, h, q91⟩ := rdi_ok h hS67 e_u
    have h := frc_ok h
    have p93 := n_mul (n_mul q85 q89) q91
    obtain ⟨t78, h, hS79⟩ := wra_ok h hS67 q81 e_x1 p93
    exact hR38 h p63 hS79
noncomputable def xl_e_Pi_measure_38 (a_u : Nat) (k_K : X8 → Bool) (n : Nat) : Nat → X8 → Bool := Nat.rec (motive := fun _ => Nat → X8 → Bool) (fun _ _ => false) (fun _ ih b_x1 bt => x_b_Pi_measure_38 a_u b_x1 bt ih k_K) n
noncomputable def x_e_Pi_measure_38 (a_u : Nat) (a_x1 : Nat) (t : X8) (k_K : X8 → Bool) : Bool := xl_e_Pi_measure_38 a_u k_K 200000 a_x1 t
def xq_e_Pi_measure_38 (a_u : Nat) (k_K : X8 → Bool) (n : Nat) (y_x1 : Int32) (yS : cs) : Prop := ∃ (b_x1 : Nat) (bt : X8), y_x1 = Int32.ofNat b_x1 ∧ RC yS bt ∧ xl_e_Pi_measure_38 a_u k_K n b_x1 bt = true
set_option maxRecDepth 20000 in
theorem xs_e_Pi_measure_38 {u a_u : Nat} {x1 : Int32} {a_x1 : Nat} {S : cs} {t : X8} {K : cs → Prop} {k_K : X8 → Bool} (h : x_e_Pi_measure_38 a_u a_x1 t k_K = true) (e_u : u = a_u) (e_x1 : x1 = Int32.ofNat a_x1) (hS : RC S t) (hK : ∀ {yS : cs} {yt : X8}, k_K yt = true → RC yS yt → K yS) : e_Pi_measure_38 UL u x1 S K := by
  refine ⟨fun y_x1 yS => ∃ n, xq_e_Pi_measure_38 a_u k_K n y_x1 yS, fun y_x1 yS => mf (fun n => xq_e_Pi_measure_38 a_u k_K n y_x1 yS), ⟨200000, a_x1, t, e_x1, hS, h⟩, fun y_x1 yS hI => ?_⟩
  obtain ⟨m, hm, hq⟩ := mf_ok hI
  obtain ⟨b_x1, bt, c_x1, cS, h⟩ := hq
  cases m with
  | zero => exact absurd h Bool.false_ne_true
  | succ n => exact xs_b_Pi_measure_38 h e_u c_x1 cS (fun h d_x1 dS => ⟨⟨n, _, _, d_x1, dS, h⟩, Nat.lt_of_le_of_lt (mf_le ⟨_, _, d_x1, dS, h⟩) (Nat.lt_of_lt_of_eq (Nat.lt_succ_self n) hm.symm)⟩) hK
noncomputable def x_p_Pi_measure (a_u : Nat) (t : X8) (k_K : X8 → Bool) : Bool :=
  rdi t a_u 0 fun v1 => rdi t a_u 5 fun v3 => frc (w_mul 8 v3) fun f5 => x_p_Pi_upward v1 f5 (fun v12_ => wri t a_u 7 v12_ fun t7 => rdi t7 a_u 1 fun v9 => rdi t7 a_u 6 fun v11 => frc (w_mul 8 v11) fun f13 => x_p_Pi_upward v9 f13 (fun v30_ => wri t7 a_u 8 v30_ fun t15 => x_e_Pi_measure_38 a_u 0 t15 k_K))
set_option maxRecDepth 20000 in
set_option maxHeartbeats 1000000 in
theorem xs_p_Pi_measure {u a_u : Nat} {S : cs} {t : X8} {K : cs → Prop} {k_K : X8 → Bool} (h : x_p_Pi_measure a_u t k_K = true) (e_u : u = a_u) (hS : RC S t) (hK : ∀ {yS : cs} {yt : X8}, k_K yt = true → RC yS yt → K yS) : p_Pi_measure UL u S K := by
  unfold p_Pi_measure
  unfold x_p_Pi_measure at h
  obtain ⟨v1, h, q2⟩ := rdi_ok h hS e_u
  obtain ⟨v3, h, q4⟩ := rdi_ok h hS e_u
  have h := frc_ok h
  have p6 := n_mul ((rfl : (8 : Int32) = Int32.ofNat 8)) q4
  refine xs_p_Pi_upward h q2 p6 (fun h e_v12 => ?_)
  obtain ⟨t7, h, hS8⟩ := wri_ok h hS e_u e_v12
  obtain ⟨v9, h, q10⟩ := rdi_ok h hS8 e_u
  obtain ⟨v11, h, q12⟩ := rdi_ok h hS8 e_u
  have h := frc_ok h
  have p14 := n_mul ((rfl : (8 : Int32) = Int32.ofNat 8)) q12
  refine xs_p_Pi_upward h q10 p14 (fun h e_v30 => ?_)
  obtain ⟨t15, h, hS16⟩ := wri_ok h hS8 e_u e_v30
  exact xs_e_Pi_measure_38 h e_u ((rfl : (0 : Int32) = Int32.ofNat 0)) hS16 hK
noncomputable def x_b_Sc_blocksTogether_4 (a_u : Nat) (a_x1 : Nat) (a_x2 : Nat) (a_x3 : Nat) (t : X8) (r_R4 : Nat → Nat → Nat → X8 → Bool) (k_K : Nat → X8 → Bool) : Bool :=
  rdi t a_u 0 fun v1 => cond (!(w_lt a_x3 v1)) (k_K a_x2 t) (and (Nat.beq (clx a_x1) 7) <| rdr t a_x1 3 fun o5 => cond (Nat.beq o5 1000000) false <| rdr t a_u 1 fun o8 => cond (Nat.beq o8 1000000) false <| and (Nat.beq (clx o8) 902) <| and (Nat.blt a_x3 (lnx o8)) <| and (Nat.beq (clx o5) 902) <| rda t o8 a_x3 fun v14 => and (Nat.blt v14 (lnx o5)) <| rdr t a_x1 4 fun o17 => cond (Nat.beq o17 1000000) false <| and (Nat.beq (clx o17) 902) <| and (Nat.blt v14 (lnx o17)) <| rda t o5 v14 fun v22 => rda t o17 v14 fun v24 => frc (w_add a_x2 (w_mul v22 v24)) fun f26 => frc (w_add a_x3 1) fun f28 => r_R4 a_x1 f26 f28 t)
set_option maxRecDepth 20000 in
set_option maxHeartbeats 1000000 in
theorem xs_b_Sc_blocksTogether_4 {u a_u : Nat} {x1 a_x1 : Nat} {x2 : Int32} {a_x2 : Nat} {x3 : Int32} {a_x3 : Nat} {S : cs} {t : X8} {R4 : Nat → Int32 → Int32 → cs → Prop} {r_R4 : Nat → Nat → Nat → X8 → Bool} {K : Int32 → cs → Prop} {k_K : Nat → X8 → Bool} (h : x_b_Sc_blocksTogether_4 a_u a_x1 a_x2 a_x3 t r_R4 k_K = true) (e_u : u = a_u) (e_x1 : x1 = a_x1) (e_x2 : x2 = Int32.ofNat a_x2) (e_x3 : x3 = Int32.ofNat a_x3) (hS : RC S t) (hR4 : ∀ {y0 b0 : Nat} {y1 : Int32} {b1 : Nat} {y2 : Int32} {b2 : Nat} {yS : cs} {yt : X8}, r_R4 b0 b1 b2 yt = true → y0 = b0 → y1 = Int32.ofNat b1 → y2 = Int32.ofNat b2 → RC yS yt → R4 y0 y1 y2 yS) (hK : ∀ {y0 : Int32} {b0 : Nat} {yS : cs} {yt : X8}, k_K b0 yt = true → y0 = Int32.ofNat b0 → RC yS yt → K y0 yS) : b_Sc_blocksTogether_4 UL u x1 x2 x3 S R4 K := by
  unfold b_Sc_blocksTogether_4
  unfold x_b_Sc_blocksTogether_4 at h
  obtain ⟨v1, h, q2⟩ := rdi_ok h hS e_u
  have hc3 := c_le' q2 e_x3
  refine ⟨fun hc => ?_, fun hc => ?_⟩
  · have h := x_pos h (hc3.mp hc)
    exact hK h e_x2 hS
  · have h := x_neg h (fun q => hc (hc3.mpr q))
    obtain ⟨n4, h⟩ := an_ok h
    refine ⟨cl_ok n4 e_x1 (by decide), ?_⟩
    obtain ⟨o5, h, q6⟩ := rdr_ok h hS e_x1
    obtain ⟨n7, h⟩ := nu_ok h
    refine ⟨nu_no n7 q6, ?_⟩
    obtain ⟨o8, h, q9⟩ := rdr_ok h hS e_u
    obtain ⟨n10, h⟩ := nu_ok h
    refine ⟨nu_no n10 q9, ?_⟩
    obtain ⟨n11, h⟩ := an_ok h
    refine ⟨cl_ok n11 q9 (by decide), ?_⟩
    obtain ⟨n12, h⟩ := an_ok h
    refine ⟨vpc_ok n12 e_x3 q9, ?_⟩
    obtain ⟨n13, h⟩ := an_ok h
    refine ⟨cl_ok n13 q6 (by decide), ?_⟩
    obtain ⟨v14, h, q15⟩ := rda_ok h hS q9 e_x3
    obtain ⟨n16, h⟩ := an_ok h
    refine ⟨vpc_ok n16 q15 q6, ?_⟩
    obtain ⟨o17, h, q18⟩ := rdr_ok h hS e_x1
    obtain ⟨n19, h⟩ := nu_ok h
    refine ⟨nu_no n19 q18, ?_⟩
    refine ⟨nu_no n10 q9, ?_⟩
    refine ⟨vpc_ok n12 e_x3 q9, ?_⟩
    obtain ⟨n20, h⟩ := an_ok h
    refine ⟨cl_ok n20 q18 (by decide), ?_⟩
    obtain ⟨n21, h⟩ := an_ok h
    refine ⟨vpc_ok n21 q15 q18, ?_⟩
    obtain ⟨v22, h, q23⟩ := rda_ok h hS q6 q15
    obtain ⟨v24, h, q25⟩ := rda_ok h hS q18 q15
    have h := frc_ok h
    have p27 := n_add e_x2 (n_mul q23 q25)
    have h := frc_ok h
    have p29 := n_add e_x3 ((rfl : (1 : Int32) = Int32.ofNat 1))
    exact hR4 h e_x1 p27 p29 hS
noncomputable def xl_e_Sc_blocksTogether_4 (a_u : Nat) (k_K : Nat → X8 → Bool) (n : Nat) : Nat → Nat → Nat → X8 → Bool := Nat.rec (motive := fun _ => Nat → Nat → Nat → X8 → Bool) (fun _ _ _ _ => false) (fun _ ih b_x1 b_x2 b_x3 bt => x_b_Sc_blocksTogether_4 a_u b_x1 b_x2 b_x3 bt ih k_K) n
noncomputable def x_e_Sc_blocksTogether_4 (a_u : Nat) (a_x1 : Nat) (a_x2 : Nat) (a_x3 : Nat) (t : X8) (k_K : Nat → X8 → Bool) : Bool := xl_e_Sc_blocksTogether_4 a_u k_K 200000 a_x1 a_x2 a_x3 t
def xq_e_Sc_blocksTogether_4 (a_u : Nat) (k_K : Nat → X8 → Bool) (n : Nat) (y_x1 : Nat) (y_x2 : Int32) (y_x3 : Int32) (yS : cs) : Prop := ∃ (b_x1 : Nat) (b_x2 : Nat) (b_x3 : Nat) (bt : X8), y_x1 = b_x1 ∧ y_x2 = Int32.ofNat b_x2 ∧ y_x3 = Int32.ofNat b_x3 ∧ RC yS bt ∧ xl_e_Sc_blocksTogether_4 a_u k_K n b_x1 b_x2 b_x3 bt = true
set_option maxRecDepth 20000 in
theorem xs_e_Sc_blocksTogether_4 {u a_u : Nat} {x1 a_x1 : Nat} {x2 : Int32} {a_x2 : Nat} {x3 : Int32} {a_x3 : Nat} {S : cs} {t : X8} {K : Int32 → cs → Prop} {k_K : Nat → X8 → Bool} (h : x_e_Sc_blocksTogether_4 a_u a_x1 a_x2 a_x3 t k_K = true) (e_u : u = a_u) (e_x1 : x1 = a_x1) (e_x2 : x2 = Int32.ofNat a_x2) (e_x3 : x3 = Int32.ofNat a_x3) (hS : RC S t) (hK : ∀ {y0 : Int32} {b0 : Nat} {yS : cs} {yt : X8}, k_K b0 yt = true → y0 = Int32.ofNat b0 → RC yS yt → K y0 yS) : e_Sc_blocksTogether_4 UL u x1 x2 x3 S K := by
  refine ⟨fun y_x1 y_x2 y_x3 yS => ∃ n, xq_e_Sc_blocksTogether_4 a_u k_K n y_x1 y_x2 y_x3 yS, fun y_x1 y_x2 y_x3 yS => mf (fun n => xq_e_Sc_blocksTogether_4 a_u k_K n y_x1 y_x2 y_x3 yS), ⟨200000, a_x1, a_x2, a_x3, t, e_x1, e_x2, e_x3, hS, h⟩, fun y_x1 y_x2 y_x3 yS hI => ?_⟩
  obtain ⟨m, hm, hq⟩ := mf_ok hI
  obtain ⟨b_x1, b_x2, b_x3, bt, c_x1, c_x2, c_x3, cS, h⟩ := hq
  cases m with
  | zero => exact absurd h Bool.false_ne_true
  | succ n => exact xs_b_Sc_blocksTogether_4 h e_u c_x1 c_x2 c_x3 cS (fun h d_x1 d_x2 d_x3 dS => ⟨⟨n, _, _, _, _, d_x1, d_x2, d_x3, dS, h⟩, Nat.lt_of_le_of_lt (mf_le ⟨_, _, _, _, d_x1, d_x2, d_x3, dS, h⟩) (Nat.lt_of_lt_of_eq (Nat.lt_succ_self n) hm.symm)⟩) hK
noncomputable def x_p_Sc_blocksTogether (a_u : Nat) (a_x1 : Nat) (t : X8) (k_K : Nat → X8 → Bool) : Bool :=
  x_e_Sc_blocksTogether_4 a_u a_x1 0 0 t k_K
set_option maxRecDepth 20000 in
set_option maxHeartbeats 1000000 in
theorem xs_p_Sc_blocksTogether {u a_u : Nat} {x1 a_x1 : Nat} {S : cs} {t : X8} {K : Int32 → cs → Prop} {k_K : Nat → X8 → Bool} (h : x_p_Sc_blocksTogether a_u a_x1 t k_K = true) (e_u : u = a_u) (e_x1 : x1 = a_x1) (hS : RC S t) (hK : ∀ {y0 : Int32} {b0 : Nat} {yS : cs} {yt : X8}, k_K b0 yt = true → y0 = Int32.ofNat b0 → RC yS yt → K y0 yS) : p_Sc_blocksTogether UL u x1 S K := by
  unfold p_Sc_blocksTogether
  unfold x_p_Sc_blocksTogether at h
  exact xs_e_Sc_blocksTogether_4 h e_u e_x1 ((rfl : (0 : Int32) = Int32.ofNat 0)) ((rfl : (0 : Int32) = Int32.ofNat 0)) hS hK
noncomputable def x_b_Sc_addBlock_37 (a_u : Nat) (t : X8) (k_K : X8 → Bool) : Bool :=
  k_K t
set_option maxRecDepth 20000 in
set_option maxHeartbeats 1000000 in
theorem xs_b_Sc_addBlock_37 {u a_u : Nat} {S : cs} {t : X8} {K : cs → Prop} {k_K : X8 → Bool} (h : x_b_Sc_addBlock_37 a_u t k_K = true) (e_u : u = a_u) (hS : RC S t) (hK : ∀ {yS : cs} {yt : X8}, k_K yt = true → RC yS yt → K yS) : b_Sc_addBlock_37 UL u S K := by
  unfold b_Sc_addBlock_37
  unfold x_b_Sc_addBlock_37 at h
  exact hK h hS
noncomputable def x_p_Sc_addBlock (a_u : Nat) (a_x1 : Nat) (a_x2 : Nat) (t : X8) (k_K : X8 → Bool) : Bool :=
  rdr t a_u 7 fun o1 => cond (Nat.beq o1 1000000) false <| and (Nat.beq (clx o1) 902) <| and (Nat.blt o1 116) <| rdi t a_u 6 fun v6 => cond (!(w_lt v6 (lnx o1))) (x_b_Sc_addBlock_37 a_u t k_K) (and (Nat.blt v6 (lnx o1)) <| frc (w_add (w_mul 64 a_x1) a_x2) fun f12 => wra t o1 v6 f12 fun t10 => rdi t10 a_u 6 fun v16 => frc (w_add v16 1) fun f18 => wri t10 a_u 6 f18 fun t14 => x_b_Sc_addBlock_37 a_u t14 k_K)
set_option maxRecDepth 20000 in
set_option maxHeartbeats 1000000 in
theorem xs_p_Sc_addBlock {u a_u : Nat} {x1 : Int32} {a_x1 : Nat} {x2 : Int32} {a_x2 : Nat} {S : cs} {t : X8} {K : cs → Prop} {k_K : X8 → Bool} (h : x_p_Sc_addBlock a_u a_x1 a_x2 t k_K = true) (e_u : u = a_u) (e_x1 : x1 = Int32.ofNat a_x1) (e_x2 : x2 = Int32.ofNat a_x2) (hS : RC S t) (hK : ∀ {yS : cs} {yt : X8}, k_K yt = true → RC yS yt → K yS) : p_Sc_addBlock UL u x1 x2 S K := by
  unfold p_Sc_addBlock
  unfold x_p_Sc_addBlock at h
  obtain ⟨o1, h, q2⟩ := rdr_ok h hS e_u
  obtain ⟨n3, h⟩ := nu_ok h
  refine ⟨nu_no n3 q2, ?_⟩
  obtain ⟨n4, h⟩ := an_ok h
  refine ⟨cl_ok n4 q2 (by decide), ?_⟩
  obtain ⟨n5, h⟩ := an_ok h
  obtain ⟨v6, h, q7⟩ := rdi_ok h hS e_u
  have hc8 := c_le' (n_ln n5 q2) q7
  refine ⟨fun hc => ?_, fun hc => ?_⟩
  · have h := x_pos h (hc8.mp hc)
    exact xs_b_Sc_addBlock_37 h e_u hS hK
  · have h := x_neg h (fun q => hc (hc8.mpr q))
    refine ⟨nu_no n3 q2, ?_⟩
    obtain ⟨n9, h⟩ := an_ok h
    refine ⟨vpc_ok n9 q7 q2, ?_⟩
    have h := frc_ok h
    have p13 := n_add (n_mul ((rfl : (64 : Int32) = Int32.ofNat 64)) e_x1) e_x2
    obtain ⟨t10, h, hS11⟩ := wra_ok h hS q2 q7 p13
    obtain ⟨v16, h, q17⟩ := rdi_ok h hS11 e_u
    have h := frc_ok h
    have p19 := n_add q17 ((rfl : (1 : Int32) = Int32.ofNat 1))
    obtain ⟨t14, h, hS15⟩ := wri_ok h hS11 e_u p19
    exact xs_b_Sc_addBlock_37 h e_u hS15 hK
noncomputable def x_b_Sc_addStretch_38 (a_u : Nat) (a_x1 : Nat) (a_x2 : Nat) (a_x5 : Nat) (a_x6 : Nat) (a_x7 : Nat) (a_x8 : Nat) (t : X8) (r_R24 : Nat → Nat → Nat → Nat → Nat → X8 → Bool) (r_R38 : Nat → Nat → Nat → Nat → Nat → Nat → X8 → Bool) (k_K : X8 → Bool) : Bool :=
  and (Nat.beq (clx a_x1) 7) <| rdr t a_x1 3 fun o2 => cond (Nat.beq o2 1000000) false <| and (Nat.beq (clx o2) 902) <| and (Nat.blt a_x2 (lnx o2)) <| rda t o2 a_x2 fun v7 => cond (!(w_lt a_x8 v7)) (frc (w_add a_x7 1) fun f10 => r_R24 a_x1 a_x2 a_x5 a_x6 f10 t) (rdr t a_x1 11 fun o12 => cond (Nat.beq o12 1000000) false <| and (Nat.beq (clx o12) 902) <| and (Nat.blt a_x2 (lnx o12)) <| rda t o12 a_x2 fun v17 => frc (w_add (w_add (w_mul (w_add a_x6 a_x7) v17) a_x5) a_x8) fun f19 => x_p_Sc_addBlock a_u a_x2 f19 t (fun t_S69 => frc (w_add a_x8 1) fun f21 => r_R38 a_x1 a_x2 a_x5 a_x6 a_x7 f21 t_S69))
set_option maxRecDepth 20000 in
set_option maxHeartbeats 1000000 in
theorem xs_b_Sc_addStretch_38 {u a_u : Nat} {x1 a_x1 : Nat} {x2 : Int32} {a_x2 : Nat} {x5 : Int32} {a_x5 : Nat} {x6 : Int32} {a_x6 : Nat} {x7 : Int32} {a_x7 : Nat} {x8 : Int32} {a_x8 : Nat} {S : cs} {t : X8} {R24 : Nat → Int32 → Int32 → Int32 → Int32 → cs → Prop} {r_R24 : Nat → Nat → Nat → Nat → Nat → X8 → Bool} {R38 : Nat → Int32 → Int32 → Int32 → Int32 → Int32 → cs → Prop} {r_R38 : Nat → Nat → Nat → Nat → Nat → Nat → X8 → Bool} {K : cs → Prop} {k_K : X8 → Bool} (h : x_b_Sc_addStretch_38 a_u a_x1 a_x2 a_x5 a_x6 a_x7 a_x8 t r_R24 r_R38 k_K = true) (e_u : u = a_u) (e_x1 : x1 = a_x1) (e_x2 : x2 = Int32.ofNat a_x2) (e_x5 : x5 = Int32.ofNat a_x5) (e_x6 : x6 = Int32.ofNat a_x6) (e_x7 : x7 = Int32.ofNat a_x7) (e_x8 : x8 = Int32.ofNat a_x8) (hS : RC S t) (hR24 : ∀ {y0 b0 : Nat} {y1 : Int32} {b1 : Nat} {y2 : Int32} {b2 : Nat} {y3 : Int32} {b3 : Nat} {y4 : Int32} {b4 : Nat} {yS : cs} {yt : X8}, r_R24 b0 b1 b2 b3 b4 yt = true → y0 = b0 → y1 = Int32.ofNat b1 → y2 = Int32.ofNat b2 → y3 = Int32.ofNat b3 → y4 = Int32.ofNat b4 → RC yS yt → R24 y0 y1 y2 y3 y4 yS) (hR38 : ∀ {y0 b0 : Nat} {y1 : Int32} {b1 : Nat} {y2 : Int32} {b2 : Nat} {y3 : Int32} {b3 : Nat} {y4 : Int32} {b4 : Nat} {y5 : Int32} {b5 : Nat} {yS : cs} {yt : X8}, r_R38 b0 b1 b2 b3 b4 b5 yt = true → y0 = b0 → y1 = Int32.ofNat b1 → y2 = Int32.ofNat b2 → y3 = Int32.ofNat b3 → y4 = Int32.ofNat b4 → y5 = Int32.ofNat b5 → RC yS yt → R38 y0 y1 y2 y3 y4 y5 yS) (hK : ∀ {yS : cs} {yt : X8}, k_K yt = true → RC yS yt → K yS) : b_Sc_addStretch_38 UL u x1 x2 x5 x6 x7 x8 S R24 R38 K := by
  unfold b_Sc_addStretch_38
  unfold x_b_Sc_addStretch_38 at h
  obtain ⟨n1, h⟩ := an_ok h
  refine ⟨cl_ok n1 e_x1 (by decide), ?_⟩
  obtain ⟨o2, h, q3⟩ := rdr_ok h hS e_x1
  obtain ⟨n4, h⟩ := nu_ok h
  refine ⟨nu_no n4 q3, ?_⟩
  obtain ⟨n5, h⟩ := an_ok h
  refine ⟨cl_ok n5 q3 (by decide), ?_⟩
  obtain ⟨n6, h⟩ := an_ok h
  refine ⟨vpc_ok n6 e_x2 q3, ?_⟩
  obtain ⟨v7, h, q8⟩ := rda_ok h hS q3 e_x2
  have hc9 := c_le' q8 e_x8
  refine ⟨fun hc => ?_, fun hc => ?_⟩
  · have h := x_pos h (hc9.mp hc)
    have h := frc_ok h
    have p11 := n_add e_x7 ((rfl : (1 : Int32) = Int32.ofNat 1))
    exact hR24 h e_x1 e_x2 e_x5 e_x6 p11 hS
  · have h := x_neg h (fun q => hc (hc9.mpr q))
    obtain ⟨o12, h, q13⟩ := rdr_ok h hS e_x1
    obtain ⟨n14, h⟩ := nu_ok h
    refine ⟨nu_no n14 q13, ?_⟩
    obtain ⟨n15, h⟩ := an_ok h
    refine ⟨cl_ok n15 q13 (by decide), ?_⟩
    obtain ⟨n16, h⟩ := an_ok h
    refine ⟨vpc_ok n16 e_x2 q13, ?_⟩
    obtain ⟨v17, h, q18⟩ := rda_ok h hS q13 e_x2
    have h := frc_ok h
    have p20 := n_add (n_add (n_mul (n_add e_x6 e_x7) q18) e_x5) e_x8
    refine xs_p_Sc_addBlock h e_u e_x2 p20 hS (fun h h_S69 => ?_)
    have h := frc_ok h
    have p22 := n_add e_x8 ((rfl : (1 : Int32) = Int32.ofNat 1))
    exact hR38 h e_x1 e_x2 e_x5 e_x6 e_x7 p22 h_S69
noncomputable def xl_e_Sc_addStretch_38 (a_u : Nat) (r_R24 : Nat → Nat → Nat → Nat → Nat → X8 → Bool) (k_K : X8 → Bool) (n : Nat) : Nat → Nat → Nat → Nat → Nat → Nat → X8 → Bool := Nat.rec (motive := fun _ => Nat → Nat → Nat → Nat → Nat → Nat → X8 → Bool) (fun _ _ _ _ _ _ _ => false) (fun _ ih b_x1 b_x2 b_x5 b_x6 b_x7 b_x8 bt => x_b_Sc_addStretch_38 a_u b_x1 b_x2 b_x5 b_x6 b_x7 b_x8 bt r_R24 ih k_K) n
noncomputable def x_e_Sc_addStretch_38 (a_u : Nat) (a_x1 : Nat) (a_x2 : Nat) (a_x5 : Nat) (a_x6 : Nat) (a_x7 : Nat) (a_x8 : Nat) (t : X8) (r_R24 : Nat → Nat → Nat → Nat → Nat → X8 → Bool) (k_K : X8 → Bool) : Bool := xl_e_Sc_addStretch_38 a_u r_R24 k_K 200000 a_x1 a_x2 a_x5 a_x6 a_x7 a_x8 t
def xq_e_Sc_addStretch_38 (a_u : Nat) (r_R24 : Nat → Nat → Nat → Nat → Nat → X8 → Bool) (k_K : X8 → Bool) (n : Nat) (y_x1 : Nat) (y_x2 : Int32) (y_x5 : Int32) (y_x6 : Int32) (y_x7 : Int32) (y_x8 : Int32) (yS : cs) : Prop := ∃ (b_x1 : Nat) (b_x2 : Nat) (b_x5 : Nat) (b_x6 : Nat) (b_x7 : Nat) (b_x8 : Nat) (bt : X8), y_x1 = b_x1 ∧ y_x2 = Int32.ofNat b_x2 ∧ y_x5 = Int32.ofNat b_x5 ∧ y_x6 = Int32.ofNat b_x6 ∧ y_x7 = Int32.ofNat b_x7 ∧ y_x8 = Int32.ofNat b_x8 ∧ RC yS bt ∧ xl_e_Sc_addStretch_38 a_u r_R24 k_K n b_x1 b_x2 b_x5 b_x6 b_x7 b_x8 bt = true
set_option maxRecDepth 20000 in
theorem xs_e_Sc_addStretch_38 {u a_u : Nat} {x1 a_x1 : Nat} {x2 : Int32} {a_x2 : Nat} {x5 : Int32} {a_x5 : Nat} {x6 : Int32} {a_x6 : Nat} {x7 : Int32} {a_x7 : Nat} {x8 : Int32} {a_x8 : Nat} {S : cs} {t : X8} {R24 : Nat → Int32 → Int32 → Int32 → Int32 → cs → Prop} {r_R24 : Nat → Nat → Nat → Nat → Nat → X8 → Bool} {K : cs → Prop} {k_K : X8 → Bool} (h : x_e_Sc_addStretch_38 a_u a_x1 a_x2 a_x5 a_x6 a_x7 a_x8 t r_R24 k_K = true) (e_u : u = a_u) (e_x1 : x1 = a_x1) (e_x2 : x2 = Int32.ofNat a_x2) (e_x5 : x5 = Int32.ofNat a_x5) (e_x6 : x6 = Int32.ofNat a_x6) (e_x7 : x7 = Int32.ofNat a_x7) (e_x8 : x8 = Int32.ofNat a_x8) (hS : RC S t) (hR24 : ∀ {y0 b0 : Nat} {y1 : Int32} {b1 : Nat} {y2 : Int32} {b2 : Nat} {y3 : Int32} {b3 : Nat} {y4 : Int32} {b4 : Nat} {yS : cs} {yt : X8}, r_R24 b0 b1 b2 b3 b4 yt = true → y0 = b0 → y1 = Int32.ofNat b1 → y2 = Int32.ofNat b2 → y3 = Int32.ofNat b3 → y4 = Int32.ofNat b4 → RC yS yt → R24 y0 y1 y2 y3 y4 yS) (hK : ∀ {yS : cs} {yt : X8}, k_K yt = true → RC yS yt → K yS) : e_Sc_addStretch_38 UL u x1 x2 x5 x6 x7 x8 S R24 K := by
  refine ⟨fun y_x1 y_x2 y_x5 y_x6 y_x7 y_x8 yS => ∃ n, xq_e_Sc_addStretch_38 a_u r_R24 k_K n y_x1 y_x2 y_x5 y_x6 y_x7 y_x8 yS, fun y_x1 y_x2 y_x5 y_x6 y_x7 y_x8 yS => mf (fun n => xq_e_Sc_addStretch_38 a_u r_R24 k_K n y_x1 y_x2 y_x5 y_x6 y_x7 y_x8 yS), ⟨200000, a_x1, a_x2, a_x5, a_x6, a_x7, a_x8, t, e_x1, e_x2, e_x5, e_x6, e_x7, e_x8, hS, h⟩, fun y_x1 y_x2 y_x5 y_x6 y_x7 y_x8 yS hI => ?_⟩
  obtain ⟨m, hm, hq⟩ := mf_ok hI
  obtain ⟨b_x1, b_x2, b_x5, b_x6, b_x7, b_x8, bt, c_x1, c_x2, c_x5, c_x6, c_x7, c_x8, cS, h⟩ := hq
  cases m with
  | zero => exact absurd h Bool.false_ne_true
  | succ n => exact xs_b_Sc_addStretch_38 h e_u c_x1 c_x2 c_x5 c_x6 c_x7 c_x8 cS hR24 (fun h d_x1 d_x2 d_x5 d_x6 d_x7 d_x8 dS => ⟨⟨n, _, _, _, _, _, _, _, d_x1, d_x2, d_x5, d_x6, d_x7, d_x8, dS, h⟩, Nat.lt_of_le_of_lt (mf_le ⟨_, _, _, _, _, _, _, d_x1, d_x2, d_x5, d_x6, d_x7, d_x8, dS, h⟩) (Nat.lt_of_lt_of_eq (Nat.lt_succ_self n) hm.symm)⟩) hK
noncomputable def x_b_Sc_addStretch_24 (a_u : Nat) (a_x1 : Nat) (a_x2 : Nat) (a_x5 : Nat) (a_x6 : Nat) (a_x7 : Nat) (t : X8) (r_R24 : Nat → Nat → Nat → Nat → Nat → X8 → Bool) (k_K : X8 → Bool) : Bool :=
  and (Nat.beq (clx a_x1) 7) <| rdr t a_x1 4 fun o2 => cond (Nat.beq o2 1000000) false <| and (Nat.beq (clx o2) 902) <| and (Nat.blt a_x2 (lnx o2)) <| rda t o2 a_x2 fun v7 => cond (!(w_lt a_x7 v7)) (k_K t) (x_e_Sc_addStretch_38 a_u a_x1 a_x2 a_x5 a_x6 a_x7 0 t r_R24 k_K)
set_option maxRecDepth 20000 in
set_option maxHeartbeats 1000000 in
theorem xs_b_Sc_addStretch_24 {u a_u : Nat} {x1 a_x1 : Nat} {x2 : Int32} {a_x2 : Nat} {x5 : Int32} {a_x5 : Nat} {x6 : Int32} {a_x6 : Nat} {x7 : Int32} {a_x7 : Nat} {S : cs} {t : X8} {R24 : Nat → Int32 → Int32 → Int32 → Int32 → cs → Prop} {r_R24 : Nat → Nat → Nat → Nat → Nat → X8 → Bool} {K : cs → Prop} {k_K : X8 → Bool} (h : x_b_Sc_addStretch_24 a_u a_x1 a_x2 a_x5 a_x6 a_x7 t r_R24 k_K = true) (e_u : u = a_u) (e_x1 : x1 = a_x1) (e_x2 : x2 = Int32.ofNat a_x2) (e_x5 : x5 = Int32.ofNat a_x5) (e_x6 : x6 = Int32.ofNat a_x6) (e_x7 : x7 = Int32.ofNat a_x7) (hS : RC S t) (hR24 : ∀ {y0 b0 : Nat} {y1 : Int32} {b1 : Nat} {y2 : Int32} {b2 : Nat} {y3 : Int32} {b3 : Nat} {y4 : Int32} {b4 : Nat} {yS : cs} {yt : X8}, r_R24 b0 b1 b2 b3 b4 yt = true → y0 = b0 → y1 = Int32.ofNat b1 → y2 = Int32.ofNat b2 → y3 = Int32.ofNat b3 → y4 = Int32.ofNat b4 → RC yS yt → R24 y0 y1 y2 y3 y4 yS) (hK : ∀ {yS : cs} {yt : X8}, k_K yt = true → RC yS yt → K yS) : b_Sc_addStretch_24 UL u x1 x2 x5 x6 x7 S R24 K := by
  unfold b_Sc_addStretch_24
  unfold x_b_Sc_addStretch_24 at h
  obtain ⟨n1, h⟩ := an_ok h
  refine ⟨cl_ok n1 e_x1 (by decide), ?_⟩
  obtain ⟨o2, h, q3⟩ := rdr_ok h hS e_x1
  obtain ⟨n4, h⟩ := nu_ok h
  refine ⟨nu_no n4 q3, ?_⟩
  obtain ⟨n5, h⟩ := an_ok h
  refine ⟨cl_ok n5 q3 (by decide), ?_⟩
  obtain ⟨n6, h⟩ := an_ok h
  refine ⟨vpc_ok n6 e_x2 q3, ?_⟩
  obtain ⟨v7, h, q8⟩ := rda_ok h hS q3 e_x2
  have hc9 := c_le' q8 e_x7
  refine ⟨fun hc => ?_, fun hc => ?_⟩
  · have h := x_pos h (hc9.mp hc)
    exact hK h hS
  · have h := x_neg h (fun q => hc (hc9.mpr q))
    exact xs_e_Sc_addStretch_38 h e_u e_x1 e_x2 e_x5 e_x6 e_x7 ((rfl : (0 : Int32) = Int32.ofNat 0)) hS hR24 hK
noncomputable def xl_e_Sc_addStretch_24 (a_u : Nat) (k_K : X8 → Bool) (n : Nat) : Nat → Nat → Nat → Nat → Nat → X8 → Bool := Nat.rec (motive := fun _ => Nat → Nat → Nat → Nat → Nat → X8 → Bool) (fun _ _ _ _ _ _ => false) (fun _ ih b_x1 b_x2 b_x5 b_x6 b_x7 bt => x_b_Sc_addStretch_24 a_u b_x1 b_x2 b_x5 b_x6 b_x7 bt ih k_K) n
noncomputable def x_e_Sc_addStretch_24 (a_u : Nat) (a_x1 : Nat) (a_x2 : Nat) (a_x5 : Nat) (a_x6 : Nat) (a_x7 : Nat) (t : X8) (k_K : X8 → Bool) : Bool := xl_e_Sc_addStretch_24 a_u k_K 200000 a_x1 a_x2 a_x5 a_x6 a_x7 t
def xq_e_Sc_addStretch_24 (a_u : Nat) (k_K : X8 → Bool) (n : Nat) (y_x1 : Nat) (y_x2 : Int32) (y_x5 : Int32) (y_x6 : Int32) (y_x7 : Int32) (yS : cs) : Prop := ∃ (b_x1 : Nat) (b_x2 : Nat) (b_x5 : Nat) (b_x6 : Nat) (b_x7 : Nat) (bt : X8), y_x1 = b_x1 ∧ y_x2 = Int32.ofNat b_x2 ∧ y_x5 = Int32.ofNat b_x5 ∧ y_x6 = Int32.ofNat b_x6 ∧ y_x7 = Int32.ofNat b_x7 ∧ RC yS bt ∧ xl_e_Sc_addStretch_24 a_u k_K n b_x1 b_x2 b_x5 b_x6 b_x7 bt = true
set_option maxRecDepth 20000 in
theorem xs_e_Sc_addStretch_24 {u a_u : Nat} {x1 a_x1 : Nat} {x2 : Int32} {a_x2 : Nat} {x5 : Int32} {a_x5 : Nat} {x6 : Int32} {a_x6 : Nat} {x7 : Int32} {a_x7 : Nat} {S : cs} {t : X8} {K : cs → Prop} {k_K : X8 → Bool} (h : x_e_Sc_addStretch_24 a_u a_x1 a_x2 a_x5 a_x6 a_x7 t k_K = true) (e_u : u = a_u) (e_x1 : x1 = a_x1) (e_x2 : x2 = Int32.ofNat a_x2) (e_x5 : x5 = Int32.ofNat a_x5) (e_x6 : x6 = Int32.ofNat a_x6) (e_x7 : x7 = Int32.ofNat a_x7) (hS : RC S t) (hK : ∀ {yS : cs} {yt : X8}, k_K yt = true → RC yS yt → K yS) : e_Sc_addStretch_24 UL u x1 x2 x5 x6 x7 S K := by
  refine ⟨fun y_x1 y_x2 y_x5 y_x6 y_x7 yS => ∃ n, xq_e_Sc_addStretch_24 a_u k_K n y_x1 y_x2 y_x5 y_x6 y_x7 yS, fun y_x1 y_x2 y_x5 y_x6 y_x7 yS => mf (fun n => xq_e_Sc_addStretch_24 a_u k_K n y_x1 y_x2 y_x5 y_x6 y_x7 yS), ⟨200000, a_x1, a_x2, a_x5, a_x6, a_x7, t, e_x1, e_x2, e_x5, e_x6, e_x7, hS, h⟩, fun y_x1 y_x2 y_x5 y_x6 y_x7 yS hI => ?_⟩
  obtain ⟨m, hm, hq⟩ := mf_ok hI
  obtain ⟨b_x1, b_x2, b_x5, b_x6, b_x7, bt, c_x1, c_x2, c_x5, c_x6, c_x7, cS, h⟩ := hq
  cases m with
  | zero => exact absurd h Bool.false_ne_true
  | succ n => exact xs_b_Sc_addStretch_24 h e_u c_x1 c_x2 c_x5 c_x6 c_x7 cS (fun h d_x1 d_x2 d_x5 d_x6 d_x7 dS => ⟨⟨n, _, _, _, _, _, _, d_x1, d_x2, d_x5, d_x6, d_x7, dS, h⟩, Nat.lt_of_le_of_lt (mf_le ⟨_, _, _, _, _, _, d_x1, d_x2, d_x5, d_x6, d_x7, dS, h⟩) (Nat.lt_of_lt_of_eq (Nat.lt_succ_self n) hm.symm)⟩) hK
noncomputable def x_p_Sc_addStretch (a_u : Nat) (a_x1 : Nat) (a_x2 : Nat) (a_x3 : Nat) (a_x4 : Nat) (t : X8) (k_K : X8 → Bool) : Bool :=
  and (Nat.beq (clx a_x1) 7) <| rdr t a_x1 3 fun o2 => cond (Nat.beq o2 1000000) false <| and (Nat.beq (clx o2) 902) <| and (Nat.blt a_x2 (lnx o2)) <| rdr t a_x1 4 fun o7 => cond (Nat.beq o7 1000000) false <| and (Nat.beq (clx o7) 902) <| and (Nat.blt a_x2 (lnx o7)) <| rda t o2 a_x2 fun v12 => rda t o7 a_x2 fun v14 => frc (w_mul a_x3 v12) fun f16 => frc (w_mul a_x4 v14) fun f18 => x_e_Sc_addStretch_24 a_u a_x1 a_x2 f16 f18 0 t k_K
set_option maxRecDepth 20000 in
set_option maxHeartbeats 1000000 in
theorem xs_p_Sc_addStretch {u a_u : Nat} {x1 a_x1 : Nat} {x2 : Int32} {a_x2 : Nat} {x3 : Int32} {a_x3 : Nat} {x4 : Int32} {a_x4 : Nat} {S : cs} {t : X8} {K : cs → Prop} {k_K : X8 → Bool} (h : x_p_Sc_addStretch a_u a_x1 a_x2 a_x3 a_x4 t k_K = true) (e_u : u = a_u) (e_x1 : x1 = a_x1) (e_x2 : x2 = Int32.ofNat a_x2) (e_x3 : x3 = Int32.ofNat a_x3) (e_x4 : x4 = Int32.ofNat a_x4) (hS : RC S t) (hK : ∀ {yS : cs} {yt : X8}, k_K yt = true → RC yS yt → K yS) : p_Sc_addStretch UL u x1 x2 x3 x4 S K := by
  unfold p_Sc_addStretch
  unfold x_p_Sc_addStretch at h
  obtain ⟨n1, h⟩ := an_ok h
  refine ⟨cl_ok n1 e_x1 (by decide), ?_⟩
  obtain ⟨o2, h, q3⟩ := rdr_ok h hS e_x1
  obtain ⟨n4, h⟩ := nu_ok h
  refine ⟨nu_no n4 q3, ?_⟩
  obtain ⟨n5, h⟩ := an_ok h
  refine ⟨cl_ok n5 q3 (by decide), ?_⟩
  obtain ⟨n6, h⟩ := an_ok h
  refine ⟨vpc_ok n6 e_x2 q3, ?_⟩
  obtain ⟨o7, h, q8⟩ := rdr_ok h hS e_x1
  obtain ⟨n9, h⟩ := nu_ok h
  refine ⟨nu_no n9 q8, ?_⟩
  obtain ⟨n10, h⟩ := an_ok h
  refine ⟨cl_ok n10 q8 (by decide), ?_⟩
  obtain ⟨n11, h⟩ := an_ok h
  refine ⟨vpc_ok n11 e_x2 q8, ?_⟩
  obtain ⟨v12, h, q13⟩ := rda_ok h hS q3 e_x2
  obtain ⟨v14, h, q15⟩ := rda_ok h hS q8 e_x2
  have h := frc_ok h
  have p17 := n_mul e_x3 q13
  have h := frc_ok h
  have p19 := n_mul e_x4 q15
  exact xs_e_Sc_addStretch_24 h e_u e_x1 e_x2 p17 p19 ((rfl : (0 : Int32) = Int32.ofNat 0)) hS hK
noncomputable def x_b_Sc_arrangeTogether_23 (a_u : Nat) (a_x1 : Nat) (a_x2 : Nat) (a_x3 : Nat) (a_x4 : Nat) (t : X8) (r_R2 : Nat → Nat → X8 → Bool) (r_R12 : Nat → Nat → Nat → X8 → Bool) (r_R23 : Nat → Nat → Nat → Nat → X8 → Bool) (k_K : X8 → Bool) : Bool :=
  rdi t a_u 0 fun v1 => cond (!(w_lt a_x4 v1)) (frc (w_add a_x3 1) fun f4 => r_R12 a_x1 a_x2 f4 t) (rdr t a_u 1 fun o6 => cond (Nat.beq o6 1000000) false <| and (Nat.beq (clx o6) 902) <| and (Nat.blt a_x4 (lnx o6)) <| rda t o6 a_x4 fun v11 => x_p_Sc_addStretch a_u a_x1 v11 a_x3 a_x2 t (fun t_S43 => frc (w_add a_x4 1) fun f13 => r_R23 a_x1 a_x2 a_x3 f13 t_S43))
set_option maxRecDepth 20000 in
set_option maxHeartbeats 1000000 in
theorem xs_b_Sc_arrangeTogether_23 {u a_u : Nat} {x1 a_x1 : Nat} {x2 : Int32} {a_x2 : Nat} {x3 : Int32} {a_x3 : Nat} {x4 : Int32} {a_x4 : Nat} {S : cs} {t : X8} {R2 : Nat → Int32 → cs → Prop} {r_R2 : Nat → Nat → X8 → Bool} {R12 : Nat → Int32 → Int32 → cs → Prop} {r_R12 : Nat → Nat → Nat → X8 → Bool} {R23 : Nat → Int32 → Int32 → Int32 → cs → Prop} {r_R23 : Nat → Nat → Nat → Nat → X8 → Bool} {K : cs → Prop} {k_K : X8 → Bool} (h : x_b_Sc_arrangeTogether_23 a_u a_x1 a_x2 a_x3 a_x4 t r_R2 r_R12 r_R23 k_K = true) (e_u : u = a_u) (e_x1 : x1 = a_x1) (e_x2 : x2 = Int32.ofNat a_x2) (e_x3 : x3 = Int32.ofNat a_x3) (e_x4 : x4 = Int32.ofNat a_x4) (hS : RC S t) (hR2 : ∀ {y0 b0 : Nat} {y1 : Int32} {b1 : Nat} {yS : cs} {yt : X8}, r_R2 b0 b1 yt = true → y0 = b0 → y1 = Int32.ofNat b1 → RC yS yt → R2 y0 y1 yS) (hR12 : ∀ {y0 b0 : Nat} {y1 : Int32} {b1 : Nat} {y2 : Int32} {b2 : Nat} {yS : cs} {yt : X8}, r_R12 b0 b1 b2 yt = true → y0 = b0 → y1 = Int32.ofNat b1 → y2 = Int32.ofNat b2 → RC yS yt → R12 y0 y1 y2 yS) (hR23 : ∀ {y0 b0 : Nat} {y1 : Int32} {b1 : Nat} {y2 : Int32} {b2 : Nat} {y3 : Int32} {b3 : Nat} {yS : cs} {yt : X8}, r_R23 b0 b1 b2 b3 yt = true → y0 = b0 → y1 = Int32.ofNat b1 → y2 = Int32.ofNat b2 → y3 = Int32.ofNat b3 → RC yS yt → R23 y0 y1 y2 y3 yS) (hK : ∀ {yS : cs} {yt : X8}, k_K yt = true → RC yS yt → K yS) : b_Sc_arrangeTogether_23 UL u x1 x2 x3 x4 S R2 R12 R23 K := by
  unfold b_Sc_arrangeTogether_23
  unfold x_b_Sc_arrangeTogether_23 at h
  obtain ⟨v1, h, q2⟩ := rdi_ok h hS e_u
  have hc3 := c_le' q2 e_x4
  refine ⟨fun hc => ?_, fun hc => ?_⟩
  · have h := x_pos h (hc3.mp hc)
    have h := frc_ok h
    have p5 := n_add e_x3 ((rfl : (1 : Int32) = Int32.ofNat 1))
    exact hR12 h e_x1 e_x2 p5 hS
  · have h := x_neg h (fun q => hc (hc3.mpr q))
    obtain ⟨o6, h, q7⟩ := rdr_ok h hS e_u
    obtain ⟨n8, h⟩ := nu_ok h
    refine ⟨nu_no n8 q7, ?_⟩
    obtain ⟨n9, h⟩ := an_ok h
    refine ⟨cl_ok n9 q7 (by decide), ?_⟩
    obtain ⟨n10, h⟩ := an_ok h
    refine ⟨vpc_ok n10 e_x4 q7, ?_⟩
    obtain ⟨v11, h, q12⟩ := rda_ok h hS q7 e_x4
    refine xs_p_Sc_addStretch h e_u e_x1 q12 e_x3 e_x2 hS (fun h h_S43 => ?_)
    have h := frc_ok h
    have p14 := n_add e_x4 ((rfl : (1 : Int32) = Int32.ofNat 1))
    exact hR23 h e_x1 e_x2 e_x3 p14 h_S43
noncomputable def xl_e_Sc_arrangeTogether_23 (a_u : Nat) (r_R2 : Nat → Nat → X8 → Bool) (r_R12 : Nat → Nat → Nat → X8 → Bool) (k_K : X8 → Bool) (n : Nat) : Nat → Nat → Nat → Nat → X8 → Bool := Nat.rec (motive := fun _ => Nat → Nat → Nat → Nat → X8 → Bool) (fun _ _ _ _ _ => false) (fun _ ih b_x1 b_x2 b_x3 b_x4 bt => x_b_Sc_arrangeTogether_23 a_u b_x1 b_x2 b_x3 b_x4 bt r_R2 r_R12 ih k_K) n
noncomputable def x_e_Sc_arrangeTogether_23 (a_u : Nat) (a_x1 : Nat) (a_x2 : Nat) (a_x3 : Nat) (a_x4 : Nat) (t : X8) (r_R2 : Nat → Nat → X8 → Bool) (r_R12 : Nat → Nat → Nat → X8 → Bool) (k_K : X8 → Bool) : Bool := xl_e_Sc_arrangeTogether_23 a_u r_R2 r_R12 k_K 200000 a_x1 a_x2 a_x3 a_x4 t
def xq_e_Sc_arrangeTogether_23 (a_u : Nat) (r_R2 : Nat → Nat → X8 → Bool) (r_R12 : Nat → Nat → Nat → X8 → Bool) (k_K : X8 → Bool) (n : Nat) (y_x1 : Nat) (y_x2 : Int32) (y_x3 : Int32) (y_x4 : Int32) (yS : cs) : Prop := ∃ (b_x1 : Nat) (b_x2 : Nat) (b_x3 : Nat) (b_x4 : Nat) (bt : X8), y_x1 = b_x1 ∧ y_x2 = Int32.ofNat b_x2 ∧ y_x3 = Int32.ofNat b_x3 ∧ y_x4 = Int32.ofNat b_x4 ∧ RC yS bt ∧ xl_e_Sc_arrangeTogether_23 a_u r_R2 r_R12 k_K n b_x1 b_x2 b_x3 b_x4 bt = true
set_option maxRecDepth 20000 in
theorem xs_e_Sc_arrangeTogether_23 {u a_u : Nat} {x1 a_x1 : Nat} {x2 : Int32} {a_x2 : Nat} {x3 : Int32} {a_x3 : Nat} {x4 : Int32} {a_x4 : Nat} {S : cs} {t : X8} {R2 : Nat → Int32 → cs → Prop} {r_R2 : Nat → Nat → X8 → Bool} {R12 : Nat → Int32 → Int32 → cs → Prop} {r_R12 : Nat → Nat → Nat → X8 → Bool} {K : cs → Prop} {k_K : X8 → Bool} (h : x_e_Sc_arrangeTogether_23 a_u a_x1 a_x2 a_x3 a_x4 t r_R2 r_R12 k_K = true) (e_u : u = a_u) (e_x1 : x1 = a_x1) (e_x2 : x2 = Int32.ofNat a_x2) (e_x3 : x3 = Int32.ofNat a_x3) (e_x4 : x4 = Int32.ofNat a_x4) (hS : RC S t) (hR2 : ∀ {y0 b0 : Nat} {y1 : Int32} {b1 : Nat} {yS : cs} {yt : X8}, r_R2 b0 b1 yt = true → y0 = b0 → y1 = Int32.ofNat b1 → RC yS yt → R2 y0 y1 yS) (hR12 : ∀ {y0 b0 : Nat} {y1 : Int32} {b1 : Nat} {y2 : Int32} {b2 : Nat} {yS : cs} {yt : X8}, r_R12 b0 b1 b2 yt = true → y0 = b0 → y1 = Int32.ofNat b1 → y2 = Int32.ofNat b2 → RC yS yt → R12 y0 y1 y2 yS) (hK : ∀ {yS : cs} {yt : X8}, k_K yt = true → RC yS yt → K yS) : e_Sc_arrangeTogether_23 UL u x1 x2 x3 x4 S R2 R12 K := by
  refine ⟨fun y_x1 y_x2 y_x3 y_x4 yS => ∃ n, xq_e_Sc_arrangeTogether_23 a_u r_R2 r_R12 k_K n y_x1 y_x2 y_x3 y_x4 yS, fun y_x1 y_x2 y_x3 y_x4 yS => mf (fun n => xq_e_Sc_arrangeTogether_23 a_u r_R2 r_R12 k_K n y_x1 y_x2 y_x3 y_x4 yS), ⟨200000, a_x1, a_x2, a_x3, a_x4, t, e_x1, e_x2, e_x3, e_x4, hS, h⟩, fun y_x1 y_x2 y_x3 y_x4 yS hI => ?_⟩
  obtain ⟨m, hm, hq⟩ := mf_ok hI
  obtain ⟨b_x1, b_x2, b_x3, b_x4, bt, c_x1, c_x2, c_x3, c_x4, cS, h⟩ := hq
  cases m with
  | zero => exact absurd h Bool.false_ne_true
  | succ n => exact xs_b_Sc_arrangeTogether_23 h e_u c_x1 c_x2 c_x3 c_x4 cS hR2 hR12 (fun h d_x1 d_x2 d_x3 d_x4 dS => ⟨⟨n, _, _, _, _, _, d_x1, d_x2, d_x3, d_x4, dS, h⟩, Nat.lt_of_le_of_lt (mf_le ⟨_, _, _, _, _, d_x1, d_x2, d_x3, d_x4, dS, h⟩) (Nat.lt_of_lt_of_eq (Nat.lt_succ_self n) hm.symm)⟩) hK
noncomputable def x_b_Sc_arrangeTogether_12 (a_u : Nat) (a_x1 : Nat) (a_x2 : Nat) (a_x3 : Nat) (t : X8) (r_R2 : Nat → Nat → X8 → Bool) (r_R12 : Nat → Nat → Nat → X8 → Bool) (k_K : X8 → Bool) : Bool :=
  and (Nat.beq (clx a_x1) 7) <| rdi t a_x1 7 fun v2 => cond (!(w_lt a_x3 v2)) (frc (w_add a_x2 1) fun f5 => r_R2 a_x1 f5 t) (x_e_Sc_arrangeTogether_23 a_u a_x1 a_x2 a_x3 0 t r_R2 r_R12 k_K)
set_option maxRecDepth 20000 in
set_option maxHeartbeats 1000000 in
theorem xs_b_Sc_arrangeTogether_12 {u a_u : Nat} {x1 a_x1 : Nat} {x2 : Int32} {a_x2 : Nat} {x3 : Int32} {a_x3 : Nat} {S : cs} {t : X8} {R2 : Nat → Int32 → cs → Prop} {r_R2 : Nat → Nat → X8 → Bool} {R12 : Nat → Int32 → Int32 → cs → Prop} {r_R12 : Nat → Nat → Nat → X8 → Bool} {K : cs → Prop} {k_K : X8 → Bool} (h : x_b_Sc_arrangeTogether_12 a_u a_x1 a_x2 a_x3 t r_R2 r_R12 k_K = true) (e_u : u = a_u) (e_x1 : x1 = a_x1) (e_x2 : x2 = Int32.ofNat a_x2) (e_x3 : x3 = Int32.ofNat a_x3) (hS : RC S t) (hR2 : ∀ {y0 b0 : Nat} {y1 : Int32} {b1 : Nat} {yS : cs} {yt : X8}, r_R2 b0 b1 yt = true → y0 = b0 → y1 = Int32.ofNat b1 → RC yS yt → R2 y0 y1 yS) (hR12 : ∀ {y0 b0 : Nat} {y1 : Int32} {b1 : Nat} {y2 : Int32} {b2 : Nat} {yS : cs} {yt : X8}, r_R12 b0 b1 b2 yt = true → y0 = b0 → y1 = Int32.ofNat b1 → y2 = Int32.ofNat b2 → RC yS yt → R12 y0 y1 y2 yS) (hK : ∀ {yS : cs} {yt : X8}, k_K yt = true → RC yS yt → K yS) : b_Sc_arrangeTogether_12 UL u x1 x2 x3 S R2 R12 K := by
  unfold b_Sc_arrangeTogether_12
  unfold x_b_Sc_arrangeTogether_12 at h
  obtain ⟨n1, h⟩ := an_ok h
  refine ⟨cl_ok n1 e_x1 (by decide), ?_⟩
  obtain ⟨v2, h, q3⟩ := rdi_ok h hS e_x1
  have hc4 := c_le' q3 e_x3
  refine ⟨fun hc => ?_, fun hc => ?_⟩
  · have h := x_pos h (hc4.mp hc)
    have h := frc_ok h
    have p6 := n_add e_x2 ((rfl : (1 : Int32) = Int32.ofNat 1))
    exact hR2 h e_x1 p6 hS
  · have h := x_neg h (fun q => hc (hc4.mpr q))
    exact xs_e_Sc_arrangeTogether_23 h e_u e_x1 e_x2 e_x3 ((rfl : (0 : Int32) = Int32.ofNat 0)) hS hR2 hR12 hK
noncomputable def xl_e_Sc_arrangeTogether_12 (a_u : Nat) (r_R2 : Nat → Nat → X8 → Bool) (k_K : X8 → Bool) (n : Nat) : Nat → Nat → Nat → X8 → Bool := Nat.rec (motive := fun _ => Nat → Nat → Nat → X8 → Bool) (fun _ _ _ _ => false) (fun _ ih b_x1 b_x2 b_x3 bt => x_b_Sc_arrangeTogether_12 a_u b_x1 b_x2 b_x3 bt r_R2 ih k_K) n
noncomputable def x_e_Sc_arrangeTogether_12 (a_u : Nat) (a_x1 : Nat) (a_x2 : Nat) (a_x3 : Nat) (t : X8) (r_R2 : Nat → Nat → X8 → Bool) (k_K : X8 → Bool) : Bool := xl_e_Sc_arrangeTogether_12 a_u r_R2 k_K 200000 a_x1 a_x2 a_x3 t
def xq_e_Sc_arrangeTogether_12 (a_u : Nat) (r_R2 : Nat → Nat → X8 → Bool) (k_K : X8 → Bool) (n : Nat) (y_x1 : Nat) (y_x2 : Int32) (y_x3 : Int32) (yS : cs) : Prop := ∃ (b_x1 : Nat) (b_x2 : Nat) (b_x3 : Nat) (bt : X8), y_x1 = b_x1 ∧ y_x2 = Int32.ofNat b_x2 ∧ y_x3 = Int32.ofNat b_x3 ∧ RC yS bt ∧ xl_e_Sc_arrangeTogether_12 a_u r_R2 k_K n b_x1 b_x2 b_x3 bt = true
set_option maxRecDepth 20000 in
theorem xs_e_Sc_arrangeTogether_12 {u a_u : Nat} {x1 a_x1 : Nat} {x2 : Int32} {a_x2 : Nat} {x3 : Int32} {a_x3 : Nat} {S : cs} {t : X8} {R2 : Nat → Int32 → cs → Prop} {r_R2 : Nat → Nat → X8 → Bool} {K : cs → Prop} {k_K : X8 → Bool} (h : x_e_Sc_arrangeTogether_12 a_u a_x1 a_x2 a_x3 t r_R2 k_K = true) (e_u : u = a_u) (e_x1 : x1 = a_x1) (e_x2 : x2 = Int32.ofNat a_x2) (e_x3 : x3 = Int32.ofNat a_x3) (hS : RC S t) (hR2 : ∀ {y0 b0 : Nat} {y1 : Int32} {b1 : Nat} {yS : cs} {yt : X8}, r_R2 b0 b1 yt = true → y0 = b0 → y1 = Int32.ofNat b1 → RC yS yt → R2 y0 y1 yS) (hK : ∀ {yS : cs} {yt : X8}, k_K yt = true → RC yS yt → K yS) : e_Sc_arrangeTogether_12 UL u x1 x2 x3 S R2 K := by
  refine ⟨fun y_x1 y_x2 y_x3 yS => ∃ n, xq_e_Sc_arrangeTogether_12 a_u r_R2 k_K n y_x1 y_x2 y_x3 yS, fun y_x1 y_x2 y_x3 yS => mf (fun n => xq_e_Sc_arrangeTogether_12 a_u r_R2 k_K n y_x1 y_x2 y_x3 yS), ⟨200000, a_x1, a_x2, a_x3, t, e_x1, e_x2, e_x3, hS, h⟩, fun y_x1 y_x2 y_x3 yS hI => ?_⟩
  obtain ⟨m, hm, hq⟩ := mf_ok hI
  obtain ⟨b_x1, b_x2, b_x3, bt, c_x1, c_x2, c_x3, cS, h⟩ := hq
  cases m with
  | zero => exact absurd h Bool.false_ne_true
  | succ n => exact xs_b_Sc_arrangeTogether_12 h e_u c_x1 c_x2 c_x3 cS hR2 (fun h d_x1 d_x2 d_x3 dS => ⟨⟨n, _, _, _, _, d_x1, d_x2, d_x3, dS, h⟩, Nat.lt_of_le_of_lt (mf_le ⟨_, _, _, _, d_x1, d_x2, d_x3, dS, h⟩) (Nat.lt_of_lt_of_eq (Nat.lt_succ_self n) hm.symm)⟩) hK
noncomputable def x_b_Sc_arrangeTogether_2 (a_u : Nat) (a_x1 : Nat) (a_x2 : Nat) (t : X8) (r_R2 : Nat → Nat → X8 → Bool) (k_K : X8 → Bool) : Bool :=
  and (Nat.beq (clx a_x1) 7) <| rdi t a_x1 8 fun v2 => cond (!(w_lt a_x2 v2)) (k_K t) (x_e_Sc_arrangeTogether_12 a_u a_x1 a_x2 0 t r_R2 k_K)
set_option maxRecDepth 20000 in
set_option maxHeartbeats 1000000 in
theorem xs_b_Sc_arrangeTogether_2 {u a_u : Nat} {x1 a_x1 : Nat} {x2 : Int32} {a_x2 : Nat} {S : cs} {t : X8} {R2 : Nat → Int32 → cs → Prop} {r_R2 : Nat → Nat → X8 → Bool} {K : cs → Prop} {k_K : X8 → Bool} (h : x_b_Sc_arrangeTogether_2 a_u a_x1 a_x2 t r_R2 k_K = true) (e_u : u = a_u) (e_x1 : x1 = a_x1) (e_x2 : x2 = Int32.ofNat a_x2) (hS : RC S t) (hR2 : ∀ {y0 b0 : Nat} {y1 : Int32} {b1 : Nat} {yS : cs} {yt : X8}, r_R2 b0 b1 yt = true → y0 = b0 → y1 = Int32.ofNat b1 → RC yS yt → R2 y0 y1 yS) (hK : ∀ {yS : cs} {yt : X8}, k_K yt = true → RC yS yt → K yS) : b_Sc_arrangeTogether_2 UL u x1 x2 S R2 K := by
  unfold b_Sc_arrangeTogether_2
  unfold x_b_Sc_arrangeTogether_2 at h
  obtain ⟨n1, h⟩ := an_ok h
  refine ⟨cl_ok n1 e_x1 (by decide), ?_⟩
  obtain ⟨v2, h, q3⟩ := rdi_ok h hS e_x1
  have hc4 := c_le' q3 e_x2
  refine ⟨fun hc => ?_, fun hc => ?_⟩
  · have h := x_pos h (hc4.mp hc)
    exact hK h hS
  · have h := x_neg h (fun q => hc (hc4.mpr q))
    exact xs_e_Sc_arrangeTogether_12 h e_u e_x1 e_x2 ((rfl : (0 : Int32) = Int32.ofNat 0)) hS hR2 hK
noncomputable def xl_e_Sc_arrangeTogether_2 (a_u : Nat) (k_K : X8 → Bool) (n : Nat) : Nat → Nat → X8 → Bool := Nat.rec (motive := fun _ => Nat → Nat → X8 → Bool) (fun _ _ _ => false) (fun _ ih b_x1 b_x2 bt => x_b_Sc_arrangeTogether_2 a_u b_x1 b_x2 bt ih k_K) n
noncomputable def x_e_Sc_arrangeTogether_2 (a_u : Nat) (a_x1 : Nat) (a_x2 : Nat) (t : X8) (k_K : X8 → Bool) : Bool := xl_e_Sc_arrangeTogether_2 a_u k_K 200000 a_x1 a_x2 t
def xq_e_Sc_arrangeTogether_2 (a_u : Nat) (k_K : X8 → Bool) (n : Nat) (y_x1 : Nat) (y_x2 : Int32) (yS : cs) : Prop := ∃ (b_x1 : Nat) (b_x2 : Nat) (bt : X8), y_x1 = b_x1 ∧ y_x2 = Int32.ofNat b_x2 ∧ RC yS bt ∧ xl_e_Sc_arrangeTogether_2 a_u k_K n b_x1 b_x2 bt = true
set_option maxRecDepth 20000 in
theorem xs_e_Sc_arrangeTogether_2 {u a_u : Nat} {x1 a_x1 : Nat} {x2 : Int32} {a_x2 : Nat} {S : cs} {t : X8} {K : cs → Prop} {k_K : X8 → Bool} (h : x_e_Sc_arrangeTogether_2 a_u a_x1 a_x2 t k_K = true) (e_u : u = a_u) (e_x1 : x1 = a_x1) (e_x2 : x2 = Int32.ofNat a_x2) (hS : RC S t) (hK : ∀ {yS : cs} {yt : X8}, k_K yt = true → RC yS yt → K yS) : e_Sc_arrangeTogether_2 UL u x1 x2 S K := by
  refine ⟨fun y_x1 y_x2 yS => ∃ n, xq_e_Sc_arrangeTogether_2 a_u k_K n y_x1 y_x2 yS, fun y_x1 y_x2 yS => mf (fun n => xq_e_Sc_arrangeTogether_2 a_u k_K n y_x1 y_x2 yS), ⟨200000, a_x1, a_x2, t, e_x1, e_x2, hS, h⟩, fun y_x1 y_x2 yS hI => ?_⟩
  obtain ⟨m, hm, hq⟩ := mf_ok hI
  obtain ⟨b_x1, b_x2, bt, c_x1, c_x2, cS, h⟩ := hq
  cases m with
  | zero => exact absurd h Bool.false_ne_true
  | succ n => exact xs_b_Sc_arrangeTogether_2 h e_u c_x1 c_x2 cS (fun h d_x1 d_x2 dS => ⟨⟨n, _, _, _, d_x1, d_x2, dS, h⟩, Nat.lt_of_le_of_lt (mf_le ⟨_, _, _, d_x1, d_x2, dS, h⟩) (Nat.lt_of_lt_of_eq (Nat.lt_succ_self n) hm.symm)⟩) hK
noncomputable def x_p_Sc_arrangeTogether (a_u : Nat) (a_x1 : Nat) (t : X8) (k_K : X8 → Bool) : Bool :=
  x_e_Sc_arrangeTogether_2 a_u a_x1 0 t k_K
set_option maxRecDepth 20000 in
set_option maxHeartbeats 1000000 in
theorem xs_p_Sc_arrangeTogether {u a_u : Nat} {x1 a_x1 : Nat} {S : cs} {t : X8} {K : cs → Prop} {k_K : X8 → Bool} (h : x_p_Sc_arrangeTogether a_u a_x1 t k_K = true) (e_u : u = a_u) (e_x1 : x1 = a_x1) (hS : RC S t) (hK : ∀ {yS : cs} {yt : X8}, k_K yt = true → RC yS yt → K yS) : p_Sc_arrangeTogether UL u x1 S K := by
  unfold p_Sc_arrangeTogether
  unfold x_p_Sc_arrangeTogether at h
  exact xs_e_Sc_arrangeTogether_2 h e_u e_x1 ((rfl : (0 : Int32) = Int32.ofNat 0)) hS hK
noncomputable def x_b_Sc_arrange_68 (a_u : Nat) (a_s1 : Nat) (t : X8) (k_K : X8 → Bool) : Bool :=
  wri t a_u 4 a_s1 fun t1 => k_K t1
set_option maxRecDepth 20000 in
set_option maxHeartbeats 1000000 in
theorem xs_b_Sc_arrange_68 {u a_u : Nat} {s1 : Int32} {a_s1 : Nat} {S : cs} {t : X8} {K : cs → Prop} {k_K : X8 → Bool} (h : x_b_Sc_arrange_68 a_u a_s1 t k_K = true) (e_u : u = a_u) (e_s1 : s1 = Int32.ofNat a_s1) (hS : RC S t) (hK : ∀ {yS : cs} {yt : X8}, k_K yt = true → RC yS yt → K yS) : b_Sc_arrange_68 UL u s1 S K := by
  unfold b_Sc_arrange_68
  unfold x_b_Sc_arrange_68 at h
  obtain ⟨t1, h, hS2⟩ := wri_ok h hS e_u e_s1
  exact hK h hS2
noncomputable def x_b_Sc_arrange_46 (a_u : Nat) (t : X8) (k_K : X8 → Bool) : Bool :=
  rdi t a_u 5 fun v1 => cond (!(w_lt v1 1)) (cond (w_eq v1 0) false <| rdi t a_u 6 fun v5 => frc (w_div v5 v1) fun f7 => x_b_Sc_arrange_68 a_u f7 t k_K) (x_b_Sc_arrange_68 a_u 0 t k_K)
set_option maxRecDepth 20000 in
set_option maxHeartbeats 1000000 in
theorem xs_b_Sc_arrange_46 {u a_u : Nat} {S : cs} {t : X8} {K : cs → Prop} {k_K : X8 → Bool} (h : x_b_Sc_arrange_46 a_u t k_K = true) (e_u : u = a_u) (hS : RC S t) (hK : ∀ {yS : cs} {yt : X8}, k_K yt = true → RC yS yt → K yS) : b_Sc_arrange_46 UL u S K := by
  unfold b_Sc_arrange_46
  unfold x_b_Sc_arrange_46 at h
  obtain ⟨v1, h, q2⟩ := rdi_ok h hS e_u
  have hc3 := c_le' ((rfl : (1 : Int32) = Int32.ofNat 1)) q2
  refine ⟨fun hc => ?_, fun hc => ?_⟩
  · have h := x_pos h (hc3.mp hc)
    obtain ⟨n4, h⟩ := nu_ok h
    refine ⟨fun q => absurd ((c_eq' q2 ((rfl : (0 : Int32) = Int32.ofNat 0))).mp q) (by rw [n4]; exact Bool.false_ne_true), ?_⟩
    obtain ⟨v5, h, q6⟩ := rdi_ok h hS e_u
    have h := frc_ok h
    have p8 := n_div q6 q2
    exact xs_b_Sc_arrange_68 h e_u p8 hS hK
  · have h := x_neg h (fun q => hc (hc3.mpr q))
    exact xs_b_Sc_arrange_68 h e_u ((rfl : (0 : Int32) = Int32.ofNat 0)) hS hK
noncomputable def x_b_Sc_arrangeAlone_18 (a_u : Nat) (a_x1 : Nat) (a_x2 : Nat) (a_x3 : Nat) (a_x4 : Nat) (t : X8) (r_R2 : Nat → Nat → Nat → X8 → Bool) (r_R18 : Nat → Nat → Nat → Nat → X8 → Bool) (k_K : X8 → Bool) : Bool :=
  and (Nat.beq (clx a_x1) 7) <| rdr t a_x1 9 fun o2 => cond (Nat.beq o2 1000000) false <| and (Nat.beq (clx o2) 902) <| and (Nat.blt a_x2 (lnx o2)) <| rda t o2 a_x2 fun v7 => cond (!(w_lt (w_mul 8 a_x4) v7)) (frc (w_add a_x3 1) fun f10 => r_R2 a_x1 a_x2 f10 t) (rdr t a_x1 11 fun o12 => cond (Nat.beq o12 1000000) false <| and (Nat.beq (clx o12) 902) <| and (Nat.blt a_x2 (lnx o12)) <| rda t o12 a_x2 fun v17 => frc (w_add (w_mul a_x3 v17) a_x4) fun f19 => x_p_Sc_addBlock a_u a_x2 f19 t (fun t_S45 => frc (w_add a_x4 1) fun f21 => r_R18 a_x1 a_x2 a_x3 f21 t_S45))
set_option maxRecDepth 20000 in
set_option maxHeartbeats 1000000 in
theorem xs_b_Sc_arrangeAlone_18 {u a_u : Nat} {x1 a_x1 : Nat} {x2 : Int32} {a_x2 : Nat} {x3 : Int32} {a_x3 : Nat} {x4 : Int32} {a_x4 : Nat} {S : cs} {t : X8} {R2 : Nat → Int32 → Int32 → cs → Prop} {r_R2 : Nat → Nat → Nat → X8 → Bool} {R18 : Nat → Int32 → Int32 → Int32 → cs → Prop} {r_R18 : Nat → Nat → Nat → Nat → X8 → Bool} {K : cs → Prop} {k_K : X8 → Bool} (h : x_b_Sc_arrangeAlone_18 a_u a_x1 a_x2 a_x3 a_x4 t r_R2 r_R18 k_K = true) (e_u : u = a_u) (e_x1 : x1 = a_x1) (e_x2 : x2 = Int32.ofNat a_x2) (e_x3 : x3 = Int32.ofNat a_x3) (e_x4 : x4 = Int32.ofNat a_x4) (hS : RC S t) (hR2 : ∀ {y0 b0 : Nat} {y1 : Int32} {b1 : Nat} {y2 : Int32} {b2 : Nat} {yS : cs} {yt : X8}, r_R2 b0 b1 b2 yt = true → y0 = b0 → y1 = Int32.ofNat b1 → y2 = Int32.ofNat b2 → RC yS yt → R2 y0 y1 y2 yS) (hR18 : ∀ {y0 b0 : Nat} {y1 : Int32} {b1 : Nat} {y2 : Int32} {b2 : Nat} {y3 : Int32} {b3 : Nat} {yS : cs} {yt : X8}, r_R18 b0 b1 b2 b3 yt = true → y0 = b0 → y1 = Int32.ofNat b1 → y2 = Int32.ofNat b2 → y3 = Int32.ofNat b3 → RC yS yt → R18 y0 y1 y2 y3 yS) (hK : ∀ {yS : cs} {yt : X8}, k_K yt = true → RC yS yt → K yS) : b_Sc_arrangeAlone_18 UL u x1 x2 x3 x4 S R2 R18 K := by
  unfold b_Sc_arrangeAlone_18
  unfold x_b_Sc_arrangeAlone_18 at h
  obtain ⟨n1, h⟩ := an_ok h
  refine ⟨cl_ok n1 e_x1 (by decide), ?_⟩
  obtain ⟨o2, h, q3⟩ := rdr_ok h hS e_x1
  obtain ⟨n4, h⟩ := nu_ok h
  refine ⟨nu_no n4 q3, ?_⟩
  obtain ⟨n5, h⟩ := an_ok h
  refine ⟨cl_ok n5 q3 (by decide), ?_⟩
  obtain ⟨n6, h⟩ := an_ok h
  refine ⟨vpc_ok n6 e_x2 q3, ?_⟩
  obtain ⟨v7, h, q8⟩ := rda_ok h hS q3 e_x2
  have hc9 := c_le' q8 (n_mul ((rfl : (8 : Int32) = Int32.ofNat 8)) e_x4)
  refine ⟨fun hc => ?_, fun hc => ?_⟩
  · have h := x_pos h (hc9.mp hc)
    have h := frc_ok h
    have p11 := n_add e_x3 ((rfl : (1 : Int32) = Int32.ofNat 1))
    exact hR2 h e_x1 e_x2 p11 hS
  · have h := x_neg h (fun q => hc (hc9.mpr q))
    obtain ⟨o12, h, q13⟩ := rdr_ok h hS e_x1
    obtain ⟨n14, h⟩ := nu_ok h
    refine ⟨nu_no n14 q13, ?_⟩
    obtain ⟨n15, h⟩ := an_ok h
    refine ⟨cl_ok n15 q13 (by decide), ?_⟩
    obtain ⟨n16, h⟩ := an_ok h
    refine ⟨vpc_ok n16 e_x2 q13, ?_⟩
    obtain ⟨v17, h, q18⟩ := rda_ok h hS q13 e_x2
    have h := frc_ok h
    have p20 := n_add (n_mul e_x3 q18) e_x4
    refine xs_p_Sc_addBlock h e_u e_x2 p20 hS (fun h h_S45 => ?_)
    have h := frc_ok h
    have p22 := n_add e_x4 ((rfl : (1 : Int32) = Int32.ofNat 1))
    exact hR18 h e_x1 e_x2 e_x3 p22 h_S45
noncomputable def xl_e_Sc_arrangeAlone_18 (a_u : Nat) (r_R2 : Nat → Nat → Nat → X8 → Bool) (k_K : X8 → Bool) (n : Nat) : Nat → Nat → Nat → Nat → X8 → Bool := Nat.rec (motive := fun _ => Nat → Nat → Nat → Nat → X8 → Bool) (fun _ _ _ _ _ => false) (fun _ ih b_x1 b_x2 b_x3 b_x4 bt => x_b_Sc_arrangeAlone_18 a_u b_x1 b_x2 b_x3 b_x4 bt r_R2 ih k_K) n
noncomputable def x_e_Sc_arrangeAlone_18 (a_u : Nat) (a_x1 : Nat) (a_x2 : Nat) (a_x3 : Nat) (a_x4 : Nat) (t : X8) (r_R2 : Nat → Nat → Nat → X8 → Bool) (k_K : X8 → Bool) : Bool := xl_e_Sc_arrangeAlone_18 a_u r_R2 k_K 200000 a_x1 a_x2 a_x3 a_x4 t
def xq_e_Sc_arrangeAlone_18 (a_u : Nat) (r_R2 : Nat → Nat → Nat → X8 → Bool) (k_K : X8 → Bool) (n : Nat) (y_x1 : Nat) (y_x2 : Int32) (y_x3 : Int32) (y_x4 : Int32) (yS : cs) : Prop := ∃ (b_x1 : Nat) (b_x2 : Nat) (b_x3 : Nat) (b_x4 : Nat) (bt : X8), y_x1 = b_x1 ∧ y_x2 = Int32.ofNat b_x2 ∧ y_x3 = Int32.ofNat b_x3 ∧ y_x4 = Int32.ofNat b_x4 ∧ RC yS bt ∧ xl_e_Sc_arrangeAlone_18 a_u r_R2 k_K n b_x1 b_x2 b_x3 b_x4 bt = true
set_option maxRecDepth 20000 in
theorem xs_e_Sc_arrangeAlone_18 {u a_u : Nat} {x1 a_x1 : Nat} {x2 : Int32} {a_x2 : Nat} {x3 : Int32} {a_x3 : Nat} {x4 : Int32} {a_x4 : Nat} {S : cs} {t : X8} {R2 : Nat → Int32 → Int32 → cs → Prop} {r_R2 : Nat → Nat → Nat → X8 → Bool} {K : cs → Prop} {k_K : X8 → Bool} (h : x_e_Sc_arrangeAlone_18 a_u a_x1 a_x2 a_x3 a_x4 t r_R2 k_K = true) (e_u : u = a_u) (e_x1 : x1 = a_x1) (e_x2 : x2 = Int32.ofNat a_x2) (e_x3 : x3 = Int32.ofNat a_x3) (e_x4 : x4 = Int32.ofNat a_x4) (hS : RC S t) (hR2 : ∀ {y0 b0 : Nat} {y1 : Int32} {b1 : Nat} {y2 : Int32} {b2 : Nat} {yS : cs} {yt : X8}, r_R2 b0 b1 b2 yt = true → y0 = b0 → y1 = Int32.ofNat b1 → y2 = Int32.ofNat b2 → RC yS yt → R2 y0 y1 y2 yS) (hK : ∀ {yS : cs} {yt : X8}, k_K yt = true → RC yS yt → K yS) : e_Sc_arrangeAlone_18 UL u x1 x2 x3 x4 S R2 K := by
  refine ⟨fun y_x1 y_x2 y_x3 y_x4 yS => ∃ n, xq_e_Sc_arrangeAlone_18 a_u r_R2 k_K n y_x1 y_x2 y_x3 y_x4 yS, fun y_x1 y_x2 y_x3 y_x4 yS => mf (fun n => xq_e_Sc_arrangeAlone_18 a_u r_R2 k_K n y_x1 y_x2 y_x3 y_x4 yS), ⟨200000, a_x1, a_x2, a_x3, a_x4, t, e_x1, e_x2, e_x3, e_x4, hS, h⟩, fun y_x1 y_x2 y_x3 y_x4 yS hI => ?_⟩
  obtain ⟨m, hm, hq⟩ := mf_ok hI
  obtain ⟨b_x1, b_x2, b_x3, b_x4, bt, c_x1, c_x2, c_x3, c_x4, cS, h⟩ := hq
  cases m with
  | zero => exact absurd h Bool.false_ne_true
  | succ n => exact xs_b_Sc_arrangeAlone_18 h e_u c_x1 c_x2 c_x3 c_x4 cS hR2 (fun h d_x1 d_x2 d_x3 d_x4 dS => ⟨⟨n, _, _, _, _, _, d_x1, d_x2, d_x3, d_x4, dS, h⟩, Nat.lt_of_le_of_lt (mf_le ⟨_, _, _, _, _, d_x1, d_x2, d_x3, d_x4, dS, h⟩) (Nat.lt_of_lt_of_eq (Nat.lt_succ_self n) hm.symm)⟩) hK
noncomputable def x_b_Sc_arrangeAlone_2 (a_u : Nat) (a_x1 : Nat) (a_x2 : Nat) (a_x3 : Nat) (t : X8) (r_R2 : Nat → Nat → Nat → X8 → Bool) (k_K : X8 → Bool) : Bool :=
  and (Nat.beq (clx a_x1) 7) <| rdr t a_x1 10 fun o2 => cond (Nat.beq o2 1000000) false <| and (Nat.beq (clx o2) 902) <| and (Nat.blt a_x2 (lnx o2)) <| rda t o2 a_x2 fun v7 => cond (!(w_lt (w_mul 8 a_x3) v7)) (k_K t) (x_e_Sc_arrangeAlone_18 a_u a_x1 a_x2 a_x3 0 t r_R2 k_K)
set_option maxRecDepth 20000 in
set_option maxHeartbeats 1000000 in
theorem xs_b_Sc_arrangeAlone_2 {u a_u : Nat} {x1 a_x1 : Nat} {x2 : Int32} {a_x2 : Nat} {x3 : Int32} {a_x3 : Nat} {S : cs} {t : X8} {R2 : Nat → Int32 → Int32 → cs → Prop} {r_R2 : Nat → Nat → Nat → X8 → Bool} {K : cs → Prop} {k_K : X8 → Bool} (h : x_b_Sc_arrangeAlone_2 a_u a_x1 a_x2 a_x3 t r_R2 k_K = true) (e_u : u = a_u) (e_x1 : x1 = a_x1) (e_x2 : x2 = Int32.ofNat a_x2) (e_x3 : x3 = Int32.ofNat a_x3) (hS : RC S t) (hR2 : ∀ {y0 b0 : Nat} {y1 : Int32} {b1 : Nat} {y2 : Int32} {b2 : Nat} {yS : cs} {yt : X8}, r_R2 b0 b1 b2 yt = true → y0 = b0 → y1 = Int32.ofNat b1 → y2 = Int32.ofNat b2 → RC yS yt → R2 y0 y1 y2 yS) (hK : ∀ {yS : cs} {yt : X8}, k_K yt = true → RC yS yt → K yS) : b_Sc_arrangeAlone_2 UL u x1 x2 x3 S R2 K := by
  unfold b_Sc_arrangeAlone_2
  unfold x_b_Sc_arrangeAlone_2 at h
  obtain ⟨n1, h⟩ := an_ok h
  refine ⟨cl_ok n1 e_x1 (by decide), ?_⟩
  obtain ⟨o2, h, q3⟩ := rdr_ok h hS e_x1
  obtain ⟨n4, h⟩ := nu_ok h
  refine ⟨nu_no n4 q3, ?_⟩
  obtain ⟨n5, h⟩ := an_ok h
  refine ⟨cl_ok n5 q3 (by decide), ?_⟩
  obtain ⟨n6, h⟩ := an_ok h
  refine ⟨vpc_ok n6 e_x2 q3, ?_⟩
  obtain ⟨v7, h, q8⟩ := rda_ok h hS q3 e_x2
  have hc9 := c_le' q8 (n_mul ((rfl : (8 : Int32) = Int32.ofNat 8)) e_x3)
  refine ⟨fun hc => ?_, fun hc => ?_⟩
  · have h := x_pos h (hc9.mp hc)
    exact hK h hS
  · have h := x_neg h (fun q => hc (hc9.mpr q))
    exact xs_e_Sc_arrangeAlone_18 h e_u e_x1 e_x2 e_x3 ((rfl : (0 : Int32) = Int32.ofNat 0)) hS hR2 hK
noncomputable def xl_e_Sc_arrangeAlone_2 (a_u : Nat) (k_K : X8 → Bool) (n : Nat) : Nat → Nat → Nat → X8 → Bool := Nat.rec (motive := fun _ => Nat → Nat → Nat → X8 → Bool) (fun _ _ _ _ => false) (fun _ ih b_x1 b_x2 b_x3 bt => x_b_Sc_arrangeAlone_2 a_u b_x1 b_x2 b_x3 bt ih k_K) n
noncomputable def x_e_Sc_arrangeAlone_2 (a_u : Nat) (a_x1 : Nat) (a_x2 : Nat) (a_x3 : Nat) (t : X8) (k_K : X8 → Bool) : Bool := xl_e_Sc_arrangeAlone_2 a_u k_K 200000 a_x1 a_x2 a_x3 t
def xq_e_Sc_arrangeAlone_2 (a_u : Nat) (k_K : X8 → Bool) (n : Nat) (y_x1 : Nat) (y_x2 : Int32) (y_x3 : Int32) (yS : cs) : Prop := ∃ (b_x1 : Nat) (b_x2 : Nat) (b_x3 : Nat) (bt : X8), y_x1 = b_x1 ∧ y_x2 = Int32.ofNat b_x2 ∧ y_x3 = Int32.ofNat b_x3 ∧ RC yS bt ∧ xl_e_Sc_arrangeAlone_2 a_u k_K n b_x1 b_x2 b_x3 bt = true
set_option maxRecDepth 20000 in
theorem xs_e_Sc_arrangeAlone_2 {u a_u : Nat} {x1 a_x1 : Nat} {x2 : Int32} {a_x2 : Nat} {x3 : Int32} {a_x3 : Nat} {S : cs} {t : X8} {K : cs → Prop} {k_K : X8 → Bool} (h : x_e_Sc_arrangeAlone_2 a_u a_x1 a_x2 a_x3 t k_K = true) (e_u : u = a_u) (e_x1 : x1 = a_x1) (e_x2 : x2 = Int32.ofNat a_x2) (e_x3 : x3 = Int32.ofNat a_x3) (hS : RC S t) (hK : ∀ {yS : cs} {yt : X8}, k_K yt = true → RC yS yt → K yS) : e_Sc_arrangeAlone_2 UL u x1 x2 x3 S K := by
  refine ⟨fun y_x1 y_x2 y_x3 yS => ∃ n, xq_e_Sc_arrangeAlone_2 a_u k_K n y_x1 y_x2 y_x3 yS, fun y_x1 y_x2 y_x3 yS => mf (fun n => xq_e_Sc_arrangeAlone_2 a_u k_K n y_x1 y_x2 y_x3 yS), ⟨200000, a_x1, a_x2, a_x3, t, e_x1, e_x2, e_x3, hS, h⟩, fun y_x1 y_x2 y_x3 yS hI => ?_⟩
  obtain ⟨m, hm, hq⟩ := mf_ok hI
  obtain ⟨b_x1, b_x2, b_x3, bt, c_x1, c_x2, c_x3, cS, h⟩ := hq
  cases m with
  | zero => exact absurd h Bool.false_ne_true
  | succ n => exact xs_b_Sc_arrangeAlone_2 h e_u c_x1 c_x2 c_x3 cS (fun h d_x1 d_x2 d_x3 dS => ⟨⟨n, _, _, _, _, d_x1, d_x2, d_x3, dS, h⟩, Nat.lt_of_le_of_lt (mf_le ⟨_, _, _, _, d_x1, d_x2, d_x3, dS, h⟩) (Nat.lt_of_lt_of_eq (Nat.lt_succ_self n) hm.symm)⟩) hK
noncomputable def x_p_Sc_arrangeAlone (a_u : Nat) (a_x1 : Nat) (a_x2 : Nat) (t : X8) (k_K : X8 → Bool) : Bool :=
  x_e_Sc_arrangeAlone_2 a_u a_x1 a_x2 0 t k_K
set_option maxRecDepth 20000 in
set_option maxHeartbeats 1000000 in
theorem xs_p_Sc_arrangeAlone {u a_u : Nat} {x1 a_x1 : Nat} {x2 : Int32} {a_x2 : Nat} {S : cs} {t : X8} {K : cs → Prop} {k_K : X8 → Bool} (h : x_p_Sc_arrangeAlone a_u a_x1 a_x2 t k_K = true) (e_u : u = a_u) (e_x1 : x1 = a_x1) (e_x2 : x2 = Int32.ofNat a_x2) (hS : RC S t) (hK : ∀ {yS : cs} {yt : X8}, k_K yt = true → RC yS yt → K yS) : p_Sc_arrangeAlone UL u x1 x2 S K := by
  unfold p_Sc_arrangeAlone
  unfold x_p_Sc_arrangeAlone at h
  exact xs_e_Sc_arrangeAlone_2 h e_u e_x1 e_x2 ((rfl : (0 : Int32) = Int32.ofNat 0)) hS hK
noncomputable def x_p_Sc_arrange (a_u : Nat) (a_x1 : Nat) (t : X8) (k_K : X8 → Bool) : Bool :=
  wri t a_u 6 0 fun t1 => rdi t1 a_u 0 fun v3 => cond (w_eq v3 1) (rdr t1 a_u 1 fun o8 => cond (Nat.beq o8 1000000) false <| and (Nat.beq (clx o8) 902) <| and (Nat.blt 0 (lnx o8)) <| wri t1 a_u 5 1 fun t13 => rdr t13 a_u 1 fun o15 => rda t13 o15 0 fun v17 => x_p_Sc_arrangeAlone a_u a_x1 v17 t13 (fun t_S26 => x_b_Sc_arrange_46 a_u t_S26 k_K)) (x_p_Sc_blocksTogether a_u a_x1 t1 (fun v35_ t_S35 => wri t_S35 a_u 5 v35_ fun t6 => x_p_Sc_arrangeTogether a_u a_x1 t6 (fun t_S43 => x_b_Sc_arrange_46 a_u t_S43 k_K)))
set_option maxRecDepth 20000 in
set_option maxHeartbeats 1000000 in
theorem xs_p_Sc_arrange {u a_u : Nat} {x1 a_x1 : Nat} {S : cs} {t : X8} {K : cs → Prop} {k_K : X8 → Bool} (h : x_p_Sc_arrange a_u a_x1 t k_K = true) (e_u : u = a_u) (e_x1 : x1 = a_x1) (hS : RC S t) (hK : ∀ {yS : cs} {yt : X8}, k_K yt = true → RC yS yt → K yS) : p_Sc_arrange UL u x1 S K := by
  unfold p_Sc_arrange
  unfold x_p_Sc_arrange at h
  obtain ⟨t1, h, hS2⟩ := wri_ok h hS e_u ((rfl : (0 : Int32) = Int32.ofNat 0))
  obtain ⟨v3, h, q4⟩ := rdi_ok h hS2 e_u
  have hc5 := c_eq' q4 ((rfl : (1 : Int32) = Int32.ofNat 1))
  refine ⟨fun hc => ?_, fun hc => ?_⟩
  · have h := x_neg h (fun q => hc (hc5.mpr q))
    refine xs_p_Sc_blocksTogether h e_u e_x1 hS2 (fun h e_v35 h_S35 => ?_)
    obtain ⟨t6, h, hS7⟩ := wri_ok h h_S35 e_u e_v35
    refine xs_p_Sc_arrangeTogether h e_u e_x1 hS7 (fun h h_S43 => ?_)
    exact xs_b_Sc_arrange_46 h e_u h_S43 hK
  · have h := x_pos h (hc5.mp hc)
    obtain ⟨o8, h, q9⟩ := rdr_ok h hS2 e_u
    obtain ⟨n10, h⟩ := nu_ok h
    refine ⟨nu_no n10 q9, ?_⟩
    obtain ⟨n11, h⟩ := an_ok h
    refine ⟨cl_ok n11 q9 (by decide), ?_⟩
    obtain ⟨n12, h⟩ := an_ok h
    refine ⟨vpc_ok n12 ((rfl : (0 : Int32) = Int32.ofNat 0)) q9, ?_⟩
    obtain ⟨t13, h, hS14⟩ := wri_ok h hS2 e_u ((rfl : (1 : Int32) = Int32.ofNat 1))
    obtain ⟨o15, h, q16⟩ := rdr_ok h hS14 e_u
    obtain ⟨v17, h, q18⟩ := rda_ok h hS14 q16 ((rfl : (0 : Int32) = Int32.ofNat 0))
    refine xs_p_Sc_arrangeAlone h e_u e_x1 q18 hS14 (fun h h_S26 => ?_)
    exact xs_b_Sc_arrange_46 h e_u h_S26 hK
noncomputable def x_b_Wa_makeWeights_119 (a_u : Nat) (a_x1 : Nat) (a_x2 : Nat) (a_x3 : Nat) (a_x5 : Nat) (t : X8) (r_R98 : Nat → X8 → Bool) (r_R106 : Nat → Nat → X8 → Bool) (r_R119 : Nat → Nat → Nat → Nat → X8 → Bool) (k_K : X8 → Bool) : Bool :=
  cond (!(w_lt a_x5 8)) (rdr t a_u 2 fun o2 => cond (Nat.beq o2 1000000) false <| and (Nat.beq (clx o2) 902) <| frc (w_add (w_mul 8 a_x1) a_x2) fun f6 => and (Nat.blt f6 (lnx o2)) <| frc (w_add a_x2 1) fun f9 => frc (v_l2i (v_shr a_x3 17)) fun f13 => wra t o2 f6 f13 fun t11 => r_R106 a_x1 f9 t11) (rdr t a_u 0 fun o15 => cond (Nat.beq o15 1000000) false <| and (Nat.beq (clx o15) 902) <| frc (w_add (w_mul 8 a_x1) a_x5) fun f19 => and (Nat.blt f19 (lnx o15)) <| rdr t a_u 3 fun o22 => cond (Nat.beq o22 1000000) false <| and (Nat.beq (clx o22) 904) <| frc (w_add (w_mul 8 a_x5) a_x2) fun f26 => and (Nat.blt f26 (lnx o22)) <| rda t o15 f19 fun v29 => rdl t o22 f26 fun v31 => frc (v_add a_x3 (v_mul (v_i2l v29) v31)) fun f33 => frc (w_add a_x5 1) fun f35 => r_R119 a_x1 a_x2 f33 f35 t)
set_option maxRecDepth 20000 in
set_option maxHeartbeats 1000000 in
theorem xs_b_Wa_makeWeights_119 {u a_u : Nat} {x1 : Int32} {a_x1 : Nat} {x2 : Int32} {a_x2 : Nat} {x3 : Int64} {a_x3 : Nat} {x5 : Int32} {a_x5 : Nat} {S : cs} {t : X8} {R98 : Int32 → cs → Prop} {r_R98 : Nat → X8 → Bool} {R106 : Int32 → Int32 → cs → Prop} {r_R106 : Nat → Nat → X8 → Bool} {R119 : Int32 → Int32 → Int64 → Int32 → cs → Prop} {r_R119 : Nat → Nat → Nat → Nat → X8 → Bool} {K : cs → Prop} {k_K : X8 → Bool} (h : x_b_Wa_makeWeights_119 a_u a_x1 a_x2 a_x3 a_x5 t r_R98 r_R106 r_R119 k_K = true) (e_u : u = a_u) (e_x1 : x1 = Int32.ofNat a_x1) (e_x2 : x2 = Int32.ofNat a_x2) (e_x3 : x3 = Int64.ofNat a_x3) (e_x5 : x5 = Int32.ofNat a_x5) (hS : RC S t) (hR98 : ∀ {y0 : Int32} {b0 : Nat} {yS : cs} {yt : X8}, r_R98 b0 yt = true → y0 = Int32.ofNat b0 → RC yS yt → R98 y0 yS) (hR106 : ∀ {y0 : Int32} {b0 : Nat} {y1 : Int32} {b1 : Nat} {yS : cs} {yt : X8}, r_R106 b0 b1 yt = true → y0 = Int32.ofNat b0 → y1 = Int32.ofNat b1 → RC yS yt → R106 y0 y1 yS) (hR119 : ∀ {y0 : Int32} {b0 : Nat} {y1 : Int32} {b1 : Nat} {y2 : Int64} {b2 : Nat} {y3 : Int32} {b3 : Nat} {yS : cs} {yt : X8}, r_R119 b0 b1 b2 b3 yt = true → y0 = Int32.ofNat b0 → y1 = Int32.ofNat b1 → y2 = Int64.ofNat b2 → y3 = Int32.ofNat b3 → RC yS yt → R119 y0 y1 y2 y3 yS) (hK : ∀ {yS : cs} {yt : X8}, k_K yt = true → RC yS yt → K yS) : b_Wa_makeWeights_119 UL u x1 x2 x3 x5 S R98 R106 R119 K := by
  unfold b_Wa_makeWeights_119
  unfold x_b_Wa_makeWeights_119 at h
  have hc1 := c_le' ((rfl : (8 : Int32) = Int32.ofNat 8)) e_x5
  refine ⟨fun hc => ?_, fun hc => ?_⟩
  · have h := x_pos h (hc1.mp hc)
    obtain ⟨o2, h, q3⟩ := rdr_ok h hS e_u
    obtain ⟨n4, h⟩ := nu_ok h
    refine ⟨nu_no n4 q3, ?_⟩
    obtain ⟨n5, h⟩ := an_ok h
    refine ⟨cl_ok n5 q3 (by decide), ?_⟩
    have h := frc_ok h
    have p7 := n_add (n_mul ((rfl : (8 : Int32) = Int32.ofNat 8)) e_x1) e_x2
    obtain ⟨n8, h⟩ := an_ok h
    refine ⟨vpc_ok n8 p7 q3, ?_⟩
    have h := frc_ok h
    have p10 := n_add e_x2 ((rfl : (1 : Int32) = Int32.ofNat 1))
    have h := frc_ok h
    have p14 := m_l2i (m_shr e_x3 ((rfl : (17 : Int32) = Int32.ofNat 17)))
    obtain ⟨t11, h, hS12⟩ := wra_ok h hS q3 p7 p14
    exact hR106 h e_x1 p10 hS12
  · have h := x_neg h (fun q => hc (hc1.mpr q))
    obtain ⟨o15, h, q16⟩ := rdr_ok h hS e_u
    obtain ⟨n17, h⟩ := nu_ok h
    refine ⟨nu_no n17 q16, ?_⟩
    obtain ⟨n18, h⟩ := an_ok h
    refine ⟨cl_ok n18 q16 (by decide), ?_⟩
    have h := frc_ok h
    have p20 := n_add (n_mul ((rfl : (8 : Int32) = Int32.ofNat 8)) e_x1) e_x5
    obtain ⟨n21, h⟩ := an_ok h
    refine ⟨vpc_ok n21 p20 q16, ?_⟩
    obtain ⟨o22, h, q23⟩ := rdr_ok h hS e_u
    obtain ⟨n24, h⟩ := nu_ok h
    refine ⟨nu_no n24 q23, ?_⟩
    obtain ⟨n25, h⟩ := an_ok h
    refine ⟨cl_ok n25 q23 (by decide), ?_⟩
    have h := frc_ok h
    have p27 := n_add (n_mul ((rfl : (8 : Int32) = Int32.ofNat 8)) e_x5) e_x2
    obtain ⟨n28, h⟩ := an_ok h
    refine ⟨vpc_ok n28 p27 q23, ?_⟩
    obtain ⟨v29, h, q30⟩ := rda_ok h hS q16 p20
    obtain ⟨v31, h, q32⟩ := rdl_ok h hS q23 p27
    have h := frc_ok h
    have p34 := m_add e_x3 (m_mul (m_i2l q30) q32)
    have h := frc_ok h
    have p36 := n_add e_x5 ((rfl : (1 : Int32) = Int32.ofNat 1))
    exact hR119 h e_x1 e_x2 p34 p36 hS
noncomputable def xl_e_Wa_makeWeights_119 (a_u : Nat) (r_R98 : Nat → X8 → Bool) (r_R106 : Nat → Nat → X8 → Bool) (k_K : X8 → Bool) (n : Nat) : Nat → Nat → Nat → Nat → X8 → Bool := Nat.rec (motive := fun _ => Nat → Nat → Nat → Nat → X8 → Bool) (fun _ _ _ _ _ => false) (fun _ ih b_x1 b_x2 b_x3 b_x5 bt => x_b_Wa_makeWeights_119 a_u b_x1 b_x2 b_x3 b_x5 bt r_R98 r_R106 ih k_K) n
noncomputable def x_e_Wa_makeWeights_119 (a_u : Nat) (a_x1 : Nat) (a_x2 : Nat) (a_x3 : Nat) (a_x5 : Nat) (t : X8) (r_R98 : Nat → X8 → Bool) (r_R106 : Nat → Nat → X8 → Bool) (k_K : X8 → Bool) : Bool := xl_e_Wa_makeWeights_119 a_u r_R98 r_R106 k_K 200000 a_x1 a_x2 a_x3 a_x5 t
def xq_e_Wa_makeWeights_119 (a_u : Nat) (r_R98 : Nat → X8 → Bool) (r_R106 : Nat → Nat → X8 → Bool) (k_K : X8 → Bool) (n : Nat) (y_x1 : Int32) (y_x2 : Int32) (y_x3 : Int64) (y_x5 : Int32) (yS : cs) : Prop := ∃ (b_x1 : Nat) (b_x2 : Nat) (b_x3 : Nat) (b_x5 : Nat) (bt : X8), y_x1 = Int32.ofNat b_x1 ∧ y_x2 = Int32.ofNat b_x2 ∧ y_x3 = Int64.ofNat b_x3 ∧ y_x5 = Int32.ofNat b_x5 ∧ RC yS bt ∧ xl_e_Wa_makeWeights_119 a_u r_R98 r_R106 k_K n b_x1 b_x2 b_x3 b_x5 bt = true
set_option maxRecDepth 20000 in
theorem xs_e_Wa_makeWeights_119 {u a_u : Nat} {x1 : Int32} {a_x1 : Nat} {x2 : Int32} {a_x2 : Nat} {x3 : Int64} {a_x3 : Nat} {x5 : Int32} {a_x5 : Nat} {S : cs} {t : X8} {R98 : Int32 → cs → Prop} {r_R98 : Nat → X8 → Bool} {R106 : Int32 → Int32 → cs → Prop} {r_R106 : Nat → Nat → X8 → Bool} {K : cs → Prop} {k_K : X8 → Bool} (h : x_e_Wa_makeWeights_119 a_u a_x1 a_x2 a_x3 a_x5 t r_R98 r_R106 k_K = true) (e_u : u = a_u) (e_x1 : x1 = Int32.ofNat a_x1) (e_x2 : x2 = Int32.ofNat a_x2) (e_x3 : x3 = Int64.ofNat a_x3) (e_x5 : x5 = Int32.ofNat a_x5) (hS : RC S t) (hR98 : ∀ {y0 : Int32} {b0 : Nat} {yS : cs} {yt : X8}, r_R98 b0 yt = true → y0 = Int32.ofNat b0 → RC yS yt → R98 y0 yS) (hR106 : ∀ {y0 : Int32} {b0 : Nat} {y1 : Int32} {b1 : Nat} {yS : cs} {yt : X8}, r_R106 b0 b1 yt = true → y0 = Int32.ofNat b0 → y1 = Int32.ofNat b1 → RC yS yt → R106 y0 y1 yS) (hK : ∀ {yS : cs} {yt : X8}, k_K yt = true → RC yS yt → K yS) : e_Wa_makeWeights_119 UL u x1 x2 x3 x5 S R98 R106 K := by
  refine ⟨fun y_x1 y_x2 y_x3 y_x5 yS => ∃ n, xq_e_Wa_makeWeights_119 a_u r_R98 r_R106 k_K n y_x1 y_x2 y_x3 y_x5 yS, fun y_x1 y_x2 y_x3 y_x5 yS => mf (fun n => xq_e_Wa_makeWeights_119 a_u r_R98 r_R106 k_K n y_x1 y_x2 y_x3 y_x5 yS), ⟨200000, a_x1, a_x2, a_x3, a_x5, t, e_x1, e_x2, e_x3, e_x5, hS, h⟩, fun y_x1 y_x2 y_x3 y_x5 yS hI => ?_⟩
  obtain ⟨m, hm, hq⟩ := mf_ok hI
  obtain ⟨b_x1, b_x2, b_x3, b_x5, bt, c_x1, c_x2, c_x3, c_x5, cS, h⟩ := hq
  cases m with
  | zero => exact absurd h Bool.false_ne_true
  | succ n => exact xs_b_Wa_makeWeights_119 h e_u c_x1 c_x2 c_x3 c_x5 cS hR98 hR106 (fun h d_x1 d_x2 d_x3 d_x5 dS => ⟨⟨n, _, _, _, _, _, d_x1, d_x2, d_x3, d_x5, dS, h⟩, Nat.lt_of_le_of_lt (mf_le ⟨_, _, _, _, _, d_x1, d_x2, d_x3, d_x5, dS, h⟩) (Nat.lt_of_lt_of_eq (Nat.lt_succ_self n) hm.symm)⟩) hK
noncomputable def x_b_Wa_makeWeights_106 (a_u : Nat) (a_x1 : Nat) (a_x2 : Nat) (t : X8) (r_R98 : Nat → X8 → Bool) (r_R106 : Nat → Nat → X8 → Bool) (k_K : X8 → Bool) : Bool :=
  cond (!(w_lt a_x2 8)) (frc (w_add a_x1 1) fun f2 => r_R98 f2 t) (x_e_Wa_makeWeights_119 a_u a_x1 a_x2 65536 0 t r_R98 r_R106 k_K)
set_option maxRecDepth 20000 in
set_option maxHeartbeats 1000000 in
theorem xs_b_Wa_makeWeights_106 {u a_u : Nat} {x1 : Int32} {a_x1 : Nat} {x2 : Int32} {a_x2 : Nat} {S : cs} {t : X8} {R98 : Int32 → cs → Prop} {r_R98 : Nat → X8 → Bool} {R106 : Int32 → Int32 → cs → Prop} {r_R106 : Nat → Nat → X8 → Bool} {K : cs → Prop} {k_K : X8 → Bool} (h : x_b_Wa_makeWeights_106 a_u a_x1 a_x2 t r_R98 r_R106 k_K = true) (e_u : u = a_u) (e_x1 : x1 = Int32.ofNat a_x1) (e_x2 : x2 = Int32.ofNat a_x2) (hS : RC S t) (hR98 : ∀ {y0 : Int32} {b0 : Nat} {yS : cs} {yt : X8}, r_R98 b0 yt = true → y0 = Int32.ofNat b0 → RC yS yt → R98 y0 yS) (hR106 : ∀ {y0 : Int32} {b0 : Nat} {y1 : Int32} {b1 : Nat} {yS : cs} {yt : X8}, r_R106 b0 b1 yt = true → y0 = Int32.ofNat b0 → y1 = Int32.ofNat b1 → RC yS yt → R106 y0 y1 yS) (hK : ∀ {yS : cs} {yt : X8}, k_K yt = true → RC yS yt → K yS) : b_Wa_makeWeights_106 UL u x1 x2 S R98 R106 K := by
  unfold b_Wa_makeWeights_106
  unfold x_b_Wa_makeWeights_106 at h
  have hc1 := c_le' ((rfl : (8 : Int32) = Int32.ofNat 8)) e_x2
  refine ⟨fun hc => ?_, fun hc => ?_⟩
  · have h := x_pos h (hc1.mp hc)
    have h := frc_ok h
    have p3 := n_add e_x1 ((rfl : (1 : Int32) = Int32.ofNat 1))
    exact hR98 h p3 hS
  · have h := x_neg h (fun q => hc (hc1.mpr q))
    exact xs_e_Wa_makeWeights_119 h e_u e_x1 e_x2 ((rfl : (65536 : Int64) = Int64.ofNat 65536)) ((rfl : (0 : Int32) = Int32.ofNat 0)) hS hR98 hR106 hK
noncomputable def xl_e_Wa_makeWeights_106 (a_u : Nat) (r_R98 : Nat → X8 → Bool) (k_K : X8 → Bool) (n : Nat) : Nat → Nat → X8 → Bool := Nat.rec (motive := fun _ => Nat → Nat → X8 → Bool) (fun _ _ _ => false) (fun _ ih b_x1 b_x2 bt => x_b_Wa_makeWeights_106 a_u b_x1 b_x2 bt r_R98 ih k_K) n
noncomputable def x_e_Wa_makeWeights_106 (a_u : Nat) (a_x1 : Nat) (a_x2 : Nat) (t : X8) (r_R98 : Nat → X8 → Bool) (k_K : X8 → Bool) : Bool := xl_e_Wa_makeWeights_106 a_u r_R98 k_K 200000 a_x1 a_x2 t
def xq_e_Wa_makeWeights_106 (a_u : Nat) (r_R98 : Nat → X8 → Bool) (k_K : X8 → Bool) (n : Nat) (y_x1 : Int32) (y_x2 : Int32) (yS : cs) : Prop := ∃ (b_x1 : Nat) (b_x2 : Nat) (bt : X8), y_x1 = Int32.ofNat b_x1 ∧ y_x2 = Int32.ofNat b_x2 ∧ RC yS bt ∧ xl_e_Wa_makeWeights_106 a_u r_R98 k_K n b_x1 b_x2 bt = true
set_option maxRecDepth 20000 in
theorem xs_e_Wa_makeWeights_106 {u a_u : Nat} {x1 : Int32} {a_x1 : Nat} {x2 : Int32} {a_x2 : Nat} {S : cs} {t : X8} {R98 : Int32 → cs → Prop} {r_R98 : Nat → X8 → Bool} {K : cs → Prop} {k_K : X8 → Bool} (h : x_e_Wa_makeWeights_106 a_u a_x1 a_x2 t r_R98 k_K = true) (e_u : u = a_u) (e_x1 : x1 = Int32.ofNat a_x1) (e_x2 : x2 = Int32.ofNat a_x2) (hS : RC S t) (hR98 : ∀ {y0 : Int32} {b0 : Nat} {yS : cs} {yt : X8}, r_R98 b0 yt = true → y0 = Int32.ofNat b0 → RC yS yt → R98 y0 yS) (hK : ∀ {yS : cs} {yt : X8}, k_K yt = true → RC yS yt → K yS) : e_Wa_makeWeights_106 UL u x1 x2 S R98 K := by
  refine ⟨fun y_x1 y_x2 yS => ∃ n, xq_e_Wa_makeWeights_106 a_u r_R98 k_K n y_x1 y_x2 yS, fun y_x1 y_x2 yS => mf (fun n => xq_e_Wa_makeWeights_106 a_u r_R98 k_K n y_x1 y_x2 yS), ⟨200000, a_x1, a_x2, t, e_x1, e_x2, hS, h⟩, fun y_x1 y_x2 yS hI => ?_⟩
  obtain ⟨m, hm, hq⟩ := mf_ok hI
  obtain ⟨b_x1, b_x2, bt, c_x1, c_x2, cS, h⟩ := hq
  cases m with
  | zero => exact absurd h Bool.false_ne_true
  | succ n => exact xs_b_Wa_makeWeights_106 h e_u c_x1 c_x2 cS hR98 (fun h d_x1 d_x2 dS => ⟨⟨n, _, _, _, d_x1, d_x2, dS, h⟩, Nat.lt_of_le_of_lt (mf_le ⟨_, _, _, d_x1, d_x2, dS, h⟩) (Nat.lt_of_lt_of_eq (Nat.lt_succ_self n) hm.symm)⟩) hK
noncomputable def x_b_Wa_makeWeights_98 (a_u : Nat) (a_x1 : Nat) (t : X8) (r_R98 : Nat → X8 → Bool) (k_K : X8 → Bool) : Bool :=
  cond (!(w_lt a_x1 8)) (k_K t) (x_e_Wa_makeWeights_106 a_u a_x1 0 t r_R98 k_K)
set_option maxRecDepth 20000 in
set_option maxHeartbeats 1000000 in
theorem xs_b_Wa_makeWeights_98 {u a_u : Nat} {x1 : Int32} {a_x1 : Nat} {S : cs} {t : X8} {R98 : Int32 → cs → Prop} {r_R98 : Nat → X8 → Bool} {K : cs → Prop} {k_K : X8 → Bool} (h : x_b_Wa_makeWeights_98 a_u a_x1 t r_R98 k_K = true) (e_u : u = a_u) (e_x1 : x1 = Int32.ofNat a_x1) (hS : RC S t) (hR98 : ∀ {y0 : Int32} {b0 : Nat} {yS : cs} {yt : X8}, r_R98 b0 yt = true → y0 = Int32.ofNat b0 → RC yS yt → R98 y0 yS) (hK : ∀ {yS : cs} {yt : X8}, k_K yt = true → RC yS yt → K yS) : b_Wa_makeWeights_98 UL u x1 S R98 K := by
  unfold b_Wa_makeWeights_98
  unfold x_b_Wa_makeWeights_98 at h
  have hc1 := c_le' ((rfl : (8 : Int32) = Int32.ofNat 8)) e_x1
  refine ⟨fun hc => ?_, fun hc => ?_⟩
  · have h := x_pos h (hc1.mp hc)
    exact hK h hS
  · have h := x_neg h (fun q => hc (hc1.mpr q))
    exact xs_e_Wa_makeWeights_106 h e_u e_x1 ((rfl : (0 : Int32) = Int32.ofNat 0)) hS hR98 hK
noncomputable def xl_e_Wa_makeWeights_98 (a_u : Nat) (k_K : X8 → Bool) (n : Nat) : Nat → X8 → Bool := Nat.rec (motive := fun _ => Nat → X8 → Bool) (fun _ _ => false) (fun _ ih b_x1 bt => x_b_Wa_makeWeights_98 a_u b_x1 bt ih k_K) n
noncomputable def x_e_Wa_makeWeights_98 (a_u : Nat) (a_x1 : Nat) (t : X8) (k_K : X8 → Bool) : Bool := xl_e_Wa_makeWeights_98 a_u k_K 200000 a_x1 t
def xq_e_Wa_makeWeights_98 (a_u : Nat) (k_K : X8 → Bool) (n : Nat) (y_x1 : Int32) (yS : cs) : Prop := ∃ (b_x1 : Nat) (bt : X8), y_x1 = Int32.ofNat b_x1 ∧ RC yS bt ∧ xl_e_Wa_makeWeights_98 a_u k_K n b_x1 bt = true
set_option maxRecDepth 20000 in
theorem xs_e_Wa_makeWeights_98 {u a_u : Nat} {x1 : Int32} {a_x1 : Nat} {S : cs} {t : X8} {K : cs → Prop} {k_K : X8 → Bool} (h : x_e_Wa_makeWeights_98 a_u a_x1 t k_K = true) (e_u : u = a_u) (e_x1 : x1 = Int32.ofNat a_x1) (hS : RC S t) (hK : ∀ {yS : cs} {yt : X8}, k_K yt = true → RC yS yt → K yS) : e_Wa_makeWeights_98 UL u x1 S K := by
  refine ⟨fun y_x1 yS => ∃ n, xq_e_Wa_makeWeights_98 a_u k_K n y_x1 yS, fun y_x1 yS => mf (fun n => xq_e_Wa_makeWeights_98 a_u k_K n y_x1 yS), ⟨200000, a_x1, t, e_x1, hS, h⟩, fun y_x1 yS hI => ?_⟩
  obtain ⟨m, hm, hq⟩ := mf_ok hI
  obtain ⟨b_x1, bt, c_x1, cS, h⟩ := hq
  cases m with
  | zero => exact absurd h Bool.false_ne_true
  | succ n => exact xs_b_Wa_makeWeights_98 h e_u c_x1 cS (fun h d_x1 dS => ⟨⟨n, _, _, d_x1, dS, h⟩, Nat.lt_of_le_of_lt (mf_le ⟨_, _, d_x1, dS, h⟩) (Nat.lt_of_lt_of_eq (Nat.lt_succ_self n) hm.symm)⟩) hK
noncomputable def x_b_Wa_makeWeights_23 (a_u : Nat) (a_x1 : Nat) (a_x2 : Nat) (a_x3 : Nat) (a_x4 : Nat) (t : X8) (r_R2 : Nat → X8 → Bool) (r_R10 : Nat → Nat → X8 → Bool) (r_R23 : Nat → Nat → Nat → Nat → X8 → Bool) (k_K : X8 → Bool) : Bool :=
  cond (!(w_lt a_x4 8)) (rdr t a_u 3 fun o2 => cond (Nat.beq o2 1000000) false <| and (Nat.beq (clx o2) 904) <| frc (w_add (w_mul 8 a_x1) a_x2) fun f6 => and (Nat.blt f6 (lnx o2)) <| frc (w_add a_x2 1) fun f9 => frc (v_i2l (w_shr a_x3 9)) fun f13 => wrl t o2 f6 f13 fun t11 => r_R10 a_x1 f9 t11) (rdr t a_u 0 fun o15 => cond (Nat.beq o15 1000000) false <| and (Nat.beq (clx o15) 902) <| frc (w_add (w_mul 8 a_x2) a_x4) fun f19 => and (Nat.blt f19 (lnx o15)) <| rdr t a_u 1 fun o22 => cond (Nat.beq o22 1000000) false <| and (Nat.beq (clx o22) 902) <| frc (w_add (w_mul 8 a_x1) a_x4) fun f26 => and (Nat.blt f26 (lnx o22)) <| rda t o15 f19 fun v29 => rda t o22 f26 fun v31 => frc (w_add a_x3 (w_mul v29 (w_sub v31 128))) fun f33 => frc (w_add a_x4 1) fun f35 => r_R23 a_x1 a_x2 f33 f35 t)
set_option maxRecDepth 20000 in
set_option maxHeartbeats 1000000 in
theorem xs_b_Wa_makeWeights_23 {u a_u : Nat} {x1 : Int32} {a_x1 : Nat} {x2 : Int32} {a_x2 : Nat} {x3 : Int32} {a_x3 : Nat} {x4 : Int32} {a_x4 : Nat} {S : cs} {t : X8} {R2 : Int32 → cs → Prop} {r_R2 : Nat → X8 → Bool} {R10 : Int32 → Int32 → cs → Prop} {r_R10 : Nat → Nat → X8 → Bool} {R23 : Int32 → Int32 → Int32 → Int32 → cs → Prop} {r_R23 : Nat → Nat → Nat → Nat → X8 → Bool} {K : cs → Prop} {k_K : X8 → Bool} (h : x_b_Wa_makeWeights_23 a_u a_x1 a_x2 a_x3 a_x4 t r_R2 r_R10 r_R23 k_K = true) (e_u : u = a_u) (e_x1 : x1 = Int32.ofNat a_x1) (e_x2 : x2 = Int32.ofNat a_x2) (e_x3 : x3 = Int32.ofNat a_x3) (e_x4 : x4 = Int32.ofNat a_x4) (hS : RC S t) (hR2 : ∀ {y0 : Int32} {b0 : Nat} {yS : cs} {yt : X8}, r_R2 b0 yt = true → y0 = Int32.ofNat b0 → RC yS yt → R2 y0 yS) (hR10 : ∀ {y0 : Int32} {b0 : Nat} {y1 : Int32} {b1 : Nat} {yS : cs} {yt : X8}, r_R10 b0 b1 yt = true → y0 = Int32.ofNat b0 → y1 = Int32.ofNat b1 → RC yS yt → R10 y0 y1 yS) (hR23 : ∀ {y0 : Int32} {b0 : Nat} {y1 : Int32} {b1 : Nat} {y2 : Int32} {b2 : Nat} {y3 : Int32} {b3 : Nat} {yS : cs} {yt : X8}, r_R23 b0 b1 b2 b3 yt = true → y0 = Int32.ofNat b0 → y1 = Int32.ofNat b1 → y2 = Int32.ofNat b2 → y3 = Int32.ofNat b3 → RC yS yt → R23 y0 y1 y2 y3 yS) (hK : ∀ {yS : cs} {yt : X8}, k_K yt = true → RC yS yt → K yS) : b_Wa_makeWeights_23 UL u x1 x2 x3 x4 S R2 R10 R23 K := by
  unfold b_Wa_makeWeights_23
  unfold x_b_Wa_makeWeights_23 at h
  have hc1 := c_le' ((rfl : (8 : Int32) = Int32.ofNat 8)) e_x4
  refine ⟨fun hc => ?_, fun hc => ?_⟩
  · have h := x_pos h (hc1.mp hc)
    obtain ⟨o2, h, q3⟩ := rdr_ok h hS e_u
    obtain ⟨n4, h⟩ := nu_ok h
    refine ⟨nu_no n4 q3, ?_⟩
    obtain ⟨n5, h⟩ := an_ok h
    refine ⟨cl_ok n5 q3 (by decide), ?_⟩
    have h := frc_ok h
    have p7 := n_add (n_mul ((rfl : (8 : Int32) = Int32.ofNat 8)) e_x1) e_x2
    obtain ⟨n8, h⟩ := an_ok h
    refine ⟨vpc_ok n8 p7 q3, ?_⟩
    have h := frc_ok h
    have p10 := n_add e_x2 ((rfl : (1 : Int32) = Int32.ofNat 1))
    have h := frc_ok h
    have p14 := m_i2l (n_shr e_x3 ((rfl : (9 : Int32) = Int32.ofNat 9)))
    obtain ⟨t11, h, hS12⟩ := wrl_ok h hS q3 p7 p14
    exact hR10 h e_x1 p10 hS12
  · have h := x_neg h (fun q => hc (hc1.mpr q))
    obtain ⟨o15, h, q16⟩ := rdr_ok h hS e_u
    obtain ⟨n17, h⟩ := nu_ok h
    refine ⟨nu_no n17 q16, ?_⟩
    obtain ⟨n18, h⟩ := an_ok h
    refine ⟨cl_ok n18 q16 (by decide), ?_⟩
    have h := frc_ok h
    have p20 := n_add (n_mul ((rfl : (8 : Int32) = Int32.ofNat 8)) e_x2) e_x4
    obtain ⟨n21, h⟩ := an_ok h
    refine ⟨vpc_ok n21 p20 q16, ?_⟩
    obtain ⟨o22, h, q23⟩ := rdr_ok h hS e_u
    obtain ⟨n24, h⟩ := nu_ok h
    refine ⟨nu_no n24 q23, ?_⟩
    obtain ⟨n25, h⟩ := an_ok h
    refine ⟨cl_ok n25 q23 (by decide), ?_⟩
    have h := frc_ok h
    have p27 := n_add (n_mul ((rfl : (8 : Int32) = Int32.ofNat 8)) e_x1) e_x4
    obtain ⟨n28, h⟩ := an_ok h
    refine ⟨vpc_ok n28 p27 q23, ?_⟩
    obtain ⟨v29, h, q30⟩ := rda_ok h hS q16 p20
    obtain ⟨v31, h, q32⟩ := rda_ok h hS q23 p27
    have h := frc_ok h
    have p34 := n_add e_x3 (n_mul q30 (n_sub q32 ((rfl : (128 : Int32) = Int32.ofNat 128))))
    have h := frc_ok h
    have p36 := n_add e_x4 ((rfl : (1 : Int32) = Int32.ofNat 1))
    exact hR23 h e_x1 e_x2 p34 p36 hS
noncomputable def xl_e_Wa_makeWeights_23 (a_u : Nat) (r_R2 : Nat → X8 → Bool) (r_R10 : Nat → Nat → X8 → Bool) (k_K : X8 → Bool) (n : Nat) : Nat → Nat → Nat → Nat → X8 → Bool := Nat.rec (motive := fun _ => Nat → Nat → Nat → Nat → X8 → Bool) (fun _ _ _ _ _ => false) (fun _ ih b_x1 b_x2 b_x3 b_x4 bt => x_b_Wa_makeWeights_23 a_u b_x1 b_x2 b_x3 b_x4 bt r_R2 r_R10 ih k_K) n
noncomputable def x_e_Wa_makeWeights_23 (a_u : Nat) (a_x1 : Nat) (a_x2 : Nat) (a_x3 : Nat) (a_x4 : Nat) (t : X8) (r_R2 : Nat → X8 → Bool) (r_R10 : Nat → Nat → X8 → Bool) (k_K : X8 → Bool) : Bool := xl_e_Wa_makeWeights_23 a_u r_R2 r_R10 k_K 200000 a_x1 a_x2 a_x3 a_x4 t
def xq_e_Wa_makeWeights_23 (a_u : Nat) (r_R2 : Nat → X8 → Bool) (r_R10 : Nat → Nat → X8 → Bool) (k_K : X8 → Bool) (n : Nat) (y_x1 : Int32) (y_x2 : Int32) (y_x3 : Int32) (y_x4 : Int32) (yS : cs) : Prop := ∃ (b_x1 : Nat) (b_x2 : Nat) (b_x3 : Nat) (b_x4 : Nat) (bt : X8), y_x1 = Int32.ofNat b_x1 ∧ y_x2 = Int32.ofNat b_x2 ∧ y_x3 = Int32.ofNat b_x3 ∧ y_x4 = Int32.ofNat b_x4 ∧ RC yS bt ∧ xl_e_Wa_makeWeights_23 a_u r_R2 r_R10 k_K n b_x1 b_x2 b_x3 b_x4 bt = true
set_option maxRecDepth 20000 in
theorem xs_e_Wa_makeWeights_23 {u a_u : Nat} {x1 : Int32} {a_x1 : Nat} {x2 : Int32} {a_x2 : Nat} {x3 : Int32} {a_x3 : Nat} {x4 : Int32} {a_x4 : Nat} {S : cs} {t : X8} {R2 : Int32 → cs → Prop} {r_R2 : Nat → X8 → Bool} {R10 : Int32 → Int32 → cs → Prop} {r_R10 : Nat → Nat → X8 → Bool} {K : cs → Prop} {k_K : X8 → Bool} (h : x_e_Wa_makeWeights_23 a_u a_x1 a_x2 a_x3 a_x4 t r_R2 r_R10 k_K = true) (e_u : u = a_u) (e_x1 : x1 = Int32.ofNat a_x1) (e_x2 : x2 = Int32.ofNat a_x2) (e_x3 : x3 = Int32.ofNat a_x3) (e_x4 : x4 = Int32.ofNat a_x4) (hS : RC S t) (hR2 : ∀ {y0 : Int32} {b0 : Nat} {yS : cs} {yt : X8}, r_R2 b0 yt = true → y0 = Int32.ofNat b0 → RC yS yt → R2 y0 yS) (hR10 : ∀ {y0 : Int32} {b0 : Nat} {y1 : Int32} {b1 : Nat} {yS : cs} {yt : X8}, r_R10 b0 b1 yt = true → y0 = Int32.ofNat b0 → y1 = Int32.ofNat b1 → RC yS yt → R10 y0 y1 yS) (hK : ∀ {yS : cs} {yt : X8}, k_K yt = true → RC yS yt → K yS) : e_Wa_makeWeights_23 UL u x1 x2 x3 x4 S R2 R10 K := by
  refine ⟨fun y_x1 y_x2 y_x3 y_x4 yS => ∃ n, xq_e_Wa_makeWeights_23 a_u r_R2 r_R10 k_K n y_x1 y_x2 y_x3 y_x4 yS, fun y_x1 y_x2 y_x3 y_x4 yS => mf (fun n => xq_e_Wa_makeWeights_23 a_u r_R2 r_R10 k_K n y_x1 y_x2 y_x3 y_x4 yS), ⟨200000, a_x1, a_x2, a_x3, a_x4, t, e_x1, e_x2, e_x3, e_x4, hS, h⟩, fun y_x1 y_x2 y_x3 y_x4 yS hI => ?_⟩
  obtain ⟨m, hm, hq⟩ := mf_ok hI
  obtain ⟨b_x1, b_x2, b_x3, b_x4, bt, c_x1, c_x2, c_x3, c_x4, cS, h⟩ := hq
  cases m with
  | zero => exact absurd h Bool.false_ne_true
  | succ n => exact xs_b_Wa_makeWeights_23 h e_u c_x1 c_x2 c_x3 c_x4 cS hR2 hR10 (fun h d_x1 d_x2 d_x3 d_x4 dS => ⟨⟨n, _, _, _, _, _, d_x1, d_x2, d_x3, d_x4, dS, h⟩, Nat.lt_of_le_of_lt (mf_le ⟨_, _, _, _, _, d_x1, d_x2, d_x3, d_x4, dS, h⟩) (Nat.lt_of_lt_of_eq (Nat.lt_succ_self n) hm.symm)⟩) hK
noncomputable def x_b_Wa_makeWeights_10 (a_u : Nat) (a_x1 : Nat) (a_x2 : Nat) (t : X8) (r_R2 : Nat → X8 → Bool) (r_R10 : Nat → Nat → X8 → Bool) (k_K : X8 → Bool) : Bool :=
  cond (!(w_lt a_x2 8)) (frc (w_add a_x1 1) fun f2 => r_R2 f2 t) (x_e_Wa_makeWeights_23 a_u a_x1 a_x2 256 0 t r_R2 r_R10 k_K)
set_option maxRecDepth 20000 in
set_option maxHeartbeats 1000000 in
theorem xs_b_Wa_makeWeights_10 {u a_u : Nat} {x1 : Int32} {a_x1 : Nat} {x2 : Int32} {a_x2 : Nat} {S : cs} {t : X8} {R2 : Int32 → cs → Prop} {r_R2 : Nat → X8 → Bool} {R10 : Int32 → Int32 → cs → Prop} {r_R10 : Nat → Nat → X8 → Bool} {K : cs → Prop} {k_K : X8 → Bool} (h : x_b_Wa_makeWeights_10 a_u a_x1 a_x2 t r_R2 r_R10 k_K = true) (e_u : u = a_u) (e_x1 : x1 = Int32.ofNat a_x1) (e_x2 : x2 = Int32.ofNat a_x2) (hS : RC S t) (hR2 : ∀ {y0 : Int32} {b0 : Nat} {yS : cs} {yt : X8}, r_R2 b0 yt = true → y0 = Int32.ofNat b0 → RC yS yt → R2 y0 yS) (hR10 : ∀ {y0 : Int32} {b0 : Nat} {y1 : Int32} {b1 : Nat} {yS : cs} {yt : X8}, r_R10 b0 b1 yt = true → y0 = Int32.ofNat b0 → y1 = Int32.ofNat b1 → RC yS yt → R10 y0 y1 yS) (hK : ∀ {yS : cs} {yt : X8}, k_K yt = true → RC yS yt → K yS) : b_Wa_makeWeights_10 UL u x1 x2 S R2 R10 K := by
  unfold b_Wa_makeWeights_10
  unfold x_b_Wa_makeWeights_10 at h
  have hc1 := c_le' ((rfl : (8 : Int32) = Int32.ofNat 8)) e_x2
  refine ⟨fun hc => ?_, fun hc => ?_⟩
  · have h := x_pos h (hc1.mp hc)
    have h := frc_ok h
    have p3 := n_add e_x1 ((rfl : (1 : Int32) = Int32.ofNat 1))
    exact hR2 h p3 hS
  · have h := x_neg h (fun q => hc (hc1.mpr q))
    exact xs_e_Wa_makeWeights_23 h e_u e_x1 e_x2 ((rfl : (256 : Int32) = Int32.ofNat 256)) ((rfl : (0 : Int32) = Int32.ofNat 0)) hS hR2 hR10 hK
noncomputable def xl_e_Wa_makeWeights_10 (a_u : Nat) (r_R2 : Nat → X8 → Bool) (k_K : X8 → Bool) (n : Nat) : Nat → Nat → X8 → Bool := Nat.rec (motive := fun _ => Nat → Nat → X8 → Bool) (fun _ _ _ => false) (fun _ ih b_x1 b_x2 bt => x_b_Wa_makeWeights_10 a_u b_x1 b_x2 bt r_R2 ih k_K) n
noncomputable def x_e_Wa_makeWeights_10 (a_u : Nat) (a_x1 : Nat) (a_x2 : Nat) (t : X8) (r_R2 : Nat → X8 → Bool) (k_K : X8 → Bool) : Bool := xl_e_Wa_makeWeights_10 a_u r_R2 k_K 200000 a_x1 a_x2 t
def xq_e_Wa_makeWeights_10 (a_u : Nat) (r_R2 : Nat → X8 → Bool) (k_K : X8 → Bool) (n : Nat) (y_x1 : Int32) (y_x2 : Int32) (yS : cs) : Prop := ∃ (b_x1 : Nat) (b_x2 : Nat) (bt : X8), y_x1 = Int32.ofNat b_x1 ∧ y_x2 = Int32.ofNat b_x2 ∧ RC yS bt ∧ xl_e_Wa_makeWeights_10 a_u r_R2 k_K n b_x1 b_x2 bt = true
set_option maxRecDepth 20000 in
theorem xs_e_Wa_makeWeights_10 {u a_u : Nat} {x1 : Int32} {a_x1 : Nat} {x2 : Int32} {a_x2 : Nat} {S : cs} {t : X8} {R2 : Int32 → cs → Prop} {r_R2 : Nat → X8 → Bool} {K : cs → Prop} {k_K : X8 → Bool} (h : x_e_Wa_makeWeights_10 a_u a_x1 a_x2 t r_R2 k_K = true) (e_u : u = a_u) (e_x1 : x1 = Int32.ofNat a_x1) (e_x2 : x2 = Int32.ofNat a_x2) (hS : RC S t) (hR2 : ∀ {y0 : Int32} {b0 : Nat} {yS : cs} {yt : X8}, r_R2 b0 yt = true → y0 = Int32.ofNat b0 → RC yS yt → R2 y0 yS) (hK : ∀ {yS : cs} {yt : X8}, k_K yt = true → RC yS yt → K yS) : e_Wa_makeWeights_10 UL u x1 x2 S R2 K := by
  refine ⟨fun y_x1 y_x2 yS => ∃ n, xq_e_Wa_makeWeights_10 a_u r_R2 k_K n y_x1 y_x2 yS, fun y_x1 y_x2 yS => mf (fun n => xq_e_Wa_makeWeights_10 a_u r_R2 k_K n y_x1 y_x2 yS), ⟨200000, a_x1, a_x2, t, e_x1, e_x2, hS, h⟩, fun y_x1 y_x2 yS hI => ?_⟩
  obtain ⟨m, hm, hq⟩ := mf_ok hI
  obtain ⟨b_x1, b_x2, bt, c_x1, c_x2, cS, h⟩ := hq
  cases m with
  | zero => exact absurd h Bool.false_ne_true
  | succ n => exact xs_b_Wa_makeWeights_10 h e_u c_x1 c_x2 cS hR2 (fun h d_x1 d_x2 dS => ⟨⟨n, _, _, _, d_x1, d_x2, dS, h⟩, Nat.lt_of_le_of_lt (mf_le ⟨_, _, _, d_x1, d_x2, dS, h⟩) (Nat.lt_of_lt_of_eq (Nat.lt_succ_self n) hm.symm)⟩) hK
noncomputable def x_b_Wa_makeWeights_2 (a_u : Nat) (a_x1 : Nat) (t : X8) (r_R2 : Nat → X8 → Bool) (k_K : X8 → Bool) : Bool :=
  cond (!(w_lt a_x1 8)) (x_e_Wa_makeWeights_98 a_u 0 t k_K) (x_e_Wa_makeWeights_10 a_u a_x1 0 t r_R2 k_K)
set_option maxRecDepth 20000 in
set_option maxHeartbeats 1000000 in
theorem xs_b_Wa_makeWeights_2 {u a_u : Nat} {x1 : Int32} {a_x1 : Nat} {S : cs} {t : X8} {R2 : Int32 → cs → Prop} {r_R2 : Nat → X8 → Bool} {K : cs → Prop} {k_K : X8 → Bool} (h : x_b_Wa_makeWeights_2 a_u a_x1 t r_R2 k_K = true) (e_u : u = a_u) (e_x1 : x1 = Int32.ofNat a_x1) (hS : RC S t) (hR2 : ∀ {y0 : Int32} {b0 : Nat} {yS : cs} {yt : X8}, r_R2 b0 yt = true → y0 = Int32.ofNat b0 → RC yS yt → R2 y0 yS) (hK : ∀ {yS : cs} {yt : X8}, k_K yt = true → RC yS yt → K yS) : b_Wa_makeWeights_2 UL u x1 S R2 K := by
  unfold b_Wa_makeWeights_2
  unfold x_b_Wa_makeWeights_2 at h
  have hc1 := c_le' ((rfl : (8 : Int32) = Int32.ofNat 8)) e_x1
  refine ⟨fun hc => ?_, fun hc => ?_⟩
  · have h := x_pos h (hc1.mp hc)
    exact xs_e_Wa_makeWeights_98 h e_u ((rfl : (0 : Int32) = Int32.ofNat 0)) hS hK
  · have h := x_neg h (fun q => hc (hc1.mpr q))
    exact xs_e_Wa_makeWeights_10 h e_u e_x1 ((rfl : (0 : Int32) = Int32.ofNat 0)) hS hR2 hK
noncomputable def xl_e_Wa_makeWeights_2 (a_u : Nat) (k_K : X8 → Bool) (n : Nat) : Nat → X8 → Bool := Nat.rec (motive := fun _ => Nat → X8 → Bool) (fun _ _ => false) (fun _ ih b_x1 bt => x_b_Wa_makeWeights_2 a_u b_x1 bt ih k_K) n
noncomputable def x_e_Wa_makeWeights_2 (a_u : Nat) (a_x1 : Nat) (t : X8) (k_K : X8 → Bool) : Bool := xl_e_Wa_makeWeights_2 a_u k_K 200000 a_x1 t
def xq_e_Wa_makeWeights_2 (a_u : Nat) (k_K : X8 → Bool) (n : Nat) (y_x1 : Int32) (yS : cs) : Prop := ∃ (b_x1 : Nat) (bt : X8), y_x1 = Int32.ofNat b_x1 ∧ RC yS bt ∧ xl_e_Wa_makeWeights_2 a_u k_K n b_x1 bt = true
set_option maxRecDepth 20000 in
theorem xs_e_Wa_makeWeights_2 {u a_u : Nat} {x1 : Int32} {a_x1 : Nat} {S : cs} {t : X8} {K : cs → Prop} {k_K : X8 → Bool} (h : x_e_Wa_makeWeights_2 a_u a_x1 t k_K = true) (e_u : u = a_u) (e_x1 : x1 = Int32.ofNat a_x1) (hS : RC S t) (hK : ∀ {yS : cs} {yt : X8}, k_K yt = true → RC yS yt → K yS) : e_Wa_makeWeights_2 UL u x1 S K := by
  refine ⟨fun y_x1 yS => ∃ n, xq_e_Wa_makeWeights_2 a_u k_K n y_x1 yS, fun y_x1 yS => mf (fun n => xq_e_Wa_makeWeights_2 a_u k_K n y_x1 yS), ⟨200000, a_x1, t, e_x1, hS, h⟩, fun y_x1 yS hI => ?_⟩
  obtain ⟨m, hm, hq⟩ := mf_ok hI
  obtain ⟨b_x1, bt, c_x1, cS, h⟩ := hq
  cases m with
  | zero => exact absurd h Bool.false_ne_true
  | succ n => exact xs_b_Wa_makeWeights_2 h e_u c_x1 cS (fun h d_x1 dS => ⟨⟨n, _, _, d_x1, dS, h⟩, Nat.lt_of_le_of_lt (mf_le ⟨_, _, d_x1, dS, h⟩) (Nat.lt_of_lt_of_eq (Nat.lt_succ_self n) hm.symm)⟩) hK
noncomputable def x_p_Wa_makeWeights (a_u : Nat) (t : X8) (k_K : X8 → Bool) : Bool :=
  x_e_Wa_makeWeights_2 a_u 0 t k_K
set_option maxRecDepth 20000 in
set_option maxHeartbeats 1000000 in
theorem xs_p_Wa_makeWeights {u a_u : Nat} {S : cs} {t : X8} {K : cs → Prop} {k_K : X8 → Bool} (h : x_p_Wa_makeWeights a_u t k_K = true) (e_u : u = a_u) (hS : RC S t) (hK : ∀ {yS : cs} {yt : X8}, k_K yt = true → RC yS yt → K yS) : p_Wa_makeWeights UL u S K := by
  unfold p_Wa_makeWeights
  unfold x_p_Wa_makeWeights at h
  exact xs_e_Wa_makeWeights_2 h e_u ((rfl : (0 : Int32) = Int32.ofNat 0)) hS hK
noncomputable def x_b_Pa_kindOf_9 (a_s0 : Nat) (k_K : Nat → Bool) : Bool :=
  k_K a_s0
set_option maxRecDepth 20000 in
set_option maxHeartbeats 1000000 in
theorem xs_b_Pa_kindOf_9 {s0 : Int32} {a_s0 : Nat} {K : Int32 → Prop} {k_K : Nat → Bool} (h : x_b_Pa_kindOf_9 a_s0 k_K = true) (e_s0 : s0 = Int32.ofNat a_s0) (hK : ∀ {y0 : Int32} {b0 : Nat}, k_K b0 = true → y0 = Int32.ofNat b0 → K y0) : b_Pa_kindOf_9 s0 K := by
  unfold b_Pa_kindOf_9
  unfold x_b_Pa_kindOf_9 at h
  exact hK h e_s0
noncomputable def x_p_Pa_kindOf (a_x0 : Nat) (k_K : Nat → Bool) : Bool :=
  cond (w_eq a_x0 0) (x_b_Pa_kindOf_9 0 k_K) (x_b_Pa_kindOf_9 1 k_K)
set_option maxRecDepth 20000 in
set_option maxHeartbeats 1000000 in
theorem xs_p_Pa_kindOf {x0 : Int32} {a_x0 : Nat} {K : Int32 → Prop} {k_K : Nat → Bool} (h : x_p_Pa_kindOf a_x0 k_K = true) (e_x0 : x0 = Int32.ofNat a_x0) (hK : ∀ {y0 : Int32} {b0 : Nat}, k_K b0 = true → y0 = Int32.ofNat b0 → K y0) : p_Pa_kindOf x0 K := by
  unfold p_Pa_kindOf
  unfold x_p_Pa_kindOf at h
  have hc1 := c_eq' e_x0 ((rfl : (0 : Int32) = Int32.ofNat 0))
  refine ⟨fun hc => ?_, fun hc => ?_⟩
  · have h := x_neg h (fun q => hc (hc1.mpr q))
    exact xs_b_Pa_kindOf_9 h ((rfl : (1 : Int32) = Int32.ofNat 1)) hK
  · have h := x_pos h (hc1.mp hc)
    exact xs_b_Pa_kindOf_9 h ((rfl : (0 : Int32) = Int32.ofNat 0)) hK
noncomputable def x_b_Pa_makeBlock_239 (a_u : Nat) (a_x1 : Nat) (a_x2 : Nat) (a_x3 : Nat) (a_x9 : Nat) (a_s0 : Nat) (a_s1 : Nat) (a_s2 : Nat) (t : X8) (r_R152 : Nat → Nat → Nat → Nat → X8 → Bool) (k_K : X8 → Bool) : Bool :=
  and (Nat.beq (clx a_s0) 902) <| and (Nat.blt a_s1 (lnx a_s0)) <| frc (w_add a_x9 1) fun f3 => wra t a_s0 a_s1 a_s2 fun t5 => r_R152 a_x1 a_x2 a_x3 f3 t5
set_option maxRecDepth 20000 in
set_option maxHeartbeats 1000000 in
theorem xs_b_Pa_makeBlock_239 {u a_u : Nat} {x1 : Int32} {a_x1 : Nat} {x2 a_x2 : Nat} {x3 : Int32} {a_x3 : Nat} {x9 : Int32} {a_x9 : Nat} {s0 a_s0 : Nat} {s1 : Int32} {a_s1 : Nat} {s2 : Int32} {a_s2 : Nat} {S : cs} {t : X8} {R152 : Int32 → Nat → Int32 → Int32 → cs → Prop} {r_R152 : Nat → Nat → Nat → Nat → X8 → Bool} {K : cs → Prop} {k_K : X8 → Bool} (h : x_b_Pa_makeBlock_239 a_u a_x1 a_x2 a_x3 a_x9 a_s0 a_s1 a_s2 t r_R152 k_K = true) (e_u : u = a_u) (e_x1 : x1 = Int32.ofNat a_x1) (e_x2 : x2 = a_x2) (e_x3 : x3 = Int32.ofNat a_x3) (e_x9 : x9 = Int32.ofNat a_x9) (e_s0 : s0 = a_s0) (e_s1 : s1 = Int32.ofNat a_s1) (e_s2 : s2 = Int32.ofNat a_s2) (hS : RC S t) (hR152 : ∀ {y0 : Int32} {b0 : Nat} {y1 b1 : Nat} {y2 : Int32} {b2 : Nat} {y3 : Int32} {b3 : Nat} {yS : cs} {yt : X8}, r_R152 b0 b1 b2 b3 yt = true → y0 = Int32.ofNat b0 → y1 = b1 → y2 = Int32.ofNat b2 → y3 = Int32.ofNat b3 → RC yS yt → R152 y0 y1 y2 y3 yS) (hK : ∀ {yS : cs} {yt : X8}, k_K yt = true → RC yS yt → K yS) : b_Pa_makeBlock_239 UL u x1 x2 x3 x9 s0 s1 s2 S R152 K := by
  unfold b_Pa_makeBlock_239
  unfold x_b_Pa_makeBlock_239 at h
  obtain ⟨n1, h⟩ := an_ok h
  refine ⟨cl_ok n1 e_s0 (by decide), ?_⟩
  obtain ⟨n2, h⟩ := an_ok h
  refine ⟨vpc_ok n2 e_s1 e_s0, ?_⟩
  have h := frc_ok h
  have p4 := n_add e_x9 ((rfl : (1 : Int32) = Int32.ofNat 1))
  obtain ⟨t5, h, hS6⟩ := wra_ok h hS e_s0 e_s1 e_s2
  exact hR152 h e_x1 e_x2 e_x3 p4 hS6
noncomputable def x_b_Pa_makeBlock_152 (a_u : Nat) (a_x1 : Nat) (a_x2 : Nat) (a_x3 : Nat) (a_x9 : Nat) (t : X8) (r_R152 : Nat → Nat → Nat → Nat → X8 → Bool) (k_K : X8 → Bool) : Bool :=
  cond (!(w_lt a_x9 64)) (k_K t) (rdr t a_u 1 fun o2 => cond (Nat.beq o2 1000000) false <| and (Nat.beq (clx o2) 12) <| rdr t o2 2 fun o6 => cond (Nat.beq o6 1000000) false <| and (Nat.blt a_x9 64) <| and (Nat.beq (clx o6) 902) <| rd_sl a_x9 fun v11 => and (Nat.blt v11 (lnx o6)) <| x_p_Pa_kindOf a_x3 (fun v180_ => and (Nat.beq (clx a_x2) 902) <| frc (w_add (w_mul 64 v180_) v11) fun f15 => and (Nat.blt f15 (lnx a_x2)) <| rda t a_x2 f15 fun v18 => cond (w_eq (w_max 1 v18) 0) false <| rdr t a_u 2 fun o21 => cond (Nat.beq o21 1000000) false <| and (Nat.beq (clx o21) 7) <| rdr t o21 13 fun o25 => cond (Nat.beq o25 1000000) false <| rda t o6 v11 fun v28 => cond (!(w_lt v28 0)) (frc (w_add (w_mul 64 a_x1) a_x9) fun f31 => frc (w_div (w_add (w_abs v28) (w_div (w_max 1 v18) 2)) (w_max 1 v18)) fun f33 => x_b_Pa_makeBlock_239 a_u a_x1 a_x2 a_x3 a_x9 o25 f31 f33 t r_R152 k_K) (frc (w_add (w_mul 64 a_x1) a_x9) fun f35 => frc (w_neg (w_div (w_add (w_abs v28) (w_div (w_max 1 v18) 2)) (w_max 1 v18))) fun f37 => x_b_Pa_makeBlock_239 a_u a_x1 a_x2 a_x3 a_x9 o25 f35 f37 t r_R152 k_K)))
