noncomputable def x_b_Un_begin_20 (a_u : Nat) (a_x1 : Nat) (t : X8) (r_R20 : Nat → X8 → Bool) (k_K : X8 → Bool) : Bool :=
  cond (!(w_lt a_x1 4)) (k_K t) (rdr t a_u 4 fun o2 => cond (Nat.beq o2 1000000) false <| and (Nat.beq (clx o2) 903) <| and (Nat.blt a_x1 (lnx o2)) <| rdr t a_u 5 fun o7 => cond (Nat.beq o7 1000000) false <| and (Nat.beq (clx o7) 951) <| and (Nat.blt a_x1 (lnx o7)) <| rdra t o7 a_x1 fun o12 => cond (Nat.beq o12 1000000) false <| and (Nat.beq (clx o12) 3) <| frc (w_add a_x1 1) fun f16 => wra t o2 a_x1 0 fun t18 => rdr t18 a_u 5 fun o22 => rdra t18 o22 a_x1 fun o24 => wri t18 o24 0 0 fun t20 => r_R20 f16 t20)
set_option maxRecDepth 20000 in
set_option maxHeartbeats 1000000 in
theorem xs_b_Un_begin_20 {u a_u : Nat} {x1 : Int32} {a_x1 : Nat} {S : cs} {t : X8} {R20 : Int32 → cs → Prop} {r_R20 : Nat → X8 → Bool} {K : cs → Prop} {k_K : X8 → Bool} (h : x_b_Un_begin_20 a_u a_x1 t r_R20 k_K = true) (e_u : u = a_u) (e_x1 : x1 = Int32.ofNat a_x1) (hS : RC S t) (hR20 : ∀ {y0 : Int32} {b0 : Nat} {yS : cs} {yt : X8}, r_R20 b0 yt = true → y0 = Int32.ofNat b0 → RC yS yt → R20 y0 yS) (hK : ∀ {yS : cs} {yt : X8}, k_K yt = true → RC yS yt → K yS) : b_Un_begin_20 UL u x1 S R20 K := by
  unfold b_Un_begin_20
  unfold x_b_Un_begin_20 at h
  have hc1 := c_le' ((rfl : (4 : Int32) = Int32.ofNat 4)) e_x1
  refine ⟨fun hc => ?_, fun hc => ?_⟩
  · have h := x_pos h (hc1.mp hc)
    exact hK h hS
  · have h := x_neg h (fun q => hc (hc1.mpr q))
    obtain ⟨o2, h, q3⟩ := rdr_ok h hS e_u
    obtain ⟨n4, h⟩ := nu_ok h
    refine ⟨nu_no n4 q3, ?_⟩
    obtain ⟨n5, h⟩ := an_ok h
    refine ⟨cl_ok n5 q3 (by decide), ?_⟩
    obtain ⟨n6, h⟩ := an_ok h
    refine ⟨vpc_ok n6 e_x1 q3, ?_⟩
    obtain ⟨o7, h, q8⟩ := rdr_ok h hS e_u
    obtain ⟨n9, h⟩ := nu_ok h
    refine ⟨nu_no n9 q8, ?_⟩
    obtain ⟨n10, h⟩ := an_ok h
    refine ⟨cl_ok n10 q8 (by decide), ?_⟩
    obtain ⟨n11, h⟩ := an_ok h
    refine ⟨vpc_ok n11 e_x1 q8, ?_⟩
    obtain ⟨o12, h, q13⟩ := rdra_ok h hS q8 e_x1
    obtain ⟨n14, h⟩ := nu_ok h
    refine ⟨nu_no n14 q13, ?_⟩
    obtain ⟨n15, h⟩ := an_ok h
    refine ⟨cl_ok n15 q13 (by decide), ?_⟩
    have h := frc_ok h
    have p17 := n_add e_x1 ((rfl : (1 : Int32) = Int32.ofNat 1))
    obtain ⟨t18, h, hS19⟩ := wra_ok h hS q3 e_x1 ((rfl : vp_nar .boolean 0 = Int32.ofNat 0))
    obtain ⟨o22, h, q23⟩ := rdr_ok h hS19 e_u
    obtain ⟨o24, h, q25⟩ := rdra_ok h hS19 q23 e_x1
    obtain ⟨t20, h, hS21⟩ := wri_ok h hS19 q25 ((rfl : (0 : Int32) = Int32.ofNat 0))
    exact hR20 h p17 hS21
noncomputable def xl_e_Un_begin_20 (a_u : Nat) (k_K : X8 → Bool) (n : Nat) : Nat → X8 → Bool := Nat.rec (motive := fun _ => Nat → X8 → Bool) (fun _ _ => false) (fun _ ih b_x1 bt => x_b_Un_begin_20 a_u b_x1 bt ih k_K) n
noncomputable def x_e_Un_begin_20 (a_u : Nat) (a_x1 : Nat) (t : X8) (k_K : X8 → Bool) : Bool := xl_e_Un_begin_20 a_u k_K 200000 a_x1 t
def xq_e_Un_begin_20 (a_u : Nat) (k_K : X8 → Bool) (n : Nat) (y_x1 : Int32) (yS : cs) : Prop := ∃ (b_x1 : Nat) (bt : X8), y_x1 = Int32.ofNat b_x1 ∧ RC yS bt ∧ xl_e_Un_begin_20 a_u k_K n b_x1 bt = true
set_option maxRecDepth 20000 in
theorem xs_e_Un_begin_20 {u a_u : Nat} {x1 : Int32} {a_x1 : Nat} {S : cs} {t : X8} {K : cs → Prop} {k_K : X8 → Bool} (h : x_e_Un_begin_20 a_u a_x1 t k_K = true) (e_u : u = a_u) (e_x1 : x1 = Int32.ofNat a_x1) (hS : RC S t) (hK : ∀ {yS : cs} {yt : X8}, k_K yt = true → RC yS yt → K yS) : e_Un_begin_20 UL u x1 S K := by
  refine ⟨fun y_x1 yS => ∃ n, xq_e_Un_begin_20 a_u k_K n y_x1 yS, fun y_x1 yS => mf (fun n => xq_e_Un_begin_20 a_u k_K n y_x1 yS), ⟨200000, a_x1, t, e_x1, hS, h⟩, fun y_x1 yS hI => ?_⟩
  obtain ⟨m, hm, hq⟩ := mf_ok hI
  obtain ⟨b_x1, bt, c_x1, cS, h⟩ := hq
  cases m with
  | zero => exact absurd h Bool.false_ne_true
  | succ n => exact xs_b_Un_begin_20 h e_u c_x1 cS (fun h d_x1 dS => ⟨⟨n, _, _, d_x1, dS, h⟩, Nat.lt_of_le_of_lt (mf_le ⟨_, _, d_x1, dS, h⟩) (Nat.lt_of_lt_of_eq (Nat.lt_succ_self n) hm.symm)⟩) hK
noncomputable def x_p_Un_begin (a_u : Nat) (t : X8) (k_K : X8 → Bool) : Bool :=
  rdr t a_u 0 fun o1 => cond (Nat.beq o1 1000000) false <| and (Nat.beq (clx o1) 8) <| wri t o1 1 0 fun t5 => wri t5 a_u 6 0 fun t7 => wri t7 a_u 11 0 fun t9 => x_e_Un_begin_20 a_u 0 t9 k_K
set_option maxRecDepth 20000 in
set_option maxHeartbeats 1000000 in
theorem xs_p_Un_begin {u a_u : Nat} {S : cs} {t : X8} {K : cs → Prop} {k_K : X8 → Bool} (h : x_p_Un_begin a_u t k_K = true) (e_u : u = a_u) (hS : RC S t) (hK : ∀ {yS : cs} {yt : X8}, k_K yt = true → RC yS yt → K yS) : p_Un_begin UL u S K := by
  unfold p_Un_begin
  unfold x_p_Un_begin at h
  obtain ⟨o1, h, q2⟩ := rdr_ok h hS e_u
  obtain ⟨n3, h⟩ := nu_ok h
  refine ⟨nu_no n3 q2, ?_⟩
  obtain ⟨n4, h⟩ := an_ok h
  refine ⟨cl_ok n4 q2 (by decide), ?_⟩
  obtain ⟨t5, h, hS6⟩ := wri_ok h hS q2 ((rfl : (0 : Int32) = Int32.ofNat 0))
  obtain ⟨t7, h, hS8⟩ := wri_ok h hS6 e_u ((rfl : (0 : Int32) = Int32.ofNat 0))
  obtain ⟨t9, h, hS10⟩ := wri_ok h hS8 e_u ((rfl : (0 : Int32) = Int32.ofNat 0))
  exact xs_e_Un_begin_20 h e_u ((rfl : (0 : Int32) = Int32.ofNat 0)) hS10 hK
noncomputable def x_p_Re_read (a_u : Nat) (t : X8) (k_K : Nat → X8 → Bool) (k_T : Nat → X8 → Bool) : Bool :=
  rdr t a_u 0 fun o1 => cond (Nat.beq o1 1000000) false <| and (Nat.beq (clx o1) 9) <| rdi t a_u 1 fun v5 => rdi t o1 1 fun v7 => cond (w_lt v5 v7) (rdr t o1 0 fun o10 => cond (Nat.beq o10 1000000) false <| and (Nat.beq (clx o10) 902) <| and (Nat.blt v5 (lnx o10)) <| rda t o10 v5 fun v15 => frc (w_add v5 1) fun f19 => wri t a_u 1 f19 fun t17 => k_K v15 t17) (wri t a_u 6 1 fun t21 => rdr t21 a_u 0 fun o25 => rdi t21 o25 1 fun v27 => wri t21 a_u 7 v27 fun t23 => k_T 13 t23)
set_option maxRecDepth 20000 in
set_option maxHeartbeats 1000000 in
theorem xs_p_Re_read {u a_u : Nat} {S : cs} {t : X8} {K : Int32 → cs → Prop} {k_K : Nat → X8 → Bool} {T : Nat → cs → Prop} {k_T : Nat → X8 → Bool} (h : x_p_Re_read a_u t k_K k_T = true) (e_u : u = a_u) (hS : RC S t) (hK : ∀ {y0 : Int32} {b0 : Nat} {yS : cs} {yt : X8}, k_K b0 yt = true → y0 = Int32.ofNat b0 → RC yS yt → K y0 yS) (hT : ∀ {y0 : Nat} {yS : cs} {yt : X8}, k_T y0 yt = true → RC yS yt → T y0 yS) : p_Re_read UL u S K T := by
  unfold p_Re_read
  unfold x_p_Re_read at h
  obtain ⟨o1, h, q2⟩ := rdr_ok h hS e_u
  obtain ⟨n3, h⟩ := nu_ok h
  refine ⟨nu_no n3 q2, ?_⟩
  obtain ⟨n4, h⟩ := an_ok h
  refine ⟨cl_ok n4 q2 (by decide), ?_⟩
  obtain ⟨v5, h, q6⟩ := rdi_ok h hS e_u
  obtain ⟨v7, h, q8⟩ := rdi_ok h hS q2
  have hc9 := c_lt' q6 q8
  refine ⟨fun hc => ?_, fun hc => ?_⟩
  · have h := x_pos h (hc9.mp hc)
    refine ⟨nu_no n3 q2, ?_⟩
    obtain ⟨o10, h, q11⟩ := rdr_ok h hS q2
    obtain ⟨n12, h⟩ := nu_ok h
    refine ⟨nu_no n12 q11, ?_⟩
    obtain ⟨n13, h⟩ := an_ok h
    refine ⟨cl_ok n13 q11 (by decide), ?_⟩
    obtain ⟨n14, h⟩ := an_ok h
    refine ⟨vpc_ok n14 q6 q11, ?_⟩
    obtain ⟨v15, h, q16⟩ := rda_ok h hS q11 q6
    have h := frc_ok h
    have p20 := n_add q6 ((rfl : (1 : Int32) = Int32.ofNat 1))
    obtain ⟨t17, h, hS18⟩ := wri_ok h hS e_u p20
    exact hK h q16 hS18
  · have h := x_neg h (fun q => hc (hc9.mpr q))
    refine ⟨nu_no n3 q2, ?_⟩
    obtain ⟨t21, h, hS22⟩ := wri_ok h hS e_u ((rfl : (1 : Int32) = Int32.ofNat 1))
    obtain ⟨o25, h, q26⟩ := rdr_ok h hS22 e_u
    obtain ⟨v27, h, q28⟩ := rdi_ok h hS22 q26
    obtain ⟨t23, h, hS24⟩ := wri_ok h hS22 e_u q28
    exact hT h hS24
noncomputable def x_p_Re_fail (a_u : Nat) (a_x1 : Nat) (a_x2 : Nat) (t : X8) (k_K : X8 → Bool) (k_T : Nat → X8 → Bool) : Bool :=
  wri t a_u 6 a_x1 fun t1 => wri t1 a_u 7 a_x2 fun t3 => k_T 13 t3
set_option maxRecDepth 20000 in
set_option maxHeartbeats 1000000 in
theorem xs_p_Re_fail {u a_u : Nat} {x1 : Int32} {a_x1 : Nat} {x2 : Int32} {a_x2 : Nat} {S : cs} {t : X8} {K : cs → Prop} {k_K : X8 → Bool} {T : Nat → cs → Prop} {k_T : Nat → X8 → Bool} (h : x_p_Re_fail a_u a_x1 a_x2 t k_K k_T = true) (e_u : u = a_u) (e_x1 : x1 = Int32.ofNat a_x1) (e_x2 : x2 = Int32.ofNat a_x2) (hS : RC S t) (hK : ∀ {yS : cs} {yt : X8}, k_K yt = true → RC yS yt → K yS) (hT : ∀ {y0 : Nat} {yS : cs} {yt : X8}, k_T y0 yt = true → RC yS yt → T y0 yS) : p_Re_fail UL u x1 x2 S K T := by
  unfold p_Re_fail
  unfold x_p_Re_fail at h
  obtain ⟨t1, h, hS2⟩ := wri_ok h hS e_u e_x1
  obtain ⟨t3, h, hS4⟩ := wri_ok h hS2 e_u e_x2
  exact hT h hS4
noncomputable def x_p_Re_readMark (a_u : Nat) (t : X8) (k_K : Nat → X8 → Bool) (k_T : Nat → X8 → Bool) : Bool :=
  x_p_Re_read a_u t (fun v1_ t_S1 => cond (w_eq v1_ 255) (false) (rdi t_S1 a_u 1 fun v2 => frc (w_sub v2 1) fun f4 => x_p_Re_fail a_u 2 f4 t_S1 (fun t_S18 => false) k_T)) k_T
set_option maxRecDepth 20000 in
set_option maxHeartbeats 1000000 in
theorem xs_p_Re_readMark {u a_u : Nat} {S : cs} {t : X8} {K : Int32 → cs → Prop} {k_K : Nat → X8 → Bool} {T : Nat → cs → Prop} {k_T : Nat → X8 → Bool} (h : x_p_Re_readMark a_u t k_K k_T = true) (e_u : u = a_u) (hS : RC S t) (hK : ∀ {y0 : Int32} {b0 : Nat} {yS : cs} {yt : X8}, k_K b0 yt = true → y0 = Int32.ofNat b0 → RC yS yt → K y0 yS) (hT : ∀ {y0 : Nat} {yS : cs} {yt : X8}, k_T y0 yt = true → RC yS yt → T y0 yS) : p_Re_readMark UL u S K T := by
  unfold p_Re_readMark
  unfold x_p_Re_readMark at h
  refine xs_p_Re_read h e_u hS (fun h e_v1 h_S1 => ?_) hT
  have hc1 := c_eq' e_v1 ((rfl : (255 : Int32) = Int32.ofNat 255))
  refine ⟨fun hc => ?_, fun hc => ?_⟩
  · have h := x_pos h (hc1.mp hc)
    exact absurd h Bool.false_ne_true
  · have h := x_neg h (fun q => hc (hc1.mpr q))
    obtain ⟨v2, h, q3⟩ := rdi_ok h h_S1 e_u
    have h := frc_ok h
    have p5 := n_sub q3 ((rfl : (1 : Int32) = Int32.ofNat 1))
    refine xs_p_Re_fail h e_u ((rfl : (2 : Int32) = Int32.ofNat 2)) p5 h_S1 (fun h h_S18 => ?_) hT
    exact absurd h Bool.false_ne_true
noncomputable def x_p_Un_readRow (a_u : Nat) (t : X8) (k_K : X8 → Bool) (k_T : Nat → X8 → Bool) : Bool :=
  x_p_Un_begin a_u t (fun t_S1 => rdr t_S1 a_u 0 fun o1 => cond (Nat.beq o1 1000000) false <| and (Nat.beq (clx o1) 8) <| x_p_Re_readMark o1 t_S1 (fun v8_ t_S8 => cond (w_eq v8_ 216) (false) (rdr t_S8 a_u 0 fun o6 => cond (Nat.beq o6 1000000) false <| and (Nat.beq (clx o6) 8) <| rdi t_S8 o6 1 fun v10 => frc (w_sub v10 1) fun f12 => x_p_Re_fail o6 3 f12 t_S8 (fun t_S31 => false) k_T)) k_T)
set_option maxRecDepth 20000 in
set_option maxHeartbeats 1000000 in
theorem xs_p_Un_readRow {u a_u : Nat} {S : cs} {t : X8} {K : cs → Prop} {k_K : X8 → Bool} {T : Nat → cs → Prop} {k_T : Nat → X8 → Bool} (h : x_p_Un_readRow a_u t k_K k_T = true) (e_u : u = a_u) (hS : RC S t) (hK : ∀ {yS : cs} {yt : X8}, k_K yt = true → RC yS yt → K yS) (hT : ∀ {y0 : Nat} {yS : cs} {yt : X8}, k_T y0 yt = true → RC yS yt → T y0 yS) : p_Un_readRow UL u S K T := by
  unfold p_Un_readRow
  unfold x_p_Un_readRow at h
  refine xs_p_Un_begin h e_u hS (fun h h_S1 => ?_)
  obtain ⟨o1, h, q2⟩ := rdr_ok h h_S1 e_u
  obtain ⟨n3, h⟩ := nu_ok h
  refine ⟨nu_no n3 q2, ?_⟩
  obtain ⟨n4, h⟩ := an_ok h
  refine ⟨cl_ok n4 q2 (by decide), ?_⟩
  refine xs_p_Re_readMark h q2 h_S1 (fun h e_v8 h_S8 => ?_) hT
  have hc5 := c_eq' e_v8 ((rfl : (216 : Int32) = Int32.ofNat 216))
  refine ⟨fun hc => ?_, fun hc => ?_⟩
  · have h := x_pos h (hc5.mp hc)
    exact absurd h Bool.false_ne_true
  · have h := x_neg h (fun q => hc (hc5.mpr q))
    obtain ⟨o6, h, q7⟩ := rdr_ok h h_S8 e_u
    obtain ⟨n8, h⟩ := nu_ok h
    refine ⟨nu_no n8 q7, ?_⟩
    refine ⟨nu_no n8 q7, ?_⟩
    obtain ⟨n9, h⟩ := an_ok h
    refine ⟨cl_ok n9 q7 (by decide), ?_⟩
    obtain ⟨v10, h, q11⟩ := rdi_ok h h_S8 q7
    have h := frc_ok h
    have p13 := n_sub q11 ((rfl : (1 : Int32) = Int32.ofNat 1))
    refine xs_p_Re_fail h q7 ((rfl : (3 : Int32) = Int32.ofNat 3)) p13 h_S8 (fun h h_S31 => ?_) hT
    exact absurd h Bool.false_ne_true
noncomputable def x_p_B_unpack (a_u : Nat) (t : X8) (k_K : Nat → X8 → Bool) : Bool :=
  rdr t a_u 3 fun o1 => cond (Nat.beq o1 1000000) false <| and (Nat.beq (clx o1) 11) <| x_p_Un_readRow o1 t (fun t_S4 => rdr t_S4 a_u 3 fun o5 => cond (Nat.beq o5 1000000) false <| rdr t_S4 a_u 7 fun o8 => cond (Nat.beq o8 1000000) false <| and (Nat.beq (clx o5) 11) <| false) (fun c9_ t_S9 => and (Nat.beq c9_ 13) <| rdr t_S9 a_u 3 fun o13 => cond (Nat.beq o13 1000000) false <| and (Nat.beq (clx o13) 11) <| rdr t_S9 o13 0 fun o17 => cond (Nat.beq o17 1000000) false <| and (Nat.beq (clx o17) 8) <| rdi t_S9 o17 7 fun v23 => wri t_S9 a_u 8 v23 fun t21 => rdr t21 a_u 3 fun o25 => rdr t21 o25 0 fun o27 => rdi t21 o27 6 fun v29 => k_K v29 t21)
set_option maxRecDepth 20000 in
set_option maxHeartbeats 1000000 in
theorem xs_p_B_unpack {u a_u : Nat} {S : cs} {t : X8} {K : Int32 → cs → Prop} {k_K : Nat → X8 → Bool} (h : x_p_B_unpack a_u t k_K = true) (e_u : u = a_u) (hS : RC S t) (hK : ∀ {y0 : Int32} {b0 : Nat} {yS : cs} {yt : X8}, k_K b0 yt = true → y0 = Int32.ofNat b0 → RC yS yt → K y0 yS) : p_B_unpack UL u S K := by
  unfold p_B_unpack
  unfold x_p_B_unpack at h
  obtain ⟨o1, h, q2⟩ := rdr_ok h hS e_u
  obtain ⟨n3, h⟩ := nu_ok h
  refine ⟨nu_no n3 q2, ?_⟩
  obtain ⟨n4, h⟩ := an_ok h
  refine ⟨cl_ok n4 q2 (by decide), ?_⟩
  refine xs_p_Un_readRow h q2 hS (fun h h_S4 => ?_) (fun h h_S9 => ?_)
  · obtain ⟨o5, h, q6⟩ := rdr_ok h h_S4 e_u
    obtain ⟨n7, h⟩ := nu_ok h
    refine ⟨nu_no n7 q6, ?_⟩
    obtain ⟨o8, h, q9⟩ := rdr_ok h h_S4 e_u
    obtain ⟨n10, h⟩ := nu_ok h
    refine ⟨nu_no n10 q9, ?_⟩
    obtain ⟨n11, h⟩ := an_ok h
    refine ⟨cl_ok n11 q6 (by decide), ?_⟩
    exact absurd h Bool.false_ne_true
  · obtain ⟨n12, h⟩ := an_ok h
    refine ⟨Nat.eq_of_beq_eq_true n12, ?_⟩
    obtain ⟨o13, h, q14⟩ := rdr_ok h h_S9 e_u
    obtain ⟨n15, h⟩ := nu_ok h
    refine ⟨nu_no n15 q14, ?_⟩
    obtain ⟨n16, h⟩ := an_ok h
    refine ⟨cl_ok n16 q14 (by decide), ?_⟩
    obtain ⟨o17, h, q18⟩ := rdr_ok h h_S9 q14
    obtain ⟨n19, h⟩ := nu_ok h
    refine ⟨nu_no n19 q18, ?_⟩
    obtain ⟨n20, h⟩ := an_ok h
    refine ⟨cl_ok n20 q18 (by decide), ?_⟩
    refine ⟨nu_no n15 q14, ?_⟩
    refine ⟨nu_no n19 q18, ?_⟩
    obtain ⟨v23, h, q24⟩ := rdi_ok h h_S9 q18
    obtain ⟨t21, h, hS22⟩ := wri_ok h h_S9 e_u q24
    obtain ⟨o25, h, q26⟩ := rdr_ok h hS22 e_u
    obtain ⟨o27, h, q28⟩ := rdr_ok h hS22 q26
    obtain ⟨v29, h, q30⟩ := rdi_ok h hS22 q28
    exact hK h q30 hS22
noncomputable def x_b_B_turn_32 (a_u : Nat) (a_x1 : Nat) (t : X8) (r_R32 : Nat → X8 → Bool) (k_K : Nat → X8 → Bool) (k_T : Nat → X8 → Bool) : Bool :=
  rdr t a_u 4 fun o1 => cond (Nat.beq o1 1000000) false <| and (Nat.beq (clx o1) 9) <| rdi t o1 1 fun v5 => cond (!(w_lt a_x1 v5)) (rdr t a_u 6 fun o8 => cond (Nat.beq o8 1000000) false <| and (Nat.beq (clx o8) 9) <| rdi t o8 1 fun v12 => k_K v12 t) (rdr t a_u 6 fun o14 => cond (Nat.beq o14 1000000) false <| rdr t o1 0 fun o17 => cond (Nat.beq o17 1000000) false <| and (Nat.beq (clx o17) 902) <| and (Nat.blt a_x1 (lnx o17)) <| and (Nat.beq (clx o14) 9) <| rda t o17 a_x1 fun v23 => x_p_Ro_add o14 v23 t (fun t_S56 => frc (w_add a_x1 1) fun f25 => r_R32 f25 t_S56))
set_option maxRecDepth 20000 in
set_option maxHeartbeats 1000000 in
theorem xs_b_B_turn_32 {u a_u : Nat} {x1 : Int32} {a_x1 : Nat} {S : cs} {t : X8} {R32 : Int32 → cs → Prop} {r_R32 : Nat → X8 → Bool} {K : Int32 → cs → Prop} {k_K : Nat → X8 → Bool} {T : Nat → cs → Prop} {k_T : Nat → X8 → Bool} (h : x_b_B_turn_32 a_u a_x1 t r_R32 k_K k_T = true) (e_u : u = a_u) (e_x1 : x1 = Int32.ofNat a_x1) (hS : RC S t) (hR32 : ∀ {y0 : Int32} {b0 : Nat} {yS : cs} {yt : X8}, r_R32 b0 yt = true → y0 = Int32.ofNat b0 → RC yS yt → R32 y0 yS) (hK : ∀ {y0 : Int32} {b0 : Nat} {yS : cs} {yt : X8}, k_K b0 yt = true → y0 = Int32.ofNat b0 → RC yS yt → K y0 yS) (hT : ∀ {y0 : Nat} {yS : cs} {yt : X8}, k_T y0 yt = true → RC yS yt → T y0 yS) : b_B_turn_32 UL u x1 S R32 K T := by
  unfold b_B_turn_32
  unfold x_b_B_turn_32 at h
  obtain ⟨o1, h, q2⟩ := rdr_ok h hS e_u
  obtain ⟨n3, h⟩ := nu_ok h
  refine ⟨nu_no n3 q2, ?_⟩
  obtain ⟨n4, h⟩ := an_ok h
  refine ⟨cl_ok n4 q2 (by decide), ?_⟩
  obtain ⟨v5, h, q6⟩ := rdi_ok h hS q2
  have hc7 := c_le' q6 e_x1
  refine ⟨fun hc => ?_, fun hc => ?_⟩
  · have h := x_pos h (hc7.mp hc)
    obtain ⟨o8, h, q9⟩ := rdr_ok h hS e_u
    obtain ⟨n10, h⟩ := nu_ok h
    refine ⟨nu_no n10 q9, ?_⟩
    obtain ⟨n11, h⟩ := an_ok h
    refine ⟨cl_ok n11 q9 (by decide), ?_⟩
    obtain ⟨v12, h, q13⟩ := rdi_ok h hS q9
    exact hK h q13 hS
  · have h := x_neg h (fun q => hc (hc7.mpr q))
    obtain ⟨o14, h, q15⟩ := rdr_ok h hS e_u
    obtain ⟨n16, h⟩ := nu_ok h
    refine ⟨nu_no n16 q15, ?_⟩
    refine ⟨nu_no n3 q2, ?_⟩
    obtain ⟨o17, h, q18⟩ := rdr_ok h hS q2
    obtain ⟨n19, h⟩ := nu_ok h
    refine ⟨nu_no n19 q18, ?_⟩
    obtain ⟨n20, h⟩ := an_ok h
    refine ⟨cl_ok n20 q18 (by decide), ?_⟩
    obtain ⟨n21, h⟩ := an_ok h
    refine ⟨vpc_ok n21 e_x1 q18, ?_⟩
    obtain ⟨n22, h⟩ := an_ok h
    refine ⟨cl_ok n22 q15 (by decide), ?_⟩
    obtain ⟨v23, h, q24⟩ := rda_ok h hS q18 e_x1
    refine xs_p_Ro_add h q15 q24 hS (fun h h_S56 => ?_)
    have h := frc_ok h
    have p26 := n_add e_x1 ((rfl : (1 : Int32) = Int32.ofNat 1))
    exact hR32 h p26 h_S56
noncomputable def xl_e_B_turn_32 (a_u : Nat) (k_K : Nat → X8 → Bool) (k_T : Nat → X8 → Bool) (n : Nat) : Nat → X8 → Bool := Nat.rec (motive := fun _ => Nat → X8 → Bool) (fun _ _ => false) (fun _ ih b_x1 bt => x_b_B_turn_32 a_u b_x1 bt ih k_K k_T) n
noncomputable def x_e_B_turn_32 (a_u : Nat) (a_x1 : Nat) (t : X8) (k_K : Nat → X8 → Bool) (k_T : Nat → X8 → Bool) : Bool := xl_e_B_turn_32 a_u k_K k_T 200000 a_x1 t
def xq_e_B_turn_32 (a_u : Nat) (k_K : Nat → X8 → Bool) (k_T : Nat → X8 → Bool) (n : Nat) (y_x1 : Int32) (yS : cs) : Prop := ∃ (b_x1 : Nat) (bt : X8), y_x1 = Int32.ofNat b_x1 ∧ RC yS bt ∧ xl_e_B_turn_32 a_u k_K k_T n b_x1 bt = true
set_option maxRecDepth 20000 in
theorem xs_e_B_turn_32 {u a_u : Nat} {x1 : Int32} {a_x1 : Nat} {S : cs} {t : X8} {K : Int32 → cs → Prop} {k_K : Nat → X8 → Bool} {T : Nat → cs → Prop} {k_T : Nat → X8 → Bool} (h : x_e_B_turn_32 a_u a_x1 t k_K k_T = true) (e_u : u = a_u) (e_x1 : x1 = Int32.ofNat a_x1) (hS : RC S t) (hK : ∀ {y0 : Int32} {b0 : Nat} {yS : cs} {yt : X8}, k_K b0 yt = true → y0 = Int32.ofNat b0 → RC yS yt → K y0 yS) (hT : ∀ {y0 : Nat} {yS : cs} {yt : X8}, k_T y0 yt = true → RC yS yt → T y0 yS) : e_B_turn_32 UL u x1 S K T := by
  refine ⟨fun y_x1 yS => ∃ n, xq_e_B_turn_32 a_u k_K k_T n y_x1 yS, fun y_x1 yS => mf (fun n => xq_e_B_turn_32 a_u k_K k_T n y_x1 yS), ⟨200000, a_x1, t, e_x1, hS, h⟩, fun y_x1 yS hI => ?_⟩
  obtain ⟨m, hm, hq⟩ := mf_ok hI
  obtain ⟨b_x1, bt, c_x1, cS, h⟩ := hq
  cases m with
  | zero => exact absurd h Bool.false_ne_true
  | succ n => exact xs_b_B_turn_32 h e_u c_x1 cS (fun h d_x1 dS => ⟨⟨n, _, _, d_x1, dS, h⟩, Nat.lt_of_le_of_lt (mf_le ⟨_, _, d_x1, dS, h⟩) (Nat.lt_of_lt_of_eq (Nat.lt_succ_self n) hm.symm)⟩) hK hT
noncomputable def x_p_B_turn (a_u : Nat) (t : X8) (k_K : Nat → X8 → Bool) (k_T : Nat → X8 → Bool) : Bool :=
  rdr t a_u 4 fun o1 => cond (Nat.beq o1 1000000) false <| and (Nat.beq (clx o1) 9) <| rdi t o1 1 fun v5 => cond (!(w_lt 32768 v5)) (rdr t a_u 6 fun o8 => cond (Nat.beq o8 1000000) false <| and (Nat.beq (clx o8) 9) <| wri t o8 1 0 fun t12 => x_e_B_turn_32 a_u 0 t12 k_K k_T) (k_T 13 t)
set_option maxRecDepth 20000 in
set_option maxHeartbeats 1000000 in
theorem xs_p_B_turn {u a_u : Nat} {S : cs} {t : X8} {K : Int32 → cs → Prop} {k_K : Nat → X8 → Bool} {T : Nat → cs → Prop} {k_T : Nat → X8 → Bool} (h : x_p_B_turn a_u t k_K k_T = true) (e_u : u = a_u) (hS : RC S t) (hK : ∀ {y0 : Int32} {b0 : Nat} {yS : cs} {yt : X8}, k_K b0 yt = true → y0 = Int32.ofNat b0 → RC yS yt → K y0 yS) (hT : ∀ {y0 : Nat} {yS : cs} {yt : X8}, k_T y0 yt = true → RC yS yt → T y0 yS) : p_B_turn UL u S K T := by
  unfold p_B_turn
  unfold x_p_B_turn at h
  obtain ⟨o1, h, q2⟩ := rdr_ok h hS e_u
  obtain ⟨n3, h⟩ := nu_ok h
  refine ⟨nu_no n3 q2, ?_⟩
  obtain ⟨n4, h⟩ := an_ok h
  refine ⟨cl_ok n4 q2 (by decide), ?_⟩
  obtain ⟨v5, h, q6⟩ := rdi_ok h hS q2
  have hc7 := c_le' q6 ((rfl : (32768 : Int32) = Int32.ofNat 32768))
  refine ⟨fun hc => ?_, fun hc => ?_⟩
  · have h := x_pos h (hc7.mp hc)
    obtain ⟨o8, h, q9⟩ := rdr_ok h hS e_u
    obtain ⟨n10, h⟩ := nu_ok h
    refine ⟨nu_no n10 q9, ?_⟩
    obtain ⟨n11, h⟩ := an_ok h
    refine ⟨cl_ok n11 q9 (by decide), ?_⟩
    obtain ⟨t12, h, hS13⟩ := wri_ok h hS q9 ((rfl : (0 : Int32) = Int32.ofNat 0))
    exact xs_e_B_turn_32 h e_u ((rfl : (0 : Int32) = Int32.ofNat 0)) hS13 hK hT
  · have h := x_neg h (fun q => hc (hc7.mpr q))
    exact hT h hS
noncomputable def x_p_B_size (a_u : Nat) (t : X8) (k_K : Nat → X8 → Bool) : Bool :=
  rdr t a_u 4 fun o1 => cond (Nat.beq o1 1000000) false <| and (Nat.beq (clx o1) 9) <| rdi t o1 1 fun v5 => k_K v5 t
set_option maxRecDepth 20000 in
set_option maxHeartbeats 1000000 in
theorem xs_p_B_size {u a_u : Nat} {S : cs} {t : X8} {K : Int32 → cs → Prop} {k_K : Nat → X8 → Bool} (h : x_p_B_size a_u t k_K = true) (e_u : u = a_u) (hS : RC S t) (hK : ∀ {y0 : Int32} {b0 : Nat} {yS : cs} {yt : X8}, k_K b0 yt = true → y0 = Int32.ofNat b0 → RC yS yt → K y0 yS) : p_B_size UL u S K := by
  unfold p_B_size
  unfold x_p_B_size at h
  obtain ⟨o1, h, q2⟩ := rdr_ok h hS e_u
  obtain ⟨n3, h⟩ := nu_ok h
  refine ⟨nu_no n3 q2, ?_⟩
  obtain ⟨n4, h⟩ := an_ok h
  refine ⟨cl_ok n4 q2 (by decide), ?_⟩
  obtain ⟨v5, h, q6⟩ := rdi_ok h hS q2
  exact hK h q6 hS
noncomputable def x_p_B_place (a_u : Nat) (t : X8) (k_K : Nat → X8 → Bool) : Bool :=
  rdi t a_u 8 fun v1 => k_K v1 t
set_option maxRecDepth 20000 in
set_option maxHeartbeats 1000000 in
theorem xs_p_B_place {u a_u : Nat} {S : cs} {t : X8} {K : Int32 → cs → Prop} {k_K : Nat → X8 → Bool} (h : x_p_B_place a_u t k_K = true) (e_u : u = a_u) (hS : RC S t) (hK : ∀ {y0 : Int32} {b0 : Nat} {yS : cs} {yt : X8}, k_K b0 yt = true → y0 = Int32.ofNat b0 → RC yS yt → K y0 yS) : p_B_place UL u S K := by
  unfold p_B_place
  unfold x_p_B_place at h
  obtain ⟨v1, h, q2⟩ := rdi_ok h hS e_u
  exact hK h q2 hS
noncomputable def x_p_B_take (a_u : Nat) (t : X8) (k_K : X8 → Bool) (k_T : Nat → X8 → Bool) : Bool :=
  rdr t a_u 7 fun o1 => cond (Nat.beq o1 1000000) false <| and (Nat.beq (clx o1) 7) <| rdi t o1 17 fun v5 => cond (w_eq v5 0) (k_T 13 t) (rdr t a_u 5 fun o8 => cond (Nat.beq o8 1000000) false <| false)
set_option maxRecDepth 20000 in
set_option maxHeartbeats 1000000 in
theorem xs_p_B_take {u a_u : Nat} {S : cs} {t : X8} {K : cs → Prop} {k_K : X8 → Bool} {T : Nat → cs → Prop} {k_T : Nat → X8 → Bool} (h : x_p_B_take a_u t k_K k_T = true) (e_u : u = a_u) (hS : RC S t) (hK : ∀ {yS : cs} {yt : X8}, k_K yt = true → RC yS yt → K yS) (hT : ∀ {y0 : Nat} {yS : cs} {yt : X8}, k_T y0 yt = true → RC yS yt → T y0 yS) : p_B_take UL u S K T := by
  unfold p_B_take
  unfold x_p_B_take at h
  obtain ⟨o1, h, q2⟩ := rdr_ok h hS e_u
  obtain ⟨n3, h⟩ := nu_ok h
  refine ⟨nu_no n3 q2, ?_⟩
  obtain ⟨n4, h⟩ := an_ok h
  refine ⟨cl_ok n4 q2 (by decide), ?_⟩
  obtain ⟨v5, h, q6⟩ := rdi_ok h hS q2
  have hc7 := c_eq' q6 ((rfl : (0 : Int32) = Int32.ofNat 0))
  refine ⟨fun hc => ?_, fun hc => ?_⟩
  · have h := x_neg h (fun q => hc (hc7.mpr q))
    refine ⟨nu_no n3 q2, ?_⟩
    obtain ⟨o8, h, q9⟩ := rdr_ok h hS e_u
    obtain ⟨n10, h⟩ := nu_ok h
    refine ⟨nu_no n10 q9, ?_⟩
    exact absurd h Bool.false_ne_true
  · have h := x_pos h (hc7.mp hc)
    exact hT h hS
noncomputable def x_p_Ro_addFour_x1 (a_u : Nat) (t : X8) (k_K : X8 → Bool) : Bool :=
  x_p_Ro_addTwo_x1 a_u t (fun t_S5 => x_p_Ro_addTwo_x1 a_u t_S5 (fun t_S10 => k_K t_S10))
set_option maxRecDepth 20000 in
set_option maxHeartbeats 1000000 in
theorem xs_p_Ro_addFour_x1 {u a_u : Nat} {x1 : Int32} {S : cs} {t : X8} {K : cs → Prop} {k_K : X8 → Bool} (h : x_p_Ro_addFour_x1 a_u t k_K = true) (e_u : u = a_u) (g_x1 : True) (hS : RC S t) (hK : ∀ {yS : cs} {yt : X8}, k_K yt = true → RC yS yt → K yS) : p_Ro_addFour UL u x1 S K := by
  unfold p_Ro_addFour
  unfold x_p_Ro_addFour_x1 at h
  refine xs_p_Ro_addTwo_x1 h e_u trivial hS (fun h h_S5 => ?_)
  refine xs_p_Ro_addTwo_x1 h e_u trivial h_S5 (fun h h_S10 => ?_)
  exact hK h h_S10
noncomputable def x_p_B_feed_x1_x2_x3_x4_x5 (a_u : Nat) (t : X8) (k_K : Nat → X8 → Bool) (k_T : Nat → X8 → Bool) : Bool :=
  rdr t a_u 6 fun o1 => cond (Nat.beq o1 1000000) false <| and (Nat.beq (clx o1) 9) <| rdi t o1 1 fun v5 => cond (!(w_lt 32768 (w_add v5 20))) (x_p_Ro_addFour_x1 o1 t (fun t_S30 => rdr t_S30 a_u 6 fun o8 => cond (Nat.beq o8 1000000) false <| and (Nat.beq (clx o8) 9) <| x_p_Ro_addFour_x1 o8 t_S30 (fun t_S38 => rdr t_S38 a_u 6 fun o12 => cond (Nat.beq o12 1000000) false <| and (Nat.beq (clx o12) 9) <| x_p_Ro_addFour_x1 o12 t_S38 (fun t_S46 => rdr t_S46 a_u 6 fun o16 => cond (Nat.beq o16 1000000) false <| and (Nat.beq (clx o16) 9) <| x_p_Ro_addFour_x1 o16 t_S46 (fun t_S55 => rdr t_S55 a_u 6 fun o20 => cond (Nat.beq o20 1000000) false <| and (Nat.beq (clx o20) 9) <| x_p_Ro_addFour_x1 o20 t_S55 (fun t_S64 => rdr t_S64 a_u 6 fun o24 => cond (Nat.beq o24 1000000) false <| and (Nat.beq (clx o24) 9) <| rdi t_S64 o24 1 fun v28 => k_K v28 t_S64)))))) (k_T 13 t)
set_option maxRecDepth 20000 in
set_option maxHeartbeats 1000000 in
theorem xs_p_B_feed_x1_x2_x3_x4_x5 {u a_u : Nat} {x1 : Int32} {x2 : Int32} {x3 : Int32} {x4 : Int32} {x5 : Int32} {S : cs} {t : X8} {K : Int32 → cs → Prop} {k_K : Nat → X8 → Bool} {T : Nat → cs → Prop} {k_T : Nat → X8 → Bool} (h : x_p_B_feed_x1_x2_x3_x4_x5 a_u t k_K k_T = true) (e_u : u = a_u) (g_x1 : True) (g_x2 : True) (g_x3 : True) (g_x4 : True) (g_x5 : True) (hS : RC S t) (hK : ∀ {y0 : Int32} {b0 : Nat} {yS : cs} {yt : X8}, k_K b0 yt = true → y0 = Int32.ofNat b0 → RC yS yt → K y0 yS) (hT : ∀ {y0 : Nat} {yS : cs} {yt : X8}, k_T y0 yt = true → RC yS yt → T y0 yS) : p_B_feed UL u x1 x2 x3 x4 x5 S K T := by
  unfold p_B_feed
  unfold x_p_B_feed_x1_x2_x3_x4_x5 at h
  obtain ⟨o1, h, q2⟩ := rdr_ok h hS e_u
  obtain ⟨n3, h⟩ := nu_ok h
  refine ⟨nu_no n3 q2, ?_⟩
  obtain ⟨n4, h⟩ := an_ok h
  refine ⟨cl_ok n4 q2 (by decide), ?_⟩
  obtain ⟨v5, h, q6⟩ := rdi_ok h hS q2
  have hc7 := c_le' (n_add q6 ((rfl : (20 : Int32) = Int32.ofNat 20))) ((rfl : (32768 : Int32) = Int32.ofNat 32768))
  refine ⟨fun hc => ?_, fun hc => ?_⟩
  · have h := x_pos h (hc7.mp hc)
    refine ⟨nu_no n3 q2, ?_⟩
    refine xs_p_Ro_addFour_x1 h q2 trivial hS (fun h h_S30 => ?_)
    obtain ⟨o8, h, q9⟩ := rdr_ok h h_S30 e_u
    obtain ⟨n10, h⟩ := nu_ok h
    refine ⟨nu_no n10 q9, ?_⟩
    obtain ⟨n11, h⟩ := an_ok h
    refine ⟨cl_ok n11 q9 (by decide), ?_⟩
    refine xs_p_Ro_addFour_x1 h q9 trivial h_S30 (fun h h_S38 => ?_)
    obtain ⟨o12, h, q13⟩ := rdr_ok h h_S38 e_u
    obtain ⟨n14, h⟩ := nu_ok h
    refine ⟨nu_no n14 q13, ?_⟩
    obtain ⟨n15, h⟩ := an_ok h
    refine ⟨cl_ok n15 q13 (by decide), ?_⟩
    refine xs_p_Ro_addFour_x1 h q13 trivial h_S38 (fun h h_S46 => ?_)
    obtain ⟨o16, h, q17⟩ := rdr_ok h h_S46 e_u
    obtain ⟨n18, h⟩ := nu_ok h
    refine ⟨nu_no n18 q17, ?_⟩
    obtain ⟨n19, h⟩ := an_ok h
    refine ⟨cl_ok n19 q17 (by decide), ?_⟩
    refine xs_p_Ro_addFour_x1 h q17 trivial h_S46 (fun h h_S55 => ?_)
    obtain ⟨o20, h, q21⟩ := rdr_ok h h_S55 e_u
    obtain ⟨n22, h⟩ := nu_ok h
    refine ⟨nu_no n22 q21, ?_⟩
    obtain ⟨n23, h⟩ := an_ok h
    refine ⟨cl_ok n23 q21 (by decide), ?_⟩
    refine xs_p_Ro_addFour_x1 h q21 trivial h_S55 (fun h h_S64 => ?_)
    obtain ⟨o24, h, q25⟩ := rdr_ok h h_S64 e_u
    obtain ⟨n26, h⟩ := nu_ok h
    refine ⟨nu_no n26 q25, ?_⟩
    obtain ⟨n27, h⟩ := an_ok h
    refine ⟨cl_ok n27 q25 (by decide), ?_⟩
    obtain ⟨v28, h, q29⟩ := rdi_ok h h_S64 q25
    exact hK h q29 h_S64
  · have h := x_neg h (fun q => hc (hc7.mpr q))
    exact hT h hS
