set_option maxRecDepth 20000 in
set_option maxHeartbeats 4000000 in
theorem h_Un_readWithin_u59 {a : Bool} {b : Bool} {P : Nat → Nat → Nat} {x1 : Int32} {x2 : Int32} {F : cF} {L : cL} {K : Int32 → cs → Prop} {T : Nat → cs → Prop} (hI : IMc F) (hK : ∀ {v : Int32} {Z : cF} {LZ : cL}, B 0 255 v → IMc Z → agc [6001] [] F Z → ((x1.toInt ≤ v.toInt) ∧ (v.toInt ≤ x2.toInt)) → K v (Z, LZ, PC a b P)) (hT13 : ∀ {Z : cF} {LZ : cL}, IMc Z → agc [6001, 6006, 6007] [] F Z → T 13 (Z, LZ, PC a b P)) : p_Un_readWithin UL 59 x1 x2 (F, L, PC a b P) K T := by
  unfold p_Un_readWithin
  refine ⟨(show ¬ ((60 : Nat) = NU) from by decide +kernel), ?_⟩
  refine ⟨(show c_cl UL 60 = 8 from cl_60), ?_⟩
  refine h_Re_read_u60 hI (fun {v4_1} {FS4_2} {LFS4_2} b3 hI4 g5 r6 => ?_) (fun hI g => hT13 hI (agc_tr (agc_refl (fs := [6001, 6006, 6007]) (rs := []) (F := F)) g (by decide +kernel) (by decide +kernel)))
  have r7 : (FS4_2 60 1).toInt ≤ 32768 := r6
  clear r6
  have q8 : (0) ≤ (FS4_2 60 1).toInt ∧ (FS4_2 60 1).toInt ≤ (98304) := (show B 0 98304 (FS4_2 60 1) from hI4 60 1)
  refine h_B_isWithin  (fun {v11_9} b10 r11 r12 => ?_)
  rcases sp_01 b10 with rfl | rfl
  · have r13 : ((0 : Int) = 0) ∨ ((x1.toInt ≤ v4_1.toInt) ∧ (v4_1.toInt ≤ x2.toInt)) := r11
    clear r11
    have q14 : (0) ≤ (v4_1).toInt ∧ (v4_1).toInt ≤ (255) := (show B 0 255 (v4_1) from B_w b3 (by decide +kernel) (by decide +kernel))
    have r15 : ((0 : Int) = 1) ∨ ((v4_1.toInt < x1.toInt) ∨ (x2.toInt < v4_1.toInt)) := r12
    clear r12
    refine ⟨fun hc => ?_, fun hc => ?_⟩
    · exact (hc (B_z cqb_0_0_0)).elim
    · have i16 : (0 : Int32).toInt = (0 : Int32).toInt := congrArg Int32.toInt hc
      have n17 : (0 : Int32).toInt = 0 := cqn_0
      have n18 : (0 : Int32).toInt = 0 := cqn_0
      refine ⟨(show ¬ ((60 : Nat) = NU) from by decide +kernel), ?_⟩
      refine ⟨(show ¬ ((60 : Nat) = NU) from by decide +kernel), ?_⟩
      refine ⟨(show c_cl UL 60 = 8 from cl_60), ?_⟩
      have g22 := agc_tr (agc_refl (fs := [6001, 6006, 6007]) (rs := []) (F := F)) g5 (by decide +kernel) (by decide +kernel)
      exact h_Re_fail_u60 (B_w cqb_5_5_5 (by decide +kernel) (by decide +kernel)) hI4 (fun hI g => hT13 hI (agc_tr g22 g (by decide +kernel) (by decide +kernel)))
  · have r23 : ((1 : Int) = 0) ∨ ((x1.toInt ≤ v4_1.toInt) ∧ (v4_1.toInt ≤ x2.toInt)) := r11
    clear r11
    have q24 : (0) ≤ (v4_1).toInt ∧ (v4_1).toInt ≤ (255) := (show B 0 255 (v4_1) from B_w b3 (by decide +kernel) (by decide +kernel))
    have r25 : ((1 : Int) = 1) ∨ ((v4_1.toInt < x1.toInt) ∨ (x2.toInt < v4_1.toInt)) := r12
    clear r12
    refine ⟨fun hc => ?_, fun hc => ?_⟩
    · have i26 : (1 : Int32).toInt ≠ (0 : Int32).toInt := i_ne hc
      have n27 : (1 : Int32).toInt = 1 := cqn_1
      have n28 : (0 : Int32).toInt = 0 := cqn_0
      unfold b_Un_readWithin_34
      have g29 := agc_tr (agc_refl (fs := [6001]) (rs := []) (F := F)) g5 (by decide +kernel) (by decide +kernel)
      exact hK b3 hI4 g29 (by show (x1.toInt ≤ v4_1.toInt) ∧ (v4_1.toInt ≤ x2.toInt); first | with_reducible assumption | omega)
    · exact (B_dis cqb_1_1_1 cqb_0_0_0 hc (by decide +kernel)).elim
set_option maxRecDepth 20000 in
set_option maxHeartbeats 4000000 in
theorem h_Un_wantLength_u59 {a : Bool} {b : Bool} {P : Nat → Nat → Nat} {x1 : Int32} {F : cF} {L : cL} {K : cs → Prop} {T : Nat → cs → Prop} (b_x1 : B 0 1 x1) (hI : IMc F) (hK : (x1.toInt = 1) → K (F, L, PC a b P)) (hT13 : ∀ {Z : cF} {LZ : cL}, IMc Z → agc [6006, 6007] [] F Z → T 13 (Z, LZ, PC a b P)) : p_Un_wantLength UL 59 x1 (F, L, PC a b P) K T := by
  unfold p_Un_wantLength
  refine ⟨fun hc => ?_, fun hc => ?_⟩
  · have b1 : B 1 1 (x1) := B_w (B_n0 b_x1 hc) (by decide +kernel) (by decide +kernel)
    unfold b_Un_wantLength_16
    have q2 : (1) ≤ (x1).toInt ∧ (x1).toInt ≤ (1) := (show B 1 1 (x1) from B_w b1 (by decide +kernel) (by decide +kernel))
    exact hK (by show x1.toInt = 1; first | with_reducible assumption | omega)
  · have b3 : B 0 0 (x1) := B_w (B_eq hc cqb_0_0_0) (by decide +kernel) (by decide +kernel)
    have q4 : (0) ≤ (x1).toInt ∧ (x1).toInt ≤ (0) := (show B 0 0 (x1) from B_w b3 (by decide +kernel) (by decide +kernel))
    have i5 : (x1).toInt = (0 : Int32).toInt := congrArg Int32.toInt hc
    have n6 : (0 : Int32).toInt = 0 := cqn_0
    refine ⟨(show ¬ ((60 : Nat) = NU) from by decide +kernel), ?_⟩
    refine ⟨(show c_cl UL 60 = 8 from cl_60), ?_⟩
    exact h_Re_fail_u60 (B_w cqb_4_4_4 (by decide +kernel) (by decide +kernel)) hI (fun hI g => hT13 hI (agc_tr (agc_refl (fs := [6006, 6007]) (rs := []) (F := F)) g (by decide +kernel) (by decide +kernel)))
set_option maxRecDepth 20000 in
set_option maxHeartbeats 4000000 in
theorem h_Un_wantMore_u59 {a : Bool} {b : Bool} {P : Nat → Nat → Nat} {F : cF} {L : cL} {K : cs → Prop} {T : Nat → cs → Prop} (hI : IMc F) (hK : K (F, L, PC a b P)) (hT13 : ∀ {Z : cF} {LZ : cL}, IMc Z → agc [6006, 6007] [] F Z → T 13 (Z, LZ, PC a b P)) : p_Un_wantMore UL 59 (F, L, PC a b P) K T := by
  unfold p_Un_wantMore
  refine ⟨(show ¬ ((60 : Nat) = NU) from by decide +kernel), ?_⟩
  refine ⟨(show c_cl UL 60 = 8 from cl_60), ?_⟩
  refine ⟨fun hc => ?_, fun hc => ?_⟩
  · have hq1 := hc
    have b2 : B 1 2147483647 ((F 59 12) + (F 59 13)) := B_w (B_ltR (show B 0 98304 (F 60 1) from hI 60 1) (B_any _) hq1) (by decide +kernel) (by decide +kernel)
    have q3 : (0) ≤ (F 60 1).toInt ∧ (F 60 1).toInt ≤ (98304) := (show B 0 98304 (F 60 1) from hI 60 1)
    have q4 : (1) ≤ ((F 59 12) + (F 59 13)).toInt ∧ ((F 59 12) + (F 59 13)).toInt ≤ (2147483647) := (show B 1 2147483647 ((F 59 12) + (F 59 13)) from B_w b2 (by decide +kernel) (by decide +kernel))
    have i5 : (F 60 1).toInt < ((F 59 12) + (F 59 13)).toInt := i_lt hq1
    unfold b_Un_wantMore_31
    exact hK 
  · have hq6 := (nlt_le hc)
    have b7 : B (-2147483648) 98304 ((F 59 12) + (F 59 13)) := B_w (B_leL (B_any _) (show B 0 98304 (F 60 1) from hI 60 1) hq6) (by decide +kernel) (by decide +kernel)
    have q8 : (-2147483648) ≤ ((F 59 12) + (F 59 13)).toInt ∧ ((F 59 12) + (F 59 13)).toInt ≤ (98304) := (show B (-2147483648) 98304 ((F 59 12) + (F 59 13)) from B_w b7 (by decide +kernel) (by decide +kernel))
    have q9 : (0) ≤ (F 60 1).toInt ∧ (F 60 1).toInt ≤ (98304) := (show B 0 98304 (F 60 1) from hI 60 1)
    have i10 : ((F 59 12) + (F 59 13)).toInt ≤ (F 60 1).toInt := i_le hq6
    refine ⟨(show ¬ ((60 : Nat) = NU) from by decide +kernel), ?_⟩
    exact h_Re_fail_u60 (B_w cqb_4_4_4 (by decide +kernel) (by decide +kernel)) hI (fun hI g => hT13 hI (agc_tr (agc_refl (fs := [6006, 6007]) (rs := []) (F := F)) g (by decide +kernel) (by decide +kernel)))
set_option maxRecDepth 20000 in
set_option maxHeartbeats 4000000 in
theorem h_Un_begin_u59 {a : Bool} {b : Bool} {P : Nat → Nat → Nat} {F : cF} {L : cL} {K : cs → Prop} (hI : IMc F) (hK : ∀ {Z : cF} {LZ : cL}, IMc Z → agc [5906, 5911, 6001, 8100, 8600, 9100, 9600] [79] F Z → (CV Z) → ((Z 59 6).toInt = 0) → K (Z, LZ, PC a b P)) : p_Un_begin UL 59 (F, L, PC a b P) K := by
  unfold p_Un_begin
  refine ⟨(show ¬ ((60 : Nat) = NU) from by decide +kernel), ?_⟩
  refine ⟨(show c_cl UL 60 = 8 from cl_60), ?_⟩
  have hI6 := IMc_u (u := 60) (i := 1) (v := 0) hI (show B 0 98304 (0) from (B_w cqb_0_0_0 (by decide +kernel) (by decide +kernel)))
  have hI7 := IMc_u (u := 59) (i := 6) (v := 0) hI6 (show B 0 1 (0) from (B_w cqb_0_0_0 (by decide +kernel) (by decide +kernel)))
  have hI8 := IMc_u (u := 59) (i := 11) (v := 0) hI7 (show B 0 65535 (0) from (B_w cqb_0_0_0 (by decide +kernel) (by decide +kernel)))
  refine ⟨fun yx1 yS => B 0 4 yx1 ∧ ∃ (T2 : cF) (LT2 : cL), yS = (T2, LT2, PC a b P) ∧ IMc T2 ∧ agc [8100, 8600, 9100, 9600] [79] (va_up (va_up (va_up F 60 (upd (F 60) 1 0)) 59 (upd (F 59) 6 0)) 59 (upd ((va_up (va_up F 60 (upd (F 60) 1 0)) 59 (upd (F 59) 6 0)) 59) 11 0)) T2 ∧ (TN yx1 T2), fun yx1 yS => (4 - yx1.toInt).toNat, ⟨(B_w cqb_0_0_0 (by decide +kernel) (by decide +kernel)), _, _, rfl, hI8, (agc_refl (fs := [8100, 8600, 9100, 9600]) (rs := [79]) (F := va_up (va_up (va_up F 60 (upd (F 60) 1 0)) 59 (upd (F 59) 6 0)) 59 (upd ((va_up (va_up F 60 (upd (F 60) 1 0)) 59 (upd (F 59) 6 0)) 59) 11 0))), (fun c h1 h2 => absurd (show c.toInt < 0 from h2) (by have := h1.1; omega))⟩, fun x1_1 ST2 hIv => ?_⟩
  obtain ⟨b3, T2, LT2, rfl, hI4, g5, r9⟩ := hIv
  suffices hs : ∀ (R20 : Int32 → cs → Prop), (∀ zx1 zS, (B 0 4 zx1 ∧ ∃ (T2 : cF) (LT2 : cL), zS = (T2, LT2, PC a b P) ∧ IMc T2 ∧ agc [8100, 8600, 9100, 9600] [79] (va_up (va_up (va_up F 60 (upd (F 60) 1 0)) 59 (upd (F 59) 6 0)) 59 (upd ((va_up (va_up F 60 (upd (F 60) 1 0)) 59 (upd (F 59) 6 0)) 59) 11 0)) T2 ∧ (TN zx1 T2)) → (4 - zx1.toInt).toNat < (4 - x1_1.toInt).toNat → R20 zx1 zS) → b_Un_begin_20 UL 59 x1_1 (T2, LT2, PC a b P) R20 K from hs _ (fun _ _ h1 h2 => ⟨h1, h2⟩)
  intro R20 hR200
  have hR20 := fun {zx1} {zS} => hR200 zx1 zS
  unfold b_Un_begin_20
  refine ⟨fun hc => ?_, fun hc => ?_⟩
  · have hq10 := hc
    have b11 : B 4 4 (x1_1) := B_w (B_leR cqb_4_4_4 b3 hq10) (by decide +kernel) (by decide +kernel)
    have g15 := agc_f (u := 60) (k := 1) (v := 0) (agc_refl (fs := [5906, 5911, 6001, 8100, 8600, 9100, 9600]) (rs := [79]) (F := F)) rfl (by decide +kernel)
    have g14 := agc_f (u := 59) (k := 6) (v := 0) g15 rfl (by decide +kernel)
    have g13 := agc_f (u := 59) (k := 11) (v := 0) g14 rfl (by decide +kernel)
    have g12 := agc_tr g13 g5 (by decide +kernel) (by decide +kernel)
    have q16 : (4) ≤ (x1_1).toInt ∧ (x1_1).toInt ≤ (4) := (show B 4 4 (x1_1) from B_w b11 (by decide +kernel) (by decide +kernel))
    have e17 : (T2 59 6).toInt = 0 := (congrArg Int32.toInt (g5.1 59 6 rfl rfl)).trans rfl
    exact hK hI4 g12 (TN_CV (x := x1_1) r9 (by omega)) (by show (T2 59 6).toInt = 0; first | with_reducible assumption | omega)
  · have hq18 := (nle_lt hc)
    have b19 : B 0 3 (x1_1) := B_w (B_ltL b3 cqb_4_4_4 hq18) (by decide +kernel) (by decide +kernel)
    refine ⟨(show ¬ ((79 : Nat) = NU) from by decide +kernel), ?_⟩
    refine ⟨(show c_cl UL 79 = 903 from cl_79), ?_⟩
    refine ⟨(show vp_in (x1_1) 4 from vp_B b19 (by decide +kernel) (by decide +kernel)), ?_⟩
    refine ⟨(show ¬ ((80 : Nat) = NU) from by decide +kernel), ?_⟩
    refine ⟨(show c_cl UL 80 = 951 from cl_80), ?_⟩
    refine ⟨(show vp_in (x1_1) 4 from vp_B b19 (by decide +kernel) (by decide +kernel)), ?_⟩
    rcases sp_03 b19 with rfl | rfl | rfl | rfl
    · refine ⟨(show ¬ ((81 : Nat) = NU) from by decide +kernel), ?_⟩
      refine ⟨(show c_cl UL 81 = 3 from cl_81), ?_⟩
      have hI20 := IMc_u (u := 79) (i := (0 : Int32).toNatClampNeg) (v := vp_nar .boolean 0) hI4 (show B 0 1 (vp_nar .boolean 0) from (B_w (show B 0 0 (vp_nar .boolean 0) from ⟨by decide +kernel, by decide +kernel⟩) (by decide +kernel) (by decide +kernel)))
      have hI21 := IMc_u (u := 81) (i := 0) (v := 0) hI20 (show B 0 1 (0) from (B_w cqb_0_0_0 (by decide +kernel) (by decide +kernel)))
      have g24 := agc_tr (agc_refl (fs := [8100, 8600, 9100, 9600]) (rs := [79]) (F := va_up (va_up (va_up F 60 (upd (F 60) 1 0)) 59 (upd (F 59) 6 0)) 59 (upd ((va_up (va_up F 60 (upd (F 60) 1 0)) 59 (upd (F 59) 6 0)) 59) 11 0))) g5 (by decide +kernel) (by decide +kernel)
      have g23 := agc_r (u := 79) (w := upd (T2 79) (0 : Int32).toNatClampNeg (vp_nar .boolean 0)) g24 rfl (by decide +kernel)
      have g22 := agc_f (u := 81) (k := 0) (v := 0) g23 rfl (by decide +kernel)
      have g26 := agc_r (u := 79) (w := upd (T2 79) (0 : Int32).toNatClampNeg (vp_nar .boolean 0)) (agc_refl (fs := [8100]) (rs := [79]) (F := T2)) rfl (by decide +kernel)
      have g25 := agc_f (u := 81) (k := 0) (v := 0) g26 rfl (by decide +kernel)
      have e27 : (((0 : Int32) + 1)).toInt = 1 := by decide +kernel
      exact hR20 ⟨(B_w (B_add cqb_0_0_0 cqb_1_1_1 (by decide +kernel) (by decide +kernel)) (by decide +kernel) (by decide +kernel)), _, _, rfl, hI21, g22, (TN_up (fs := []) (rs := []) (F := T2) (G := va_up (va_up T2 79 (upd (T2 79) (0 : Int32).toNatClampNeg (vp_nar .boolean 0))) 81 (upd (T2 81) 0 0)) (x := 0) (x' := 0 + 1) (c0 := 0) r9 (by decide +kernel) rfl rfl (fun c hc hn => by rcases sp_03 hc with rfl | rfl | rfl | rfl <;> first | exact rfl | exact absurd rfl hn))⟩ (by show (4 - ((0 : Int32) + 1).toInt).toNat < ((4 : Int) - 0).toNat; omega)
    · refine ⟨(show ¬ ((86 : Nat) = NU) from by decide +kernel), ?_⟩
      refine ⟨(show c_cl UL 86 = 3 from cl_86), ?_⟩
      have hI28 := IMc_u (u := 79) (i := (1 : Int32).toNatClampNeg) (v := vp_nar .boolean 0) hI4 (show B 0 1 (vp_nar .boolean 0) from (B_w (show B 0 0 (vp_nar .boolean 0) from ⟨by decide +kernel, by decide +kernel⟩) (by decide +kernel) (by decide +kernel)))
      have hI29 := IMc_u (u := 86) (i := 0) (v := 0) hI28 (show B 0 1 (0) from (B_w cqb_0_0_0 (by decide +kernel) (by decide +kernel)))
      have g32 := agc_tr (agc_refl (fs := [8100, 8600, 9100, 9600]) (rs := [79]) (F := va_up (va_up (va_up F 60 (upd (F 60) 1 0)) 59 (upd (F 59) 6 0)) 59 (upd ((va_up (va_up F 60 (upd (F 60) 1 0)) 59 (upd (F 59) 6 0)) 59) 11 0))) g5 (by decide +kernel) (by decide +kernel)
      have g31 := agc_r (u := 79) (w := upd (T2 79) (1 : Int32).toNatClampNeg (vp_nar .boolean 0)) g32 rfl (by decide +kernel)
      have g30 := agc_f (u := 86) (k := 0) (v := 0) g31 rfl (by decide +kernel)
      have g34 := agc_r (u := 79) (w := upd (T2 79) (1 : Int32).toNatClampNeg (vp_nar .boolean 0)) (agc_refl (fs := [8600]) (rs := [79]) (F := T2)) rfl (by decide +kernel)
      have g33 := agc_f (u := 86) (k := 0) (v := 0) g34 rfl (by decide +kernel)
      have e35 : (((1 : Int32) + 1)).toInt = 2 := by decide +kernel
      exact hR20 ⟨(B_w (B_add cqb_1_1_1 cqb_1_1_1 (by decide +kernel) (by decide +kernel)) (by decide +kernel) (by decide +kernel)), _, _, rfl, hI29, g30, (TN_up (fs := []) (rs := []) (F := T2) (G := va_up (va_up T2 79 (upd (T2 79) (1 : Int32).toNatClampNeg (vp_nar .boolean 0))) 86 (upd (T2 86) 0 0)) (x := 1) (x' := 1 + 1) (c0 := 1) r9 (by decide +kernel) rfl rfl (fun c hc hn => by rcases sp_03 hc with rfl | rfl | rfl | rfl <;> first | exact rfl | exact absurd rfl hn))⟩ (by show (4 - ((1 : Int32) + 1).toInt).toNat < ((4 : Int) - 1).toNat; omega)
    · refine ⟨(show ¬ ((91 : Nat) = NU) from by decide +kernel), ?_⟩
      refine ⟨(show c_cl UL 91 = 3 from cl_91), ?_⟩
      have hI36 := IMc_u (u := 79) (i := (2 : Int32).toNatClampNeg) (v := vp_nar .boolean 0) hI4 (show B 0 1 (vp_nar .boolean 0) from (B_w (show B 0 0 (vp_nar .boolean 0) from ⟨by decide +kernel, by decide +kernel⟩) (by decide +kernel) (by decide +kernel)))
      have hI37 := IMc_u (u := 91) (i := 0) (v := 0) hI36 (show B 0 1 (0) from (B_w cqb_0_0_0 (by decide +kernel) (by decide +kernel)))
      have g40 := agc_tr (agc_refl (fs := [8100, 8600, 9100, 9600]) (rs := [79]) (F := va_up (va_up (va_up F 60 (upd (F 60) 1 0)) 59 (upd (F 59) 6 0)) 59 (upd ((va_up (va_up F 60 (upd (F 60) 1 0)) 59 (upd (F 59) 6 0)) 59) 11 0))) g5 (by decide +kernel) (by decide +kernel)
      have g39 := agc_r (u := 79) (w := upd (T2 79) (2 : Int32).toNatClampNeg (vp_nar .boolean 0)) g40 rfl (by decide +kernel)
      have g38 := agc_f (u := 91) (k := 0) (v := 0) g39 rfl (by decide +kernel)
      have g42 := agc_r (u := 79) (w := upd (T2 79) (2 : Int32).toNatClampNeg (vp_nar .boolean 0)) (agc_refl (fs := [9100]) (rs := [79]) (F := T2)) rfl (by decide +kernel)
      have g41 := agc_f (u := 91) (k := 0) (v := 0) g42 rfl (by decide +kernel)
      have e43 : (((2 : Int32) + 1)).toInt = 3 := by decide +kernel
      exact hR20 ⟨(B_w (B_add cqb_2_2_2 cqb_1_1_1 (by decide +kernel) (by decide +kernel)) (by decide +kernel) (by decide +kernel)), _, _, rfl, hI37, g38, (TN_up (fs := []) (rs := []) (F := T2) (G := va_up (va_up T2 79 (upd (T2 79) (2 : Int32).toNatClampNeg (vp_nar .boolean 0))) 91 (upd (T2 91) 0 0)) (x := 2) (x' := 2 + 1) (c0 := 2) r9 (by decide +kernel) rfl rfl (fun c hc hn => by rcases sp_03 hc with rfl | rfl | rfl | rfl <;> first | exact rfl | exact absurd rfl hn))⟩ (by show (4 - ((2 : Int32) + 1).toInt).toNat < ((4 : Int) - 2).toNat; omega)
    · refine ⟨(show ¬ ((96 : Nat) = NU) from by decide +kernel), ?_⟩
      refine ⟨(show c_cl UL 96 = 3 from cl_96), ?_⟩
      have hI44 := IMc_u (u := 79) (i := (3 : Int32).toNatClampNeg) (v := vp_nar .boolean 0) hI4 (show B 0 1 (vp_nar .boolean 0) from (B_w (show B 0 0 (vp_nar .boolean 0) from ⟨by decide +kernel, by decide +kernel⟩) (by decide +kernel) (by decide +kernel)))
      have hI45 := IMc_u (u := 96) (i := 0) (v := 0) hI44 (show B 0 1 (0) from (B_w cqb_0_0_0 (by decide +kernel) (by decide +kernel)))
      have g48 := agc_tr (agc_refl (fs := [8100, 8600, 9100, 9600]) (rs := [79]) (F := va_up (va_up (va_up F 60 (upd (F 60) 1 0)) 59 (upd (F 59) 6 0)) 59 (upd ((va_up (va_up F 60 (upd (F 60) 1 0)) 59 (upd (F 59) 6 0)) 59) 11 0))) g5 (by decide +kernel) (by decide +kernel)
      have g47 := agc_r (u := 79) (w := upd (T2 79) (3 : Int32).toNatClampNeg (vp_nar .boolean 0)) g48 rfl (by decide +kernel)
      have g46 := agc_f (u := 96) (k := 0) (v := 0) g47 rfl (by decide +kernel)
      have g50 := agc_r (u := 79) (w := upd (T2 79) (3 : Int32).toNatClampNeg (vp_nar .boolean 0)) (agc_refl (fs := [9600]) (rs := [79]) (F := T2)) rfl (by decide +kernel)
      have g49 := agc_f (u := 96) (k := 0) (v := 0) g50 rfl (by decide +kernel)
      have e51 : (((3 : Int32) + 1)).toInt = 4 := by decide +kernel
      exact hR20 ⟨(B_w (B_add cqb_3_3_3 cqb_1_1_1 (by decide +kernel) (by decide +kernel)) (by decide +kernel) (by decide +kernel)), _, _, rfl, hI45, g46, (TN_up (fs := []) (rs := []) (F := T2) (G := va_up (va_up T2 79 (upd (T2 79) (3 : Int32).toNatClampNeg (vp_nar .boolean 0))) 96 (upd (T2 96) 0 0)) (x := 3) (x' := 3 + 1) (c0 := 3) r9 (by decide +kernel) rfl rfl (fun c hc hn => by rcases sp_03 hc with rfl | rfl | rfl | rfl <;> first | exact rfl | exact absurd rfl hn))⟩ (by show (4 - ((3 : Int32) + 1).toInt).toNat < ((4 : Int) - 3).toNat; omega)
set_option maxRecDepth 20000 in
set_option maxHeartbeats 4000000 in
theorem h_Re_dropBits_u60 {a : Bool} {b : Bool} {P : Nat → Nat → Nat} {F : cF} {L : cL} {K : cs → Prop} (hI : IMc F) (hK : ∀ {Z : cF} {LZ : cL}, IMc Z → agc [6004] [] F Z → K (Z, LZ, PC a b P)) : p_Re_dropBits UL 60 (F, L, PC a b P) K := by
  unfold p_Re_dropBits
  have hI1 := IMc_u (u := 60) (i := 4) (v := 0) hI (show B 0 8 (0) from (B_w cqb_0_0_0 (by decide +kernel) (by decide +kernel)))
  have g2 := agc_f (u := 60) (k := 4) (v := 0) (agc_refl (fs := [6004]) (rs := []) (F := F)) rfl (by decide +kernel)
  exact hK hI1 g2
set_option maxRecDepth 20000 in
set_option maxHeartbeats 4000000 in
theorem h_Ar_fillI_x0104_x10 {a : Bool} {b : Bool} {P : Nat → Nat → Nat} {F : cF} {L : cL} {K : cs → Prop} (hI : IMc F) (hK : ∀ {Z : cF} {LZ : cL}, IMc Z → agc [] [104] F Z → K (Z, LZ, PC a b P)) : p_Ar_fillI UL 104 0 (F, L, PC a b P) K := by
  unfold p_Ar_fillI
  refine ⟨(show c_cl UL 104 = 902 from cl_104), ?_⟩
  refine ⟨fun yx0 yx1 yx2 yx3 yS => (104 : Nat) = yx0 ∧ (0 : Int32) = yx1 ∧ (3 : Int32) = yx3 ∧ B 0 65536 yx2 ∧ ∃ (T5 : cF) (LT5 : cL), yS = (T5, LT5, PC a b P) ∧ IMc T5 ∧ agc [] [104] F T5, fun yx0 yx1 yx2 yx3 yS => (65536 - yx2.toInt).toNat, ⟨rfl, rfl, rfl, (B_w cqb_0_0_0 (by decide +kernel) (by decide +kernel)), _, _, rfl, hI, (agc_refl (fs := []) (rs := [104]) (F := F))⟩, fun x0_1 x1_2 x2_3 x3_4 ST5 hIv => ?_⟩
  obtain ⟨rfl, rfl, rfl, b6, T5, LT5, rfl, hI7, g8⟩ := hIv
  suffices hs : ∀ (R5 : Nat → Int32 → Int32 → Int32 → cs → Prop), (∀ zx0 zx1 zx2 zx3 zS, ((104 : Nat) = zx0 ∧ (0 : Int32) = zx1 ∧ (3 : Int32) = zx3 ∧ B 0 65536 zx2 ∧ ∃ (T5 : cF) (LT5 : cL), zS = (T5, LT5, PC a b P) ∧ IMc T5 ∧ agc [] [104] F T5) → (65536 - zx2.toInt).toNat < (65536 - x2_3.toInt).toNat → R5 zx0 zx1 zx2 zx3 zS) → b_Ar_fillI_5 UL 104 0 x2_3 3 (T5, LT5, PC a b P) R5 K from hs _ (fun _ _ _ _ _ h1 h2 => ⟨h1, h2⟩)
  intro R5 hR50
  have hR5 := fun {zx0} {zx1} {zx2} {zx3} {zS} => hR50 zx0 zx1 zx2 zx3 zS
  unfold b_Ar_fillI_5
  refine ⟨fun hc => ?_, fun hc => ?_⟩
  · have hq9 := hc
    have b10 : B 3 65536 (x2_3) := B_w (B_leR cqb_3_3_3 b6 hq9) (by decide +kernel) (by decide +kernel)
    have g11 := agc_tr (agc_refl (fs := []) (rs := [104]) (F := F)) g8 (by decide +kernel) (by decide +kernel)
    exact hK hI7 g11
  · have hq12 := (nle_lt hc)
    have b13 : B 0 2 (x2_3) := B_w (B_ltL b6 cqb_3_3_3 hq12) (by decide +kernel) (by decide +kernel)
    refine ⟨(show c_cl UL 104 = 902 from cl_104), ?_⟩
    refine ⟨(show vp_in (x2_3) 3 from vp_B b13 (by decide +kernel) (by decide +kernel)), ?_⟩
    have hI14 := IMc_u (u := 104) (i := x2_3.toNatClampNeg) (v := 0) hI7 (show B (-2147483648) 2147483647 (0) from (B_w cqb_0_0_0 (by decide +kernel) (by decide +kernel)))
    have g16 := agc_tr (agc_refl (fs := []) (rs := [104]) (F := F)) g8 (by decide +kernel) (by decide +kernel)
    have g15 := agc_r (u := 104) (w := upd (T5 104) x2_3.toNatClampNeg 0) g16 rfl (by decide +kernel)
    have q17 : (0) ≤ (x2_3).toInt ∧ (x2_3).toInt ≤ (2) := (show B 0 2 (x2_3) from B_w b13 (by decide +kernel) (by decide +kernel))
    have e18 : (x2_3 + 1).toInt = ((x2_3).toInt + 1) := (t_add b13 cqb_1_1_1 (by decide +kernel) (by decide +kernel)).trans (by rw [cqn_1])
    have q19 : (1) ≤ (x2_3 + 1).toInt ∧ (x2_3 + 1).toInt ≤ (3) := (show B 1 3 (x2_3 + 1) from B_w (B_add b13 cqb_1_1_1 (by decide +kernel) (by decide +kernel)) (by decide +kernel) (by decide +kernel))
    exact hR5 ⟨rfl, rfl, rfl, (B_w (B_add b13 cqb_1_1_1 (by decide +kernel) (by decide +kernel)) (by decide +kernel) (by decide +kernel)), _, _, rfl, hI14, g15⟩ (by show (65536 - (x2_3 + 1).toInt).toNat < (65536 - x2_3.toInt).toNat; omega)
set_option maxRecDepth 20000 in
set_option maxHeartbeats 4000000 in
theorem h_Un_readAgain_u59 {a : Bool} {b : Bool} {P : Nat → Nat → Nat} {x1 : Int32} {F : cF} {L : cL} {K : cs → Prop} {T : Nat → cs → Prop} (hI : IMc F) (hK : ∀ {Z : cF} {LZ : cL}, IMc Z → agc [6001, 6004] [104, 999] F Z → K (Z, LZ, PC a b P)) (hT13 : ∀ {Z : cF} {LZ : cL}, IMc Z → agc [6001, 6004, 6006, 6007] [999] F Z → T 13 (Z, LZ, PC a b P)) : p_Un_readAgain UL 59 x1 (F, L, PC a b P) K T := by
  unfold p_Un_readAgain
  refine ⟨(show ¬ ((60 : Nat) = NU) from by decide +kernel), ?_⟩
  refine ⟨(show c_cl UL 60 = 8 from cl_60), ?_⟩
  refine h_Re_dropBits_u60 hI (fun {FS4_1} {LFS4_1} hI2 g3 => ?_)
  refine ⟨(show ¬ ((60 : Nat) = NU) from by decide +kernel), ?_⟩
  refine ⟨(show c_cl UL 60 = 8 from cl_60), ?_⟩
  have g9 := agc_tr (agc_refl (fs := [6001, 6004, 6006, 6007]) (rs := [999]) (F := F)) g3 (by decide +kernel) (by decide +kernel)
  refine h_Re_readMark_u60 hI2 (fun {v11_4} {FS11_5} {LFS11_5} b6 hI7 g8 => ?_) (fun hI g => hT13 hI (agc_tr g9 g (by decide +kernel) (by decide +kernel)))
  refine ⟨fun hc => ?_, fun hc => ?_⟩
  · have q10 : (0) ≤ (v11_4).toInt ∧ (v11_4).toInt ≤ (255) := (show B 0 255 (v11_4) from B_w b6 (by decide +kernel) (by decide +kernel))
    have i11 : (v11_4).toInt = (x1).toInt := congrArg Int32.toInt hc
    unfold b_Un_readAgain_35
    refine ⟨(show ¬ ((104 : Nat) = NU) from by decide +kernel), ?_⟩
    refine h_Ar_fillI_x0104_x10 hI7 (fun {FS40_12} {LFS40_12} hI13 g14 => ?_)
    have g17 := agc_tr (agc_refl (fs := [6001, 6004]) (rs := [104, 999]) (F := F)) g3 (by decide +kernel) (by decide +kernel)
    have g16 := agc_tr g17 g8 (by decide +kernel) (by decide +kernel)
    have g15 := agc_tr g16 g14 (by decide +kernel) (by decide +kernel)
    exact hK hI13 g15
  · have q18 : (0) ≤ (v11_4).toInt ∧ (v11_4).toInt ≤ (255) := (show B 0 255 (v11_4) from B_w b6 (by decide +kernel) (by decide +kernel))
    have i19 : (v11_4).toInt ≠ (x1).toInt := i_ne hc
    refine ⟨(show ¬ ((60 : Nat) = NU) from by decide +kernel), ?_⟩
    refine ⟨(show ¬ ((60 : Nat) = NU) from by decide +kernel), ?_⟩
    refine ⟨(show c_cl UL 60 = 8 from cl_60), ?_⟩
    have g24 := agc_tr (agc_refl (fs := [6001, 6004, 6006, 6007]) (rs := [999]) (F := F)) g3 (by decide +kernel) (by decide +kernel)
    have g23 := agc_tr g24 g8 (by decide +kernel) (by decide +kernel)
    exact h_Re_fail_u60 (B_w cqb_3_3_3 (by decide +kernel) (by decide +kernel)) hI7 (fun hI g => hT13 hI (agc_tr g23 g (by decide +kernel) (by decide +kernel)))
