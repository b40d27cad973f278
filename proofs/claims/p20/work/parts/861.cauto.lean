set_option maxRecDepth 20000 in
set_option maxHeartbeats 4000000 in
theorem h_Pi_measure_u12 {a : Bool} {b : Bool} {P : Nat → Nat → Nat} {F : cF} {L : cL} {K : cs → Prop} (hI : IMc F) (pre0 : qf (F 13) 0 (F 12 2).toInt 1 (F 12 5).toInt) (pre1 : qf (F 14) 0 (F 12 2).toInt 1 (F 12 6).toInt) (hK : ∀ {Z : cF} {LZ : cL}, IMc Z → agc [1207, 1208] [15, 16, 17, 18] F Z → (qf (Z 15) 0 (Z 12 2).toInt 1 64) → (qf (Z 16) 0 (Z 12 2).toInt 1 64) → (qf (Z 17) 0 (Z 12 2).toInt 1 8) → (((Z 12 5).toInt = 1) ∨ ((Z 12 7).toInt ≤ 4)) → (((Z 12 6).toInt = 1) ∨ ((Z 12 8).toInt ≤ 4)) → K (Z, LZ, PC a b P)) : p_Pi_measure UL 12 (F, L, PC a b P) K := by
  have q1 : (1) ≤ (F 12 2).toInt ∧ (F 12 2).toInt ≤ (3) := (show B 1 3 (F 12 2) from hI 12 2)
  unfold p_Pi_measure
  rcases sp_12 (show B 1 2 (F 12 5) from hI 12 5) with hcs | hcs
  · have b2 : B 1 1 (F 12 5) := B_eq hcs cqb_1_1_1
    have q3 : (1) ≤ (F 12 5).toInt ∧ (F 12 5).toInt ≤ (1) := (show B 1 1 (F 12 5) from B_w b2 (by decide +kernel) (by decide +kernel))
    rcases sp_12 (show B 1 2 (F 12 6) from hI 12 6) with hcs | hcs
    · have b4 : B 1 1 (F 12 6) := B_eq hcs cqb_1_1_1
      have q5 : (1) ≤ (F 12 6).toInt ∧ (F 12 6).toInt ≤ (1) := (show B 1 1 (F 12 6) from B_w b4 (by decide +kernel) (by decide +kernel))
      refine up_K (B_mul cqb_8_8_8 b2 (by decide +kernel) (by decide +kernel) (by decide +kernel)) (by decide +kernel) ?_
      refine up_K (B_mul cqb_8_8_8 b4 (by decide +kernel) (by decide +kernel) (by decide +kernel)) (by decide +kernel) ?_
      have hI11 := IMc_u (u := 12) (i := 7) (v := (((F 12 0) + (8 * (F 12 5))) - 1) / (8 * (F 12 5))) hI (show B 1 8 ((((F 12 0) + (8 * (F 12 5))) - 1) / (8 * (F 12 5))) from (B_w (show B 1 8 ((((F 12 0) + (8 * (F 12 5))) - 1) / (8 * (F 12 5))) from B_div2 (B_sub (B_add (show B 1 64 (F 12 0) from hI 12 0) (B_mul cqb_8_8_8 b2 (by decide +kernel) (by decide +kernel) (by decide +kernel)) (by decide +kernel) (by decide +kernel)) cqb_1_1_1 (by decide +kernel) (by decide +kernel)) (B_mul cqb_8_8_8 b2 (by decide +kernel) (by decide +kernel) (by decide +kernel)) (by decide +kernel) (by decide +kernel) (by decide +kernel) (by decide +kernel)) (by decide +kernel) (by decide +kernel)))
      have hI12 := IMc_u (u := 12) (i := 8) (v := (((F 12 1) + (8 * (F 12 6))) - 1) / (8 * (F 12 6))) hI11 (show B 1 8 ((((F 12 1) + (8 * (F 12 6))) - 1) / (8 * (F 12 6))) from (B_w (show B 1 8 ((((F 12 1) + (8 * (F 12 6))) - 1) / (8 * (F 12 6))) from B_div2 (B_sub (B_add (show B 1 64 (F 12 1) from hI 12 1) (B_mul cqb_8_8_8 b4 (by decide +kernel) (by decide +kernel) (by decide +kernel)) (by decide +kernel) (by decide +kernel)) cqb_1_1_1 (by decide +kernel) (by decide +kernel)) (B_mul cqb_8_8_8 b4 (by decide +kernel) (by decide +kernel) (by decide +kernel)) (by decide +kernel) (by decide +kernel) (by decide +kernel) (by decide +kernel)) (by decide +kernel) (by decide +kernel)))
      refine ⟨fun yx1 yS => B 0 3 yx1 ∧ ∃ (T7 : cF) (LT7 : cL), yS = (T7, LT7, PC a b P) ∧ IMc T7 ∧ agc [] [15, 16, 17, 18] (va_up (va_up F 12 (upd (F 12) 7 ((((F 12 0) + (8 * (F 12 5))) - 1) / (8 * (F 12 5))))) 12 (upd ((va_up F 12 (upd (F 12) 7 ((((F 12 0) + (8 * (F 12 5))) - 1) / (8 * (F 12 5))))) 12) 8 ((((F 12 1) + (8 * (F 12 6))) - 1) / (8 * (F 12 6))))) T7 ∧ (qf (T7 15) 0 yx1.toInt 1 64) ∧ (qf (T7 16) 0 yx1.toInt 1 64) ∧ (qf (T7 17) 0 yx1.toInt 1 8), fun yx1 yS => (3 - yx1.toInt).toNat, ⟨(B_w cqb_0_0_0 (by decide +kernel) (by decide +kernel)), _, _, rfl, hI12, (agc_refl (fs := []) (rs := [15, 16, 17, 18]) (F := va_up (va_up F 12 (upd (F 12) 7 ((((F 12 0) + (8 * (F 12 5))) - 1) / (8 * (F 12 5))))) 12 (upd ((va_up F 12 (upd (F 12) 7 ((((F 12 0) + (8 * (F 12 5))) - 1) / (8 * (F 12 5))))) 12) 8 ((((F 12 1) + (8 * (F 12 6))) - 1) / (8 * (F 12 6)))))), (qf_0 (b := 0) (by omega)), (qf_0 (b := 0) (by omega)), (qf_0 (b := 0) (by omega))⟩, fun x1_6 ST7 hIv => ?_⟩
      obtain ⟨b8, T7, LT7, rfl, hI9, g10, r13, r14, r15⟩ := hIv
      suffices hs : ∀ (R38 : Int32 → cs → Prop), (∀ zx1 zS, (B 0 3 zx1 ∧ ∃ (T7 : cF) (LT7 : cL), zS = (T7, LT7, PC a b P) ∧ IMc T7 ∧ agc [] [15, 16, 17, 18] (va_up (va_up F 12 (upd (F 12) 7 ((((F 12 0) + (8 * (F 12 5))) - 1) / (8 * (F 12 5))))) 12 (upd ((va_up F 12 (upd (F 12) 7 ((((F 12 0) + (8 * (F 12 5))) - 1) / (8 * (F 12 5))))) 12) 8 ((((F 12 1) + (8 * (F 12 6))) - 1) / (8 * (F 12 6))))) T7 ∧ (qf (T7 15) 0 zx1.toInt 1 64) ∧ (qf (T7 16) 0 zx1.toInt 1 64) ∧ (qf (T7 17) 0 zx1.toInt 1 8)) → (3 - zx1.toInt).toNat < (3 - x1_6.toInt).toNat → R38 zx1 zS) → b_Pi_measure_38 UL 12 x1_6 (T7, LT7, PC a b P) R38 K from hs _ (fun _ _ h1 h2 => ⟨h1, h2⟩)
      intro R38 hR380
      have hR38 := fun {zx1} {zS} => hR380 zx1 zS
      have q16 : (0) ≤ (x1_6).toInt ∧ (x1_6).toInt ≤ (3) := (show B 0 3 (x1_6) from B_w b8 (by decide +kernel) (by decide +kernel))
      unfold b_Pi_measure_38
      refine ⟨fun hc => ?_, fun hc => ?_⟩
      · have hq17 := hc
        have b18 : B 1 3 (x1_6) := B_w (B_leR (B_eq (g10.1 12 2 rfl rfl) (show B 1 3 (F 12 2) from hI 12 2)) b8 hq17) (by decide +kernel) (by decide +kernel)
        have q19 : (1) ≤ (x1_6).toInt ∧ (x1_6).toInt ≤ (3) := (show B 1 3 (x1_6) from B_w b18 (by decide +kernel) (by decide +kernel))
        have e20 : (T7 12 2).toInt = (F 12 2).toInt := (congrArg Int32.toInt (g10.1 12 2 rfl rfl)).trans rfl
        have i21 : (T7 12 2).toInt ≤ (x1_6).toInt := i_le hq17
        have g24 := agc_f (u := 12) (k := 7) (v := (((F 12 0) + (8 * (F 12 5))) - 1) / (8 * (F 12 5))) (agc_refl (fs := [1207, 1208]) (rs := [15, 16, 17, 18]) (F := F)) rfl (by decide +kernel)
        have g23 := agc_f (u := 12) (k := 8) (v := (((F 12 1) + (8 * (F 12 6))) - 1) / (8 * (F 12 6))) g24 rfl (by decide +kernel)
        have g22 := agc_tr g23 g10 (by decide +kernel) (by decide +kernel)
        have e25 : (T7 12 5).toInt = (F 12 5).toInt := (congrArg Int32.toInt (g10.1 12 5 rfl rfl)).trans rfl
        have q26 : (1) ≤ (F 12 0).toInt ∧ (F 12 0).toInt ≤ (64) := (show B 1 64 (F 12 0) from hI 12 0)
        have e27 : (8 * (F 12 5)).toInt = (8 * (F 12 5).toInt) := (t_mul cqb_8_8_8 b2 (by decide +kernel) (by decide +kernel) (by decide +kernel)).trans (by rw [cqn_8])
        have q28 : (8) ≤ (8 * (F 12 5)).toInt ∧ (8 * (F 12 5)).toInt ≤ (8) := (show B 8 8 (8 * (F 12 5)) from B_w (B_mul cqb_8_8_8 b2 (by decide +kernel) (by decide +kernel) (by decide +kernel)) (by decide +kernel) (by decide +kernel))
        have e29 : ((F 12 0) + (8 * (F 12 5))).toInt = ((F 12 0).toInt + (8 * (F 12 5).toInt)) := (t_add (show B 1 64 (F 12 0) from hI 12 0) (B_mul cqb_8_8_8 b2 (by decide +kernel) (by decide +kernel) (by decide +kernel)) (by decide +kernel) (by decide +kernel)).trans (by rw [e27])
        have q30 : (9) ≤ ((F 12 0) + (8 * (F 12 5))).toInt ∧ ((F 12 0) + (8 * (F 12 5))).toInt ≤ (72) := (show B 9 72 ((F 12 0) + (8 * (F 12 5))) from B_w (B_add (show B 1 64 (F 12 0) from hI 12 0) (B_mul cqb_8_8_8 b2 (by decide +kernel) (by decide +kernel) (by decide +kernel)) (by decide +kernel) (by decide +kernel)) (by decide +kernel) (by decide +kernel))
        have e31 : (((F 12 0) + (8 * (F 12 5))) - 1).toInt = (((F 12 0).toInt + (8 * (F 12 5).toInt)) - 1) := (t_sub (B_add (show B 1 64 (F 12 0) from hI 12 0) (B_mul cqb_8_8_8 b2 (by decide +kernel) (by decide +kernel) (by decide +kernel)) (by decide +kernel) (by decide +kernel)) cqb_1_1_1 (by decide +kernel) (by decide +kernel)).trans (by rw [e29, cqn_1])
        have q32 : (8) ≤ (((F 12 0) + (8 * (F 12 5))) - 1).toInt ∧ (((F 12 0) + (8 * (F 12 5))) - 1).toInt ≤ (71) := (show B 8 71 (((F 12 0) + (8 * (F 12 5))) - 1) from B_w (B_sub (B_add (show B 1 64 (F 12 0) from hI 12 0) (B_mul cqb_8_8_8 b2 (by decide +kernel) (by decide +kernel) (by decide +kernel)) (by decide +kernel) (by decide +kernel)) cqb_1_1_1 (by decide +kernel) (by decide +kernel)) (by decide +kernel) (by decide +kernel))
        have e33 : ((((F 12 0) + (8 * (F 12 5))) - 1) / (8 * (F 12 5))).toInt = ((((F 12 0).toInt + (8 * (F 12 5).toInt)) - 1) / (8 * (F 12 5).toInt)) := (t_div (B_sub (B_add (show B 1 64 (F 12 0) from hI 12 0) (B_mul cqb_8_8_8 b2 (by decide +kernel) (by decide +kernel) (by decide +kernel)) (by decide +kernel) (by decide +kernel)) cqb_1_1_1 (by decide +kernel) (by decide +kernel)) (B_mul cqb_8_8_8 b2 (by decide +kernel) (by decide +kernel) (by decide +kernel)) (by decide +kernel) (by decide +kernel)).trans (by rw [e31, e27])
        have q34 : (1) ≤ ((((F 12 0) + (8 * (F 12 5))) - 1) / (8 * (F 12 5))).toInt ∧ ((((F 12 0) + (8 * (F 12 5))) - 1) / (8 * (F 12 5))).toInt ≤ (8) := (show B 1 8 ((((F 12 0) + (8 * (F 12 5))) - 1) / (8 * (F 12 5))) from B_div2 (B_sub (B_add (show B 1 64 (F 12 0) from hI 12 0) (B_mul cqb_8_8_8 b2 (by decide +kernel) (by decide +kernel) (by decide +kernel)) (by decide +kernel) (by decide +kernel)) cqb_1_1_1 (by decide +kernel) (by decide +kernel)) (B_mul cqb_8_8_8 b2 (by decide +kernel) (by decide +kernel) (by decide +kernel)) (by decide +kernel) (by decide +kernel) (by decide +kernel) (by decide +kernel))
        have e35 : (T7 12 7).toInt = ((((F 12 0).toInt + (8 * (F 12 5).toInt)) - 1) / (8 * (F 12 5).toInt)) := (congrArg Int32.toInt (g10.1 12 7 rfl rfl)).trans e33
        have e36 : (T7 12 6).toInt = (F 12 6).toInt := (congrArg Int32.toInt (g10.1 12 6 rfl rfl)).trans rfl
        have q37 : (1) ≤ (F 12 1).toInt ∧ (F 12 1).toInt ≤ (64) := (show B 1 64 (F 12 1) from hI 12 1)
        have e38 : (8 * (F 12 6)).toInt = (8 * (F 12 6).toInt) := (t_mul cqb_8_8_8 b4 (by decide +kernel) (by decide +kernel) (by decide +kernel)).trans (by rw [cqn_8])
        have q39 : (8) ≤ (8 * (F 12 6)).toInt ∧ (8 * (F 12 6)).toInt ≤ (8) := (show B 8 8 (8 * (F 12 6)) from B_w (B_mul cqb_8_8_8 b4 (by decide +kernel) (by decide +kernel) (by decide +kernel)) (by decide +kernel) (by decide +kernel))
        have e40 : ((F 12 1) + (8 * (F 12 6))).toInt = ((F 12 1).toInt + (8 * (F 12 6).toInt)) := (t_add (show B 1 64 (F 12 1) from hI 12 1) (B_mul cqb_8_8_8 b4 (by decide +kernel) (by decide +kernel) (by decide +kernel)) (by decide +kernel) (by decide +kernel)).trans (by rw [e38])
        have q41 : (9) ≤ ((F 12 1) + (8 * (F 12 6))).toInt ∧ ((F 12 1) + (8 * (F 12 6))).toInt ≤ (72) := (show B 9 72 ((F 12 1) + (8 * (F 12 6))) from B_w (B_add (show B 1 64 (F 12 1) from hI 12 1) (B_mul cqb_8_8_8 b4 (by decide +kernel) (by decide +kernel) (by decide +kernel)) (by decide +kernel) (by decide +kernel)) (by decide +kernel) (by decide +kernel))
        have e42 : (((F 12 1) + (8 * (F 12 6))) - 1).toInt = (((F 12 1).toInt + (8 * (F 12 6).toInt)) - 1) := (t_sub (B_add (show B 1 64 (F 12 1) from hI 12 1) (B_mul cqb_8_8_8 b4 (by decide +kernel) (by decide +kernel) (by decide +kernel)) (by decide +kernel) (by decide +kernel)) cqb_1_1_1 (by decide +kernel) (by decide +kernel)).trans (by rw [e40, cqn_1])
        have q43 : (8) ≤ (((F 12 1) + (8 * (F 12 6))) - 1).toInt ∧ (((F 12 1) + (8 * (F 12 6))) - 1).toInt ≤ (71) := (show B 8 71 (((F 12 1) + (8 * (F 12 6))) - 1) from B_w (B_sub (B_add (show B 1 64 (F 12 1) from hI 12 1) (B_mul cqb_8_8_8 b4 (by decide +kernel) (by decide +kernel) (by decide +kernel)) (by decide +kernel) (by decide +kernel)) cqb_1_1_1 (by decide +kernel) (by decide +kernel)) (by decide +kernel) (by decide +kernel))
        have e44 : ((((F 12 1) + (8 * (F 12 6))) - 1) / (8 * (F 12 6))).toInt = ((((F 12 1).toInt + (8 * (F 12 6).toInt)) - 1) / (8 * (F 12 6).toInt)) := (t_div (B_sub (B_add (show B 1 64 (F 12 1) from hI 12 1) (B_mul cqb_8_8_8 b4 (by decide +kernel) (by decide +kernel) (by decide +kernel)) (by decide +kernel) (by decide +kernel)) cqb_1_1_1 (by decide +kernel) (by decide +kernel)) (B_mul cqb_8_8_8 b4 (by decide +kernel) (by decide +kernel) (by decide +kernel)) (by decide +kernel) (by decide +kernel)).trans (by rw [e42, e38])
        have q45 : (1) ≤ ((((F 12 1) + (8 * (F 12 6))) - 1) / (8 * (F 12 6))).toInt ∧ ((((F 12 1) + (8 * (F 12 6))) - 1) / (8 * (F 12 6))).toInt ≤ (8) := (show B 1 8 ((((F 12 1) + (8 * (F 12 6))) - 1) / (8 * (F 12 6))) from B_div2 (B_sub (B_add (show B 1 64 (F 12 1) from hI 12 1) (B_mul cqb_8_8_8 b4 (by decide +kernel) (by decide +kernel) (by decide +kernel)) (by decide +kernel) (by decide +kernel)) cqb_1_1_1 (by decide +kernel) (by decide +kernel)) (B_mul cqb_8_8_8 b4 (by decide +kernel) (by decide +kernel) (by decide +kernel)) (by decide +kernel) (by decide +kernel) (by decide +kernel) (by decide +kernel))
        have e46 : (T7 12 8).toInt = ((((F 12 1).toInt + (8 * (F 12 6).toInt)) - 1) / (8 * (F 12 6).toInt)) := (congrArg Int32.toInt (g10.1 12 8 rfl rfl)).trans e44
        exact hK hI9 g22 (qf_le (b' := (T7 12 2).toInt) r13 (by omega) (by decide +kernel) (by decide +kernel)) (qf_le (b' := (T7 12 2).toInt) r14 (by omega) (by decide +kernel) (by decide +kernel)) (qf_le (b' := (T7 12 2).toInt) r15 (by omega) (by decide +kernel) (by decide +kernel)) (by show ((T7 12 5).toInt = 1) ∨ ((T7 12 7).toInt ≤ 4); first | with_reducible assumption | omega) (by show ((T7 12 6).toInt = 1) ∨ ((T7 12 8).toInt ≤ 4); first | with_reducible assumption | omega)
      · have hq47 := (nle_lt hc)
        have b48 : B 0 2 (x1_6) := B_w (B_ltL b8 (B_eq (g10.1 12 2 rfl rfl) (show B 1 3 (F 12 2) from hI 12 2)) hq47) (by decide +kernel) (by decide +kernel)
        have q49 : (0) ≤ (x1_6).toInt ∧ (x1_6).toInt ≤ (2) := (show B 0 2 (x1_6) from B_w b48 (by decide +kernel) (by decide +kernel))
        have e50 : (T7 12 2).toInt = (F 12 2).toInt := (congrArg Int32.toInt (g10.1 12 2 rfl rfl)).trans rfl
        have i51 : (x1_6).toInt < (T7 12 2).toInt := i_lt hq47
        refine ⟨(show ¬ ((15 : Nat) = NU) from by decide +kernel), ?_⟩
        refine ⟨(show ¬ ((13 : Nat) = NU) from by decide +kernel), ?_⟩
        refine ⟨(show c_cl UL 13 = 902 from cl_13), ?_⟩
        refine ⟨(show vp_in (x1_6) 3 from vp_B b48 (by decide +kernel) (by decide +kernel)), ?_⟩
        refine up_K (B_eq (g10.1 12 5 rfl rfl) b2) (by decide +kernel) ?_
        refine ⟨(show c_cl UL 15 = 902 from cl_15), ?_⟩
        refine ⟨(show vp_in (x1_6) 3 from vp_B b48 (by decide +kernel) (by decide +kernel)), ?_⟩
        refine ⟨(show ¬ ((16 : Nat) = NU) from by decide +kernel), ?_⟩
        refine ⟨(show ¬ ((14 : Nat) = NU) from by decide +kernel), ?_⟩
        refine ⟨(show c_cl UL 14 = 902 from cl_14), ?_⟩
        refine ⟨(show vp_in (x1_6) 3 from vp_B b48 (by decide +kernel) (by decide +kernel)), ?_⟩
        refine up_K (B_eq (g10.1 12 6 rfl rfl) b4) (by decide +kernel) ?_
        refine ⟨(show c_cl UL 16 = 902 from cl_16), ?_⟩
        refine ⟨(show vp_in (x1_6) 3 from vp_B b48 (by decide +kernel) (by decide +kernel)), ?_⟩
        refine ⟨(show ¬ ((17 : Nat) = NU) from by decide +kernel), ?_⟩
        refine ⟨(show ¬ ((13 : Nat) = NU) from by decide +kernel), ?_⟩
        refine ⟨(show vp_in (x1_6) 3 from vp_B b48 (by decide +kernel) (by decide +kernel)), ?_⟩
        refine ⟨(show c_cl UL 17 = 902 from cl_17), ?_⟩
        refine ⟨(show vp_in (x1_6) 3 from vp_B b48 (by decide +kernel) (by decide +kernel)), ?_⟩
        refine ⟨(show ¬ ((18 : Nat) = NU) from by decide +kernel), ?_⟩
        refine ⟨(show ¬ ((17 : Nat) = NU) from by decide +kernel), ?_⟩
        refine ⟨(show vp_in (x1_6) 3 from vp_B b48 (by decide +kernel) (by decide +kernel)), ?_⟩
        refine ⟨(show ¬ ((14 : Nat) = NU) from by decide +kernel), ?_⟩
        refine ⟨(show vp_in (x1_6) 3 from vp_B b48 (by decide +kernel) (by decide +kernel)), ?_⟩
        refine ⟨(show c_cl UL 18 = 902 from cl_18), ?_⟩
        refine ⟨(show vp_in (x1_6) 3 from vp_B b48 (by decide +kernel) (by decide +kernel)), ?_⟩
        have r52 : 1 ≤ (F 13 x1_6.toNatClampNeg).toInt ∧ (F 13 x1_6.toNatClampNeg).toInt ≤ (F 12 5).toInt := qf_at pre0 (x := x1_6) (by omega) (by omega)
        have b53 : B 1 1 (F 13 x1_6.toNatClampNeg) := ⟨by omega, by omega⟩
        have hI54 := IMc_u (u := 15) (i := x1_6.toNatClampNeg) (v := ((((T7 12 0) * (T7 13 x1_6.toNatClampNeg)) + (T7 12 5)) - 1) / (T7 12 5)) hI9 (show B 0 64 (((((T7 12 0) * (T7 13 x1_6.toNatClampNeg)) + (T7 12 5)) - 1) / (T7 12 5)) from (B_w (show B 1 64 (((((T7 12 0) * (T7 13 x1_6.toNatClampNeg)) + (T7 12 5)) - 1) / (T7 12 5)) from B_div2 (B_sub (B_add (B_mul (B_eq (g10.1 12 0 rfl rfl) (show B 1 64 (F 12 0) from hI 12 0)) (B_eq (congrFun (g10.2 13 rfl rfl) x1_6.toNatClampNeg) b53) (by decide +kernel) (by decide +kernel) (by decide +kernel)) (B_eq (g10.1 12 5 rfl rfl) b2) (by decide +kernel) (by decide +kernel)) cqb_1_1_1 (by decide +kernel) (by decide +kernel)) (B_eq (g10.1 12 5 rfl rfl) b2) (by decide +kernel) (by decide +kernel) (by decide +kernel) (by decide +kernel)) (by decide +kernel) (by decide +kernel)))
        have r55 : 1 ≤ (F 14 x1_6.toNatClampNeg).toInt ∧ (F 14 x1_6.toNatClampNeg).toInt ≤ (F 12 6).toInt := qf_at pre1 (x := x1_6) (by omega) (by omega)
        have b56 : B 1 1 (F 14 x1_6.toNatClampNeg) := ⟨by omega, by omega⟩
        have hI57 := IMc_u (u := 16) (i := x1_6.toNatClampNeg) (v := ((((T7 12 1) * (T7 14 x1_6.toNatClampNeg)) + (T7 12 6)) - 1) / (T7 12 6)) hI54 (show B 0 64 (((((T7 12 1) * (T7 14 x1_6.toNatClampNeg)) + (T7 12 6)) - 1) / (T7 12 6)) from (B_w (show B 1 64 (((((T7 12 1) * (T7 14 x1_6.toNatClampNeg)) + (T7 12 6)) - 1) / (T7 12 6)) from B_div2 (B_sub (B_add (B_mul (B_eq (g10.1 12 1 rfl rfl) (show B 1 64 (F 12 1) from hI 12 1)) (B_eq (congrFun (g10.2 14 rfl rfl) x1_6.toNatClampNeg) b56) (by decide +kernel) (by decide +kernel) (by decide +kernel)) (B_eq (g10.1 12 6 rfl rfl) b4) (by decide +kernel) (by decide +kernel)) cqb_1_1_1 (by decide +kernel) (by decide +kernel)) (B_eq (g10.1 12 6 rfl rfl) b4) (by decide +kernel) (by decide +kernel) (by decide +kernel) (by decide +kernel)) (by decide +kernel) (by decide +kernel)))
        have hI58 := IMc_u (u := 17) (i := x1_6.toNatClampNeg) (v := (T7 13 x1_6.toNatClampNeg) * (T7 12 7)) hI57 (show B 0 8 ((T7 13 x1_6.toNatClampNeg) * (T7 12 7)) from (B_w (B_mul (B_eq (congrFun (g10.2 13 rfl rfl) x1_6.toNatClampNeg) b53) (B_eq (g10.1 12 7 rfl rfl) (show B 1 8 ((((F 12 0) + (8 * (F 12 5))) - 1) / (8 * (F 12 5))) from B_div2 (B_sub (B_add (show B 1 64 (F 12 0) from hI 12 0) (B_mul cqb_8_8_8 b2 (by decide +kernel) (by decide +kernel) (by decide +kernel)) (by decide +kernel) (by decide +kernel)) cqb_1_1_1 (by decide +kernel) (by decide +kernel)) (B_mul cqb_8_8_8 b2 (by decide +kernel) (by decide +kernel) (by decide +kernel)) (by decide +kernel) (by decide +kernel) (by decide +kernel) (by decide +kernel))) (by decide +kernel) (by decide +kernel) (by decide +kernel)) (by decide +kernel) (by decide +kernel)))
        have hI59 := IMc_u (u := 18) (i := x1_6.toNatClampNeg) (v := (((va_up (va_up (va_up T7 15 (upd (T7 15) x1_6.toNatClampNeg (((((T7 12 0) * (T7 13 x1_6.toNatClampNeg)) + (T7 12 5)) - 1) / (T7 12 5)))) 16 (upd (T7 16) x1_6.toNatClampNeg (((((T7 12 1) * (T7 14 x1_6.toNatClampNeg)) + (T7 12 6)) - 1) / (T7 12 6)))) 17 (upd (T7 17) x1_6.toNatClampNeg ((T7 13 x1_6.toNatClampNeg) * (T7 12 7)))) 17 x1_6.toNatClampNeg) * (T7 14 x1_6.toNatClampNeg)) * (T7 12 8)) hI58 (show B 0 64 ((((va_up (va_up (va_up T7 15 (upd (T7 15) x1_6.toNatClampNeg (((((T7 12 0) * (T7 13 x1_6.toNatClampNeg)) + (T7 12 5)) - 1) / (T7 12 5)))) 16 (upd (T7 16) x1_6.toNatClampNeg (((((T7 12 1) * (T7 14 x1_6.toNatClampNeg)) + (T7 12 6)) - 1) / (T7 12 6)))) 17 (upd (T7 17) x1_6.toNatClampNeg ((T7 13 x1_6.toNatClampNeg) * (T7 12 7)))) 17 x1_6.toNatClampNeg) * (T7 14 x1_6.toNatClampNeg)) * (T7 12 8)) from (B_w (B_mul (B_mul (B_eq (ru_at (f := va_up (va_up T7 15 (upd (T7 15) x1_6.toNatClampNeg (((((T7 12 0) * (T7 13 x1_6.toNatClampNeg)) + (T7 12 5)) - 1) / (T7 12 5)))) 16 (upd (T7 16) x1_6.toNatClampNeg (((((T7 12 1) * (T7 14 x1_6.toNatClampNeg)) + (T7 12 6)) - 1) / (T7 12 6)))) (g := T7 17) (r := 17) (i := x1_6.toNatClampNeg) (v := (T7 13 x1_6.toNatClampNeg) * (T7 12 7))) (B_mul (B_eq (congrFun (g10.2 13 rfl rfl) x1_6.toNatClampNeg) b53) (B_eq (g10.1 12 7 rfl rfl) (show B 1 8 ((((F 12 0) + (8 * (F 12 5))) - 1) / (8 * (F 12 5))) from B_div2 (B_sub (B_add (show B 1 64 (F 12 0) from hI 12 0) (B_mul cqb_8_8_8 b2 (by decide +kernel) (by decide +kernel) (by decide +kernel)) (by decide +kernel) (by decide +kernel)) cqb_1_1_1 (by decide +kernel) (by decide +kernel)) (B_mul cqb_8_8_8 b2 (by decide +kernel) (by decide +kernel) (by decide +kernel)) (by decide +kernel) (by decide +kernel) (by decide +kernel) (by decide +kernel))) (by decide +kernel) (by decide +kernel) (by decide +kernel))) (B_eq (congrFun (g10.2 14 rfl rfl) x1_6.toNatClampNeg) b56) (by decide +kernel) (by decide +kernel) (by decide +kernel)) (B_eq (g10.1 12 8 rfl rfl) (show B 1 8 ((((F 12 1) + (8 * (F 12 6))) - 1) / (8 * (F 12 6))) from B_div2 (B_sub (B_add (show B 1 64 (F 12 1) from hI 12 1) (B_mul cqb_8_8_8 b4 (by decide +kernel) (by decide +kernel) (by decide +kernel)) (by decide +kernel) (by decide +kernel)) cqb_1_1_1 (by decide +kernel) (by decide +kernel)) (B_mul cqb_8_8_8 b4 (by decide +kernel) (by decide +kernel) (by decide +kernel)) (by decide +kernel) (by decide +kernel) (by decide +kernel) (by decide +kernel))) (by decide +kernel) (by decide +kernel) (by decide +kernel)) (by decide +kernel) (by decide +kernel)))
        have g64 := agc_tr (agc_refl (fs := []) (rs := [15, 16, 17, 18]) (F := va_up (va_up F 12 (upd (F 12) 7 ((((F 12 0) + (8 * (F 12 5))) - 1) / (8 * (F 12 5))))) 12 (upd ((va_up F 12 (upd (F 12) 7 ((((F 12 0) + (8 * (F 12 5))) - 1) / (8 * (F 12 5))))) 12) 8 ((((F 12 1) + (8 * (F 12 6))) - 1) / (8 * (F 12 6)))))) g10 (by decide +kernel) (by decide +kernel)
        have g63 := agc_r (u := 15) (w := upd (T7 15) x1_6.toNatClampNeg (((((T7 12 0) * (T7 13 x1_6.toNatClampNeg)) + (T7 12 5)) - 1) / (T7 12 5))) g64 rfl (by decide +kernel)
        have g62 := agc_r (u := 16) (w := upd (T7 16) x1_6.toNatClampNeg (((((T7 12 1) * (T7 14 x1_6.toNatClampNeg)) + (T7 12 6)) - 1) / (T7 12 6))) g63 rfl (by decide +kernel)
        have g61 := agc_r (u := 17) (w := upd (T7 17) x1_6.toNatClampNeg ((T7 13 x1_6.toNatClampNeg) * (T7 12 7))) g62 rfl (by decide +kernel)
        have g60 := agc_r (u := 18) (w := upd (T7 18) x1_6.toNatClampNeg ((((va_up (va_up (va_up T7 15 (upd (T7 15) x1_6.toNatClampNeg (((((T7 12 0) * (T7 13 x1_6.toNatClampNeg)) + (T7 12 5)) - 1) / (T7 12 5)))) 16 (upd (T7 16) x1_6.toNatClampNeg (((((T7 12 1) * (T7 14 x1_6.toNatClampNeg)) + (T7 12 6)) - 1) / (T7 12 6)))) 17 (upd (T7 17) x1_6.toNatClampNeg ((T7 13 x1_6.toNatClampNeg) * (T7 12 7)))) 17 x1_6.toNatClampNeg) * (T7 14 x1_6.toNatClampNeg)) * (T7 12 8))) g61 rfl (by decide +kernel)
        have e65 : (x1_6 + 1).toInt = ((x1_6).toInt + 1) := (t_add b48 cqb_1_1_1 (by decide +kernel) (by decide +kernel)).trans (by rw [cqn_1])
        have q66 : (1) ≤ (x1_6 + 1).toInt ∧ (x1_6 + 1).toInt ≤ (3) := (show B 1 3 (x1_6 + 1) from B_w (B_add b48 cqb_1_1_1 (by decide +kernel) (by decide +kernel)) (by decide +kernel) (by decide +kernel))
        have q67 : (1) ≤ (F 12 0).toInt ∧ (F 12 0).toInt ≤ (64) := (show B 1 64 (F 12 0) from hI 12 0)
        have e68 : (T7 12 0).toInt = (F 12 0).toInt := (congrArg Int32.toInt (g10.1 12 0 rfl rfl)).trans rfl
        have q69 : (1) ≤ (F 13 x1_6.toNatClampNeg).toInt ∧ (F 13 x1_6.toNatClampNeg).toInt ≤ (1) := (show B 1 1 (F 13 x1_6.toNatClampNeg) from B_w b53 (by decide +kernel) (by decide +kernel))
        have e70 : (T7 13 x1_6.toNatClampNeg).toInt = (F 13 x1_6.toNatClampNeg).toInt := (congrArg Int32.toInt (congrFun (g10.2 13 rfl rfl) x1_6.toNatClampNeg)).trans rfl
        have e71 : ((T7 12 0) * (T7 13 x1_6.toNatClampNeg)).toInt = ((F 12 0).toInt * (F 13 x1_6.toNatClampNeg).toInt) := (t_mul (B_eq (g10.1 12 0 rfl rfl) (show B 1 64 (F 12 0) from hI 12 0)) (B_eq (congrFun (g10.2 13 rfl rfl) x1_6.toNatClampNeg) b53) (by decide +kernel) (by decide +kernel) (by decide +kernel)).trans (by rw [e68, e70])
        have q72 : (1) ≤ ((T7 12 0) * (T7 13 x1_6.toNatClampNeg)).toInt ∧ ((T7 12 0) * (T7 13 x1_6.toNatClampNeg)).toInt ≤ (64) := (show B 1 64 ((T7 12 0) * (T7 13 x1_6.toNatClampNeg)) from B_w (B_mul (B_eq (g10.1 12 0 rfl rfl) (show B 1 64 (F 12 0) from hI 12 0)) (B_eq (congrFun (g10.2 13 rfl rfl) x1_6.toNatClampNeg) b53) (by decide +kernel) (by decide +kernel) (by decide +kernel)) (by decide +kernel) (by decide +kernel))
        have e73 : (T7 12 5).toInt = (F 12 5).toInt := (congrArg Int32.toInt (g10.1 12 5 rfl rfl)).trans rfl
        have e74 : (((T7 12 0) * (T7 13 x1_6.toNatClampNeg)) + (T7 12 5)).toInt = (((F 12 0).toInt * (F 13 x1_6.toNatClampNeg).toInt) + (F 12 5).toInt) := (t_add (B_mul (B_eq (g10.1 12 0 rfl rfl) (show B 1 64 (F 12 0) from hI 12 0)) (B_eq (congrFun (g10.2 13 rfl rfl) x1_6.toNatClampNeg) b53) (by decide +kernel) (by decide +kernel) (by decide +kernel)) (B_eq (g10.1 12 5 rfl rfl) b2) (by decide +kernel) (by decide +kernel)).trans (by rw [e71, e73])
        have q75 : (2) ≤ (((T7 12 0) * (T7 13 x1_6.toNatClampNeg)) + (T7 12 5)).toInt ∧ (((T7 12 0) * (T7 13 x1_6.toNatClampNeg)) + (T7 12 5)).toInt ≤ (65) := (show B 2 65 (((T7 12 0) * (T7 13 x1_6.toNatClampNeg)) + (T7 12 5)) from B_w (B_add (B_mul (B_eq (g10.1 12 0 rfl rfl) (show B 1 64 (F 12 0) from hI 12 0)) (B_eq (congrFun (g10.2 13 rfl rfl) x1_6.toNatClampNeg) b53) (by decide +kernel) (by decide +kernel) (by decide +kernel)) (B_eq (g10.1 12 5 rfl rfl) b2) (by decide +kernel) (by decide +kernel)) (by decide +kernel) (by decide +kernel))
        have e76 : ((((T7 12 0) * (T7 13 x1_6.toNatClampNeg)) + (T7 12 5)) - 1).toInt = ((((F 12 0).toInt * (F 13 x1_6.toNatClampNeg).toInt) + (F 12 5).toInt) - 1) := (t_sub (B_add (B_mul (B_eq (g10.1 12 0 rfl rfl) (show B 1 64 (F 12 0) from hI 12 0)) (B_eq (congrFun (g10.2 13 rfl rfl) x1_6.toNatClampNeg) b53) (by decide +kernel) (by decide +kernel) (by decide +kernel)) (B_eq (g10.1 12 5 rfl rfl) b2) (by decide +kernel) (by decide +kernel)) cqb_1_1_1 (by decide +kernel) (by decide +kernel)).trans (by rw [e74, cqn_1])
        have q77 : (1) ≤ ((((T7 12 0) * (T7 13 x1_6.toNatClampNeg)) + (T7 12 5)) - 1).toInt ∧ ((((T7 12 0) * (T7 13 x1_6.toNatClampNeg)) + (T7 12 5)) - 1).toInt ≤ (64) := (show B 1 64 ((((T7 12 0) * (T7 13 x1_6.toNatClampNeg)) + (T7 12 5)) - 1) from B_w (B_sub (B_add (B_mul (B_eq (g10.1 12 0 rfl rfl) (show B 1 64 (F 12 0) from hI 12 0)) (B_eq (congrFun (g10.2 13 rfl rfl) x1_6.toNatClampNeg) b53) (by decide +kernel) (by decide +kernel) (by decide +kernel)) (B_eq (g10.1 12 5 rfl rfl) b2) (by decide +kernel) (by decide +kernel)) cqb_1_1_1 (by decide +kernel) (by decide +kernel)) (by decide +kernel) (by decide +kernel))
        have e78 : (((((T7 12 0) * (T7 13 x1_6.toNatClampNeg)) + (T7 12 5)) - 1) / (T7 12 5)).toInt = (((((F 12 0).toInt * (F 13 x1_6.toNatClampNeg).toInt) + (F 12 5).toInt) - 1) / (F 12 5).toInt) := (t_div (B_sub (B_add (B_mul (B_eq (g10.1 12 0 rfl rfl) (show B 1 64 (F 12 0) from hI 12 0)) (B_eq (congrFun (g10.2 13 rfl rfl) x1_6.toNatClampNeg) b53) (by decide +kernel) (by decide +kernel) (by decide +kernel)) (B_eq (g10.1 12 5 rfl rfl) b2) (by decide +kernel) (by decide +kernel)) cqb_1_1_1 (by decide +kernel) (by decide +kernel)) (B_eq (g10.1 12 5 rfl rfl) b2) (by decide +kernel) (by decide +kernel)).trans (by rw [e76, e73])
        have q79 : (1) ≤ (((((T7 12 0) * (T7 13 x1_6.toNatClampNeg)) + (T7 12 5)) - 1) / (T7 12 5)).toInt ∧ (((((T7 12 0) * (T7 13 x1_6.toNatClampNeg)) + (T7 12 5)) - 1) / (T7 12 5)).toInt ≤ (64) := (show B 1 64 (((((T7 12 0) * (T7 13 x1_6.toNatClampNeg)) + (T7 12 5)) - 1) / (T7 12 5)) from B_div2 (B_sub (B_add (B_mul (B_eq (g10.1 12 0 rfl rfl) (show B 1 64 (F 12 0) from hI 12 0)) (B_eq (congrFun (g10.2 13 rfl rfl) x1_6.toNatClampNeg) b53) (by decide +kernel) (by decide +kernel) (by decide +kernel)) (B_eq (g10.1 12 5 rfl rfl) b2) (by decide +kernel) (by decide +kernel)) cqb_1_1_1 (by decide +kernel) (by decide +kernel)) (B_eq (g10.1 12 5 rfl rfl) b2) (by decide +kernel) (by decide +kernel) (by decide +kernel) (by decide +kernel))
        have q80 : (1) ≤ (F 12 1).toInt ∧ (F 12 1).toInt ≤ (64) := (show B 1 64 (F 12 1) from hI 12 1)
        have e81 : (T7 12 1).toInt = (F 12 1).toInt := (congrArg Int32.toInt (g10.1 12 1 rfl rfl)).trans rfl
        have q82 : (1) ≤ (F 14 x1_6.toNatClampNeg).toInt ∧ (F 14 x1_6.toNatClampNeg).toInt ≤ (1) := (show B 1 1 (F 14 x1_6.toNatClampNeg) from B_w b56 (by decide +kernel) (by decide +kernel))
        have e83 : (T7 14 x1_6.toNatClampNeg).toInt = (F 14 x1_6.toNatClampNeg).toInt := (congrArg Int32.toInt (congrFun (g10.2 14 rfl rfl) x1_6.toNatClampNeg)).trans rfl
        have e84 : ((T7 12 1) * (T7 14 x1_6.toNatClampNeg)).toInt = ((F 12 1).toInt * (F 14 x1_6.toNatClampNeg).toInt) := (t_mul (B_eq (g10.1 12 1 rfl rfl) (show B 1 64 (F 12 1) from hI 12 1)) (B_eq (congrFun (g10.2 14 rfl rfl) x1_6.toNatClampNeg) b56) (by decide +kernel) (by decide +kernel) (by decide +kernel)).trans (by rw [e81, e83])
        have q85 : (1) ≤ ((T7 12 1) * (T7 14 x1_6.toNatClampNeg)).toInt ∧ ((T7 12 1) * (T7 14 x1_6.toNatClampNeg)).toInt ≤ (64) := (show B 1 64 ((T7 12 1) * (T7 14 x1_6.toNatClampNeg)) from B_w (B_mul (B_eq (g10.1 12 1 rfl rfl) (show B 1 64 (F 12 1) from hI 12 1)) (B_eq (congrFun (g10.2 14 rfl rfl) x1_6.toNatClampNeg) b56) (by decide +kernel) (by decide +kernel) (by decide +kernel)) (by decide +kernel) (by decide +kernel))
        have e86 : (T7 12 6).toInt = (F 12 6).toInt := (congrArg Int32.toInt (g10.1 12 6 rfl rfl)).trans rfl
        have e87 : (((T7 12 1) * (T7 14 x1_6.toNatClampNeg)) + (T7 12 6)).toInt = (((F 12 1).toInt * (F 14 x1_6.toNatClampNeg).toInt) + (F 12 6).toInt) := (t_add (B_mul (B_eq (g10.1 12 1 rfl rfl) (show B 1 64 (F 12 1) from hI 12 1)) (B_eq (congrFun (g10.2 14 rfl rfl) x1_6.toNatClampNeg) b56) (by decide +kernel) (by decide +kernel) (by decide +kernel)) (B_eq (g10.1 12 6 rfl rfl) b4) (by decide +kernel) (by decide +kernel)).trans (by rw [e84, e86])
        have q88 : (2) ≤ (((T7 12 1) * (T7 14 x1_6.toNatClampNeg)) + (T7 12 6)).toInt ∧ (((T7 12 1) * (T7 14 x1_6.toNatClampNeg)) + (T7 12 6)).toInt ≤ (65) := (show B 2 65 (((T7 12 1) * (T7 14 x1_6.toNatClampNeg)) + (T7 12 6)) from B_w (B_add (B_mul (B_eq (g10.1 12 1 rfl rfl) (show B 1 64 (F 12 1) from hI 12 1)) (B_eq (congrFun (g10.2 14 rfl rfl) x1_6.toNatClampNeg) b56) (by decide +kernel) (by decide +kernel) (by decide +kernel)) (B_eq (g10.1 12 6 rfl rfl) b4) (by decide +kernel) (by decide +kernel)) (by decide +kernel) (by decide +kernel))
        have e89 : ((((T7 12 1) * (T7 14 x1_6.toNatClampNeg)) + (T7 12 6)) - 1).toInt = ((((F 12 1).toInt * (F 14 x1_6.toNatClampNeg).toInt) + (F 12 6).toInt) - 1) := (t_sub (B_add (B_mul (B_eq (g10.1 12 1 rfl rfl) (show B 1 64 (F 12 1) from hI 12 1)) (B_eq (congrFun (g10.2 14 rfl rfl) x1_6.toNatClampNeg) b56) (by decide +kernel) (by decide +kernel) (by decide +kernel)) (B_eq (g10.1 12 6 rfl rfl) b4) (by decide +kernel) (by decide +kernel)) cqb_1_1_1 (by decide +kernel) (by decide +kernel)).trans (by rw [e87, cqn_1])
        have q90 : (1) ≤ ((((T7 12 1) * (T7 14 x1_6.toNatClampNeg)) + (T7 12 6)) - 1).toInt ∧ ((((T7 12 1) * (T7 14 x1_6.toNatClampNeg)) + (T7 12 6)) - 1).toInt ≤ (64) := (show B 1 64 ((((T7 12 1) * (T7 14 x1_6.toNatClampNeg)) + (T7 12 6)) - 1) from B_w (B_sub (B_add (B_mul (B_eq (g10.1 12 1 rfl rfl) (show B 1 64 (F 12 1) from hI 12 1)) (B_eq (congrFun (g10.2 14 rfl rfl) x1_6.toNatClampNeg) b56) (by decide +kernel) (by decide +kernel) (by decide +kernel)) (B_eq (g10.1 12 6 rfl rfl) b4) (by decide +kernel) (by decide +kernel)) cqb_1_1_1 (by decide +kernel) (by decide +kernel)) (by decide +kernel) (by decide +kernel))
        have e91 : (((((T7 12 1) * (T7 14 x1_6.toNatClampNeg)) + (T7 12 6)) - 1) / (T7 12 6)).toInt = (((((F 12 1).toInt * (F 14 x1_6.toNatClampNeg).toInt) + (F 12 6).toInt) - 1) / (F 12 6).toInt) := (t_div (B_sub (B_add (B_mul (B_eq (g10.1 12 1 rfl rfl) (show B 1 64 (F 12 1) from hI 12 1)) (B_eq (congrFun (g10.2 14 rfl rfl) x1_6.toNatClampNeg) b56) (by decide +kernel) (by decide +kernel) (by decide +kernel)) (B_eq (g10.1 12 6 rfl rfl) b4) (by decide +kernel) (by decide +kernel)) cqb_1_1_1 (by decide +kernel) (by decide +kernel)) (B_eq (g10.1 12 6 rfl rfl) b4) (by decide +kernel) (by decide +kernel)).trans (by rw [e89, e86])
        have q92 : (1) ≤ (((((T7 12 1) * (T7 14 x1_6.toNatClampNeg)) + (T7 12 6)) - 1) / (T7 12 6)).toInt ∧ (((((T7 12 1) * (T7 14 x1_6.toNatClampNeg)) + (T7 12 6)) - 1) / (T7 12 6)).toInt ≤ (64) := (show B 1 64 (((((T7 12 1) * (T7 14 x1_6.toNatClampNeg)) + (T7 12 6)) - 1) / (T7 12 6)) from B_div2 (B_sub (B_add (B_mul (B_eq (g10.1 12 1 rfl rfl) (show B 1 64 (F 12 1) from hI 12 1)) (B_eq (congrFun (g10.2 14 rfl rfl) x1_6.toNatClampNeg) b56) (by decide +kernel) (by decide +kernel) (by decide +kernel)) (B_eq (g10.1 12 6 rfl rfl) b4) (by decide +kernel) (by decide +kernel)) cqb_1_1_1 (by decide +kernel) (by decide +kernel)) (B_eq (g10.1 12 6 rfl rfl) b4) (by decide +kernel) (by decide +kernel) (by decide +kernel) (by decide +kernel))
        have e93 : (8 * (F 12 5)).toInt = (8 * (F 12 5).toInt) := (t_mul cqb_8_8_8 b2 (by decide +kernel) (by decide +kernel) (by decide +kernel)).trans (by rw [cqn_8])
        have q94 : (8) ≤ (8 * (F 12 5)).toInt ∧ (8 * (F 12 5)).toInt ≤ (8) := (show B 8 8 (8 * (F 12 5)) from B_w (B_mul cqb_8_8_8 b2 (by decide +kernel) (by decide +kernel) (by decide +kernel)) (by decide +kernel) (by decide +kernel))
        have e95 : ((F 12 0) + (8 * (F 12 5))).toInt = ((F 12 0).toInt + (8 * (F 12 5).toInt)) := (t_add (show B 1 64 (F 12 0) from hI 12 0) (B_mul cqb_8_8_8 b2 (by decide +kernel) (by decide +kernel) (by decide +kernel)) (by decide +kernel) (by decide +kernel)).trans (by rw [e93])
        have q96 : (9) ≤ ((F 12 0) + (8 * (F 12 5))).toInt ∧ ((F 12 0) + (8 * (F 12 5))).toInt ≤ (72) := (show B 9 72 ((F 12 0) + (8 * (F 12 5))) from B_w (B_add (show B 1 64 (F 12 0) from hI 12 0) (B_mul cqb_8_8_8 b2 (by decide +kernel) (by decide +kernel) (by decide +kernel)) (by decide +kernel) (by decide +kernel)) (by decide +kernel) (by decide +kernel))
        have e97 : (((F 12 0) + (8 * (F 12 5))) - 1).toInt = (((F 12 0).toInt + (8 * (F 12 5).toInt)) - 1) := (t_sub (B_add (show B 1 64 (F 12 0) from hI 12 0) (B_mul cqb_8_8_8 b2 (by decide +kernel) (by decide +kernel) (by decide +kernel)) (by decide +kernel) (by decide +kernel)) cqb_1_1_1 (by decide +kernel) (by decide +kernel)).trans (by rw [e95, cqn_1])
        have q98 : (8) ≤ (((F 12 0) + (8 * (F 12 5))) - 1).toInt ∧ (((F 12 0) + (8 * (F 12 5))) - 1).toInt ≤ (71) := (show B 8 71 (((F 12 0) + (8 * (F 12 5))) - 1) from B_w (B_sub (B_add (show B 1 64 (F 12 0) from hI 12 0) (B_mul cqb_8_8_8 b2 (by decide +kernel) (by decide +kernel) (by decide +kernel)) (by decide +kernel) (by decide +kernel)) cqb_1_1_1 (by decide +kernel) (by decide +kernel)) (by decide +kernel) (by decide +kernel))
        have e99 : ((((F 12 0) + (8 * (F 12 5))) - 1) / (8 * (F 12 5))).toInt = ((((F 12 0).toInt + (8 * (F 12 5).toInt)) - 1) / (8 * (F 12 5).toInt)) := (t_div (B_sub (B_add (show B 1 64 (F 12 0) from hI 12 0) (B_mul cqb_8_8_8 b2 (by decide +kernel) (by decide +kernel) (by decide +kernel)) (by decide +kernel) (by decide +kernel)) cqb_1_1_1 (by decide +kernel) (by decide +kernel)) (B_mul cqb_8_8_8 b2 (by decide +kernel) (by decide +kernel) (by decide +kernel)) (by decide +kernel) (by decide +kernel)).trans (by rw [e97, e93])
        have q100 : (1) ≤ ((((F 12 0) + (8 * (F 12 5))) - 1) / (8 * (F 12 5))).toInt ∧ ((((F 12 0) + (8 * (F 12 5))) - 1) / (8 * (F 12 5))).toInt ≤ (8) := (show B 1 8 ((((F 12 0) + (8 * (F 12 5))) - 1) / (8 * (F 12 5))) from B_div2 (B_sub (B_add (show B 1 64 (F 12 0) from hI 12 0) (B_mul cqb_8_8_8 b2 (by decide +kernel) (by decide +kernel) (by decide +kernel)) (by decide +kernel) (by decide +kernel)) cqb_1_1_1 (by decide +kernel) (by decide +kernel)) (B_mul cqb_8_8_8 b2 (by decide +kernel) (by decide +kernel) (by decide +kernel)) (by decide +kernel) (by decide +kernel) (by decide +kernel) (by decide +kernel))
        have e101 : (T7 12 7).toInt = ((((F 12 0).toInt + (8 * (F 12 5).toInt)) - 1) / (8 * (F 12 5).toInt)) := (congrArg Int32.toInt (g10.1 12 7 rfl rfl)).trans e99
        have e102 : ((T7 13 x1_6.toNatClampNeg) * (T7 12 7)).toInt = ((F 13 x1_6.toNatClampNeg).toInt * ((((F 12 0).toInt + (8 * (F 12 5).toInt)) - 1) / (8 * (F 12 5).toInt))) := (t_mul (B_eq (congrFun (g10.2 13 rfl rfl) x1_6.toNatClampNeg) b53) (B_eq (g10.1 12 7 rfl rfl) (show B 1 8 ((((F 12 0) + (8 * (F 12 5))) - 1) / (8 * (F 12 5))) from B_div2 (B_sub (B_add (show B 1 64 (F 12 0) from hI 12 0) (B_mul cqb_8_8_8 b2 (by decide +kernel) (by decide +kernel) (by decide +kernel)) (by decide +kernel) (by decide +kernel)) cqb_1_1_1 (by decide +kernel) (by decide +kernel)) (B_mul cqb_8_8_8 b2 (by decide +kernel) (by decide +kernel) (by decide +kernel)) (by decide +kernel) (by decide +kernel) (by decide +kernel) (by decide +kernel))) (by decide +kernel) (by decide +kernel) (by decide +kernel)).trans (by rw [e70, e101])
        have q103 : (1) ≤ ((T7 13 x1_6.toNatClampNeg) * (T7 12 7)).toInt ∧ ((T7 13 x1_6.toNatClampNeg) * (T7 12 7)).toInt ≤ (8) := (show B 1 8 ((T7 13 x1_6.toNatClampNeg) * (T7 12 7)) from B_w (B_mul (B_eq (congrFun (g10.2 13 rfl rfl) x1_6.toNatClampNeg) b53) (B_eq (g10.1 12 7 rfl rfl) (show B 1 8 ((((F 12 0) + (8 * (F 12 5))) - 1) / (8 * (F 12 5))) from B_div2 (B_sub (B_add (show B 1 64 (F 12 0) from hI 12 0) (B_mul cqb_8_8_8 b2 (by decide +kernel) (by decide +kernel) (by decide +kernel)) (by decide +kernel) (by decide +kernel)) cqb_1_1_1 (by decide +kernel) (by decide +kernel)) (B_mul cqb_8_8_8 b2 (by decide +kernel) (by decide +kernel) (by decide +kernel)) (by decide +kernel) (by decide +kernel) (by decide +kernel) (by decide +kernel))) (by decide +kernel) (by decide +kernel) (by decide +kernel)) (by decide +kernel) (by decide +kernel))
        exact hR38 ⟨(B_w (B_add b48 cqb_1_1_1 (by decide +kernel) (by decide +kernel)) (by decide +kernel) (by decide +kernel)), _, _, rfl, hI59, g60, (qf_ext (x := x1_6) (b' := (x1_6 + 1).toInt) r13 (fun _ => (B_w (show B 1 64 (((((T7 12 0) * (T7 13 x1_6.toNatClampNeg)) + (T7 12 5)) - 1) / (T7 12 5)) from B_div2 (B_sub (B_add (B_mul (B_eq (g10.1 12 0 rfl rfl) (show B 1 64 (F 12 0) from hI 12 0)) (B_eq (congrFun (g10.2 13 rfl rfl) x1_6.toNatClampNeg) b53) (by decide +kernel) (by decide +kernel) (by decide +kernel)) (B_eq (g10.1 12 5 rfl rfl) b2) (by decide +kernel) (by decide +kernel)) cqb_1_1_1 (by decide +kernel) (by decide +kernel)) (B_eq (g10.1 12 5 rfl rfl) b2) (by decide +kernel) (by decide +kernel) (by decide +kernel) (by decide +kernel)) (by decide +kernel) (by decide +kernel))) (by omega) (by omega) (by omega)), (qf_ext (x := x1_6) (b' := (x1_6 + 1).toInt) r14 (fun _ => (B_w (show B 1 64 (((((T7 12 1) * (T7 14 x1_6.toNatClampNeg)) + (T7 12 6)) - 1) / (T7 12 6)) from B_div2 (B_sub (B_add (B_mul (B_eq (g10.1 12 1 rfl rfl) (show B 1 64 (F 12 1) from hI 12 1)) (B_eq (congrFun (g10.2 14 rfl rfl) x1_6.toNatClampNeg) b56) (by decide +kernel) (by decide +kernel) (by decide +kernel)) (B_eq (g10.1 12 6 rfl rfl) b4) (by decide +kernel) (by decide +kernel)) cqb_1_1_1 (by decide +kernel) (by decide +kernel)) (B_eq (g10.1 12 6 rfl rfl) b4) (by decide +kernel) (by decide +kernel) (by decide +kernel) (by decide +kernel)) (by decide +kernel) (by decide +kernel))) (by omega) (by omega) (by omega)), (qf_ext (x := x1_6) (b' := (x1_6 + 1).toInt) r15 (fun _ => (B_w (B_mul (B_eq (congrFun (g10.2 13 rfl rfl) x1_6.toNatClampNeg) b53) (B_eq (g10.1 12 7 rfl rfl) (show B 1 8 ((((F 12 0) + (8 * (F 12 5))) - 1) / (8 * (F 12 5))) from B_div2 (B_sub (B_add (show B 1 64 (F 12 0) from hI 12 0) (B_mul cqb_8_8_8 b2 (by decide +kernel) (by decide +kernel) (by decide +kernel)) (by decide +kernel) (by decide +kernel)) cqb_1_1_1 (by decide +kernel) (by decide +kernel)) (B_mul cqb_8_8_8 b2 (by decide +kernel) (by decide +kernel) (by decide +kernel)) (by decide +kernel) (by decide +kernel) (by decide +kernel) (by decide +kernel))) (by decide +kernel) (by decide +kernel) (by decide +kernel)) (by decide +kernel) (by decide +kernel))) (by omega) (by omega) (by omega))⟩ (by show (3 - (x1_6 + 1).toInt).toNat < (3 - x1_6.toInt).toNat; omega)
    · have b104 : B 2 2 (F 12 6) := B_eq hcs cqb_2_2_2
      have q105 : (2) ≤ (F 12 6).toInt ∧ (F 12 6).toInt ≤ (2) := (show B 2 2 (F 12 6) from B_w b104 (by decide +kernel) (by decide +kernel))
      refine up_K (B_mul cqb_8_8_8 b2 (by decide +kernel) (by decide +kernel) (by decide +kernel)) (by decide +kernel) ?_
      refine up_K (B_mul cqb_8_8_8 b104 (by decide +kernel) (by decide +kernel) (by decide +kernel)) (by decide +kernel) ?_
      have hI111 := IMc_u (u := 12) (i := 7) (v := (((F 12 0) + (8 * (F 12 5))) - 1) / (8 * (F 12 5))) hI (show B 1 8 ((((F 12 0) + (8 * (F 12 5))) - 1) / (8 * (F 12 5))) from (B_w (show B 1 8 ((((F 12 0) + (8 * (F 12 5))) - 1) / (8 * (F 12 5))) from B_div2 (B_sub (B_add (show B 1 64 (F 12 0) from hI 12 0) (B_mul cqb_8_8_8 b2 (by decide +kernel) (by decide +kernel) (by decide +kernel)) (by decide +kernel) (by decide +kernel)) cqb_1_1_1 (by decide +kernel) (by decide +kernel)) (B_mul cqb_8_8_8 b2 (by decide +kernel) (by decide +kernel) (by decide +kernel)) (by decide +kernel) (by decide +kernel) (by decide +kernel) (by decide +kernel)) (by decide +kernel) (by decide +kernel)))
      have hI112 := IMc_u (u := 12) (i := 8) (v := (((F 12 1) + (8 * (F 12 6))) - 1) / (8 * (F 12 6))) hI111 (show B 1 8 ((((F 12 1) + (8 * (F 12 6))) - 1) / (8 * (F 12 6))) from (B_w (show B 1 4 ((((F 12 1) + (8 * (F 12 6))) - 1) / (8 * (F 12 6))) from B_div2 (B_sub (B_add (show B 1 64 (F 12 1) from hI 12 1) (B_mul cqb_8_8_8 b104 (by decide +kernel) (by decide +kernel) (by decide +kernel)) (by decide +kernel) (by decide +kernel)) cqb_1_1_1 (by decide +kernel) (by decide +kernel)) (B_mul cqb_8_8_8 b104 (by decide +kernel) (by decide +kernel) (by decide +kernel)) (by decide +kernel) (by decide +kernel) (by decide +kernel) (by decide +kernel)) (by decide +kernel) (by decide +kernel)))
      refine ⟨fun yx1 yS => B 0 3 yx1 ∧ ∃ (T107 : cF) (LT107 : cL), yS = (T107, LT107, PC a b P) ∧ IMc T107 ∧ agc [] [15, 16, 17, 18] (va_up (va_up F 12 (upd (F 12) 7 ((((F 12 0) + (8 * (F 12 5))) - 1) / (8 * (F 12 5))))) 12 (upd ((va_up F 12 (upd (F 12) 7 ((((F 12 0) + (8 * (F 12 5))) - 1) / (8 * (F 12 5))))) 12) 8 ((((F 12 1) + (8 * (F 12 6))) - 1) / (8 * (F 12 6))))) T107 ∧ (qf (T107 15) 0 yx1.toInt 1 64) ∧ (qf (T107 16) 0 yx1.toInt 1 64) ∧ (qf (T107 17) 0 yx1.toInt 1 8), fun yx1 yS => (3 - yx1.toInt).toNat, ⟨(B_w cqb_0_0_0 (by decide +kernel) (by decide +kernel)), _, _, rfl, hI112, (agc_refl (fs := []) (rs := [15, 16, 17, 18]) (F := va_up (va_up F 12 (upd (F 12) 7 ((((F 12 0) + (8 * (F 12 5))) - 1) / (8 * (F 12 5))))) 12 (upd ((va_up F 12 (upd (F 12) 7 ((((F 12 0) + (8 * (F 12 5))) - 1) / (8 * (F 12 5))))) 12) 8 ((((F 12 1) + (8 * (F 12 6))) - 1) / (8 * (F 12 6)))))), (qf_0 (b := 0) (by omega)), (qf_0 (b := 0) (by omega)), (qf_0 (b := 0) (by omega))⟩, fun x1_106 ST107 hIv => ?_⟩
      obtain ⟨b108, T107, LT107, rfl, hI109, g110, r113, r114, r115⟩ := hIv
      suffices hs : ∀ (R38 : Int32 → cs → Prop), (∀ zx1 zS, (B 0 3 zx1 ∧ ∃ (T107 : cF) (LT107 : cL), zS = (T107, LT107, PC a b P) ∧ IMc T107 ∧ agc [] [15, 16, 17, 18] (va_up (va_up F 12 (upd (F 12) 7 ((((F 12 0) + (8 * (F 12 5))) - 1) / (8 * (F 12 5))))) 12 (upd ((va_up F 12 (upd (F 12) 7 ((((F 12 0) + (8 * (F 12 5))) - 1) / (8 * (F 12 5))))) 12) 8 ((((F 12 1) + (8 * (F 12 6))) - 1) / (8 * (F 12 6))))) T107 ∧ (qf (T107 15) 0 zx1.toInt 1 64) ∧ (qf (T107 16) 0 zx1.toInt 1 64) ∧ (qf (T107 17) 0 zx1.toInt 1 8)) → (3 - zx1.toInt).toNat < (3 - x1_106.toInt).toNat → R38 zx1 zS) → b_Pi_measure_38 UL 12 x1_106 (T107, LT107, PC a b P) R38 K from hs _ (fun _ _ h1 h2 => ⟨h1, h2⟩)
      intro R38 hR380
      have hR38 := fun {zx1} {zS} => hR380 zx1 zS
      have q116 : (0) ≤ (x1_106).toInt ∧ (x1_106).toInt ≤ (3) := (show B 0 3 (x1_106) from B_w b108 (by decide +kernel) (by decide +kernel))
      unfold b_Pi_measure_38
      refine ⟨fun hc => ?_, fun hc => ?_⟩
      · have hq117 := hc
        have b118 : B 1 3 (x1_106) := B_w (B_leR (B_eq (g110.1 12 2 rfl rfl) (show B 1 3 (F 12 2) from hI 12 2)) b108 hq117) (by decide +kernel) (by decide +kernel)
        have q119 : (1) ≤ (x1_106).toInt ∧ (x1_106).toInt ≤ (3) := (show B 1 3 (x1_106) from B_w b118 (by decide +kernel) (by decide +kernel))
        have e120 : (T107 12 2).toInt = (F 12 2).toInt := (congrArg Int32.toInt (g110.1 12 2 rfl rfl)).trans rfl
        have i121 : (T107 12 2).toInt ≤ (x1_106).toInt := i_le hq117
        have g124 := agc_f (u := 12) (k := 7) (v := (((F 12 0) + (8 * (F 12 5))) - 1) / (8 * (F 12 5))) (agc_refl (fs := [1207, 1208]) (rs := [15, 16, 17, 18]) (F := F)) rfl (by decide +kernel)
        have g123 := agc_f (u := 12) (k := 8) (v := (((F 12 1) + (8 * (F 12 6))) - 1) / (8 * (F 12 6))) g124 rfl (by decide +kernel)
        have g122 := agc_tr g123 g110 (by decide +kernel) (by decide +kernel)
        have e125 : (T107 12 5).toInt = (F 12 5).toInt := (congrArg Int32.toInt (g110.1 12 5 rfl rfl)).trans rfl
        have q126 : (1) ≤ (F 12 0).toInt ∧ (F 12 0).toInt ≤ (64) := (show B 1 64 (F 12 0) from hI 12 0)
        have e127 : (8 * (F 12 5)).toInt = (8 * (F 12 5).toInt) := (t_mul cqb_8_8_8 b2 (by decide +kernel) (by decide +kernel) (by decide +kernel)).trans (by rw [cqn_8])
        have q128 : (8) ≤ (8 * (F 12 5)).toInt ∧ (8 * (F 12 5)).toInt ≤ (8) := (show B 8 8 (8 * (F 12 5)) from B_w (B_mul cqb_8_8_8 b2 (by decide +kernel) (by decide +kernel) (by decide +kernel)) (by decide +kernel) (by decide +kernel))
        have e129 : ((F 12 0) + (8 * (F 12 5))).toInt = ((F 12 0).toInt + (8 * (F 12 5).toInt)) := (t_add (show B 1 64 (F 12 0) from hI 12 0) (B_mul cqb_8_8_8 b2 (by decide +kernel) (by decide +kernel) (by decide +kernel)) (by decide +kernel) (by decide +kernel)).trans (by rw [e127])
        have q130 : (9) ≤ ((F 12 0) + (8 * (F 12 5))).toInt ∧ ((F 12 0) + (8 * (F 12 5))).toInt ≤ (72) := (show B 9 72 ((F 12 0) + (8 * (F 12 5))) from B_w (B_add (show B 1 64 (F 12 0) from hI 12 0) (B_mul cqb_8_8_8 b2 (by decide +kernel) (by decide +kernel) (by decide +kernel)) (by decide +kernel) (by decide +kernel)) (by decide +kernel) (by decide +kernel))
        have e131 : (((F 12 0) + (8 * (F 12 5))) - 1).toInt = (((F 12 0).toInt + (8 * (F 12 5).toInt)) - 1) := (t_sub (B_add (show B 1 64 (F 12 0) from hI 12 0) (B_mul cqb_8_8_8 b2 (by decide +kernel) (by decide +kernel) (by decide +kernel)) (by decide +kernel) (by decide +kernel)) cqb_1_1_1 (by decide +kernel) (by decide +kernel)).trans (by rw [e129, cqn_1])
        have q132 : (8) ≤ (((F 12 0) + (8 * (F 12 5))) - 1).toInt ∧ (((F 12 0) + (8 * (F 12 5))) - 1).toInt ≤ (71) := (show B 8 71 (((F 12 0) + (8 * (F 12 5))) - 1) from B_w (B_sub (B_add (show B 1 64 (F 12 0) from hI 12 0) (B_mul cqb_8_8_8 b2 (by decide +kernel) (by decide +kernel) (by decide +kernel)) (by decide +kernel) (by decide +kernel)) cqb_1_1_1 (by decide +kernel) (by decide +kernel)) (by decide +kernel) (by decide +kernel))
        have e133 : ((((F 12 0) + (8 * (F 12 5))) - 1) / (8 * (F 12 5))).toInt = ((((F 12 0).toInt + (8 * (F 12 5).toInt)) - 1) / (8 * (F 12 5).toInt)) := (t_div (B_sub (B_add (show B 1 64 (F 12 0) from hI 12 0) (B_mul cqb_8_8_8 b2 (by decide +kernel) (by decide +kernel) (by decide +kernel)) (by decide +kernel) (by decide +kernel)) cqb_1_1_1 (by decide +kernel) (by decide +kernel)) (B_mul cqb_8_8_8 b2 (by decide +kernel) (by decide +kernel) (by decide +kernel)) (by decide +kernel) (by decide +kernel)).trans (by rw [e131, e127])
        have q134 : (1) ≤ ((((F 12 0) + (8 * (F 12 5))) - 1) / (8 * (F 12 5))).toInt ∧ ((((F 12 0) + (8 * (F 12 5))) - 1) / (8 * (F 12 5))).toInt ≤ (8) := (show B 1 8 ((((F 12 0) + (8 * (F 12 5))) - 1) / (8 * (F 12 5))) from B_div2 (B_sub (B_add (show B 1 64 (F 12 0) from hI 12 0) (B_mul cqb_8_8_8 b2 (by decide +kernel) (by decide +kernel) (by decide +kernel)) (by decide +kernel) (by decide +kernel)) cqb_1_1_1 (by decide +kernel) (by decide +kernel)) (B_mul cqb_8_8_8 b2 (by decide +kernel) (by decide +kernel) (by decide +kernel)) (by decide +kernel) (by decide +kernel) (by decide +kernel) (by decide +kernel))
        have e135 : (T107 12 7).toInt = ((((F 12 0).toInt + (8 * (F 12 5).toInt)) - 1) / (8 * (F 12 5).toInt)) := (congrArg Int32.toInt (g110.1 12 7 rfl rfl)).trans e133
        have e136 : (T107 12 6).toInt = (F 12 6).toInt := (congrArg Int32.toInt (g110.1 12 6 rfl rfl)).trans rfl
        have q137 : (1) ≤ (F 12 1).toInt ∧ (F 12 1).toInt ≤ (64) := (show B 1 64 (F 12 1) from hI 12 1)
        have e138 : (8 * (F 12 6)).toInt = (8 * (F 12 6).toInt) := (t_mul cqb_8_8_8 b104 (by decide +kernel) (by decide +kernel) (by decide +kernel)).trans (by rw [cqn_8])
        have q139 : (16) ≤ (8 * (F 12 6)).toInt ∧ (8 * (F 12 6)).toInt ≤ (16) := (show B 16 16 (8 * (F 12 6)) from B_w (B_mul cqb_8_8_8 b104 (by decide +kernel) (by decide +kernel) (by decide +kernel)) (by decide +kernel) (by decide +kernel))
        have e140 : ((F 12 1) + (8 * (F 12 6))).toInt = ((F 12 1).toInt + (8 * (F 12 6).toInt)) := (t_add (show B 1 64 (F 12 1) from hI 12 1) (B_mul cqb_8_8_8 b104 (by decide +kernel) (by decide +kernel) (by decide +kernel)) (by decide +kernel) (by decide +kernel)).trans (by rw [e138])
        have q141 : (17) ≤ ((F 12 1) + (8 * (F 12 6))).toInt ∧ ((F 12 1) + (8 * (F 12 6))).toInt ≤ (80) := (show B 17 80 ((F 12 1) + (8 * (F 12 6))) from B_w (B_add (show B 1 64 (F 12 1) from hI 12 1) (B_mul cqb_8_8_8 b104 (by decide +kernel) (by decide +kernel) (by decide +kernel)) (by decide +kernel) (by decide +kernel)) (by decide +kernel) (by decide +kernel))
        have e142 : (((F 12 1) + (8 * (F 12 6))) - 1).toInt = (((F 12 1).toInt + (8 * (F 12 6).toInt)) - 1) := (t_sub (B_add (show B 1 64 (F 12 1) from hI 12 1) (B_mul cqb_8_8_8 b104 (by decide +kernel) (by decide +kernel) (by decide +kernel)) (by decide +kernel) (by decide +kernel)) cqb_1_1_1 (by decide +kernel) (by decide +kernel)).trans (by rw [e140, cqn_1])
        have q143 : (16) ≤ (((F 12 1) + (8 * (F 12 6))) - 1).toInt ∧ (((F 12 1) + (8 * (F 12 6))) - 1).toInt ≤ (79) := (show B 16 79 (((F 12 1) + (8 * (F 12 6))) - 1) from B_w (B_sub (B_add (show B 1 64 (F 12 1) from hI 12 1) (B_mul cqb_8_8_8 b104 (by decide +kernel) (by decide +kernel) (by decide +kernel)) (by decide +kernel) (by decide +kernel)) cqb_1_1_1 (by decide +kernel) (by decide +kernel)) (by decide +kernel) (by decide +kernel))
        have e144 : ((((F 12 1) + (8 * (F 12 6))) - 1) / (8 * (F 12 6))).toInt = ((((F 12 1).toInt + (8 * (F 12 6).toInt)) - 1) / (8 * (F 12 6).toInt)) := (t_div (B_sub (B_add (show B 1 64 (F 12 1) from hI 12 1) (B_mul cqb_8_8_8 b104 (by decide +kernel) (by decide +kernel) (by decide +kernel)) (by decide +kernel) (by decide +kernel)) cqb_1_1_1 (by decide +kernel) (by decide +kernel)) (B_mul cqb_8_8_8 b104 (by decide +kernel) (by decide +kernel) (by decide +kernel)) (by decide +kernel) (by decide +kernel)).trans (by rw [e142, e138])
        have q145 : (1) ≤ ((((F 12 1) + (8 * (F 12 6))) - 1) / (8 * (F 12 6))).toInt ∧ ((((F 12 1) + (8 * (F 12 6))) - 1) / (8 * (F 12 6))).toInt ≤ (4) := (show B 1 4 ((((F 12 1) + (8 * (F 12 6))) - 1) / (8 * (F 12 6))) from B_div2 (B_sub (B_add (show B 1 64 (F 12 1) from hI 12 1) (B_mul cqb_8_8_8 b104 (by decide +kernel) (by decide +kernel) (by decide +kernel)) (by decide +kernel) (by decide +kernel)) cqb_1_1_1 (by decide +kernel) (by decide +kernel)) (B_mul cqb_8_8_8 b104 (by decide +kernel) (by decide +kernel) (by decide +kernel)) (by decide +kernel) (by decide +kernel) (by decide +kernel) (by decide +kernel))
        have e146 : (T107 12 8).toInt = ((((F 12 1).toInt + (8 * (F 12 6).toInt)) - 1) / (8 * (F 12 6).toInt)) := (congrArg Int32.toInt (g110.1 12 8 rfl rfl)).trans e144
        exact hK hI109 g122 (qf_le (b' := (T107 12 2).toInt) r113 (by omega) (by decide +kernel) (by decide +kernel)) (qf_le (b' := (T107 12 2).toInt) r114 (by omega) (by decide +kernel) (by decide +kernel)) (qf_le (b' := (T107 12 2).toInt) r115 (by omega) (by decide +kernel) (by decide +kernel)) (by show ((T107 12 5).toInt = 1) ∨ ((T107 12 7).toInt ≤ 4); first | with_reducible assumption | omega) (by show ((T107 12 6).toInt = 1) ∨ ((T107 12 8).toInt ≤ 4); first | with_reducible assumption | omega)
      · have hq147 := (nle_lt hc)
        have b148 : B 0 2 (x1_106) := B_w (B_ltL b108 (B_eq (g110.1 12 2 rfl rfl) (show B 1 3 (F 12 2) from hI 12 2)) hq147) (by decide +kernel) (by decide +kernel)
        have q149 : (0) ≤ (x1_106).toInt ∧ (x1_106).toInt ≤ (2) := (show B 0 2 (x1_106) from B_w b148 (by decide +kernel) (by decide +kernel))
        have e150 : (T107 12 2).toInt = (F 12 2).toInt := (congrArg Int32.toInt (g110.1 12 2 rfl rfl)).trans rfl
        have i151 : (x1_106).toInt < (T107 12 2).toInt := i_lt hq147
        refine ⟨(show ¬ ((15 : Nat) = NU) from by decide +kernel), ?_⟩
        refine ⟨(show ¬ ((13 : Nat) = NU) from by decide +kernel), ?_⟩
        refine ⟨(show c_cl UL 13 = 902 from cl_13), ?_⟩
        refine ⟨(show vp_in (x1_106) 3 from vp_B b148 (by decide +kernel) (by decide +kernel)), ?_⟩
        refine up_K (B_eq (g110.1 12 5 rfl rfl) b2) (by decide +kernel) ?_
        refine ⟨(show c_cl UL 15 = 902 from cl_15), ?_⟩
        refine ⟨(show vp_in (x1_106) 3 from vp_B b148 (by decide +kernel) (by decide +kernel)), ?_⟩
        refine ⟨(show ¬ ((16 : Nat) = NU) from by decide +kernel), ?_⟩
        refine ⟨(show ¬ ((14 : Nat) = NU) from by decide +kernel), ?_⟩
        refine ⟨(show c_cl UL 14 = 902 from cl_14), ?_⟩
        refine ⟨(show vp_in (x1_106) 3 from vp_B b148 (by decide +kernel) (by decide +kernel)), ?_⟩
        refine up_K (B_eq (g110.1 12 6 rfl rfl) b104) (by decide +kernel) ?_
        refine ⟨(show c_cl UL 16 = 902 from cl_16), ?_⟩
        refine ⟨(show vp_in (x1_106) 3 from vp_B b148 (by decide +kernel) (by decide +kernel)), ?_⟩
        refine ⟨(show ¬ ((17 : Nat) = NU) from by decide +kernel), ?_⟩
        refine ⟨(show ¬ ((13 : Nat) = NU) from by decide +kernel), ?_⟩
        refine ⟨(show vp_in (x1_106) 3 from vp_B b148 (by decide +kernel) (by decide +kernel)), ?_⟩
        refine ⟨(show c_cl UL 17 = 902 from cl_17), ?_⟩
        refine ⟨(show vp_in (x1_106) 3 from vp_B b148 (by decide +kernel) (by decide +kernel)), ?_⟩
        refine ⟨(show ¬ ((18 : Nat) = NU) from by decide +kernel), ?_⟩
        refine ⟨(show ¬ ((17 : Nat) = NU) from by decide +kernel), ?_⟩
        refine ⟨(show vp_in (x1_106) 3 from vp_B b148 (by decide +kernel) (by decide +kernel)), ?_⟩
        refine ⟨(show ¬ ((14 : Nat) = NU) from by decide +kernel), ?_⟩
        refine ⟨(show vp_in (x1_106) 3 from vp_B b148 (by decide +kernel) (by decide +kernel)), ?_⟩
        refine ⟨(show c_cl UL 18 = 902 from cl_18), ?_⟩
        refine ⟨(show vp_in (x1_106) 3 from vp_B b148 (by decide +kernel) (by decide +kernel)), ?_⟩
        have r152 : 1 ≤ (F 13 x1_106.toNatClampNeg).toInt ∧ (F 13 x1_106.toNatClampNeg).toInt ≤ (F 12 5).toInt := qf_at pre0 (x := x1_106) (by omega) (by omega)
        have b153 : B 1 1 (F 13 x1_106.toNatClampNeg) := ⟨by omega, by omega⟩
        have hI154 := IMc_u (u := 15) (i := x1_106.toNatClampNeg) (v := ((((T107 12 0) * (T107 13 x1_106.toNatClampNeg)) + (T107 12 5)) - 1) / (T107 12 5)) hI109 (show B 0 64 (((((T107 12 0) * (T107 13 x1_106.toNatClampNeg)) + (T107 12 5)) - 1) / (T107 12 5)) from (B_w (show B 1 64 (((((T107 12 0) * (T107 13 x1_106.toNatClampNeg)) + (T107 12 5)) - 1) / (T107 12 5)) from B_div2 (B_sub (B_add (B_mul (B_eq (g110.1 12 0 rfl rfl) (show B 1 64 (F 12 0) from hI 12 0)) (B_eq (congrFun (g110.2 13 rfl rfl) x1_106.toNatClampNeg) b153) (by decide +kernel) (by decide +kernel) (by decide +kernel)) (B_eq (g110.1 12 5 rfl rfl) b2) (by decide +kernel) (by decide +kernel)) cqb_1_1_1 (by decide +kernel) (by decide +kernel)) (B_eq (g110.1 12 5 rfl rfl) b2) (by decide +kernel) (by decide +kernel) (by decide +kernel) (by decide +kernel)) (by decide +kernel) (by decide +kernel)))
        have r155 : 1 ≤ (F 14 x1_106.toNatClampNeg).toInt ∧ (F 14 x1_106.toNatClampNeg).toInt ≤ (F 12 6).toInt := qf_at pre1 (x := x1_106) (by omega) (by omega)
        have hI156 := IMc_u (u := 16) (i := x1_106.toNatClampNeg) (v := ((((T107 12 1) * (T107 14 x1_106.toNatClampNeg)) + (T107 12 6)) - 1) / (T107 12 6)) hI154 (show B 0 64 (((((T107 12 1) * (T107 14 x1_106.toNatClampNeg)) + (T107 12 6)) - 1) / (T107 12 6)) from (B_w (show B 1 64 (((((T107 12 1) * (T107 14 x1_106.toNatClampNeg)) + (T107 12 6)) - 1) / (T107 12 6)) from B_div2 (B_sub (B_add (B_mul (B_eq (g110.1 12 1 rfl rfl) (show B 1 64 (F 12 1) from hI 12 1)) (B_eq (congrFun (g110.2 14 rfl rfl) x1_106.toNatClampNeg) (show B 1 2 (F 14 x1_106.toNatClampNeg) from sB_14 hI b148 (by decide +kernel) (by decide +kernel))) (by decide +kernel) (by decide +kernel) (by decide +kernel)) (B_eq (g110.1 12 6 rfl rfl) b104) (by decide +kernel) (by decide +kernel)) cqb_1_1_1 (by decide +kernel) (by decide +kernel)) (B_eq (g110.1 12 6 rfl rfl) b104) (by decide +kernel) (by decide +kernel) (by decide +kernel) (by decide +kernel)) (by decide +kernel) (by decide +kernel)))
        have hI157 := IMc_u (u := 17) (i := x1_106.toNatClampNeg) (v := (T107 13 x1_106.toNatClampNeg) * (T107 12 7)) hI156 (show B 0 8 ((T107 13 x1_106.toNatClampNeg) * (T107 12 7)) from (B_w (B_mul (B_eq (congrFun (g110.2 13 rfl rfl) x1_106.toNatClampNeg) b153) (B_eq (g110.1 12 7 rfl rfl) (show B 1 8 ((((F 12 0) + (8 * (F 12 5))) - 1) / (8 * (F 12 5))) from B_div2 (B_sub (B_add (show B 1 64 (F 12 0) from hI 12 0) (B_mul cqb_8_8_8 b2 (by decide +kernel) (by decide +kernel) (by decide +kernel)) (by decide +kernel) (by decide +kernel)) cqb_1_1_1 (by decide +kernel) (by decide +kernel)) (B_mul cqb_8_8_8 b2 (by decide +kernel) (by decide +kernel) (by decide +kernel)) (by decide +kernel) (by decide +kernel) (by decide +kernel) (by decide +kernel))) (by decide +kernel) (by decide +kernel) (by decide +kernel)) (by decide +kernel) (by decide +kernel)))
        have hI158 := IMc_u (u := 18) (i := x1_106.toNatClampNeg) (v := (((va_up (va_up (va_up T107 15 (upd (T107 15) x1_106.toNatClampNeg (((((T107 12 0) * (T107 13 x1_106.toNatClampNeg)) + (T107 12 5)) - 1) / (T107 12 5)))) 16 (upd (T107 16) x1_106.toNatClampNeg (((((T107 12 1) * (T107 14 x1_106.toNatClampNeg)) + (T107 12 6)) - 1) / (T107 12 6)))) 17 (upd (T107 17) x1_106.toNatClampNeg ((T107 13 x1_106.toNatClampNeg) * (T107 12 7)))) 17 x1_106.toNatClampNeg) * (T107 14 x1_106.toNatClampNeg)) * (T107 12 8)) hI157 (show B 0 64 ((((va_up (va_up (va_up T107 15 (upd (T107 15) x1_106.toNatClampNeg (((((T107 12 0) * (T107 13 x1_106.toNatClampNeg)) + (T107 12 5)) - 1) / (T107 12 5)))) 16 (upd (T107 16) x1_106.toNatClampNeg (((((T107 12 1) * (T107 14 x1_106.toNatClampNeg)) + (T107 12 6)) - 1) / (T107 12 6)))) 17 (upd (T107 17) x1_106.toNatClampNeg ((T107 13 x1_106.toNatClampNeg) * (T107 12 7)))) 17 x1_106.toNatClampNeg) * (T107 14 x1_106.toNatClampNeg)) * (T107 12 8)) from (B_w (B_mul (B_mul (B_eq (ru_at (f := va_up (va_up T107 15 (upd (T107 15) x1_106.toNatClampNeg (((((T107 12 0) * (T107 13 x1_106.toNatClampNeg)) + (T107 12 5)) - 1) / (T107 12 5)))) 16 (upd (T107 16) x1_106.toNatClampNeg (((((T107 12 1) * (T107 14 x1_106.toNatClampNeg)) + (T107 12 6)) - 1) / (T107 12 6)))) (g := T107 17) (r := 17) (i := x1_106.toNatClampNeg) (v := (T107 13 x1_106.toNatClampNeg) * (T107 12 7))) (B_mul (B_eq (congrFun (g110.2 13 rfl rfl) x1_106.toNatClampNeg) b153) (B_eq (g110.1 12 7 rfl rfl) (show B 1 8 ((((F 12 0) + (8 * (F 12 5))) - 1) / (8 * (F 12 5))) from B_div2 (B_sub (B_add (show B 1 64 (F 12 0) from hI 12 0) (B_mul cqb_8_8_8 b2 (by decide +kernel) (by decide +kernel) (by decide +kernel)) (by decide +kernel) (by decide +kernel)) cqb_1_1_1 (by decide +kernel) (by decide +kernel)) (B_mul cqb_8_8_8 b2 (by decide +kernel) (by decide +kernel) (by decide +kernel)) (by decide +kernel) (by decide +kernel) (by decide +kernel) (by decide +kernel))) (by decide +kernel) (by decide +kernel) (by decide +kernel))) (B_eq (congrFun (g110.2 14 rfl rfl) x1_106.toNatClampNeg) (show B 1 2 (F 14 x1_106.toNatClampNeg) from sB_14 hI b148 (by decide +kernel) (by decide +kernel))) (by decide +kernel) (by decide +kernel) (by decide +kernel)) (B_eq (g110.1 12 8 rfl rfl) (show B 1 4 ((((F 12 1) + (8 * (F 12 6))) - 1) / (8 * (F 12 6))) from B_div2 (B_sub (B_add (show B 1 64 (F 12 1) from hI 12 1) (B_mul cqb_8_8_8 b104 (by decide +kernel) (by decide +kernel) (by decide +kernel)) (by decide +kernel) (by decide +kernel)) cqb_1_1_1 (by decide +kernel) (by decide +kernel)) (B_mul cqb_8_8_8 b104 (by decide +kernel) (by decide +kernel) (by decide +kernel)) (by decide +kernel) (by decide +kernel) (by decide +kernel) (by decide +kernel))) (by decide +kernel) (by decide +kernel) (by decide +kernel)) (by decide +kernel) (by decide +kernel)))
        have g163 := agc_tr (agc_refl (fs := []) (rs := [15, 16, 17, 18]) (F := va_up (va_up F 12 (upd (F 12) 7 ((((F 12 0) + (8 * (F 12 5))) - 1) / (8 * (F 12 5))))) 12 (upd ((va_up F 12 (upd (F 12) 7 ((((F 12 0) + (8 * (F 12 5))) - 1) / (8 * (F 12 5))))) 12) 8 ((((F 12 1) + (8 * (F 12 6))) - 1) / (8 * (F 12 6)))))) g110 (by decide +kernel) (by decide +kernel)
        have g162 := agc_r (u := 15) (w := upd (T107 15) x1_106.toNatClampNeg (((((T107 12 0) * (T107 13 x1_106.toNatClampNeg)) + (T107 12 5)) - 1) / (T107 12 5))) g163 rfl (by decide +kernel)
        have g161 := agc_r (u := 16) (w := upd (T107 16) x1_106.toNatClampNeg (((((T107 12 1) * (T107 14 x1_106.toNatClampNeg)) + (T107 12 6)) - 1) / (T107 12 6))) g162 rfl (by decide +kernel)
        have g160 := agc_r (u := 17) (w := upd (T107 17) x1_106.toNatClampNeg ((T107 13 x1_106.toNatClampNeg) * (T107 12 7))) g161 rfl (by decide +kernel)
        have g159 := agc_r (u := 18) (w := upd (T107 18) x1_106.toNatClampNeg ((((va_up (va_up (va_up T107 15 (upd (T107 15) x1_106.toNatClampNeg (((((T107 12 0) * (T107 13 x1_106.toNatClampNeg)) + (T107 12 5)) - 1) / (T107 12 5)))) 16 (upd (T107 16) x1_106.toNatClampNeg (((((T107 12 1) * (T107 14 x1_106.toNatClampNeg)) + (T107 12 6)) - 1) / (T107 12 6)))) 17 (upd (T107 17) x1_106.toNatClampNeg ((T107 13 x1_106.toNatClampNeg) * (T107 12 7)))) 17 x1_106.toNatClampNeg) * (T107 14 x1_106.toNatClampNeg)) * (T107 12 8))) g160 rfl (by decide +kernel)
        have e164 : (x1_106 + 1).toInt = ((x1_106).toInt + 1) := (t_add b148 cqb_1_1_1 (by decide +kernel) (by decide +kernel)).trans (by rw [cqn_1])
        have q165 : (1) ≤ (x1_106 + 1).toInt ∧ (x1_106 + 1).toInt ≤ (3) := (show B 1 3 (x1_106 + 1) from B_w (B_add b148 cqb_1_1_1 (by decide +kernel) (by decide +kernel)) (by decide +kernel) (by decide +kernel))
        have q166 : (1) ≤ (F 12 0).toInt ∧ (F 12 0).toInt ≤ (64) := (show B 1 64 (F 12 0) from hI 12 0)
        have e167 : (T107 12 0).toInt = (F 12 0).toInt := (congrArg Int32.toInt (g110.1 12 0 rfl rfl)).trans rfl
        have q168 : (1) ≤ (F 13 x1_106.toNatClampNeg).toInt ∧ (F 13 x1_106.toNatClampNeg).toInt ≤ (1) := (show B 1 1 (F 13 x1_106.toNatClampNeg) from B_w b153 (by decide +kernel) (by decide +kernel))
        have e169 : (T107 13 x1_106.toNatClampNeg).toInt = (F 13 x1_106.toNatClampNeg).toInt := (congrArg Int32.toInt (congrFun (g110.2 13 rfl rfl) x1_106.toNatClampNeg)).trans rfl
        have e170 : ((T107 12 0) * (T107 13 x1_106.toNatClampNeg)).toInt = ((F 12 0).toInt * (F 13 x1_106.toNatClampNeg).toInt) := (t_mul (B_eq (g110.1 12 0 rfl rfl) (show B 1 64 (F 12 0) from hI 12 0)) (B_eq (congrFun (g110.2 13 rfl rfl) x1_106.toNatClampNeg) b153) (by decide +kernel) (by decide +kernel) (by decide +kernel)).trans (by rw [e167, e169])
        have q171 : (1) ≤ ((T107 12 0) * (T107 13 x1_106.toNatClampNeg)).toInt ∧ ((T107 12 0) * (T107 13 x1_106.toNatClampNeg)).toInt ≤ (64) := (show B 1 64 ((T107 12 0) * (T107 13 x1_106.toNatClampNeg)) from B_w (B_mul (B_eq (g110.1 12 0 rfl rfl) (show B 1 64 (F 12 0) from hI 12 0)) (B_eq (congrFun (g110.2 13 rfl rfl) x1_106.toNatClampNeg) b153) (by decide +kernel) (by decide +kernel) (by decide +kernel)) (by decide +kernel) (by decide +kernel))
        have e172 : (T107 12 5).toInt = (F 12 5).toInt := (congrArg Int32.toInt (g110.1 12 5 rfl rfl)).trans rfl
        have e173 : (((T107 12 0) * (T107 13 x1_106.toNatClampNeg)) + (T107 12 5)).toInt = (((F 12 0).toInt * (F 13 x1_106.toNatClampNeg).toInt) + (F 12 5).toInt) := (t_add (B_mul (B_eq (g110.1 12 0 rfl rfl) (show B 1 64 (F 12 0) from hI 12 0)) (B_eq (congrFun (g110.2 13 rfl rfl) x1_106.toNatClampNeg) b153) (by decide +kernel) (by decide +kernel) (by decide +kernel)) (B_eq (g110.1 12 5 rfl rfl) b2) (by decide +kernel) (by decide +kernel)).trans (by rw [e170, e172])
        have q174 : (2) ≤ (((T107 12 0) * (T107 13 x1_106.toNatClampNeg)) + (T107 12 5)).toInt ∧ (((T107 12 0) * (T107 13 x1_106.toNatClampNeg)) + (T107 12 5)).toInt ≤ (65) := (show B 2 65 (((T107 12 0) * (T107 13 x1_106.toNatClampNeg)) + (T107 12 5)) from B_w (B_add (B_mul (B_eq (g110.1 12 0 rfl rfl) (show B 1 64 (F 12 0) from hI 12 0)) (B_eq (congrFun (g110.2 13 rfl rfl) x1_106.toNatClampNeg) b153) (by decide +kernel) (by decide +kernel) (by decide +kernel)) (B_eq (g110.1 12 5 rfl rfl) b2) (by decide +kernel) (by decide +kernel)) (by decide +kernel) (by decide +kernel))
        have e175 : ((((T107 12 0) * (T107 13 x1_106.toNatClampNeg)) + (T107 12 5)) - 1).toInt = ((((F 12 0).toInt * (F 13 x1_106.toNatClampNeg).toInt) + (F 12 5).toInt) - 1) := (t_sub (B_add (B_mul (B_eq (g110.1 12 0 rfl rfl) (show B 1 64 (F 12 0) from hI 12 0)) (B_eq (congrFun (g110.2 13 rfl rfl) x1_106.toNatClampNeg) b153) (by decide +kernel) (by decide +kernel) (by decide +kernel)) (B_eq (g110.1 12 5 rfl rfl) b2) (by decide +kernel) (by decide +kernel)) cqb_1_1_1 (by decide +kernel) (by decide +kernel)).trans (by rw [e173, cqn_1])
        have q176 : (1) ≤ ((((T107 12 0) * (T107 13 x1_106.toNatClampNeg)) + (T107 12 5)) - 1).toInt ∧ ((((T107 12 0) * (T107 13 x1_106.toNatClampNeg)) + (T107 12 5)) - 1).toInt ≤ (64) := (show B 1 64 ((((T107 12 0) * (T107 13 x1_106.toNatClampNeg)) + (T107 12 5)) - 1) from B_w (B_sub (B_add (B_mul (B_eq (g110.1 12 0 rfl rfl) (show B 1 64 (F 12 0) from hI 12 0)) (B_eq (congrFun (g110.2 13 rfl rfl) x1_106.toNatClampNeg) b153) (by decide +kernel) (by decide +kernel) (by decide +kernel)) (B_eq (g110.1 12 5 rfl rfl) b2) (by decide +kernel) (by decide +kernel)) cqb_1_1_1 (by decide +kernel) (by decide +kernel)) (by decide +kernel) (by decide +kernel))
        have e177 : (((((T107 12 0) * (T107 13 x1_106.toNatClampNeg)) + (T107 12 5)) - 1) / (T107 12 5)).toInt = (((((F 12 0).toInt * (F 13 x1_106.toNatClampNeg).toInt) + (F 12 5).toInt) - 1) / (F 12 5).toInt) := (t_div (B_sub (B_add (B_mul (B_eq (g110.1 12 0 rfl rfl) (show B 1 64 (F 12 0) from hI 12 0)) (B_eq (congrFun (g110.2 13 rfl rfl) x1_106.toNatClampNeg) b153) (by decide +kernel) (by decide +kernel) (by decide +kernel)) (B_eq (g110.1 12 5 rfl rfl) b2) (by decide +kernel) (by decide +kernel)) cqb_1_1_1 (by decide +kernel) (by decide +kernel)) (B_eq (g110.1 12 5 rfl rfl) b2) (by decide +kernel) (by decide +kernel)).trans (by rw [e175, e172])
        have q178 : (1) ≤ (((((T107 12 0) * (T107 13 x1_106.toNatClampNeg)) + (T107 12 5)) - 1) / (T107 12 5)).toInt ∧ (((((T107 12 0) * (T107 13 x1_106.toNatClampNeg)) + (T107 12 5)) - 1) / (T107 12 5)).toInt ≤ (64) := (show B 1 64 (((((T107 12 0) * (T107 13 x1_106.toNatClampNeg)) + (T107 12 5)) - 1) / (T107 12 5)) from B_div2 (B_sub (B_add (B_mul (B_eq (g110.1 12 0 rfl rfl) (show B 1 64 (F 12 0) from hI 12 0)) (B_eq (congrFun (g110.2 13 rfl rfl) x1_106.toNatClampNeg) b153) (by decide +kernel) (by decide +kernel) (by decide +kernel)) (B_eq (g110.1 12 5 rfl rfl) b2) (by decide +kernel) (by decide +kernel)) cqb_1_1_1 (by decide +kernel) (by decide +kernel)) (B_eq (g110.1 12 5 rfl rfl) b2) (by decide +kernel) (by decide +kernel) (by decide +kernel) (by decide +kernel))
        have q179 : (1) ≤ (F 12 1).toInt ∧ (F 12 1).toInt ≤ (64) := (show B 1 64 (F 12 1) from hI 12 1)
        have e180 : (T107 12 1).toInt = (F 12 1).toInt := (congrArg Int32.toInt (g110.1 12 1 rfl rfl)).trans rfl
        have q181 : (1) ≤ (F 14 x1_106.toNatClampNeg).toInt ∧ (F 14 x1_106.toNatClampNeg).toInt ≤ (2) := (show B 1 2 (F 14 x1_106.toNatClampNeg) from sB_14 hI b148 (by decide +kernel) (by decide +kernel))
        have e182 : (T107 14 x1_106.toNatClampNeg).toInt = (F 14 x1_106.toNatClampNeg).toInt := (congrArg Int32.toInt (congrFun (g110.2 14 rfl rfl) x1_106.toNatClampNeg)).trans rfl
        have e183 : ((T107 12 1) * (T107 14 x1_106.toNatClampNeg)).toInt = ((F 12 1).toInt * (F 14 x1_106.toNatClampNeg).toInt) := (t_mul (B_eq (g110.1 12 1 rfl rfl) (show B 1 64 (F 12 1) from hI 12 1)) (B_eq (congrFun (g110.2 14 rfl rfl) x1_106.toNatClampNeg) (show B 1 2 (F 14 x1_106.toNatClampNeg) from sB_14 hI b148 (by decide +kernel) (by decide +kernel))) (by decide +kernel) (by decide +kernel) (by decide +kernel)).trans (by rw [e180, e182])
        have q184 : (1) ≤ ((T107 12 1) * (T107 14 x1_106.toNatClampNeg)).toInt ∧ ((T107 12 1) * (T107 14 x1_106.toNatClampNeg)).toInt ≤ (128) := (show B 1 128 ((T107 12 1) * (T107 14 x1_106.toNatClampNeg)) from B_w (B_mul (B_eq (g110.1 12 1 rfl rfl) (show B 1 64 (F 12 1) from hI 12 1)) (B_eq (congrFun (g110.2 14 rfl rfl) x1_106.toNatClampNeg) (show B 1 2 (F 14 x1_106.toNatClampNeg) from sB_14 hI b148 (by decide +kernel) (by decide +kernel))) (by decide +kernel) (by decide +kernel) (by decide +kernel)) (by decide +kernel) (by decide +kernel))
        have e185 : (T107 12 6).toInt = (F 12 6).toInt := (congrArg Int32.toInt (g110.1 12 6 rfl rfl)).trans rfl
        have e186 : (((T107 12 1) * (T107 14 x1_106.toNatClampNeg)) + (T107 12 6)).toInt = (((F 12 1).toInt * (F 14 x1_106.toNatClampNeg).toInt) + (F 12 6).toInt) := (t_add (B_mul (B_eq (g110.1 12 1 rfl rfl) (show B 1 64 (F 12 1) from hI 12 1)) (B_eq (congrFun (g110.2 14 rfl rfl) x1_106.toNatClampNeg) (show B 1 2 (F 14 x1_106.toNatClampNeg) from sB_14 hI b148 (by decide +kernel) (by decide +kernel))) (by decide +kernel) (by decide +kernel) (by decide +kernel)) (B_eq (g110.1 12 6 rfl rfl) b104) (by decide +kernel) (by decide +kernel)).trans (by rw [e183, e185])
        have q187 : (3) ≤ (((T107 12 1) * (T107 14 x1_106.toNatClampNeg)) + (T107 12 6)).toInt ∧ (((T107 12 1) * (T107 14 x1_106.toNatClampNeg)) + (T107 12 6)).toInt ≤ (130) := (show B 3 130 (((T107 12 1) * (T107 14 x1_106.toNatClampNeg)) + (T107 12 6)) from B_w (B_add (B_mul (B_eq (g110.1 12 1 rfl rfl) (show B 1 64 (F 12 1) from hI 12 1)) (B_eq (congrFun (g110.2 14 rfl rfl) x1_106.toNatClampNeg) (show B 1 2 (F 14 x1_106.toNatClampNeg) from sB_14 hI b148 (by decide +kernel) (by decide +kernel))) (by decide +kernel) (by decide +kernel) (by decide +kernel)) (B_eq (g110.1 12 6 rfl rfl) b104) (by decide +kernel) (by decide +kernel)) (by decide +kernel) (by decide +kernel))
        have e188 : ((((T107 12 1) * (T107 14 x1_106.toNatClampNeg)) + (T107 12 6)) - 1).toInt = ((((F 12 1).toInt * (F 14 x1_106.toNatClampNeg).toInt) + (F 12 6).toInt) - 1) := (t_sub (B_add (B_mul (B_eq (g110.1 12 1 rfl rfl) (show B 1 64 (F 12 1) from hI 12 1)) (B_eq (congrFun (g110.2 14 rfl rfl) x1_106.toNatClampNeg) (show B 1 2 (F 14 x1_106.toNatClampNeg) from sB_14 hI b148 (by decide +kernel) (by decide +kernel))) (by decide +kernel) (by decide +kernel) (by decide +kernel)) (B_eq (g110.1 12 6 rfl rfl) b104) (by decide +kernel) (by decide +kernel)) cqb_1_1_1 (by decide +kernel) (by decide +kernel)).trans (by rw [e186, cqn_1])
        have q189 : (2) ≤ ((((T107 12 1) * (T107 14 x1_106.toNatClampNeg)) + (T107 12 6)) - 1).toInt ∧ ((((T107 12 1) * (T107 14 x1_106.toNatClampNeg)) + (T107 12 6)) - 1).toInt ≤ (129) := (show B 2 129 ((((T107 12 1) * (T107 14 x1_106.toNatClampNeg)) + (T107 12 6)) - 1) from B_w (B_sub (B_add (B_mul (B_eq (g110.1 12 1 rfl rfl) (show B 1 64 (F 12 1) from hI 12 1)) (B_eq (congrFun (g110.2 14 rfl rfl) x1_106.toNatClampNeg) (show B 1 2 (F 14 x1_106.toNatClampNeg) from sB_14 hI b148 (by decide +kernel) (by decide +kernel))) (by decide +kernel) (by decide +kernel) (by decide +kernel)) (B_eq (g110.1 12 6 rfl rfl) b104) (by decide +kernel) (by decide +kernel)) cqb_1_1_1 (by decide +kernel) (by decide +kernel)) (by decide +kernel) (by decide +kernel))
        have e190 : (((((T107 12 1) * (T107 14 x1_106.toNatClampNeg)) + (T107 12 6)) - 1) / (T107 12 6)).toInt = (((((F 12 1).toInt * (F 14 x1_106.toNatClampNeg).toInt) + (F 12 6).toInt) - 1) / (F 12 6).toInt) := (t_div (B_sub (B_add (B_mul (B_eq (g110.1 12 1 rfl rfl) (show B 1 64 (F 12 1) from hI 12 1)) (B_eq (congrFun (g110.2 14 rfl rfl) x1_106.toNatClampNeg) (show B 1 2 (F 14 x1_106.toNatClampNeg) from sB_14 hI b148 (by decide +kernel) (by decide +kernel))) (by decide +kernel) (by decide +kernel) (by decide +kernel)) (B_eq (g110.1 12 6 rfl rfl) b104) (by decide +kernel) (by decide +kernel)) cqb_1_1_1 (by decide +kernel) (by decide +kernel)) (B_eq (g110.1 12 6 rfl rfl) b104) (by decide +kernel) (by decide +kernel)).trans (by rw [e188, e185])
        have q191 : (1) ≤ (((((T107 12 1) * (T107 14 x1_106.toNatClampNeg)) + (T107 12 6)) - 1) / (T107 12 6)).toInt ∧ (((((T107 12 1) * (T107 14 x1_106.toNatClampNeg)) + (T107 12 6)) - 1) / (T107 12 6)).toInt ≤ (64) := (show B 1 64 (((((T107 12 1) * (T107 14 x1_106.toNatClampNeg)) + (T107 12 6)) - 1) / (T107 12 6)) from B_div2 (B_sub (B_add (B_mul (B_eq (g110.1 12 1 rfl rfl) (show B 1 64 (F 12 1) from hI 12 1)) (B_eq (congrFun (g110.2 14 rfl rfl) x1_106.toNatClampNeg) (show B 1 2 (F 14 x1_106.toNatClampNeg) from sB_14 hI b148 (by decide +kernel) (by decide +kernel))) (by decide +kernel) (by decide +kernel) (by decide +kernel)) (B_eq (g110.1 12 6 rfl rfl) b104) (by decide +kernel) (by decide +kernel)) cqb_1_1_1 (by decide +kernel) (by decide +kernel)) (B_eq (g110.1 12 6 rfl rfl) b104) (by decide +kernel) (by decide +kernel) (by decide +kernel) (by decide +kernel))
        have e192 : (8 * (F 12 5)).toInt = (8 * (F 12 5).toInt) := (t_mul cqb_8_8_8 b2 (by decide +kernel) (by decide +kernel) (by decide +kernel)).trans (by rw [cqn_8])
        have q193 : (8) ≤ (8 * (F 12 5)).toInt ∧ (8 * (F 12 5)).toInt ≤ (8) := (show B 8 8 (8 * (F 12 5)) from B_w (B_mul cqb_8_8_8 b2 (by decide +kernel) (by decide +kernel) (by decide +kernel)) (by decide +kernel) (by decide +kernel))
        have e194 : ((F 12 0) + (8 * (F 12 5))).toInt = ((F 12 0).toInt + (8 * (F 12 5).toInt)) := (t_add (show B 1 64 (F 12 0) from hI 12 0) (B_mul cqb_8_8_8 b2 (by decide +kernel) (by decide +kernel) (by decide +kernel)) (by decide +kernel) (by decide +kernel)).trans (by rw [e192])
        have q195 : (9) ≤ ((F 12 0) + (8 * (F 12 5))).toInt ∧ ((F 12 0) + (8 * (F 12 5))).toInt ≤ (72) := (show B 9 72 ((F 12 0) + (8 * (F 12 5))) from B_w (B_add (show B 1 64 (F 12 0) from hI 12 0) (B_mul cqb_8_8_8 b2 (by decide +kernel) (by decide +kernel) (by decide +kernel)) (by decide +kernel) (by decide +kernel)) (by decide +kernel) (by decide +kernel))
        have e196 : (((F 12 0) + (8 * (F 12 5))) - 1).toInt = (((F 12 0).toInt + (8 * (F 12 5).toInt)) - 1) := (t_sub (B_add (show B 1 64 (F 12 0) from hI 12 0) (B_mul cqb_8_8_8 b2 (by decide +kernel) (by decide +kernel) (by decide +kernel)) (by decide +kernel) (by decide +kernel)) cqb_1_1_1 (by decide +kernel) (by decide +kernel)).trans (by rw [e194, cqn_1])
        have q197 : (8) ≤ (((F 12 0) + (8 * (F 12 5))) - 1).toInt ∧ (((F 12 0) + (8 * (F 12 5))) - 1).toInt ≤ (71) := (show B 8 71 (((F 12 0) + (8 * (F 12 5))) - 1) from B_w (B_sub (B_add (show B 1 64 (F 12 0) from hI 12 0) (B_mul cqb_8_8_8 b2 (by decide +kernel) (by decide +kernel) (by decide +kernel)) (by decide +kernel) (by decide +kernel)) cqb_1_1_1 (by decide +kernel) (by decide +kernel)) (by decide +kernel) (by decide +kernel))
        have e198 : ((((F 12 0) + (8 * (F 12 5))) - 1) / (8 * (F 12 5))).toInt = ((((F 12 0).toInt + (8 * (F 12 5).toInt)) - 1) / (8 * (F 12 5).toInt)) := (t_div (B_sub (B_add (show B 1 64 (F 12 0) from hI 12 0) (B_mul cqb_8_8_8 b2 (by decide +kernel) (by decide +kernel) (by decide +kernel)) (by decide +kernel) (by decide +kernel)) cqb_1_1_1 (by decide +kernel) (by decide +kernel)) (B_mul cqb_8_8_8 b2 (by decide +kernel) (by decide +kernel) (by decide +kernel)) (by decide +kernel) (by decide +kernel)).trans (by rw [e196, e192])
        have q199 : (1) ≤ ((((F 12 0) + (8 * (F 12 5))) - 1) / (8 * (F 12 5))).toInt ∧ ((((F 12 0) + (8 * (F 12 5))) - 1) / (8 * (F 12 5))).toInt ≤ (8) := (show B 1 8 ((((F 12 0) + (8 * (F 12 5))) - 1) / (8 * (F 12 5))) from B_div2 (B_sub (B_add (show B 1 64 (F 12 0) from hI 12 0) (B_mul cqb_8_8_8 b2 (by decide +kernel) (by decide +kernel) (by decide +kernel)) (by decide +kernel) (by decide +kernel)) cqb_1_1_1 (by decide +kernel) (by decide +kernel)) (B_mul cqb_8_8_8 b2 (by decide +kernel) (by decide +kernel) (by decide +kernel)) (by decide +kernel) (by decide +kernel) (by decide +kernel) (by decide +kernel))
        have e200 : (T107 12 7).toInt = ((((F 12 0).toInt + (8 * (F 12 5).toInt)) - 1) / (8 * (F 12 5).toInt)) := (congrArg Int32.toInt (g110.1 12 7 rfl rfl)).trans e198
        have e201 : ((T107 13 x1_106.toNatClampNeg) * (T107 12 7)).toInt = ((F 13 x1_106.toNatClampNeg).toInt * ((((F 12 0).toInt + (8 * (F 12 5).toInt)) - 1) / (8 * (F 12 5).toInt))) := (t_mul (B_eq (congrFun (g110.2 13 rfl rfl) x1_106.toNatClampNeg) b153) (B_eq (g110.1 12 7 rfl rfl) (show B 1 8 ((((F 12 0) + (8 * (F 12 5))) - 1) / (8 * (F 12 5))) from B_div2 (B_sub (B_add (show B 1 64 (F 12 0) from hI 12 0) (B_mul cqb_8_8_8 b2 (by decide +kernel) (by decide +kernel) (by decide +kernel)) (by decide +kernel) (by decide +kernel)) cqb_1_1_1 (by decide +kernel) (by decide +kernel)) (B_mul cqb_8_8_8 b2 (by decide +kernel) (by decide +kernel) (by decide +kernel)) (by decide +kernel) (by decide +kernel) (by decide +kernel) (by decide +kernel))) (by decide +kernel) (by decide +kernel) (by decide +kernel)).trans (by rw [e169, e200])
        have q202 : (1) ≤ ((T107 13 x1_106.toNatClampNeg) * (T107 12 7)).toInt ∧ ((T107 13 x1_106.toNatClampNeg) * (T107 12 7)).toInt ≤ (8) := (show B 1 8 ((T107 13 x1_106.toNatClampNeg) * (T107 12 7)) from B_w (B_mul (B_eq (congrFun (g110.2 13 rfl rfl) x1_106.toNatClampNeg) b153) (B_eq (g110.1 12 7 rfl rfl) (show B 1 8 ((((F 12 0) + (8 * (F 12 5))) - 1) / (8 * (F 12 5))) from B_div2 (B_sub (B_add (show B 1 64 (F 12 0) from hI 12 0) (B_mul cqb_8_8_8 b2 (by decide +kernel) (by decide +kernel) (by decide +kernel)) (by decide +kernel) (by decide +kernel)) cqb_1_1_1 (by decide +kernel) (by decide +kernel)) (B_mul cqb_8_8_8 b2 (by decide +kernel) (by decide +kernel) (by decide +kernel)) (by decide +kernel) (by decide +kernel) (by decide +kernel) (by decide +kernel))) (by decide +kernel) (by decide +kernel) (by decide +kernel)) (by decide +kernel) (by decide +kernel))
        exact hR38 ⟨(B_w (B_add b148 cqb_1_1_1 (by decide +kernel) (by decide +kernel)) (by decide +kernel) (by decide +kernel)), _, _, rfl, hI158, g159, (qf_ext (x := x1_106) (b' := (x1_106 + 1).toInt) r113 (fun _ => (B_w (show B 1 64 (((((T107 12 0) * (T107 13 x1_106.toNatClampNeg)) + (T107 12 5)) - 1) / (T107 12 5)) from B_div2 (B_sub (B_add (B_mul (B_eq (g110.1 12 0 rfl rfl) (show B 1 64 (F 12 0) from hI 12 0)) (B_eq (congrFun (g110.2 13 rfl rfl) x1_106.toNatClampNeg) b153) (by decide +kernel) (by decide +kernel) (by decide +kernel)) (B_eq (g110.1 12 5 rfl rfl) b2) (by decide +kernel) (by decide +kernel)) cqb_1_1_1 (by decide +kernel) (by decide +kernel)) (B_eq (g110.1 12 5 rfl rfl) b2) (by decide +kernel) (by decide +kernel) (by decide +kernel) (by decide +kernel)) (by decide +kernel) (by decide +kernel))) (by omega) (by omega) (by omega)), (qf_ext (x := x1_106) (b' := (x1_106 + 1).toInt) r114 (fun _ => (B_w (show B 1 64 (((((T107 12 1) * (T107 14 x1_106.toNatClampNeg)) + (T107 12 6)) - 1) / (T107 12 6)) from B_div2 (B_sub (B_add (B_mul (B_eq (g110.1 12 1 rfl rfl) (show B 1 64 (F 12 1) from hI 12 1)) (B_eq (congrFun (g110.2 14 rfl rfl) x1_106.toNatClampNeg) (show B 1 2 (F 14 x1_106.toNatClampNeg) from sB_14 hI b148 (by decide +kernel) (by decide +kernel))) (by decide +kernel) (by decide +kernel) (by decide +kernel)) (B_eq (g110.1 12 6 rfl rfl) b104) (by decide +kernel) (by decide +kernel)) cqb_1_1_1 (by decide +kernel) (by decide +kernel)) (B_eq (g110.1 12 6 rfl rfl) b104) (by decide +kernel) (by decide +kernel) (by decide +kernel) (by decide +kernel)) (by decide +kernel) (by decide +kernel))) (by omega) (by omega) (by omega)), (qf_ext (x := x1_106) (b' := (x1_106 + 1).toInt) r115 (fun _ => (B_w (B_mul (B_eq (congrFun (g110.2 13 rfl rfl) x1_106.toNatClampNeg) b153) (B_eq (g110.1 12 7 rfl rfl) (show B 1 8 ((((F 12 0) + (8 * (F 12 5))) - 1) / (8 * (F 12 5))) from B_div2 (B_sub (B_add (show B 1 64 (F 12 0) from hI 12 0) (B_mul cqb_8_8_8 b2 (by decide +kernel) (by decide +kernel) (by decide +kernel)) (by decide +kernel) (by decide +kernel)) cqb_1_1_1 (by decide +kernel) (by decide +kernel)) (B_mul cqb_8_8_8 b2 (by decide +kernel) (by decide +kernel) (by decide +kernel)) (by decide +kernel) (by decide +kernel) (by decide +kernel) (by decide +kernel))) (by decide +kernel) (by decide +kernel) (by decide +kernel)) (by decide +kernel) (by decide +kernel))) (by omega) (by omega) (by omega))⟩ (by show (3 - (x1_106 + 1).toInt).toNat < (3 - x1_106.toInt).toNat; omega)
  · have b203 : B 2 2 (F 12 5) := B_eq hcs cqb_2_2_2
    have q204 : (2) ≤ (F 12 5).toInt ∧ (F 12 5).toInt ≤ (2) := (show B 2 2 (F 12 5) from B_w b203 (by decide +kernel) (by decide +kernel))
    rcases sp_12 (show B 1 2 (F 12 6) from hI 12 6) with hcs | hcs
    · have b205 : B 1 1 (F 12 6) := B_eq hcs cqb_1_1_1
      have q206 : (1) ≤ (F 12 6).toInt ∧ (F 12 6).toInt ≤ (1) := (show B 1 1 (F 12 6) from B_w b205 (by decide +kernel) (by decide +kernel))
      refine up_K (B_mul cqb_8_8_8 b203 (by decide +kernel) (by decide +kernel) (by decide +kernel)) (by decide +kernel) ?_
      refine up_K (B_mul cqb_8_8_8 b205 (by decide +kernel) (by decide +kernel) (by decide +kernel)) (by decide +kernel) ?_
      have hI212 := IMc_u (u := 12) (i := 7) (v := (((F 12 0) + (8 * (F 12 5))) - 1) / (8 * (F 12 5))) hI (show B 1 8 ((((F 12 0) + (8 * (F 12 5))) - 1) / (8 * (F 12 5))) from (B_w (show B 1 4 ((((F 12 0) + (8 * (F 12 5))) - 1) / (8 * (F 12 5))) from B_div2 (B_sub (B_add (show B 1 64 (F 12 0) from hI 12 0) (B_mul cqb_8_8_8 b203 (by decide +kernel) (by decide +kernel) (by decide +kernel)) (by decide +kernel) (by decide +kernel)) cqb_1_1_1 (by decide +kernel) (by decide +kernel)) (B_mul cqb_8_8_8 b203 (by decide +kernel) (by decide +kernel) (by decide +kernel)) (by decide +kernel) (by decide +kernel) (by decide +kernel) (by decide +kernel)) (by decide +kernel) (by decide +kernel)))
      have hI213 := IMc_u (u := 12) (i := 8) (v := (((F 12 1) + (8 * (F 12 6))) - 1) / (8 * (F 12 6))) hI212 (show B 1 8 ((((F 12 1) + (8 * (F 12 6))) - 1) / (8 * (F 12 6))) from (B_w (show B 1 8 ((((F 12 1) + (8 * (F 12 6))) - 1) / (8 * (F 12 6))) from B_div2 (B_sub (B_add (show B 1 64 (F 12 1) from hI 12 1) (B_mul cqb_8_8_8 b205 (by decide +kernel) (by decide +kernel) (by decide +kernel)) (by decide +kernel) (by decide +kernel)) cqb_1_1_1 (by decide +kernel) (by decide +kernel)) (B_mul cqb_8_8_8 b205 (by decide +kernel) (by decide +kernel) (by decide +kernel)) (by decide +kernel) (by decide +kernel) (by decide +kernel) (by decide +kernel)) (by decide +kernel) (by decide +kernel)))
      refine ⟨fun yx1 yS => B 0 3 yx1 ∧ ∃ (T208 : cF) (LT208 : cL), yS = (T208, LT208, PC a b P) ∧ IMc T208 ∧ agc [] [15, 16, 17, 18] (va_up (va_up F 12 (upd (F 12) 7 ((((F 12 0) + (8 * (F 12 5))) - 1) / (8 * (F 12 5))))) 12 (upd ((va_up F 12 (upd (F 12) 7 ((((F 12 0) + (8 * (F 12 5))) - 1) / (8 * (F 12 5))))) 12) 8 ((((F 12 1) + (8 * (F 12 6))) - 1) / (8 * (F 12 6))))) T208 ∧ (qf (T208 15) 0 yx1.toInt 1 64) ∧ (qf (T208 16) 0 yx1.toInt 1 64) ∧ (qf (T208 17) 0 yx1.toInt 1 8), fun yx1 yS => (3 - yx1.toInt).toNat, ⟨(B_w cqb_0_0_0 (by decide +kernel) (by decide +kernel)), _, _, rfl, hI213, (agc_refl (fs := []) (rs := [15, 16, 17, 18]) (F := va_up (va_up F 12 (upd (F 12) 7 ((((F 12 0) + (8 * (F 12 5))) - 1) / (8 * (F 12 5))))) 12 (upd ((va_up F 12 (upd (F 12) 7 ((((F 12 0) + (8 * (F 12 5))) - 1) / (8 * (F 12 5))))) 12) 8 ((((F 12 1) + (8 * (F 12 6))) - 1) / (8 * (F 12 6)))))), (qf_0 (b := 0) (by omega)), (qf_0 (b := 0) (by omega)), (qf_0 (b := 0) (by omega))⟩, fun x1_207 ST208 hIv => ?_⟩
      obtain ⟨b209, T208, LT208, rfl, hI210, g211, r214, r215, r216⟩ := hIv
      suffices hs : ∀ (R38 : Int32 → cs → Prop), (∀ zx1 zS, (B 0 3 zx1 ∧ ∃ (T208 : cF) (LT208 : cL), zS = (T208, LT208, PC a b P) ∧ IMc T208 ∧ agc [] [15, 16, 17, 18] (va_up (va_up F 12 (upd (F 12) 7 ((((F 12 0) + (8 * (F 12 5))) - 1) / (8 * (F 12 5))))) 12 (upd ((va_up F 12 (upd (F 12) 7 ((((F 12 0) + (8 * (F 12 5))) - 1) / (8 * (F 12 5))))) 12) 8 ((((F 12 1) + (8 * (F 12 6))) - 1) / (8 * (F 12 6))))) T208 ∧ (qf (T208 15) 0 zx1.toInt 1 64) ∧ (qf (T208 16) 0 zx1.toInt 1 64) ∧ (qf (T208 17) 0 zx1.toInt 1 8)) → (3 - zx1.toInt).toNat < (3 - x1_207.toInt).toNat → R38 zx1 zS) → b_Pi_measure_38 UL 12 x1_207 (T208, LT208, PC a b P) R38 K from hs _ (fun _ _ h1 h2 => ⟨h1, h2⟩)
      intro R38 hR380
      have hR38 := fun {zx1} {zS} => hR380 zx1 zS
      have q217 : (0) ≤ (x1_207).toInt ∧ (x1_207).toInt ≤ (3) := (show B 0 3 (x1_207) from B_w b209 (by decide +kernel) (by decide +kernel))
      unfold b_Pi_measure_38
      refine ⟨fun hc => ?_, fun hc => ?_⟩
      · have hq218 := hc
        have b219 : B 1 3 (x1_207) := B_w (B_leR (B_eq (g211.1 12 2 rfl rfl) (show B 1 3 (F 12 2) from hI 12 2)) b209 hq218) (by decide +kernel) (by decide +kernel)
        have q220 : (1) ≤ (x1_207).toInt ∧ (x1_207).toInt ≤ (3) := (show B 1 3 (x1_207) from B_w b219 (by decide +kernel) (by decide +kernel))
        have e221 : (T208 12 2).toInt = (F 12 2).toInt := (congrArg Int32.toInt (g211.1 12 2 rfl rfl)).trans rfl
        have i222 : (T208 12 2).toInt ≤ (x1_207).toInt := i_le hq218
        have g225 := agc_f (u := 12) (k := 7) (v := (((F 12 0) + (8 * (F 12 5))) - 1) / (8 * (F 12 5))) (agc_refl (fs := [1207, 1208]) (rs := [15, 16, 17, 18]) (F := F)) rfl (by decide +kernel)
        have g224 := agc_f (u := 12) (k := 8) (v := (((F 12 1) + (8 * (F 12 6))) - 1) / (8 * (F 12 6))) g225 rfl (by decide +kernel)
        have g223 := agc_tr g224 g211 (by decide +kernel) (by decide +kernel)
        have e226 : (T208 12 5).toInt = (F 12 5).toInt := (congrArg Int32.toInt (g211.1 12 5 rfl rfl)).trans rfl
        have q227 : (1) ≤ (F 12 0).toInt ∧ (F 12 0).toInt ≤ (64) := (show B 1 64 (F 12 0) from hI 12 0)
        have e228 : (8 * (F 12 5)).toInt = (8 * (F 12 5).toInt) := (t_mul cqb_8_8_8 b203 (by decide +kernel) (by decide +kernel) (by decide +kernel)).trans (by rw [cqn_8])
        have q229 : (16) ≤ (8 * (F 12 5)).toInt ∧ (8 * (F 12 5)).toInt ≤ (16) := (show B 16 16 (8 * (F 12 5)) from B_w (B_mul cqb_8_8_8 b203 (by decide +kernel) (by decide +kernel) (by decide +kernel)) (by decide +kernel) (by decide +kernel))
        have e230 : ((F 12 0) + (8 * (F 12 5))).toInt = ((F 12 0).toInt + (8 * (F 12 5).toInt)) := (t_add (show B 1 64 (F 12 0) from hI 12 0) (B_mul cqb_8_8_8 b203 (by decide +kernel) (by decide +kernel) (by decide +kernel)) (by decide +kernel) (by decide +kernel)).trans (by rw [e228])
        have q231 : (17) ≤ ((F 12 0) + (8 * (F 12 5))).toInt ∧ ((F 12 0) + (8 * (F 12 5))).toInt ≤ (80) := (show B 17 80 ((F 12 0) + (8 * (F 12 5))) from B_w (B_add (show B 1 64 (F 12 0) from hI 12 0) (B_mul cqb_8_8_8 b203 (by decide +kernel) (by decide +kernel) (by decide +kernel)) (by decide +kernel) (by decide +kernel)) (by decide +kernel) (by decide +kernel))
        have e232 : (((F 12 0) + (8 * (F 12 5))) - 1).toInt = (((F 12 0).toInt + (8 * (F 12 5).toInt)) - 1) := (t_sub (B_add (show B 1 64 (F 12 0) from hI 12 0) (B_mul cqb_8_8_8 b203 (by decide +kernel) (by decide +kernel) (by decide +kernel)) (by decide +kernel) (by decide +kernel)) cqb_1_1_1 (by decide +kernel) (by decide +kernel)).trans (by rw [e230, cqn_1])
        have q233 : (16) ≤ (((F 12 0) + (8 * (F 12 5))) - 1).toInt ∧ (((F 12 0) + (8 * (F 12 5))) - 1).toInt ≤ (79) := (show B 16 79 (((F 12 0) + (8 * (F 12 5))) - 1) from B_w (B_sub (B_add (show B 1 64 (F 12 0) from hI 12 0) (B_mul cqb_8_8_8 b203 (by decide +kernel) (by decide +kernel) (by decide +kernel)) (by decide +kernel) (by decide +kernel)) cqb_1_1_1 (by decide +kernel) (by decide +kernel)) (by decide +kernel) (by decide +kernel))
        have e234 : ((((F 12 0) + (8 * (F 12 5))) - 1) / (8 * (F 12 5))).toInt = ((((F 12 0).toInt + (8 * (F 12 5).toInt)) - 1) / (8 * (F 12 5).toInt)) := (t_div (B_sub (B_add (show B 1 64 (F 12 0) from hI 12 0) (B_mul cqb_8_8_8 b203 (by decide +kernel) (by decide +kernel) (by decide +kernel)) (by decide +kernel) (by decide +kernel)) cqb_1_1_1 (by decide +kernel) (by decide +kernel)) (B_mul cqb_8_8_8 b203 (by decide +kernel) (by decide +kernel) (by decide +kernel)) (by decide +kernel) (by decide +kernel)).trans (by rw [e232, e228])
        have q235 : (1) ≤ ((((F 12 0) + (8 * (F 12 5))) - 1) / (8 * (F 12 5))).toInt ∧ ((((F 12 0) + (8 * (F 12 5))) - 1) / (8 * (F 12 5))).toInt ≤ (4) := (show B 1 4 ((((F 12 0) + (8 * (F 12 5))) - 1) / (8 * (F 12 5))) from B_div2 (B_sub (B_add (show B 1 64 (F 12 0) from hI 12 0) (B_mul cqb_8_8_8 b203 (by decide +kernel) (by decide +kernel) (by decide +kernel)) (by decide +kernel) (by decide +kernel)) cqb_1_1_1 (by decide +kernel) (by decide +kernel)) (B_mul cqb_8_8_8 b203 (by decide +kernel) (by decide +kernel) (by decide +kernel)) (by decide +kernel) (by decide +kernel) (by decide +kernel) (by decide +kernel))
        have e236 : (T208 12 7).toInt = ((((F 12 0).toInt + (8 * (F 12 5).toInt)) - 1) / (8 * (F 12 5).toInt)) := (congrArg Int32.toInt (g211.1 12 7 rfl rfl)).trans e234
        have e237 : (T208 12 6).toInt = (F 12 6).toInt := (congrArg Int32.toInt (g211.1 12 6 rfl rfl)).trans rfl
        have q238 : (1) ≤ (F 12 1).toInt ∧ (F 12 1).toInt ≤ (64) := (show B 1 64 (F 12 1) from hI 12 1)
        have e239 : (8 * (F 12 6)).toInt = (8 * (F 12 6).toInt) := (t_mul cqb_8_8_8 b205 (by decide +kernel) (by decide +kernel) (by decide +kernel)).trans (by rw [cqn_8])
        have q240 : (8) ≤ (8 * (F 12 6)).toInt ∧ (8 * (F 12 6)).toInt ≤ (8) := (show B 8 8 (8 * (F 12 6)) from B_w (B_mul cqb_8_8_8 b205 (by decide +kernel) (by decide +kernel) (by decide +kernel)) (by decide +kernel) (by decide +kernel))
        have e241 : ((F 12 1) + (8 * (F 12 6))).toInt = ((F 12 1).toInt + (8 * (F 12 6).toInt)) := (t_add (show B 1 64 (F 12 1) from hI 12 1) (B_mul cqb_8_8_8 b205 (by decide +kernel) (by decide +kernel) (by decide +kernel)) (by decide +kernel) (by decide +kernel)).trans (by rw [e239])
        have q242 : (9) ≤ ((F 12 1) + (8 * (F 12 6))).toInt ∧ ((F 12 1) + (8 * (F 12 6))).toInt ≤ (72) := (show B 9 72 ((F 12 1) + (8 * (F 12 6))) from B_w (B_add (show B 1 64 (F 12 1) from hI 12 1) (B_mul cqb_8_8_8 b205 (by decide +kernel) (by decide +kernel) (by decide +kernel)) (by decide +kernel) (by decide +kernel)) (by decide +kernel) (by decide +kernel))
        have e243 : (((F 12 1) + (8 * (F 12 6))) - 1).toInt = (((F 12 1).toInt + (8 * (F 12 6).toInt)) - 1) := (t_sub (B_add (show B 1 64 (F 12 1) from hI 12 1) (B_mul cqb_8_8_8 b205 (by decide +kernel) (by decide +kernel) (by decide +kernel)) (by decide +kernel) (by decide +kernel)) cqb_1_1_1 (by decide +kernel) (by decide +kernel)).trans (by rw [e241, cqn_1])
        have q244 : (8) ≤ (((F 12 1) + (8 * (F 12 6))) - 1).toInt ∧ (((F 12 1) + (8 * (F 12 6))) - 1).toInt ≤ (71) := (show B 8 71 (((F 12 1) + (8 * (F 12 6))) - 1) from B_w (B_sub (B_add (show B 1 64 (F 12 1) from hI 12 1) (B_mul cqb_8_8_8 b205 (by decide +kernel) (by decide +kernel) (by decide +kernel)) (by decide +kernel) (by decide +kernel)) cqb_1_1_1 (by decide +kernel) (by decide +kernel)) (by decide +kernel) (by decide +kernel))
        have e245 : ((((F 12 1) + (8 * (F 12 6))) - 1) / (8 * (F 12 6))).toInt = ((((F 12 1).toInt + (8 * (F 12 6).toInt)) - 1) / (8 * (F 12 6).toInt)) := (t_div (B_sub (B_add (show B 1 64 (F 12 1) from hI 12 1) (B_mul cqb_8_8_8 b205 (by decide +kernel) (by decide +kernel) (by decide +kernel)) (by decide +kernel) (by decide +kernel)) cqb_1_1_1 (by decide +kernel) (by decide +kernel)) (B_mul cqb_8_8_8 b205 (by decide +kernel) (by decide +kernel) (by decide +kernel)) (by decide +kernel) (by decide +kernel)).trans (by rw [e243, e239])
        have q246 : (1) ≤ ((((F 12 1) + (8 * (F 12 6))) - 1) / (8 * (F 12 6))).toInt ∧ ((((F 12 1) + (8 * (F 12 6))) - 1) / (8 * (F 12 6))).toInt ≤ (8) := (show B 1 8 ((((F 12 1) + (8 * (F 12 6))) - 1) / (8 * (F 12 6))) from B_div2 (B_sub (B_add (show B 1 64 (F 12 1) from hI 12 1) (B_mul cqb_8_8_8 b205 (by decide +kernel) (by decide +kernel) (by decide +kernel)) (by decide +kernel) (by decide +kernel)) cqb_1_1_1 (by decide +kernel) (by decide +kernel)) (B_mul cqb_8_8_8 b205 (by decide +kernel) (by decide +kernel) (by decide +kernel)) (by decide +kernel) (by decide +kernel) (by decide +kernel) (by decide +kernel))
        have e247 : (T208 12 8).toInt = ((((F 12 1).toInt + (8 * (F 12 6).toInt)) - 1) / (8 * (F 12 6).toInt)) := (congrArg Int32.toInt (g211.1 12 8 rfl rfl)).trans e245
        exact hK hI210 g223 (qf_le (b' := (T208 12 2).toInt) r214 (by omega) (by decide +kernel) (by decide +kernel)) (qf_le (b' := (T208 12 2).toInt) r215 (by omega) (by decide +kernel) (by decide +kernel)) (qf_le (b' := (T208 12 2).toInt) r216 (by omega) (by decide +kernel) (by decide +kernel)) (by show ((T208 12 5).toInt = 1) ∨ ((T208 12 7).toInt ≤ 4); first | with_reducible assumption | omega) (by show ((T208 12 6).toInt = 1) ∨ ((T208 12 8).toInt ≤ 4); first | with_reducible assumption | omega)
      · have hq248 := (nle_lt hc)
        have b249 : B 0 2 (x1_207) := B_w (B_ltL b209 (B_eq (g211.1 12 2 rfl rfl) (show B 1 3 (F 12 2) from hI 12 2)) hq248) (by decide +kernel) (by decide +kernel)
        have q250 : (0) ≤ (x1_207).toInt ∧ (x1_207).toInt ≤ (2) := (show B 0 2 (x1_207) from B_w b249 (by decide +kernel) (by decide +kernel))
        have e251 : (T208 12 2).toInt = (F 12 2).toInt := (congrArg Int32.toInt (g211.1 12 2 rfl rfl)).trans rfl
        have i252 : (x1_207).toInt < (T208 12 2).toInt := i_lt hq248
        refine ⟨(show ¬ ((15 : Nat) = NU) from by decide +kernel), ?_⟩
        refine ⟨(show ¬ ((13 : Nat) = NU) from by decide +kernel), ?_⟩
        refine ⟨(show c_cl UL 13 = 902 from cl_13), ?_⟩
        refine ⟨(show vp_in (x1_207) 3 from vp_B b249 (by decide +kernel) (by decide +kernel)), ?_⟩
        refine up_K (B_eq (g211.1 12 5 rfl rfl) b203) (by decide +kernel) ?_
        refine ⟨(show c_cl UL 15 = 902 from cl_15), ?_⟩
        refine ⟨(show vp_in (x1_207) 3 from vp_B b249 (by decide +kernel) (by decide +kernel)), ?_⟩
        refine ⟨(show ¬ ((16 : Nat) = NU) from by decide +kernel), ?_⟩
        refine ⟨(show ¬ ((14 : Nat) = NU) from by decide +kernel), ?_⟩
        refine ⟨(show c_cl UL 14 = 902 from cl_14), ?_⟩
        refine ⟨(show vp_in (x1_207) 3 from vp_B b249 (by decide +kernel) (by decide +kernel)), ?_⟩
        refine up_K (B_eq (g211.1 12 6 rfl rfl) b205) (by decide +kernel) ?_
        refine ⟨(show c_cl UL 16 = 902 from cl_16), ?_⟩
        refine ⟨(show vp_in (x1_207) 3 from vp_B b249 (by decide +kernel) (by decide +kernel)), ?_⟩
        refine ⟨(show ¬ ((17 : Nat) = NU) from by decide +kernel), ?_⟩
        refine ⟨(show ¬ ((13 : Nat) = NU) from by decide +kernel), ?_⟩
        refine ⟨(show vp_in (x1_207) 3 from vp_B b249 (by decide +kernel) (by decide +kernel)), ?_⟩
        refine ⟨(show c_cl UL 17 = 902 from cl_17), ?_⟩
        refine ⟨(show vp_in (x1_207) 3 from vp_B b249 (by decide +kernel) (by decide +kernel)), ?_⟩
        refine ⟨(show ¬ ((18 : Nat) = NU) from by decide +kernel), ?_⟩
        refine ⟨(show ¬ ((17 : Nat) = NU) from by decide +kernel), ?_⟩
        refine ⟨(show vp_in (x1_207) 3 from vp_B b249 (by decide +kernel) (by decide +kernel)), ?_⟩
        refine ⟨(show ¬ ((14 : Nat) = NU) from by decide +kernel), ?_⟩
        refine ⟨(show vp_in (x1_207) 3 from vp_B b249 (by decide +kernel) (by decide +kernel)), ?_⟩
        refine ⟨(show c_cl UL 18 = 902 from cl_18), ?_⟩
        refine ⟨(show vp_in (x1_207) 3 from vp_B b249 (by decide +kernel) (by decide +kernel)), ?_⟩
        have r253 : 1 ≤ (F 13 x1_207.toNatClampNeg).toInt ∧ (F 13 x1_207.toNatClampNeg).toInt ≤ (F 12 5).toInt := qf_at pre0 (x := x1_207) (by omega) (by omega)
        have hI254 := IMc_u (u := 15) (i := x1_207.toNatClampNeg) (v := ((((T208 12 0) * (T208 13 x1_207.toNatClampNeg)) + (T208 12 5)) - 1) / (T208 12 5)) hI210 (show B 0 64 (((((T208 12 0) * (T208 13 x1_207.toNatClampNeg)) + (T208 12 5)) - 1) / (T208 12 5)) from (B_w (show B 1 64 (((((T208 12 0) * (T208 13 x1_207.toNatClampNeg)) + (T208 12 5)) - 1) / (T208 12 5)) from B_div2 (B_sub (B_add (B_mul (B_eq (g211.1 12 0 rfl rfl) (show B 1 64 (F 12 0) from hI 12 0)) (B_eq (congrFun (g211.2 13 rfl rfl) x1_207.toNatClampNeg) (show B 1 2 (F 13 x1_207.toNatClampNeg) from sB_13 hI b249 (by decide +kernel) (by decide +kernel))) (by decide +kernel) (by decide +kernel) (by decide +kernel)) (B_eq (g211.1 12 5 rfl rfl) b203) (by decide +kernel) (by decide +kernel)) cqb_1_1_1 (by decide +kernel) (by decide +kernel)) (B_eq (g211.1 12 5 rfl rfl) b203) (by decide +kernel) (by decide +kernel) (by decide +kernel) (by decide +kernel)) (by decide +kernel) (by decide +kernel)))
        have r255 : 1 ≤ (F 14 x1_207.toNatClampNeg).toInt ∧ (F 14 x1_207.toNatClampNeg).toInt ≤ (F 12 6).toInt := qf_at pre1 (x := x1_207) (by omega) (by omega)
        have b256 : B 1 1 (F 14 x1_207.toNatClampNeg) := ⟨by omega, by omega⟩
        have hI257 := IMc_u (u := 16) (i := x1_207.toNatClampNeg) (v := ((((T208 12 1) * (T208 14 x1_207.toNatClampNeg)) + (T208 12 6)) - 1) / (T208 12 6)) hI254 (show B 0 64 (((((T208 12 1) * (T208 14 x1_207.toNatClampNeg)) + (T208 12 6)) - 1) / (T208 12 6)) from (B_w (show B 1 64 (((((T208 12 1) * (T208 14 x1_207.toNatClampNeg)) + (T208 12 6)) - 1) / (T208 12 6)) from B_div2 (B_sub (B_add (B_mul (B_eq (g211.1 12 1 rfl rfl) (show B 1 64 (F 12 1) from hI 12 1)) (B_eq (congrFun (g211.2 14 rfl rfl) x1_207.toNatClampNeg) b256) (by decide +kernel) (by decide +kernel) (by decide +kernel)) (B_eq (g211.1 12 6 rfl rfl) b205) (by decide +kernel) (by decide +kernel)) cqb_1_1_1 (by decide +kernel) (by decide +kernel)) (B_eq (g211.1 12 6 rfl rfl) b205) (by decide +kernel) (by decide +kernel) (by decide +kernel) (by decide +kernel)) (by decide +kernel) (by decide +kernel)))
        have hI258 := IMc_u (u := 17) (i := x1_207.toNatClampNeg) (v := (T208 13 x1_207.toNatClampNeg) * (T208 12 7)) hI257 (show B 0 8 ((T208 13 x1_207.toNatClampNeg) * (T208 12 7)) from (B_w (B_mul (B_eq (congrFun (g211.2 13 rfl rfl) x1_207.toNatClampNeg) (show B 1 2 (F 13 x1_207.toNatClampNeg) from sB_13 hI b249 (by decide +kernel) (by decide +kernel))) (B_eq (g211.1 12 7 rfl rfl) (show B 1 4 ((((F 12 0) + (8 * (F 12 5))) - 1) / (8 * (F 12 5))) from B_div2 (B_sub (B_add (show B 1 64 (F 12 0) from hI 12 0) (B_mul cqb_8_8_8 b203 (by decide +kernel) (by decide +kernel) (by decide +kernel)) (by decide +kernel) (by decide +kernel)) cqb_1_1_1 (by decide +kernel) (by decide +kernel)) (B_mul cqb_8_8_8 b203 (by decide +kernel) (by decide +kernel) (by decide +kernel)) (by decide +kernel) (by decide +kernel) (by decide +kernel) (by decide +kernel))) (by decide +kernel) (by decide +kernel) (by decide +kernel)) (by decide +kernel) (by decide +kernel)))
        have hI259 := IMc_u (u := 18) (i := x1_207.toNatClampNeg) (v := (((va_up (va_up (va_up T208 15 (upd (T208 15) x1_207.toNatClampNeg (((((T208 12 0) * (T208 13 x1_207.toNatClampNeg)) + (T208 12 5)) - 1) / (T208 12 5)))) 16 (upd (T208 16) x1_207.toNatClampNeg (((((T208 12 1) * (T208 14 x1_207.toNatClampNeg)) + (T208 12 6)) - 1) / (T208 12 6)))) 17 (upd (T208 17) x1_207.toNatClampNeg ((T208 13 x1_207.toNatClampNeg) * (T208 12 7)))) 17 x1_207.toNatClampNeg) * (T208 14 x1_207.toNatClampNeg)) * (T208 12 8)) hI258 (show B 0 64 ((((va_up (va_up (va_up T208 15 (upd (T208 15) x1_207.toNatClampNeg (((((T208 12 0) * (T208 13 x1_207.toNatClampNeg)) + (T208 12 5)) - 1) / (T208 12 5)))) 16 (upd (T208 16) x1_207.toNatClampNeg (((((T208 12 1) * (T208 14 x1_207.toNatClampNeg)) + (T208 12 6)) - 1) / (T208 12 6)))) 17 (upd (T208 17) x1_207.toNatClampNeg ((T208 13 x1_207.toNatClampNeg) * (T208 12 7)))) 17 x1_207.toNatClampNeg) * (T208 14 x1_207.toNatClampNeg)) * (T208 12 8)) from (B_w (B_mul (B_mul (B_eq (ru_at (f := va_up (va_up T208 15 (upd (T208 15) x1_207.toNatClampNeg (((((T208 12 0) * (T208 13 x1_207.toNatClampNeg)) + (T208 12 5)) - 1) / (T208 12 5)))) 16 (upd (T208 16) x1_207.toNatClampNeg (((((T208 12 1) * (T208 14 x1_207.toNatClampNeg)) + (T208 12 6)) - 1) / (T208 12 6)))) (g := T208 17) (r := 17) (i := x1_207.toNatClampNeg) (v := (T208 13 x1_207.toNatClampNeg) * (T208 12 7))) (B_mul (B_eq (congrFun (g211.2 13 rfl rfl) x1_207.toNatClampNeg) (show B 1 2 (F 13 x1_207.toNatClampNeg) from sB_13 hI b249 (by decide +kernel) (by decide +kernel))) (B_eq (g211.1 12 7 rfl rfl) (show B 1 4 ((((F 12 0) + (8 * (F 12 5))) - 1) / (8 * (F 12 5))) from B_div2 (B_sub (B_add (show B 1 64 (F 12 0) from hI 12 0) (B_mul cqb_8_8_8 b203 (by decide +kernel) (by decide +kernel) (by decide +kernel)) (by decide +kernel) (by decide +kernel)) cqb_1_1_1 (by decide +kernel) (by decide +kernel)) (B_mul cqb_8_8_8 b203 (by decide +kernel) (by decide +kernel) (by decide +kernel)) (by decide +kernel) (by decide +kernel) (by decide +kernel) (by decide +kernel))) (by decide +kernel) (by decide +kernel) (by decide +kernel))) (B_eq (congrFun (g211.2 14 rfl rfl) x1_207.toNatClampNeg) b256) (by decide +kernel) (by decide +kernel) (by decide +kernel)) (B_eq (g211.1 12 8 rfl rfl) (show B 1 8 ((((F 12 1) + (8 * (F 12 6))) - 1) / (8 * (F 12 6))) from B_div2 (B_sub (B_add (show B 1 64 (F 12 1) from hI 12 1) (B_mul cqb_8_8_8 b205 (by decide +kernel) (by decide +kernel) (by decide +kernel)) (by decide +kernel) (by decide +kernel)) cqb_1_1_1 (by decide +kernel) (by decide +kernel)) (B_mul cqb_8_8_8 b205 (by decide +kernel) (by decide +kernel) (by decide +kernel)) (by decide +kernel) (by decide +kernel) (by decide +kernel) (by decide +kernel))) (by decide +kernel) (by decide +kernel) (by decide +kernel)) (by decide +kernel) (by decide +kernel)))
        have g264 := agc_tr (agc_refl (fs := []) (rs := [15, 16, 17, 18]) (F := va_up (va_up F 12 (upd (F 12) 7 ((((F 12 0) + (8 * (F 12 5))) - 1) / (8 * (F 12 5))))) 12 (upd ((va_up F 12 (upd (F 12) 7 ((((F 12 0) + (8 * (F 12 5))) - 1) / (8 * (F 12 5))))) 12) 8 ((((F 12 1) + (8 * (F 12 6))) - 1) / (8 * (F 12 6)))))) g211 (by decide +kernel) (by decide +kernel)
        have g263 := agc_r (u := 15) (w := upd (T208 15) x1_207.toNatClampNeg (((((T208 12 0) * (T208 13 x1_207.toNatClampNeg)) + (T208 12 5)) - 1) / (T208 12 5))) g264 rfl (by decide +kernel)
        have g262 := agc_r (u := 16) (w := upd (T208 16) x1_207.toNatClampNeg (((((T208 12 1) * (T208 14 x1_207.toNatClampNeg)) + (T208 12 6)) - 1) / (T208 12 6))) g263 rfl (by decide +kernel)
        have g261 := agc_r (u := 17) (w := upd (T208 17) x1_207.toNatClampNeg ((T208 13 x1_207.toNatClampNeg) * (T208 12 7))) g262 rfl (by decide +kernel)
        have g260 := agc_r (u := 18) (w := upd (T208 18) x1_207.toNatClampNeg ((((va_up (va_up (va_up T208 15 (upd (T208 15) x1_207.toNatClampNeg (((((T208 12 0) * (T208 13 x1_207.toNatClampNeg)) + (T208 12 5)) - 1) / (T208 12 5)))) 16 (upd (T208 16) x1_207.toNatClampNeg (((((T208 12 1) * (T208 14 x1_207.toNatClampNeg)) + (T208 12 6)) - 1) / (T208 12 6)))) 17 (upd (T208 17) x1_207.toNatClampNeg ((T208 13 x1_207.toNatClampNeg) * (T208 12 7)))) 17 x1_207.toNatClampNeg) * (T208 14 x1_207.toNatClampNeg)) * (T208 12 8))) g261 rfl (by decide +kernel)
        have e265 : (x1_207 + 1).toInt = ((x1_207).toInt + 1) := (t_add b249 cqb_1_1_1 (by decide +kernel) (by decide +kernel)).trans (by rw [cqn_1])
        have q266 : (1) ≤ (x1_207 + 1).toInt ∧ (x1_207 + 1).toInt ≤ (3) := (show B 1 3 (x1_207 + 1) from B_w (B_add b249 cqb_1_1_1 (by decide +kernel) (by decide +kernel)) (by decide +kernel) (by decide +kernel))
        have q267 : (1) ≤ (F 12 0).toInt ∧ (F 12 0).toInt ≤ (64) := (show B 1 64 (F 12 0) from hI 12 0)
        have e268 : (T208 12 0).toInt = (F 12 0).toInt := (congrArg Int32.toInt (g211.1 12 0 rfl rfl)).trans rfl
        have q269 : (1) ≤ (F 13 x1_207.toNatClampNeg).toInt ∧ (F 13 x1_207.toNatClampNeg).toInt ≤ (2) := (show B 1 2 (F 13 x1_207.toNatClampNeg) from sB_13 hI b249 (by decide +kernel) (by decide +kernel))
        have e270 : (T208 13 x1_207.toNatClampNeg).toInt = (F 13 x1_207.toNatClampNeg).toInt := (congrArg Int32.toInt (congrFun (g211.2 13 rfl rfl) x1_207.toNatClampNeg)).trans rfl
        have e271 : ((T208 12 0) * (T208 13 x1_207.toNatClampNeg)).toInt = ((F 12 0).toInt * (F 13 x1_207.toNatClampNeg).toInt) := (t_mul (B_eq (g211.1 12 0 rfl rfl) (show B 1 64 (F 12 0) from hI 12 0)) (B_eq (congrFun (g211.2 13 rfl rfl) x1_207.toNatClampNeg) (show B 1 2 (F 13 x1_207.toNatClampNeg) from sB_13 hI b249 (by decide +kernel) (by decide +kernel))) (by decide +kernel) (by decide +kernel) (by decide +kernel)).trans (by rw [e268, e270])
        have q272 : (1) ≤ ((T208 12 0) * (T208 13 x1_207.toNatClampNeg)).toInt ∧ ((T208 12 0) * (T208 13 x1_207.toNatClampNeg)).toInt ≤ (128) := (show B 1 128 ((T208 12 0) * (T208 13 x1_207.toNatClampNeg)) from B_w (B_mul (B_eq (g211.1 12 0 rfl rfl) (show B 1 64 (F 12 0) from hI 12 0)) (B_eq (congrFun (g211.2 13 rfl rfl) x1_207.toNatClampNeg) (show B 1 2 (F 13 x1_207.toNatClampNeg) from sB_13 hI b249 (by decide +kernel) (by decide +kernel))) (by decide +kernel) (by decide +kernel) (by decide +kernel)) (by decide +kernel) (by decide +kernel))
        have e273 : (T208 12 5).toInt = (F 12 5).toInt := (congrArg Int32.toInt (g211.1 12 5 rfl rfl)).trans rfl
        have e274 : (((T208 12 0) * (T208 13 x1_207.toNatClampNeg)) + (T208 12 5)).toInt = (((F 12 0).toInt * (F 13 x1_207.toNatClampNeg).toInt) + (F 12 5).toInt) := (t_add (B_mul (B_eq (g211.1 12 0 rfl rfl) (show B 1 64 (F 12 0) from hI 12 0)) (B_eq (congrFun (g211.2 13 rfl rfl) x1_207.toNatClampNeg) (show B 1 2 (F 13 x1_207.toNatClampNeg) from sB_13 hI b249 (by decide +kernel) (by decide +kernel))) (by decide +kernel) (by decide +kernel) (by decide +kernel)) (B_eq (g211.1 12 5 rfl rfl) b203) (by decide +kernel) (by decide +kernel)).trans (by rw [e271, e273])
        have q275 : (3) ≤ (((T208 12 0) * (T208 13 x1_207.toNatClampNeg)) + (T208 12 5)).toInt ∧ (((T208 12 0) * (T208 13 x1_207.toNatClampNeg)) + (T208 12 5)).toInt ≤ (130) := (show B 3 130 (((T208 12 0) * (T208 13 x1_207.toNatClampNeg)) + (T208 12 5)) from B_w (B_add (B_mul (B_eq (g211.1 12 0 rfl rfl) (show B 1 64 (F 12 0) from hI 12 0)) (B_eq (congrFun (g211.2 13 rfl rfl) x1_207.toNatClampNeg) (show B 1 2 (F 13 x1_207.toNatClampNeg) from sB_13 hI b249 (by decide +kernel) (by decide +kernel))) (by decide +kernel) (by decide +kernel) (by decide +kernel)) (B_eq (g211.1 12 5 rfl rfl) b203) (by decide +kernel) (by decide +kernel)) (by decide +kernel) (by decide +kernel))
        have e276 : ((((T208 12 0) * (T208 13 x1_207.toNatClampNeg)) + (T208 12 5)) - 1).toInt = ((((F 12 0).toInt * (F 13 x1_207.toNatClampNeg).toInt) + (F 12 5).toInt) - 1) := (t_sub (B_add (B_mul (B_eq (g211.1 12 0 rfl rfl) (show B 1 64 (F 12 0) from hI 12 0)) (B_eq (congrFun (g211.2 13 rfl rfl) x1_207.toNatClampNeg) (show B 1 2 (F 13 x1_207.toNatClampNeg) from sB_13 hI b249 (by decide +kernel) (by decide +kernel))) (by decide +kernel) (by decide +kernel) (by decide +kernel)) (B_eq (g211.1 12 5 rfl rfl) b203) (by decide +kernel) (by decide +kernel)) cqb_1_1_1 (by decide +kernel) (by decide +kernel)).trans (by rw [e274, cqn_1])
        have q277 : (2) ≤ ((((T208 12 0) * (T208 13 x1_207.toNatClampNeg)) + (T208 12 5)) - 1).toInt ∧ ((((T208 12 0) * (T208 13 x1_207.toNatClampNeg)) + (T208 12 5)) - 1).toInt ≤ (129) := (show B 2 129 ((((T208 12 0) * (T208 13 x1_207.toNatClampNeg)) + (T208 12 5)) - 1) from B_w (B_sub (B_add (B_mul (B_eq (g211.1 12 0 rfl rfl) (show B 1 64 (F 12 0) from hI 12 0)) (B_eq (congrFun (g211.2 13 rfl rfl) x1_207.toNatClampNeg) (show B 1 2 (F 13 x1_207.toNatClampNeg) from sB_13 hI b249 (by decide +kernel) (by decide +kernel))) (by decide +kernel) (by decide +kernel) (by decide +kernel)) (B_eq (g211.1 12 5 rfl rfl) b203) (by decide +kernel) (by decide +kernel)) cqb_1_1_1 (by decide +kernel) (by decide +kernel)) (by decide +kernel) (by decide +kernel))
        have e278 : (((((T208 12 0) * (T208 13 x1_207.toNatClampNeg)) + (T208 12 5)) - 1) / (T208 12 5)).toInt = (((((F 12 0).toInt * (F 13 x1_207.toNatClampNeg).toInt) + (F 12 5).toInt) - 1) / (F 12 5).toInt) := (t_div (B_sub (B_add (B_mul (B_eq (g211.1 12 0 rfl rfl) (show B 1 64 (F 12 0) from hI 12 0)) (B_eq (congrFun (g211.2 13 rfl rfl) x1_207.toNatClampNeg) (show B 1 2 (F 13 x1_207.toNatClampNeg) from sB_13 hI b249 (by decide +kernel) (by decide +kernel))) (by decide +kernel) (by decide +kernel) (by decide +kernel)) (B_eq (g211.1 12 5 rfl rfl) b203) (by decide +kernel) (by decide +kernel)) cqb_1_1_1 (by decide +kernel) (by decide +kernel)) (B_eq (g211.1 12 5 rfl rfl) b203) (by decide +kernel) (by decide +kernel)).trans (by rw [e276, e273])
        have q279 : (1) ≤ (((((T208 12 0) * (T208 13 x1_207.toNatClampNeg)) + (T208 12 5)) - 1) / (T208 12 5)).toInt ∧ (((((T208 12 0) * (T208 13 x1_207.toNatClampNeg)) + (T208 12 5)) - 1) / (T208 12 5)).toInt ≤ (64) := (show B 1 64 (((((T208 12 0) * (T208 13 x1_207.toNatClampNeg)) + (T208 12 5)) - 1) / (T208 12 5)) from B_div2 (B_sub (B_add (B_mul (B_eq (g211.1 12 0 rfl rfl) (show B 1 64 (F 12 0) from hI 12 0)) (B_eq (congrFun (g211.2 13 rfl rfl) x1_207.toNatClampNeg) (show B 1 2 (F 13 x1_207.toNatClampNeg) from sB_13 hI b249 (by decide +kernel) (by decide +kernel))) (by decide +kernel) (by decide +kernel) (by decide +kernel)) (B_eq (g211.1 12 5 rfl rfl) b203) (by decide +kernel) (by decide +kernel)) cqb_1_1_1 (by decide +kernel) (by decide +kernel)) (B_eq (g211.1 12 5 rfl rfl) b203) (by decide +kernel) (by decide +kernel) (by decide +kernel) (by decide +kernel))
        have q280 : (1) ≤ (F 12 1).toInt ∧ (F 12 1).toInt ≤ (64) := (show B 1 64 (F 12 1) from hI 12 1)
        have e281 : (T208 12 1).toInt = (F 12 1).toInt := (congrArg Int32.toInt (g211.1 12 1 rfl rfl)).trans rfl
        have q282 : (1) ≤ (F 14 x1_207.toNatClampNeg).toInt ∧ (F 14 x1_207.toNatClampNeg).toInt ≤ (1) := (show B 1 1 (F 14 x1_207.toNatClampNeg) from B_w b256 (by decide +kernel) (by decide +kernel))
        have e283 : (T208 14 x1_207.toNatClampNeg).toInt = (F 14 x1_207.toNatClampNeg).toInt := (congrArg Int32.toInt (congrFun (g211.2 14 rfl rfl) x1_207.toNatClampNeg)).trans rfl
        have e284 : ((T208 12 1) * (T208 14 x1_207.toNatClampNeg)).toInt = ((F 12 1).toInt * (F 14 x1_207.toNatClampNeg).toInt) := (t_mul (B_eq (g211.1 12 1 rfl rfl) (show B 1 64 (F 12 1) from hI 12 1)) (B_eq (congrFun (g211.2 14 rfl rfl) x1_207.toNatClampNeg) b256) (by decide +kernel) (by decide +kernel) (by decide +kernel)).trans (by rw [e281, e283])
        have q285 : (1) ≤ ((T208 12 1) * (T208 14 x1_207.toNatClampNeg)).toInt ∧ ((T208 12 1) * (T208 14 x1_207.toNatClampNeg)).toInt ≤ (64) := (show B 1 64 ((T208 12 1) * (T208 14 x1_207.toNatClampNeg)) from B_w (B_mul (B_eq (g211.1 12 1 rfl rfl) (show B 1 64 (F 12 1) from hI 12 1)) (B_eq (congrFun (g211.2 14 rfl rfl) x1_207.toNatClampNeg) b256) (by decide +kernel) (by decide +kernel) (by decide +kernel)) (by decide +kernel) (by decide +kernel))
        have e286 : (T208 12 6).toInt = (F 12 6).toInt := (congrArg Int32.toInt (g211.1 12 6 rfl rfl)).trans rfl
        have e287 : (((T208 12 1) * (T208 14 x1_207.toNatClampNeg)) + (T208 12 6)).toInt = (((F 12 1).toInt * (F 14 x1_207.toNatClampNeg).toInt) + (F 12 6).toInt) := (t_add (B_mul (B_eq (g211.1 12 1 rfl rfl) (show B 1 64 (F 12 1) from hI 12 1)) (B_eq (congrFun (g211.2 14 rfl rfl) x1_207.toNatClampNeg) b256) (by decide +kernel) (by decide +kernel) (by decide +kernel)) (B_eq (g211.1 12 6 rfl rfl) b205) (by decide +kernel) (by decide +kernel)).trans (by rw [e284, e286])
        have q288 : (2) ≤ (((T208 12 1) * (T208 14 x1_207.toNatClampNeg)) + (T208 12 6)).toInt ∧ (((T208 12 1) * (T208 14 x1_207.toNatClampNeg)) + (T208 12 6)).toInt ≤ (65) := (show B 2 65 (((T208 12 1) * (T208 14 x1_207.toNatClampNeg)) + (T208 12 6)) from B_w (B_add (B_mul (B_eq (g211.1 12 1 rfl rfl) (show B 1 64 (F 12 1) from hI 12 1)) (B_eq (congrFun (g211.2 14 rfl rfl) x1_207.toNatClampNeg) b256) (by decide +kernel) (by decide +kernel) (by decide +kernel)) (B_eq (g211.1 12 6 rfl rfl) b205) (by decide +kernel) (by decide +kernel)) (by decide +kernel) (by decide +kernel))
        have e289 : ((((T208 12 1) * (T208 14 x1_207.toNatClampNeg)) + (T208 12 6)) - 1).toInt = ((((F 12 1).toInt * (F 14 x1_207.toNatClampNeg).toInt) + (F 12 6).toInt) - 1) := (t_sub (B_add (B_mul (B_eq (g211.1 12 1 rfl rfl) (show B 1 64 (F 12 1) from hI 12 1)) (B_eq (congrFun (g211.2 14 rfl rfl) x1_207.toNatClampNeg) b256) (by decide +kernel) (by decide +kernel) (by decide +kernel)) (B_eq (g211.1 12 6 rfl rfl) b205) (by decide +kernel) (by decide +kernel)) cqb_1_1_1 (by decide +kernel) (by decide +kernel)).trans (by rw [e287, cqn_1])
        have q290 : (1) ≤ ((((T208 12 1) * (T208 14 x1_207.toNatClampNeg)) + (T208 12 6)) - 1).toInt ∧ ((((T208 12 1) * (T208 14 x1_207.toNatClampNeg)) + (T208 12 6)) - 1).toInt ≤ (64) := (show B 1 64 ((((T208 12 1) * (T208 14 x1_207.toNatClampNeg)) + (T208 12 6)) - 1) from B_w (B_sub (B_add (B_mul (B_eq (g211.1 12 1 rfl rfl) (show B 1 64 (F 12 1) from hI 12 1)) (B_eq (congrFun (g211.2 14 rfl rfl) x1_207.toNatClampNeg) b256) (by decide +kernel) (by decide +kernel) (by decide +kernel)) (B_eq (g211.1 12 6 rfl rfl) b205) (by decide +kernel) (by decide +kernel)) cqb_1_1_1 (by decide +kernel) (by decide +kernel)) (by decide +kernel) (by decide +kernel))
        have e291 : (((((T208 12 1) * (T208 14 x1_207.toNatClampNeg)) + (T208 12 6)) - 1) / (T208 12 6)).toInt = (((((F 12 1).toInt * (F 14 x1_207.toNatClampNeg).toInt) + (F 12 6).toInt) - 1) / (F 12 6).toInt) := (t_div (B_sub (B_add (B_mul (B_eq (g211.1 12 1 rfl rfl) (show B 1 64 (F 12 1) from hI 12 1)) (B_eq (congrFun (g211.2 14 rfl rfl) x1_207.toNatClampNeg) b256) (by decide +kernel) (by decide +kernel) (by decide +kernel)) (B_eq (g211.1 12 6 rfl rfl) b205) (by decide +kernel) (by decide +kernel)) cqb_1_1_1 (by decide +kernel) (by decide +kernel)) (B_eq (g211.1 12 6 rfl rfl) b205) (by decide +kernel) (by decide +kernel)).trans (by rw [e289, e286])
        have q292 : (1) ≤ (((((T208 12 1) * (T208 14 x1_207.toNatClampNeg)) + (T208 12 6)) - 1) / (T208 12 6)).toInt ∧ (((((T208 12 1) * (T208 14 x1_207.toNatClampNeg)) + (T208 12 6)) - 1) / (T208 12 6)).toInt ≤ (64) := (show B 1 64 (((((T208 12 1) * (T208 14 x1_207.toNatClampNeg)) + (T208 12 6)) - 1) / (T208 12 6)) from B_div2 (B_sub (B_add (B_mul (B_eq (g211.1 12 1 rfl rfl) (show B 1 64 (F 12 1) from hI 12 1)) (B_eq (congrFun (g211.2 14 rfl rfl) x1_207.toNatClampNeg) b256) (by decide +kernel) (by decide +kernel) (by decide +kernel)) (B_eq (g211.1 12 6 rfl rfl) b205) (by decide +kernel) (by decide +kernel)) cqb_1_1_1 (by decide +kernel) (by decide +kernel)) (B_eq (g211.1 12 6 rfl rfl) b205) (by decide +kernel) (by decide +kernel) (by decide +kernel) (by decide +kernel))
        have e293 : (8 * (F 12 5)).toInt = (8 * (F 12 5).toInt) := (t_mul cqb_8_8_8 b203 (by decide +kernel) (by decide +kernel) (by decide +kernel)).trans (by rw [cqn_8])
        have q294 : (16) ≤ (8 * (F 12 5)).toInt ∧ (8 * (F 12 5)).toInt ≤ (16) := (show B 16 16 (8 * (F 12 5)) from B_w (B_mul cqb_8_8_8 b203 (by decide +kernel) (by decide +kernel) (by decide +kernel)) (by decide +kernel) (by decide +kernel))
        have e295 : ((F 12 0) + (8 * (F 12 5))).toInt = ((F 12 0).toInt + (8 * (F 12 5).toInt)) := (t_add (show B 1 64 (F 12 0) from hI 12 0) (B_mul cqb_8_8_8 b203 (by decide +kernel) (by decide +kernel) (by decide +kernel)) (by decide +kernel) (by decide +kernel)).trans (by rw [e293])
        have q296 : (17) ≤ ((F 12 0) + (8 * (F 12 5))).toInt ∧ ((F 12 0) + (8 * (F 12 5))).toInt ≤ (80) := (show B 17 80 ((F 12 0) + (8 * (F 12 5))) from B_w (B_add (show B 1 64 (F 12 0) from hI 12 0) (B_mul cqb_8_8_8 b203 (by decide +kernel) (by decide +kernel) (by decide +kernel)) (by decide +kernel) (by decide +kernel)) (by decide +kernel) (by decide +kernel))
        have e297 : (((F 12 0) + (8 * (F 12 5))) - 1).toInt = (((F 12 0).toInt + (8 * (F 12 5).toInt)) - 1) := (t_sub (B_add (show B 1 64 (F 12 0) from hI 12 0) (B_mul cqb_8_8_8 b203 (by decide +kernel) (by decide +kernel) (by decide +kernel)) (by decide +kernel) (by decide +kernel)) cqb_1_1_1 (by decide +kernel) (by decide +kernel)).trans (by rw [e295, cqn_1])
        have q298 : (16) ≤ (((F 12 0) + (8 * (F 12 5))) - 1).toInt ∧ (((F 12 0) + (8 * (F 12 5))) - 1).toInt ≤ (79) := (show B 16 79 (((F 12 0) + (8 * (F 12 5))) - 1) from B_w (B_sub (B_add (show B 1 64 (F 12 0) from hI 12 0) (B_mul cqb_8_8_8 b203 (by decide +kernel) (by decide +kernel) (by decide +kernel)) (by decide +kernel) (by decide +kernel)) cqb_1_1_1 (by decide +kernel) (by decide +kernel)) (by decide +kernel) (by decide +kernel))
        have e299 : ((((F 12 0) + (8 * (F 12 5))) - 1) / (8 * (F 12 5))).toInt = ((((F 12 0).toInt + (8 * (F 12 5).toInt)) - 1) / (8 * (F 12 5).toInt)) := (t_div (B_sub (B_add (show B 1 64 (F 12 0) from hI 12 0) (B_mul cqb_8_8_8 b203 (by decide +kernel) (by decide +kernel) (by decide +kernel)) (by decide +kernel) (by decide +kernel)) cqb_1_1_1 (by decide +kernel) (by decide +kernel)) (B_mul cqb_8_8_8 b203 (by decide +kernel) (by decide +kernel) (by decide +kernel)) (by decide +kernel) (by decide +kernel)).trans (by rw [e297, e293])
        have q300 : (1) ≤ ((((F 12 0) + (8 * (F 12 5))) - 1) / (8 * (F 12 5))).toInt ∧ ((((F 12 0) + (8 * (F 12 5))) - 1) / (8 * (F 12 5))).toInt ≤ (4) := (show B 1 4 ((((F 12 0) + (8 * (F 12 5))) - 1) / (8 * (F 12 5))) from B_div2 (B_sub (B_add (show B 1 64 (F 12 0) from hI 12 0) (B_mul cqb_8_8_8 b203 (by decide +kernel) (by decide +kernel) (by decide +kernel)) (by decide +kernel) (by decide +kernel)) cqb_1_1_1 (by decide +kernel) (by decide +kernel)) (B_mul cqb_8_8_8 b203 (by decide +kernel) (by decide +kernel) (by decide +kernel)) (by decide +kernel) (by decide +kernel) (by decide +kernel) (by decide +kernel))
        have e301 : (T208 12 7).toInt = ((((F 12 0).toInt + (8 * (F 12 5).toInt)) - 1) / (8 * (F 12 5).toInt)) := (congrArg Int32.toInt (g211.1 12 7 rfl rfl)).trans e299
        have e302 : ((T208 13 x1_207.toNatClampNeg) * (T208 12 7)).toInt = ((F 13 x1_207.toNatClampNeg).toInt * ((((F 12 0).toInt + (8 * (F 12 5).toInt)) - 1) / (8 * (F 12 5).toInt))) := (t_mul (B_eq (congrFun (g211.2 13 rfl rfl) x1_207.toNatClampNeg) (show B 1 2 (F 13 x1_207.toNatClampNeg) from sB_13 hI b249 (by decide +kernel) (by decide +kernel))) (B_eq (g211.1 12 7 rfl rfl) (show B 1 4 ((((F 12 0) + (8 * (F 12 5))) - 1) / (8 * (F 12 5))) from B_div2 (B_sub (B_add (show B 1 64 (F 12 0) from hI 12 0) (B_mul cqb_8_8_8 b203 (by decide +kernel) (by decide +kernel) (by decide +kernel)) (by decide +kernel) (by decide +kernel)) cqb_1_1_1 (by decide +kernel) (by decide +kernel)) (B_mul cqb_8_8_8 b203 (by decide +kernel) (by decide +kernel) (by decide +kernel)) (by decide +kernel) (by decide +kernel) (by decide +kernel) (by decide +kernel))) (by decide +kernel) (by decide +kernel) (by decide +kernel)).trans (by rw [e270, e301])
        have q303 : (1) ≤ ((T208 13 x1_207.toNatClampNeg) * (T208 12 7)).toInt ∧ ((T208 13 x1_207.toNatClampNeg) * (T208 12 7)).toInt ≤ (8) := (show B 1 8 ((T208 13 x1_207.toNatClampNeg) * (T208 12 7)) from B_w (B_mul (B_eq (congrFun (g211.2 13 rfl rfl) x1_207.toNatClampNeg) (show B 1 2 (F 13 x1_207.toNatClampNeg) from sB_13 hI b249 (by decide +kernel) (by decide +kernel))) (B_eq (g211.1 12 7 rfl rfl) (show B 1 4 ((((F 12 0) + (8 * (F 12 5))) - 1) / (8 * (F 12 5))) from B_div2 (B_sub (B_add (show B 1 64 (F 12 0) from hI 12 0) (B_mul cqb_8_8_8 b203 (by decide +kernel) (by decide +kernel) (by decide +kernel)) (by decide +kernel) (by decide +kernel)) cqb_1_1_1 (by decide +kernel) (by decide +kernel)) (B_mul cqb_8_8_8 b203 (by decide +kernel) (by decide +kernel) (by decide +kernel)) (by decide +kernel) (by decide +kernel) (by decide +kernel) (by decide +kernel))) (by decide +kernel) (by decide +kernel) (by decide +kernel)) (by decide +kernel) (by decide +kernel))
        exact hR38 ⟨(B_w (B_add b249 cqb_1_1_1 (by decide +kernel) (by decide +kernel)) (by decide +kernel) (by decide +kernel)), _, _, rfl, hI259, g260, (qf_ext (x := x1_207) (b' := (x1_207 + 1).toInt) r214 (fun _ => (B_w (show B 1 64 (((((T208 12 0) * (T208 13 x1_207.toNatClampNeg)) + (T208 12 5)) - 1) / (T208 12 5)) from B_div2 (B_sub (B_add (B_mul (B_eq (g211.1 12 0 rfl rfl) (show B 1 64 (F 12 0) from hI 12 0)) (B_eq (congrFun (g211.2 13 rfl rfl) x1_207.toNatClampNeg) (show B 1 2 (F 13 x1_207.toNatClampNeg) from sB_13 hI b249 (by decide +kernel) (by decide +kernel))) (by decide +kernel) (by decide +kernel) (by decide +kernel)) (B_eq (g211.1 12 5 rfl rfl) b203) (by decide +kernel) (by decide +kernel)) cqb_1_1_1 (by decide +kernel) (by decide +kernel)) (B_eq (g211.1 12 5 rfl rfl) b203) (by decide +kernel) (by decide +kernel) (by decide +kernel) (by decide +kernel)) (by decide +kernel) (by decide +kernel))) (by omega) (by omega) (by omega)), (qf_ext (x := x1_207) (b' := (x1_207 + 1).toInt) r215 (fun _ => (B_w (show B 1 64 (((((T208 12 1) * (T208 14 x1_207.toNatClampNeg)) + (T208 12 6)) - 1) / (T208 12 6)) from B_div2 (B_sub (B_add (B_mul (B_eq (g211.1 12 1 rfl rfl) (show B 1 64 (F 12 1) from hI 12 1)) (B_eq (congrFun (g211.2 14 rfl rfl) x1_207.toNatClampNeg) b256) (by decide +kernel) (by decide +kernel) (by decide +kernel)) (B_eq (g211.1 12 6 rfl rfl) b205) (by decide +kernel) (by decide +kernel)) cqb_1_1_1 (by decide +kernel) (by decide +kernel)) (B_eq (g211.1 12 6 rfl rfl) b205) (by decide +kernel) (by decide +kernel) (by decide +kernel) (by decide +kernel)) (by decide +kernel) (by decide +kernel))) (by omega) (by omega) (by omega)), (qf_ext (x := x1_207) (b' := (x1_207 + 1).toInt) r216 (fun _ => (B_w (B_mul (B_eq (congrFun (g211.2 13 rfl rfl) x1_207.toNatClampNeg) (show B 1 2 (F 13 x1_207.toNatClampNeg) from sB_13 hI b249 (by decide +kernel) (by decide +kernel))) (B_eq (g211.1 12 7 rfl rfl) (show B 1 4 ((((F 12 0) + (8 * (F 12 5))) - 1) / (8 * (F 12 5))) from B_div2 (B_sub (B_add (show B 1 64 (F 12 0) from hI 12 0) (B_mul cqb_8_8_8 b203 (by decide +kernel) (by decide +kernel) (by decide +kernel)) (by decide +kernel) (by decide +kernel)) cqb_1_1_1 (by decide +kernel) (by decide +kernel)) (B_mul cqb_8_8_8 b203 (by decide +kernel) (by decide +kernel) (by decide +kernel)) (by decide +kernel) (by decide +kernel) (by decide +kernel) (by decide +kernel))) (by decide +kernel) (by decide +kernel) (by decide +kernel)) (by decide +kernel) (by decide +kernel))) (by omega) (by omega) (by omega))⟩ (by show (3 - (x1_207 + 1).toInt).toNat < (3 - x1_207.toInt).toNat; omega)
    · have b304 : B 2 2 (F 12 6) := B_eq hcs cqb_2_2_2
      have q305 : (2) ≤ (F 12 6).toInt ∧ (F 12 6).toInt ≤ (2) := (show B 2 2 (F 12 6) from B_w b304 (by decide +kernel) (by decide +kernel))
      refine up_K (B_mul cqb_8_8_8 b203 (by decide +kernel) (by decide +kernel) (by decide +kernel)) (by decide +kernel) ?_
      refine up_K (B_mul cqb_8_8_8 b304 (by decide +kernel) (by decide +kernel) (by decide +kernel)) (by decide +kernel) ?_
      have hI311 := IMc_u (u := 12) (i := 7) (v := (((F 12 0) + (8 * (F 12 5))) - 1) / (8 * (F 12 5))) hI (show B 1 8 ((((F 12 0) + (8 * (F 12 5))) - 1) / (8 * (F 12 5))) from (B_w (show B 1 4 ((((F 12 0) + (8 * (F 12 5))) - 1) / (8 * (F 12 5))) from B_div2 (B_sub (B_add (show B 1 64 (F 12 0) from hI 12 0) (B_mul cqb_8_8_8 b203 (by decide +kernel) (by decide +kernel) (by decide +kernel)) (by decide +kernel) (by decide +kernel)) cqb_1_1_1 (by decide +kernel) (by decide +kernel)) (B_mul cqb_8_8_8 b203 (by decide +kernel) (by decide +kernel) (by decide +kernel)) (by decide +kernel) (by decide +kernel) (by decide +kernel) (by decide +kernel)) (by decide +kernel) (by decide +kernel)))
      have hI312 := IMc_u (u := 12) (i := 8) (v := (((F 12 1) + (8 * (F 12 6))) - 1) / (8 * (F 12 6))) hI311 (show B 1 8 ((((F 12 1) + (8 * (F 12 6))) - 1) / (8 * (F 12 6))) from (B_w (show B 1 4 ((((F 12 1) + (8 * (F 12 6))) - 1) / (8 * (F 12 6))) from B_div2 (B_sub (B_add (show B 1 64 (F 12 1) from hI 12 1) (B_mul cqb_8_8_8 b304 (by decide +kernel) (by decide +kernel) (by decide +kernel)) (by decide +kernel) (by decide +kernel)) cqb_1_1_1 (by decide +kernel) (by decide +kernel)) (B_mul cqb_8_8_8 b304 (by decide +kernel) (by decide +kernel) (by decide +kernel)) (by decide +kernel) (by decide +kernel) (by decide +kernel) (by decide +kernel)) (by decide +kernel) (by decide +kernel)))
      refine ⟨fun yx1 yS => B 0 3 yx1 ∧ ∃ (T307 : cF) (LT307 : cL), yS = (T307, LT307, PC a b P) ∧ IMc T307 ∧ agc [] [15, 16, 17, 18] (va_up (va_up F 12 (upd (F 12) 7 ((((F 12 0) + (8 * (F 12 5))) - 1) / (8 * (F 12 5))))) 12 (upd ((va_up F 12 (upd (F 12) 7 ((((F 12 0) + (8 * (F 12 5))) - 1) / (8 * (F 12 5))))) 12) 8 ((((F 12 1) + (8 * (F 12 6))) - 1) / (8 * (F 12 6))))) T307 ∧ (qf (T307 15) 0 yx1.toInt 1 64) ∧ (qf (T307 16) 0 yx1.toInt 1 64) ∧ (qf (T307 17) 0 yx1.toInt 1 8), fun yx1 yS => (3 - yx1.toInt).toNat, ⟨(B_w cqb_0_0_0 (by decide +kernel) (by decide +kernel)), _, _, rfl, hI312, (agc_refl (fs := []) (rs := [15, 16, 17, 18]) (F := va_up (va_up F 12 (upd (F 12) 7 ((((F 12 0) + (8 * (F 12 5))) - 1) / (8 * (F 12 5))))) 12 (upd ((va_up F 12 (upd (F 12) 7 ((((F 12 0) + (8 * (F 12 5))) - 1) / (8 * (F 12 5))))) 12) 8 ((((F 12 1) + (8 * (F 12 6))) - 1) / (8 * (F 12 6)))))), (qf_0 (b := 0) (by omega)), (qf_0 (b := 0) (by omega)), (qf_0 (b := 0) (by omega))⟩, fun x1_306 ST307 hIv => ?_⟩
      obtain ⟨b308, T307, LT307, rfl, hI309, g310, r313, r314, r315⟩ := hIv
      suffices hs : ∀ (R38 : Int32 → cs → Prop), (∀ zx1 zS, (B 0 3 zx1 ∧ ∃ (T307 : cF) (LT307 : cL), zS = (T307, LT307, PC a b P) ∧ IMc T307 ∧ agc [] [15, 16, 17, 18] (va_up (va_up F 12 (upd (F 12) 7 ((((F 12 0) + (8 * (F 12 5))) - 1) / (8 * (F 12 5))))) 12 (upd ((va_up F 12 (upd (F 12) 7 ((((F 12 0) + (8 * (F 12 5))) - 1) / (8 * (F 12 5))))) 12) 8 ((((F 12 1) + (8 * (F 12 6))) - 1) / (8 * (F 12 6))))) T307 ∧ (qf (T307 15) 0 zx1.toInt 1 64) ∧ (qf (T307 16) 0 zx1.toInt 1 64) ∧ (qf (T307 17) 0 zx1.toInt 1 8)) → (3 - zx1.toInt).toNat < (3 - x1_306.toInt).toNat → R38 zx1 zS) → b_Pi_measure_38 UL 12 x1_306 (T307, LT307, PC a b P) R38 K from hs _ (fun _ _ h1 h2 => ⟨h1, h2⟩)
      intro R38 hR380
      have hR38 := fun {zx1} {zS} => hR380 zx1 zS
      have q316 : (0) ≤ (x1_306).toInt ∧ (x1_306).toInt ≤ (3) := (show B 0 3 (x1_306) from B_w b308 (by decide +kernel) (by decide +kernel))
      unfold b_Pi_measure_38
      refine ⟨fun hc => ?_, fun hc => ?_⟩
      · have hq317 := hc
        have b318 : B 1 3 (x1_306) := B_w (B_leR (B_eq (g310.1 12 2 rfl rfl) (show B 1 3 (F 12 2) from hI 12 2)) b308 hq317) (by decide +kernel) (by decide +kernel)
        have q319 : (1) ≤ (x1_306).toInt ∧ (x1_306).toInt ≤ (3) := (show B 1 3 (x1_306) from B_w b318 (by decide +kernel) (by decide +kernel))
        have e320 : (T307 12 2).toInt = (F 12 2).toInt := (congrArg Int32.toInt (g310.1 12 2 rfl rfl)).trans rfl
        have i321 : (T307 12 2).toInt ≤ (x1_306).toInt := i_le hq317
        have g324 := agc_f (u := 12) (k := 7) (v := (((F 12 0) + (8 * (F 12 5))) - 1) / (8 * (F 12 5))) (agc_refl (fs := [1207, 1208]) (rs := [15, 16, 17, 18]) (F := F)) rfl (by decide +kernel)
        have g323 := agc_f (u := 12) (k := 8) (v := (((F 12 1) + (8 * (F 12 6))) - 1) / (8 * (F 12 6))) g324 rfl (by decide +kernel)
        have g322 := agc_tr g323 g310 (by decide +kernel) (by decide +kernel)
        have e325 : (T307 12 5).toInt = (F 12 5).toInt := (congrArg Int32.toInt (g310.1 12 5 rfl rfl)).trans rfl
        have q326 : (1) ≤ (F 12 0).toInt ∧ (F 12 0).toInt ≤ (64) := (show B 1 64 (F 12 0) from hI 12 0)
        have e327 : (8 * (F 12 5)).toInt = (8 * (F 12 5).toInt) := (t_mul cqb_8_8_8 b203 (by decide +kernel) (by decide +kernel) (by decide +kernel)).trans (by rw [cqn_8])
        have q328 : (16) ≤ (8 * (F 12 5)).toInt ∧ (8 * (F 12 5)).toInt ≤ (16) := (show B 16 16 (8 * (F 12 5)) from B_w (B_mul cqb_8_8_8 b203 (by decide +kernel) (by decide +kernel) (by decide +kernel)) (by decide +kernel) (by decide +kernel))
        have e329 : ((F 12 0) + (8 * (F 12 5))).toInt = ((F 12 0).toInt + (8 * (F 12 5).toInt)) := (t_add (show B 1 64 (F 12 0) from hI 12 0) (B_mul cqb_8_8_8 b203 (by decide +kernel) (by decide +kernel) (by decide +kernel)) (by decide +kernel) (by decide +kernel)).trans (by rw [e327])
        have q330 : (17) ≤ ((F 12 0) + (8 * (F 12 5))).toInt ∧ ((F 12 0) + (8 * (F 12 5))).toInt ≤ (80) := (show B 17 80 ((F 12 0) + (8 * (F 12 5))) from B_w (B_add (show B 1 64 (F 12 0) from hI 12 0) (B_mul cqb_8_8_8 b203 (by decide +kernel) (by decide +kernel) (by decide +kernel)) (by decide +kernel) (by decide +kernel)) (by decide +kernel) (by decide +kernel))
        have e331 : (((F 12 0) + (8 * (F 12 5))) - 1).toInt = (((F 12 0).toInt + (8 * (F 12 5).toInt)) - 1) := (t_sub (B_add (show B 1 64 (F 12 0) from hI 12 0) (B_mul cqb_8_8_8 b203 (by decide +kernel) (by decide +kernel) (by decide +kernel)) (by decide +kernel) (by decide +kernel)) cqb_1_1_1 (by decide +kernel) (by decide +kernel)).trans (by rw [e329, cqn_1])
        have q332 : (16) ≤ (((F 12 0) + (8 * (F 12 5))) - 1).toInt ∧ (((F 12 0) + (8 * (F 12 5))) - 1).toInt ≤ (79) := (show B 16 79 (((F 12 0) + (8 * (F 12 5))) - 1) from B_w (B_sub (B_add (show B 1 64 (F 12 0) from hI 12 0) (B_mul cqb_8_8_8 b203 (by decide +kernel) (by decide +kernel) (by decide +kernel)) (by decide +kernel) (by decide +kernel)) cqb_1_1_1 (by decide +kernel) (by decide +kernel)) (by decide +kernel) (by decide +kernel))
        have e333 : ((((F 12 0) + (8 * (F 12 5))) - 1) / (8 * (F 12 5))).toInt = ((((F 12 0).toInt + (8 * (F 12 5).toInt)) - 1) / (8 * (F 12 5).toInt)) := (t_div (B_sub (B_add (show B 1 64 (F 12 0) from hI 12 0) (B_mul cqb_8_8_8 b203 (by decide +kernel) (by decide +kernel) (by decide +kernel)) (by decide +kernel) (by decide +kernel)) cqb_1_1_1 (by decide +kernel) (by decide +kernel)) (B_mul cqb_8_8_8 b203 (by decide +kernel) (by decide +kernel) (by decide +kernel)) (by decide +kernel) (by decide +kernel)).trans (by rw [e331, e327])
        have q334 : (1) ≤ ((((F 12 0) + (8 * (F 12 5))) - 1) / (8 * (F 12 5))).toInt ∧ ((((F 12 0) + (8 * (F 12 5))) - 1) / (8 * (F 12 5))).toInt ≤ (4) := (show B 1 4 ((((F 12 0) + (8 * (F 12 5))) - 1) / (8 * (F 12 5))) from B_div2 (B_sub (B_add (show B 1 64 (F 12 0) from hI 12 0) (B_mul cqb_8_8_8 b203 (by decide +kernel) (by decide +kernel) (by decide +kernel)) (by decide +kernel) (by decide +kernel)) cqb_1_1_1 (by decide +kernel) (by decide +kernel)) (B_mul cqb_8_8_8 b203 (by decide +kernel) (by decide +kernel) (by decide +kernel)) (by decide +kernel) (by decide +kernel) (by decide +kernel) (by decide +kernel))
        have e335 : (T307 12 7).toInt = ((((F 12 0).toInt + (8 * (F 12 5).toInt)) - 1) / (8 * (F 12 5).toInt)) := (congrArg Int32.toInt (g310.1 12 7 rfl rfl)).trans e333
        have e336 : (T307 12 6).toInt = (F 12 6).toInt := (congrArg Int32.toInt (g310.1 12 6 rfl rfl)).trans rfl
        have q337 : (1) ≤ (F 12 1).toInt ∧ (F 12 1).toInt ≤ (64) := (show B 1 64 (F 12 1) from hI 12 1)
        have e338 : (8 * (F 12 6)).toInt = (8 * (F 12 6).toInt) := (t_mul cqb_8_8_8 b304 (by decide +kernel) (by decide +kernel) (by decide +kernel)).trans (by rw [cqn_8])
        have q339 : (16) ≤ (8 * (F 12 6)).toInt ∧ (8 * (F 12 6)).toInt ≤ (16) := (show B 16 16 (8 * (F 12 6)) from B_w (B_mul cqb_8_8_8 b304 (by decide +kernel) (by decide +kernel) (by decide +kernel)) (by decide +kernel) (by decide +kernel))
        have e340 : ((F 12 1) + (8 * (F 12 6))).toInt = ((F 12 1).toInt + (8 * (F 12 6).toInt)) := (t_add (show B 1 64 (F 12 1) from hI 12 1) (B_mul cqb_8_8_8 b304 (by decide +kernel) (by decide +kernel) (by decide +kernel)) (by decide +kernel) (by decide +kernel)).trans (by rw [e338])
        have q341 : (17) ≤ ((F 12 1) + (8 * (F 12 6))).toInt ∧ ((F 12 1) + (8 * (F 12 6))).toInt ≤ (80) := (show B 17 80 ((F 12 1) + (8 * (F 12 6))) from B_w (B_add (show B 1 64 (F 12 1) from hI 12 1) (B_mul cqb_8_8_8 b304 (by decide +kernel) (by decide +kernel) (by decide +kernel)) (by decide +kernel) (by decide +kernel)) (by decide +kernel) (by decide +kernel))
        have e342 : (((F 12 1) + (8 * (F 12 6))) - 1).toInt = (((F 12 1).toInt + (8 * (F 12 6).toInt)) - 1) := (t_sub (B_add (show B 1 64 (F 12 1) from hI 12 1) (B_mul cqb_8_8_8 b304 (by decide +kernel) (by decide +kernel) (by decide +kernel)) (by decide +kernel) (by decide +kernel)) cqb_1_1_1 (by decide +kernel) (by decide +kernel)).trans (by rw [e340, cqn_1])
        have q343 : (16) ≤ (((F 12 1) + (8 * (F 12 6))) - 1).toInt ∧ (((F 12 1) + (8 * (F 12 6))) - 1).toInt ≤ (79) := (show B 16 79 (((F 12 1) + (8 * (F 12 6))) - 1) from B_w (B_sub (B_add (show B 1 64 (F 12 1) from hI 12 1) (B_mul cqb_8_8_8 b304 (by decide +kernel) (by decide +kernel) (by decide +kernel)) (by decide +kernel) (by decide +kernel)) cqb_1_1_1 (by decide +kernel) (by decide +kernel)) (by decide +kernel) (by decide +kernel))
        have e344 : ((((F 12 1) + (8 * (F 12 6))) - 1) / (8 * (F 12 6))).toInt = ((((F 12 1).toInt + (8 * (F 12 6).toInt)) - 1) / (8 * (F 12 6).toInt)) := (t_div (B_sub (B_add (show B 1 64 (F 12 1) from hI 12 1) (B_mul cqb_8_8_8 b304 (by decide +kernel) (by decide +kernel) (by decide +kernel)) (by decide +kernel) (by decide +kernel)) cqb_1_1_1 (by decide +kernel) (by decide +kernel)) (B_mul cqb_8_8_8 b304 (by decide +kernel) (by decide +kernel) (by decide +kernel)) (by decide +kernel) (by decide +kernel)).trans (by rw [e342, e338])
        have q345 : (1) ≤ ((((F 12 1) + (8 * (F 12 6))) - 1) / (8 * (F 12 6))).toInt ∧ ((((F 12 1) + (8 * (F 12 6))) - 1) / (8 * (F 12 6))).toInt ≤ (4) := (show B 1 4 ((((F 12 1) + (8 * (F 12 6))) - 1) / (8 * (F 12 6))) from B_div2 (B_sub (B_add (show B 1 64 (F 12 1) from hI 12 1) (B_mul cqb_8_8_8 b304 (by decide +kernel) (by decide +kernel) (by decide +kernel)) (by decide +kernel) (by decide +kernel)) cqb_1_1_1 (by decide +kernel) (by decide +kernel)) (B_mul cqb_8_8_8 b304 (by decide +kernel) (by decide +kernel) (by decide +kernel)) (by decide +kernel) (by decide +kernel) (by decide +kernel) (by decide +kernel))
        have e346 : (T307 12 8).toInt = ((((F 12 1).toInt + (8 * (F 12 6).toInt)) - 1) / (8 * (F 12 6).toInt)) := (congrArg Int32.toInt (g310.1 12 8 rfl rfl)).trans e344
        exact hK hI309 g322 (qf_le (b' := (T307 12 2).toInt) r313 (by omega) (by decide +kernel) (by decide +kernel)) (qf_le (b' := (T307 12 2).toInt) r314 (by omega) (by decide +kernel) (by decide +kernel)) (qf_le (b' := (T307 12 2).toInt) r315 (by omega) (by decide +kernel) (by decide +kernel)) (by show ((T307 12 5).toInt = 1) ∨ ((T307 12 7).toInt ≤ 4); first | with_reducible assumption | omega) (by show ((T307 12 6).toInt = 1) ∨ ((T307 12 8).toInt ≤ 4); first | with_reducible assumption | omega)
      · have hq347 := (nle_lt hc)
        have b348 : B 0 2 (x1_306) := B_w (B_ltL b308 (B_eq (g310.1 12 2 rfl rfl) (show B 1 3 (F 12 2) from hI 12 2)) hq347) (by decide +kernel) (by decide +kernel)
        have q349 : (0) ≤ (x1_306).toInt ∧ (x1_306).toInt ≤ (2) := (show B 0 2 (x1_306) from B_w b348 (by decide +kernel) (by decide +kernel))
        have e350 : (T307 12 2).toInt = (F 12 2).toInt := (congrArg Int32.toInt (g310.1 12 2 rfl rfl)).trans rfl
        have i351 : (x1_306).toInt < (T307 12 2).toInt := i_lt hq347
        refine ⟨(show ¬ ((15 : Nat) = NU) from by decide +kernel), ?_⟩
        refine ⟨(show ¬ ((13 : Nat) = NU) from by decide +kernel), ?_⟩
        refine ⟨(show c_cl UL 13 = 902 from cl_13), ?_⟩
        refine ⟨(show vp_in (x1_306) 3 from vp_B b348 (by decide +kernel) (by decide +kernel)), ?_⟩
        refine up_K (B_eq (g310.1 12 5 rfl rfl) b203) (by decide +kernel) ?_
        refine ⟨(show c_cl UL 15 = 902 from cl_15), ?_⟩
        refine ⟨(show vp_in (x1_306) 3 from vp_B b348 (by decide +kernel) (by decide +kernel)), ?_⟩
        refine ⟨(show ¬ ((16 : Nat) = NU) from by decide +kernel), ?_⟩
        refine ⟨(show ¬ ((14 : Nat) = NU) from by decide +kernel), ?_⟩
        refine ⟨(show c_cl UL 14 = 902 from cl_14), ?_⟩
        refine ⟨(show vp_in (x1_306) 3 from vp_B b348 (by decide +kernel) (by decide +kernel)), ?_⟩
        refine up_K (B_eq (g310.1 12 6 rfl rfl) b304) (by decide +kernel) ?_
        refine ⟨(show c_cl UL 16 = 902 from cl_16), ?_⟩
        refine ⟨(show vp_in (x1_306) 3 from vp_B b348 (by decide +kernel) (by decide +kernel)), ?_⟩
        refine ⟨(show ¬ ((17 : Nat) = NU) from by decide +kernel), ?_⟩
        refine ⟨(show ¬ ((13 : Nat) = NU) from by decide +kernel), ?_⟩
        refine ⟨(show vp_in (x1_306) 3 from vp_B b348 (by decide +kernel) (by decide +kernel)), ?_⟩
        refine ⟨(show c_cl UL 17 = 902 from cl_17), ?_⟩
        refine ⟨(show vp_in (x1_306) 3 from vp_B b348 (by decide +kernel) (by decide +kernel)), ?_⟩
        refine ⟨(show ¬ ((18 : Nat) = NU) from by decide +kernel), ?_⟩
        refine ⟨(show ¬ ((17 : Nat) = NU) from by decide +kernel), ?_⟩
        refine ⟨(show vp_in (x1_306) 3 from vp_B b348 (by decide +kernel) (by decide +kernel)), ?_⟩
        refine ⟨(show ¬ ((14 : Nat) = NU) from by decide +kernel), ?_⟩
        refine ⟨(show vp_in (x1_306) 3 from vp_B b348 (by decide +kernel) (by decide +kernel)), ?_⟩
        refine ⟨(show c_cl UL 18 = 902 from cl_18), ?_⟩
        refine ⟨(show vp_in (x1_306) 3 from vp_B b348 (by decide +kernel) (by decide +kernel)), ?_⟩
        have r352 : 1 ≤ (F 13 x1_306.toNatClampNeg).toInt ∧ (F 13 x1_306.toNatClampNeg).toInt ≤ (F 12 5).toInt := qf_at pre0 (x := x1_306) (by omega) (by omega)
        have hI353 := IMc_u (u := 15) (i := x1_306.toNatClampNeg) (v := ((((T307 12 0) * (T307 13 x1_306.toNatClampNeg)) + (T307 12 5)) - 1) / (T307 12 5)) hI309 (show B 0 64 (((((T307 12 0) * (T307 13 x1_306.toNatClampNeg)) + (T307 12 5)) - 1) / (T307 12 5)) from (B_w (show B 1 64 (((((T307 12 0) * (T307 13 x1_306.toNatClampNeg)) + (T307 12 5)) - 1) / (T307 12 5)) from B_div2 (B_sub (B_add (B_mul (B_eq (g310.1 12 0 rfl rfl) (show B 1 64 (F 12 0) from hI 12 0)) (B_eq (congrFun (g310.2 13 rfl rfl) x1_306.toNatClampNeg) (show B 1 2 (F 13 x1_306.toNatClampNeg) from sB_13 hI b348 (by decide +kernel) (by decide +kernel))) (by decide +kernel) (by decide +kernel) (by decide +kernel)) (B_eq (g310.1 12 5 rfl rfl) b203) (by decide +kernel) (by decide +kernel)) cqb_1_1_1 (by decide +kernel) (by decide +kernel)) (B_eq (g310.1 12 5 rfl rfl) b203) (by decide +kernel) (by decide +kernel) (by decide +kernel) (by decide +kernel)) (by decide +kernel) (by decide +kernel)))
        have r354 : 1 ≤ (F 14 x1_306.toNatClampNeg).toInt ∧ (F 14 x1_306.toNatClampNeg).toInt ≤ (F 12 6).toInt := qf_at pre1 (x := x1_306) (by omega) (by omega)
        have hI355 := IMc_u (u := 16) (i := x1_306.toNatClampNeg) (v := ((((T307 12 1) * (T307 14 x1_306.toNatClampNeg)) + (T307 12 6)) - 1) / (T307 12 6)) hI353 (show B 0 64 (((((T307 12 1) * (T307 14 x1_306.toNatClampNeg)) + (T307 12 6)) - 1) / (T307 12 6)) from (B_w (show B 1 64 (((((T307 12 1) * (T307 14 x1_306.toNatClampNeg)) + (T307 12 6)) - 1) / (T307 12 6)) from B_div2 (B_sub (B_add (B_mul (B_eq (g310.1 12 1 rfl rfl) (show B 1 64 (F 12 1) from hI 12 1)) (B_eq (congrFun (g310.2 14 rfl rfl) x1_306.toNatClampNeg) (show B 1 2 (F 14 x1_306.toNatClampNeg) from sB_14 hI b348 (by decide +kernel) (by decide +kernel))) (by decide +kernel) (by decide +kernel) (by decide +kernel)) (B_eq (g310.1 12 6 rfl rfl) b304) (by decide +kernel) (by decide +kernel)) cqb_1_1_1 (by decide +kernel) (by decide +kernel)) (B_eq (g310.1 12 6 rfl rfl) b304) (by decide +kernel) (by decide +kernel) (by decide +kernel) (by decide +kernel)) (by decide +kernel) (by decide +kernel)))
        have hI356 := IMc_u (u := 17) (i := x1_306.toNatClampNeg) (v := (T307 13 x1_306.toNatClampNeg) * (T307 12 7)) hI355 (show B 0 8 ((T307 13 x1_306.toNatClampNeg) * (T307 12 7)) from (B_w (B_mul (B_eq (congrFun (g310.2 13 rfl rfl) x1_306.toNatClampNeg) (show B 1 2 (F 13 x1_306.toNatClampNeg) from sB_13 hI b348 (by decide +kernel) (by decide +kernel))) (B_eq (g310.1 12 7 rfl rfl) (show B 1 4 ((((F 12 0) + (8 * (F 12 5))) - 1) / (8 * (F 12 5))) from B_div2 (B_sub (B_add (show B 1 64 (F 12 0) from hI 12 0) (B_mul cqb_8_8_8 b203 (by decide +kernel) (by decide +kernel) (by decide +kernel)) (by decide +kernel) (by decide +kernel)) cqb_1_1_1 (by decide +kernel) (by decide +kernel)) (B_mul cqb_8_8_8 b203 (by decide +kernel) (by decide +kernel) (by decide +kernel)) (by decide +kernel) (by decide +kernel) (by decide +kernel) (by decide +kernel))) (by decide +kernel) (by decide +kernel) (by decide +kernel)) (by decide +kernel) (by decide +kernel)))
        have hI357 := IMc_u (u := 18) (i := x1_306.toNatClampNeg) (v := (((va_up (va_up (va_up T307 15 (upd (T307 15) x1_306.toNatClampNeg (((((T307 12 0) * (T307 13 x1_306.toNatClampNeg)) + (T307 12 5)) - 1) / (T307 12 5)))) 16 (upd (T307 16) x1_306.toNatClampNeg (((((T307 12 1) * (T307 14 x1_306.toNatClampNeg)) + (T307 12 6)) - 1) / (T307 12 6)))) 17 (upd (T307 17) x1_306.toNatClampNeg ((T307 13 x1_306.toNatClampNeg) * (T307 12 7)))) 17 x1_306.toNatClampNeg) * (T307 14 x1_306.toNatClampNeg)) * (T307 12 8)) hI356 (show B 0 64 ((((va_up (va_up (va_up T307 15 (upd (T307 15) x1_306.toNatClampNeg (((((T307 12 0) * (T307 13 x1_306.toNatClampNeg)) + (T307 12 5)) - 1) / (T307 12 5)))) 16 (upd (T307 16) x1_306.toNatClampNeg (((((T307 12 1) * (T307 14 x1_306.toNatClampNeg)) + (T307 12 6)) - 1) / (T307 12 6)))) 17 (upd (T307 17) x1_306.toNatClampNeg ((T307 13 x1_306.toNatClampNeg) * (T307 12 7)))) 17 x1_306.toNatClampNeg) * (T307 14 x1_306.toNatClampNeg)) * (T307 12 8)) from (B_w (B_mul (B_mul (B_eq (ru_at (f := va_up (va_up T307 15 (upd (T307 15) x1_306.toNatClampNeg (((((T307 12 0) * (T307 13 x1_306.toNatClampNeg)) + (T307 12 5)) - 1) / (T307 12 5)))) 16 (upd (T307 16) x1_306.toNatClampNeg (((((T307 12 1) * (T307 14 x1_306.toNatClampNeg)) + (T307 12 6)) - 1) / (T307 12 6)))) (g := T307 17) (r := 17) (i := x1_306.toNatClampNeg) (v := (T307 13 x1_306.toNatClampNeg) * (T307 12 7))) (B_mul (B_eq (congrFun (g310.2 13 rfl rfl) x1_306.toNatClampNeg) (show B 1 2 (F 13 x1_306.toNatClampNeg) from sB_13 hI b348 (by decide +kernel) (by decide +kernel))) (B_eq (g310.1 12 7 rfl rfl) (show B 1 4 ((((F 12 0) + (8 * (F 12 5))) - 1) / (8 * (F 12 5))) from B_div2 (B_sub (B_add (show B 1 64 (F 12 0) from hI 12 0) (B_mul cqb_8_8_8 b203 (by decide +kernel) (by decide +kernel) (by decide +kernel)) (by decide +kernel) (by decide +kernel)) cqb_1_1_1 (by decide +kernel) (by decide +kernel)) (B_mul cqb_8_8_8 b203 (by decide +kernel) (by decide +kernel) (by decide +kernel)) (by decide +kernel) (by decide +kernel) (by decide +kernel) (by decide +kernel))) (by decide +kernel) (by decide +kernel) (by decide +kernel))) (B_eq (congrFun (g310.2 14 rfl rfl) x1_306.toNatClampNeg) (show B 1 2 (F 14 x1_306.toNatClampNeg) from sB_14 hI b348 (by decide +kernel) (by decide +kernel))) (by decide +kernel) (by decide +kernel) (by decide +kernel)) (B_eq (g310.1 12 8 rfl rfl) (show B 1 4 ((((F 12 1) + (8 * (F 12 6))) - 1) / (8 * (F 12 6))) from B_div2 (B_sub (B_add (show B 1 64 (F 12 1) from hI 12 1) (B_mul cqb_8_8_8 b304 (by decide +kernel) (by decide +kernel) (by decide +kernel)) (by decide +kernel) (by decide +kernel)) cqb_1_1_1 (by decide +kernel) (by decide +kernel)) (B_mul cqb_8_8_8 b304 (by decide +kernel) (by decide +kernel) (by decide +kernel)) (by decide +kernel) (by decide +kernel) (by decide +kernel) (by decide +kernel))) (by decide +kernel) (by decide +kernel) (by decide +kernel)) (by decide +kernel) (by decide +kernel)))
        have g362 := agc_tr (agc_refl (fs := []) (rs := [15, 16, 17, 18]) (F := va_up (va_up F 12 (upd (F 12) 7 ((((F 12 0) + (8 * (F 12 5))) - 1) / (8 * (F 12 5))))) 12 (upd ((va_up F 12 (upd (F 12) 7 ((((F 12 0) + (8 * (F 12 5))) - 1) / (8 * (F 12 5))))) 12) 8 ((((F 12 1) + (8 * (F 12 6))) - 1) / (8 * (F 12 6)))))) g310 (by decide +kernel) (by decide +kernel)
        have g361 := agc_r (u := 15) (w := upd (T307 15) x1_306.toNatClampNeg (((((T307 12 0) * (T307 13 x1_306.toNatClampNeg)) + (T307 12 5)) - 1) / (T307 12 5))) g362 rfl (by decide +kernel)
        have g360 := agc_r (u := 16) (w := upd (T307 16) x1_306.toNatClampNeg (((((T307 12 1) * (T307 14 x1_306.toNatClampNeg)) + (T307 12 6)) - 1) / (T307 12 6))) g361 rfl (by decide +kernel)
        have g359 := agc_r (u := 17) (w := upd (T307 17) x1_306.toNatClampNeg ((T307 13 x1_306.toNatClampNeg) * (T307 12 7))) g360 rfl (by decide +kernel)
        have g358 := agc_r (u := 18) (w := upd (T307 18) x1_306.toNatClampNeg ((((va_up (va_up (va_up T307 15 (upd (T307 15) x1_306.toNatClampNeg (((((T307 12 0) * (T307 13 x1_306.toNatClampNeg)) + (T307 12 5)) - 1) / (T307 12 5)))) 16 (upd (T307 16) x1_306.toNatClampNeg (((((T307 12 1) * (T307 14 x1_306.toNatClampNeg)) + (T307 12 6)) - 1) / (T307 12 6)))) 17 (upd (T307 17) x1_306.toNatClampNeg ((T307 13 x1_306.toNatClampNeg) * (T307 12 7)))) 17 x1_306.toNatClampNeg) * (T307 14 x1_306.toNatClampNeg)) * (T307 12 8))) g359 rfl (by decide +kernel)
        have e363 : (x1_306 + 1).toInt = ((x1_306).toInt + 1) := (t_add b348 cqb_1_1_1 (by decide +kernel) (by decide +kernel)).trans (by rw [cqn_1])
        have q364 : (1) ≤ (x1_306 + 1).toInt ∧ (x1_306 + 1).toInt ≤ (3) := (show B 1 3 (x1_306 + 1) from B_w (B_add b348 cqb_1_1_1 (by decide +kernel) (by decide +kernel)) (by decide +kernel) (by decide +kernel))
        have q365 : (1) ≤ (F 12 0).toInt ∧ (F 12 0).toInt ≤ (64) := (show B 1 64 (F 12 0) from hI 12 0)
        have e366 : (T307 12 0).toInt = (F 12 0).toInt := (congrArg Int32.toInt (g310.1 12 0 rfl rfl)).trans rfl
        have q367 : (1) ≤ (F 13 x1_306.toNatClampNeg).toInt ∧ (F 13 x1_306.toNatClampNeg).toInt ≤ (2) := (show B 1 2 (F 13 x1_306.toNatClampNeg) from sB_13 hI b348 (by decide +kernel) (by decide +kernel))
        have e368 : (T307 13 x1_306.toNatClampNeg).toInt = (F 13 x1_306.toNatClampNeg).toInt := (congrArg Int32.toInt (congrFun (g310.2 13 rfl rfl) x1_306.toNatClampNeg)).trans rfl
        have e369 : ((T307 12 0) * (T307 13 x1_306.toNatClampNeg)).toInt = ((F 12 0).toInt * (F 13 x1_306.toNatClampNeg).toInt) := (t_mul (B_eq (g310.1 12 0 rfl rfl) (show B 1 64 (F 12 0) from hI 12 0)) (B_eq (congrFun (g310.2 13 rfl rfl) x1_306.toNatClampNeg) (show B 1 2 (F 13 x1_306.toNatClampNeg) from sB_13 hI b348 (by decide +kernel) (by decide +kernel))) (by decide +kernel) (by decide +kernel) (by decide +kernel)).trans (by rw [e366, e368])
        have q370 : (1) ≤ ((T307 12 0) * (T307 13 x1_306.toNatClampNeg)).toInt ∧ ((T307 12 0) * (T307 13 x1_306.toNatClampNeg)).toInt ≤ (128) := (show B 1 128 ((T307 12 0) * (T307 13 x1_306.toNatClampNeg)) from B_w (B_mul (B_eq (g310.1 12 0 rfl rfl) (show B 1 64 (F 12 0) from hI 12 0)) (B_eq (congrFun (g310.2 13 rfl rfl) x1_306.toNatClampNeg) (show B 1 2 (F 13 x1_306.toNatClampNeg) from sB_13 hI b348 (by decide +kernel) (by decide +kernel))) (by decide +kernel) (by decide +kernel) (by decide +kernel)) (by decide +kernel) (by decide +kernel))
        have e371 : (T307 12 5).toInt = (F 12 5).toInt := (congrArg Int32.toInt (g310.1 12 5 rfl rfl)).trans rfl
        have e372 : (((T307 12 0) * (T307 13 x1_306.toNatClampNeg)) + (T307 12 5)).toInt = (((F 12 0).toInt * (F 13 x1_306.toNatClampNeg).toInt) + (F 12 5).toInt) := (t_add (B_mul (B_eq (g310.1 12 0 rfl rfl) (show B 1 64 (F 12 0) from hI 12 0)) (B_eq (congrFun (g310.2 13 rfl rfl) x1_306.toNatClampNeg) (show B 1 2 (F 13 x1_306.toNatClampNeg) from sB_13 hI b348 (by decide +kernel) (by decide +kernel))) (by decide +kernel) (by decide +kernel) (by decide +kernel)) (B_eq (g310.1 12 5 rfl rfl) b203) (by decide +kernel) (by decide +kernel)).trans (by rw [e369, e371])
        have q373 : (3) ≤ (((T307 12 0) * (T307 13 x1_306.toNatClampNeg)) + (T307 12 5)).toInt ∧ (((T307 12 0) * (T307 13 x1_306.toNatClampNeg)) + (T307 12 5)).toInt ≤ (130) := (show B 3 130 (((T307 12 0) * (T307 13 x1_306.toNatClampNeg)) + (T307 12 5)) from B_w (B_add (B_mul (B_eq (g310.1 12 0 rfl rfl) (show B 1 64 (F 12 0) from hI 12 0)) (B_eq (congrFun (g310.2 13 rfl rfl) x1_306.toNatClampNeg) (show B 1 2 (F 13 x1_306.toNatClampNeg) from sB_13 hI b348 (by decide +kernel) (by decide +kernel))) (by decide +kernel) (by decide +kernel) (by decide +kernel)) (B_eq (g310.1 12 5 rfl rfl) b203) (by decide +kernel) (by decide +kernel)) (by decide +kernel) (by decide +kernel))
        have e374 : ((((T307 12 0) * (T307 13 x1_306.toNatClampNeg)) + (T307 12 5)) - 1).toInt = ((((F 12 0).toInt * (F 13 x1_306.toNatClampNeg).toInt) + (F 12 5).toInt) - 1) := (t_sub (B_add (B_mul (B_eq (g310.1 12 0 rfl rfl) (show B 1 64 (F 12 0) from hI 12 0)) (B_eq (congrFun (g310.2 13 rfl rfl) x1_306.toNatClampNeg) (show B 1 2 (F 13 x1_306.toNatClampNeg) from sB_13 hI b348 (by decide +kernel) (by decide +kernel))) (by decide +kernel) (by decide +kernel) (by decide +kernel)) (B_eq (g310.1 12 5 rfl rfl) b203) (by decide +kernel) (by decide +kernel)) cqb_1_1_1 (by decide +kernel) (by decide +kernel)).trans (by rw [e372, cqn_1])
        have q375 : (2) ≤ ((((T307 12 0) * (T307 13 x1_306.toNatClampNeg)) + (T307 12 5)) - 1).toInt ∧ ((((T307 12 0) * (T307 13 x1_306.toNatClampNeg)) + (T307 12 5)) - 1).toInt ≤ (129) := (show B 2 129 ((((T307 12 0) * (T307 13 x1_306.toNatClampNeg)) + (T307 12 5)) - 1) from B_w (B_sub (B_add (B_mul (B_eq (g310.1 12 0 rfl rfl) (show B 1 64 (F 12 0) from hI 12 0)) (B_eq (congrFun (g310.2 13 rfl rfl) x1_306.toNatClampNeg) (show B 1 2 (F 13 x1_306.toNatClampNeg) from sB_13 hI b348 (by decide +kernel) (by decide +kernel))) (by decide +kernel) (by decide +kernel) (by decide +kernel)) (B_eq (g310.1 12 5 rfl rfl) b203) (by decide +kernel) (by decide +kernel)) cqb_1_1_1 (by decide +kernel) (by decide +kernel)) (by decide +kernel) (by decide +kernel))
        have e376 : (((((T307 12 0) * (T307 13 x1_306.toNatClampNeg)) + (T307 12 5)) - 1) / (T307 12 5)).toInt = (((((F 12 0).toInt * (F 13 x1_306.toNatClampNeg).toInt) + (F 12 5).toInt) - 1) / (F 12 5).toInt) := (t_div (B_sub (B_add (B_mul (B_eq (g310.1 12 0 rfl rfl) (show B 1 64 (F 12 0) from hI 12 0)) (B_eq (congrFun (g310.2 13 rfl rfl) x1_306.toNatClampNeg) (show B 1 2 (F 13 x1_306.toNatClampNeg) from sB_13 hI b348 (by decide +kernel) (by decide +kernel))) (by decide +kernel) (by decide +kernel) (by decide +kernel)) (B_eq (g310.1 12 5 rfl rfl) b203) (by decide +kernel) (by decide +kernel)) cqb_1_1_1 (by decide +kernel) (by decide +kernel)) (B_eq (g310.1 12 5 rfl rfl) b203) (by decide +kernel) (by decide +kernel)).trans (by rw [e374, e371])
        have q377 : (1) ≤ (((((T307 12 0) * (T307 13 x1_306.toNatClampNeg)) + (T307 12 5)) - 1) / (T307 12 5)).toInt ∧ (((((T307 12 0) * (T307 13 x1_306.toNatClampNeg)) + (T307 12 5)) - 1) / (T307 12 5)).toInt ≤ (64) := (show B 1 64 (((((T307 12 0) * (T307 13 x1_306.toNatClampNeg)) + (T307 12 5)) - 1) / (T307 12 5)) from B_div2 (B_sub (B_add (B_mul (B_eq (g310.1 12 0 rfl rfl) (show B 1 64 (F 12 0) from hI 12 0)) (B_eq (congrFun (g310.2 13 rfl rfl) x1_306.toNatClampNeg) (show B 1 2 (F 13 x1_306.toNatClampNeg) from sB_13 hI b348 (by decide +kernel) (by decide +kernel))) (by decide +kernel) (by decide +kernel) (by decide +kernel)) (B_eq (g310.1 12 5 rfl rfl) b203) (by decide +kernel) (by decide +kernel)) cqb_1_1_1 (by decide +kernel) (by decide +kernel)) (B_eq (g310.1 12 5 rfl rfl) b203) (by decide +kernel) (by decide +kernel) (by decide +kernel) (by decide +kernel))
        have q378 : (1) ≤ (F 12 1).toInt ∧ (F 12 1).toInt ≤ (64) := (show B 1 64 (F 12 1) from hI 12 1)
        have e379 : (T307 12 1).toInt = (F 12 1).toInt := (congrArg Int32.toInt (g310.1 12 1 rfl rfl)).trans rfl
        have q380 : (1) ≤ (F 14 x1_306.toNatClampNeg).toInt ∧ (F 14 x1_306.toNatClampNeg).toInt ≤ (2) := (show B 1 2 (F 14 x1_306.toNatClampNeg) from sB_14 hI b348 (by decide +kernel) (by decide +kernel))
        have e381 : (T307 14 x1_306.toNatClampNeg).toInt = (F 14 x1_306.toNatClampNeg).toInt := (congrArg Int32.toInt (congrFun (g310.2 14 rfl rfl) x1_306.toNatClampNeg)).trans rfl
        have e382 : ((T307 12 1) * (T307 14 x1_306.toNatClampNeg)).toInt = ((F 12 1).toInt * (F 14 x1_306.toNatClampNeg).toInt) := (t_mul (B_eq (g310.1 12 1 rfl rfl) (show B 1 64 (F 12 1) from hI 12 1)) (B_eq (congrFun (g310.2 14 rfl rfl) x1_306.toNatClampNeg) (show B 1 2 (F 14 x1_306.toNatClampNeg) from sB_14 hI b348 (by decide +kernel) (by decide +kernel))) (by decide +kernel) (by decide +kernel) (by decide +kernel)).trans (by rw [e379, e381])
        have q383 : (1) ≤ ((T307 12 1) * (T307 14 x1_306.toNatClampNeg)).toInt ∧ ((T307 12 1) * (T307 14 x1_306.toNatClampNeg)).toInt ≤ (128) := (show B 1 128 ((T307 12 1) * (T307 14 x1_306.toNatClampNeg)) from B_w (B_mul (B_eq (g310.1 12 1 rfl rfl) (show B 1 64 (F 12 1) from hI 12 1)) (B_eq (congrFun (g310.2 14 rfl rfl) x1_306.toNatClampNeg) (show B 1 2 (F 14 x1_306.toNatClampNeg) from sB_14 hI b348 (by decide +kernel) (by decide +kernel))) (by decide +kernel) (by decide +kernel) (by decide +kernel)) (by decide +kernel) (by decide +kernel))
        have e384 : (T307 12 6).toInt = (F 12 6).toInt := (congrArg Int32.toInt (g310.1 12 6 rfl rfl)).trans rfl
        have e385 : (((T307 12 1) * (T307 14 x1_306.toNatClampNeg)) + (T307 12 6)).toInt = (((F 12 1).toInt * (F 14 x1_306.toNatClampNeg).toInt) + (F 12 6).toInt) := (t_add (B_mul (B_eq (g310.1 12 1 rfl rfl) (show B 1 64 (F 12 1) from hI 12 1)) (B_eq (congrFun (g310.2 14 rfl rfl) x1_306.toNatClampNeg) (show B 1 2 (F 14 x1_306.toNatClampNeg) from sB_14 hI b348 (by decide +kernel) (by decide +kernel))) (by decide +kernel) (by decide +kernel) (by decide +kernel)) (B_eq (g310.1 12 6 rfl rfl) b304) (by decide +kernel) (by decide +kernel)).trans (by rw [e382, e384])
        have q386 : (3) ≤ (((T307 12 1) * (T307 14 x1_306.toNatClampNeg)) + (T307 12 6)).toInt ∧ (((T307 12 1) * (T307 14 x1_306.toNatClampNeg)) + (T307 12 6)).toInt ≤ (130) := (show B 3 130 (((T307 12 1) * (T307 14 x1_306.toNatClampNeg)) + (T307 12 6)) from B_w (B_add (B_mul (B_eq (g310.1 12 1 rfl rfl) (show B 1 64 (F 12 1) from hI 12 1)) (B_eq (congrFun (g310.2 14 rfl rfl) x1_306.toNatClampNeg) (show B 1 2 (F 14 x1_306.toNatClampNeg) from sB_14 hI b348 (by decide +kernel) (by decide +kernel))) (by decide +kernel) (by decide +kernel) (by decide +kernel)) (B_eq (g310.1 12 6 rfl rfl) b304) (by decide +kernel) (by decide +kernel)) (by decide +kernel) (by decide +kernel))
        have e387 : ((((T307 12 1) * (T307 14 x1_306.toNatClampNeg)) + (T307 12 6)) - 1).toInt = ((((F 12 1).toInt * (F 14 x1_306.toNatClampNeg).toInt) + (F 12 6).toInt) - 1) := (t_sub (B_add (B_mul (B_eq (g310.1 12 1 rfl rfl) (show B 1 64 (F 12 1) from hI 12 1)) (B_eq (congrFun (g310.2 14 rfl rfl) x1_306.toNatClampNeg) (show B 1 2 (F 14 x1_306.toNatClampNeg) from sB_14 hI b348 (by decide +kernel) (by decide +kernel))) (by decide +kernel) (by decide +kernel) (by decide +kernel)) (B_eq (g310.1 12 6 rfl rfl) b304) (by decide +kernel) (by decide +kernel)) cqb_1_1_1 (by decide +kernel) (by decide +kernel)).trans (by rw [e385, cqn_1])
        have q388 : (2) ≤ ((((T307 12 1) * (T307 14 x1_306.toNatClampNeg)) + (T307 12 6)) - 1).toInt ∧ ((((T307 12 1) * (T307 14 x1_306.toNatClampNeg)) + (T307 12 6)) - 1).toInt ≤ (129) := (show B 2 129 ((((T307 12 1) * (T307 14 x1_306.toNatClampNeg)) + (T307 12 6)) - 1) from B_w (B_sub (B_add (B_mul (B_eq (g310.1 12 1 rfl rfl) (show B 1 64 (F 12 1) from hI 12 1)) (B_eq (congrFun (g310.2 14 rfl rfl) x1_306.toNatClampNeg) (show B 1 2 (F 14 x1_306.toNatClampNeg) from sB_14 hI b348 (by decide +kernel) (by decide +kernel))) (by decide +kernel) (by decide +kernel) (by decide +kernel)) (B_eq (g310.1 12 6 rfl rfl) b304) (by decide +kernel) (by decide +kernel)) cqb_1_1_1 (by decide +kernel) (by decide +kernel)) (by decide +kernel) (by decide +kernel))
        have e389 : (((((T307 12 1) * (T307 14 x1_306.toNatClampNeg)) + (T307 12 6)) - 1) / (T307 12 6)).toInt = (((((F 12 1).toInt * (F 14 x1_306.toNatClampNeg).toInt) + (F 12 6).toInt) - 1) / (F 12 6).toInt) := (t_div (B_sub (B_add (B_mul (B_eq (g310.1 12 1 rfl rfl) (show B 1 64 (F 12 1) from hI 12 1)) (B_eq (congrFun (g310.2 14 rfl rfl) x1_306.toNatClampNeg) (show B 1 2 (F 14 x1_306.toNatClampNeg) from sB_14 hI b348 (by decide +kernel) (by decide +kernel))) (by decide +kernel) (by decide +kernel) (by decide +kernel)) (B_eq (g310.1 12 6 rfl rfl) b304) (by decide +kernel) (by decide +kernel)) cqb_1_1_1 (by decide +kernel) (by decide +kernel)) (B_eq (g310.1 12 6 rfl rfl) b304) (by decide +kernel) (by decide +kernel)).trans (by rw [e387, e384])
        have q390 : (1) ≤ (((((T307 12 1) * (T307 14 x1_306.toNatClampNeg)) + (T307 12 6)) - 1) / (T307 12 6)).toInt ∧ (((((T307 12 1) * (T307 14 x1_306.toNatClampNeg)) + (T307 12 6)) - 1) / (T307 12 6)).toInt ≤ (64) := (show B 1 64 (((((T307 12 1) * (T307 14 x1_306.toNatClampNeg)) + (T307 12 6)) - 1) / (T307 12 6)) from B_div2 (B_sub (B_add (B_mul (B_eq (g310.1 12 1 rfl rfl) (show B 1 64 (F 12 1) from hI 12 1)) (B_eq (congrFun (g310.2 14 rfl rfl) x1_306.toNatClampNeg) (show B 1 2 (F 14 x1_306.toNatClampNeg) from sB_14 hI b348 (by decide +kernel) (by decide +kernel))) (by decide +kernel) (by decide +kernel) (by decide +kernel)) (B_eq (g310.1 12 6 rfl rfl) b304) (by decide +kernel) (by decide +kernel)) cqb_1_1_1 (by decide +kernel) (by decide +kernel)) (B_eq (g310.1 12 6 rfl rfl) b304) (by decide +kernel) (by decide +kernel) (by decide +kernel) (by decide +kernel))
        have e391 : (8 * (F 12 5)).toInt = (8 * (F 12 5).toInt) := (t_mul cqb_8_8_8 b203 (by decide +kernel) (by decide +kernel) (by decide +kernel)).trans (by rw [cqn_8])
        have q392 : (16) ≤ (8 * (F 12 5)).toInt ∧ (8 * (F 12 5)).toInt ≤ (16) := (show B 16 16 (8 * (F 12 5)) from B_w (B_mul cqb_8_8_8 b203 (by decide +kernel) (by decide +kernel) (by decide +kernel)) (by decide +kernel) (by decide +kernel))
        have e393 : ((F 12 0) + (8 * (F 12 5))).toInt = ((F 12 0).toInt + (8 * (F 12 5).toInt)) := (t_add (show B 1 64 (F 12 0) from hI 12 0) (B_mul cqb_8_8_8 b203 (by decide +kernel) (by decide +kernel) (by decide +kernel)) (by decide +kernel) (by decide +kernel)).trans (by rw [e391])
        have q394 : (17) ≤ ((F 12 0) + (8 * (F 12 5))).toInt ∧ ((F 12 0) + (8 * (F 12 5))).toInt ≤ (80) := (show B 17 80 ((F 12 0) + (8 * (F 12 5))) from B_w (B_add (show B 1 64 (F 12 0) from hI 12 0) (B_mul cqb_8_8_8 b203 (by decide +kernel) (by decide +kernel) (by decide +kernel)) (by decide +kernel) (by decide +kernel)) (by decide +kernel) (by decide +kernel))
        have e395 : (((F 12 0) + (8 * (F 12 5))) - 1).toInt = (((F 12 0).toInt + (8 * (F 12 5).toInt)) - 1) := (t_sub (B_add (show B 1 64 (F 12 0) from hI 12 0) (B_mul cqb_8_8_8 b203 (by decide +kernel) (by decide +kernel) (by decide +kernel)) (by decide +kernel) (by decide +kernel)) cqb_1_1_1 (by decide +kernel) (by decide +kernel)).trans (by rw [e393, cqn_1])
        have q396 : (16) ≤ (((F 12 0) + (8 * (F 12 5))) - 1).toInt ∧ (((F 12 0) + (8 * (F 12 5))) - 1).toInt ≤ (79) := (show B 16 79 (((F 12 0) + (8 * (F 12 5))) - 1) from B_w (B_sub (B_add (show B 1 64 (F 12 0) from hI 12 0) (B_mul cqb_8_8_8 b203 (by decide +kernel) (by decide +kernel) (by decide +kernel)) (by decide +kernel) (by decide +kernel)) cqb_1_1_1 (by decide +kernel) (by decide +kernel)) (by decide +kernel) (by decide +kernel))
        have e397 : ((((F 12 0) + (8 * (F 12 5))) - 1) / (8 * (F 12 5))).toInt = ((((F 12 0).toInt + (8 * (F 12 5).toInt)) - 1) / (8 * (F 12 5).toInt)) := (t_div (B_sub (B_add (show B 1 64 (F 12 0) from hI 12 0) (B_mul cqb_8_8_8 b203 (by decide +kernel) (by decide +kernel) (by decide +kernel)) (by decide +kernel) (by decide +kernel)) cqb_1_1_1 (by decide +kernel) (by decide +kernel)) (B_mul cqb_8_8_8 b203 (by decide +kernel) (by decide +kernel) (by decide +kernel)) (by decide +kernel) (by decide +kernel)).trans (by rw [e395, e391])
        have q398 : (1) ≤ ((((F 12 0) + (8 * (F 12 5))) - 1) / (8 * (F 12 5))).toInt ∧ ((((F 12 0) + (8 * (F 12 5))) - 1) / (8 * (F 12 5))).toInt ≤ (4) := (show B 1 4 ((((F 12 0) + (8 * (F 12 5))) - 1) / (8 * (F 12 5))) from B_div2 (B_sub (B_add (show B 1 64 (F 12 0) from hI 12 0) (B_mul cqb_8_8_8 b203 (by decide +kernel) (by decide +kernel) (by decide +kernel)) (by decide +kernel) (by decide +kernel)) cqb_1_1_1 (by decide +kernel) (by decide +kernel)) (B_mul cqb_8_8_8 b203 (by decide +kernel) (by decide +kernel) (by decide +kernel)) (by decide +kernel) (by decide +kernel) (by decide +kernel) (by decide +kernel))
        have e399 : (T307 12 7).toInt = ((((F 12 0).toInt + (8 * (F 12 5).toInt)) - 1) / (8 * (F 12 5).toInt)) := (congrArg Int32.toInt (g310.1 12 7 rfl rfl)).trans e397
        have e400 : ((T307 13 x1_306.toNatClampNeg) * (T307 12 7)).toInt = ((F 13 x1_306.toNatClampNeg).toInt * ((((F 12 0).toInt + (8 * (F 12 5).toInt)) - 1) / (8 * (F 12 5).toInt))) := (t_mul (B_eq (congrFun (g310.2 13 rfl rfl) x1_306.toNatClampNeg) (show B 1 2 (F 13 x1_306.toNatClampNeg) from sB_13 hI b348 (by decide +kernel) (by decide +kernel))) (B_eq (g310.1 12 7 rfl rfl) (show B 1 4 ((((F 12 0) + (8 * (F 12 5))) - 1) / (8 * (F 12 5))) from B_div2 (B_sub (B_add (show B 1 64 (F 12 0) from hI 12 0) (B_mul cqb_8_8_8 b203 (by decide +kernel) (by decide +kernel) (by decide +kernel)) (by decide +kernel) (by decide +kernel)) cqb_1_1_1 (by decide +kernel) (by decide +kernel)) (B_mul cqb_8_8_8 b203 (by decide +kernel) (by decide +kernel) (by decide +kernel)) (by decide +kernel) (by decide +kernel) (by decide +kernel) (by decide +kernel))) (by decide +kernel) (by decide +kernel) (by decide +kernel)).trans (by rw [e368, e399])
        have q401 : (1) ≤ ((T307 13 x1_306.toNatClampNeg) * (T307 12 7)).toInt ∧ ((T307 13 x1_306.toNatClampNeg) * (T307 12 7)).toInt ≤ (8) := (show B 1 8 ((T307 13 x1_306.toNatClampNeg) * (T307 12 7)) from B_w (B_mul (B_eq (congrFun (g310.2 13 rfl rfl) x1_306.toNatClampNeg) (show B 1 2 (F 13 x1_306.toNatClampNeg) from sB_13 hI b348 (by decide +kernel) (by decide +kernel))) (B_eq (g310.1 12 7 rfl rfl) (show B 1 4 ((((F 12 0) + (8 * (F 12 5))) - 1) / (8 * (F 12 5))) from B_div2 (B_sub (B_add (show B 1 64 (F 12 0) from hI 12 0) (B_mul cqb_8_8_8 b203 (by decide +kernel) (by decide +kernel) (by decide +kernel)) (by decide +kernel) (by decide +kernel)) cqb_1_1_1 (by decide +kernel) (by decide +kernel)) (B_mul cqb_8_8_8 b203 (by decide +kernel) (by decide +kernel) (by decide +kernel)) (by decide +kernel) (by decide +kernel) (by decide +kernel) (by decide +kernel))) (by decide +kernel) (by decide +kernel) (by decide +kernel)) (by decide +kernel) (by decide +kernel))
        exact hR38 ⟨(B_w (B_add b348 cqb_1_1_1 (by decide +kernel) (by decide +kernel)) (by decide +kernel) (by decide +kernel)), _, _, rfl, hI357, g358, (qf_ext (x := x1_306) (b' := (x1_306 + 1).toInt) r313 (fun _ => (B_w (show B 1 64 (((((T307 12 0) * (T307 13 x1_306.toNatClampNeg)) + (T307 12 5)) - 1) / (T307 12 5)) from B_div2 (B_sub (B_add (B_mul (B_eq (g310.1 12 0 rfl rfl) (show B 1 64 (F 12 0) from hI 12 0)) (B_eq (congrFun (g310.2 13 rfl rfl) x1_306.toNatClampNeg) (show B 1 2 (F 13 x1_306.toNatClampNeg) from sB_13 hI b348 (by decide +kernel) (by decide +kernel))) (by decide +kernel) (by decide +kernel) (by decide +kernel)) (B_eq (g310.1 12 5 rfl rfl) b203) (by decide +kernel) (by decide +kernel)) cqb_1_1_1 (by decide +kernel) (by decide +kernel)) (B_eq (g310.1 12 5 rfl rfl) b203) (by decide +kernel) (by decide +kernel) (by decide +kernel) (by decide +kernel)) (by decide +kernel) (by decide +kernel))) (by omega) (by omega) (by omega)), (qf_ext (x := x1_306) (b' := (x1_306 + 1).toInt) r314 (fun _ => (B_w (show B 1 64 (((((T307 12 1) * (T307 14 x1_306.toNatClampNeg)) + (T307 12 6)) - 1) / (T307 12 6)) from B_div2 (B_sub (B_add (B_mul (B_eq (g310.1 12 1 rfl rfl) (show B 1 64 (F 12 1) from hI 12 1)) (B_eq (congrFun (g310.2 14 rfl rfl) x1_306.toNatClampNeg) (show B 1 2 (F 14 x1_306.toNatClampNeg) from sB_14 hI b348 (by decide +kernel) (by decide +kernel))) (by decide +kernel) (by decide +kernel) (by decide +kernel)) (B_eq (g310.1 12 6 rfl rfl) b304) (by decide +kernel) (by decide +kernel)) cqb_1_1_1 (by decide +kernel) (by decide +kernel)) (B_eq (g310.1 12 6 rfl rfl) b304) (by decide +kernel) (by decide +kernel) (by decide +kernel) (by decide +kernel)) (by decide +kernel) (by decide +kernel))) (by omega) (by omega) (by omega)), (qf_ext (x := x1_306) (b' := (x1_306 + 1).toInt) r315 (fun _ => (B_w (B_mul (B_eq (congrFun (g310.2 13 rfl rfl) x1_306.toNatClampNeg) (show B 1 2 (F 13 x1_306.toNatClampNeg) from sB_13 hI b348 (by decide +kernel) (by decide +kernel))) (B_eq (g310.1 12 7 rfl rfl) (show B 1 4 ((((F 12 0) + (8 * (F 12 5))) - 1) / (8 * (F 12 5))) from B_div2 (B_sub (B_add (show B 1 64 (F 12 0) from hI 12 0) (B_mul cqb_8_8_8 b203 (by decide +kernel) (by decide +kernel) (by decide +kernel)) (by decide +kernel) (by decide +kernel)) cqb_1_1_1 (by decide +kernel) (by decide +kernel)) (B_mul cqb_8_8_8 b203 (by decide +kernel) (by decide +kernel) (by decide +kernel)) (by decide +kernel) (by decide +kernel) (by decide +kernel) (by decide +kernel))) (by decide +kernel) (by decide +kernel) (by decide +kernel)) (by decide +kernel) (by decide +kernel))) (by omega) (by omega) (by omega))⟩ (by show (3 - (x1_306 + 1).toInt).toNat < (3 - x1_306.toInt).toNat; omega)
set_option maxRecDepth 20000 in
set_option maxHeartbeats 4000000 in
theorem h_Pi_hasBlock_u12 {a : Bool} {b : Bool} {P : Nat → Nat → Nat} {x1 : Int32} {x2 : Int32} {F : cF} {L : cL} {K : Int32 → cs → Prop} (hI : IMc F) (hK : ∀ {v : Int32}, B 0 1 v → ((v.toInt = 0) ∨ ((0 ≤ x1.toInt) ∧ ((x1.toInt ≤ 2) ∧ ((0 ≤ x2.toInt) ∧ (x2.toInt ≤ 63))))) → K v (F, L, PC a b P)) : p_Pi_hasBlock UL 12 x1 x2 (F, L, PC a b P) K := by
  unfold p_Pi_hasBlock
  refine h_B_isWithin  (fun {v8_1} b2 r3 r4 => ?_)
  rcases sp_01 b2 with rfl | rfl
  · have r5 : ((0 : Int) = 0) ∨ ((0 ≤ x1.toInt) ∧ (x1.toInt ≤ ((F 12 2) - 1).toInt)) := r3
    clear r3
    have q6 : (1) ≤ (F 12 2).toInt ∧ (F 12 2).toInt ≤ (3) := (show B 1 3 (F 12 2) from hI 12 2)
    have e7 : ((F 12 2) - 1).toInt = ((F 12 2).toInt - 1) := (t_sub (show B 1 3 (F 12 2) from hI 12 2) cqb_1_1_1 (by decide +kernel) (by decide +kernel)).trans (by rw [cqn_1])
    have q8 : (0) ≤ ((F 12 2) - 1).toInt ∧ ((F 12 2) - 1).toInt ≤ (2) := (show B 0 2 ((F 12 2) - 1) from B_w (B_sub (show B 1 3 (F 12 2) from hI 12 2) cqb_1_1_1 (by decide +kernel) (by decide +kernel)) (by decide +kernel) (by decide +kernel))
    have r9 : ((0 : Int) = 1) ∨ ((x1.toInt < 0) ∨ (((F 12 2) - 1).toInt < x1.toInt)) := r4
    clear r4
    refine ⟨fun hc => ?_, fun hc => ?_⟩
    · have i10 : (0 : Int32).toInt = (0 : Int32).toInt := congrArg Int32.toInt hc
      have n11 : (0 : Int32).toInt = 0 := cqn_0
      have n12 : (0 : Int32).toInt = 0 := cqn_0
      unfold b_Pi_hasBlock_34
      unfold b_Pi_hasBlock_35
      refine ⟨B_nar cqb_0_0_0 (by decide +kernel) (by decide +kernel), ?_⟩
      exact hK (B_w cqb_0_0_0 (by decide +kernel) (by decide +kernel)) (by show ((0 : Int) = 0) ∨ ((0 ≤ x1.toInt) ∧ ((x1.toInt ≤ 2) ∧ ((0 ≤ x2.toInt) ∧ (x2.toInt ≤ 63)))); first | with_reducible assumption | omega)
    · exact (hc (B_z cqb_0_0_0)).elim
  · have r13 : ((1 : Int) = 0) ∨ ((0 ≤ x1.toInt) ∧ (x1.toInt ≤ ((F 12 2) - 1).toInt)) := r3
    clear r3
    have q14 : (1) ≤ (F 12 2).toInt ∧ (F 12 2).toInt ≤ (3) := (show B 1 3 (F 12 2) from hI 12 2)
    have e15 : ((F 12 2) - 1).toInt = ((F 12 2).toInt - 1) := (t_sub (show B 1 3 (F 12 2) from hI 12 2) cqb_1_1_1 (by decide +kernel) (by decide +kernel)).trans (by rw [cqn_1])
    have q16 : (0) ≤ ((F 12 2) - 1).toInt ∧ ((F 12 2) - 1).toInt ≤ (2) := (show B 0 2 ((F 12 2) - 1) from B_w (B_sub (show B 1 3 (F 12 2) from hI 12 2) cqb_1_1_1 (by decide +kernel) (by decide +kernel)) (by decide +kernel) (by decide +kernel))
    have r17 : ((1 : Int) = 1) ∨ ((x1.toInt < 0) ∨ (((F 12 2) - 1).toInt < x1.toInt)) := r4
    clear r4
    have b18 : B 0 2 (x1) := ⟨by omega, by omega⟩
    refine ⟨fun hc => ?_, fun hc => ?_⟩
    · exact (B_dis cqb_1_1_1 cqb_0_0_0 hc (by decide +kernel)).elim
    · have i19 : (1 : Int32).toInt ≠ (0 : Int32).toInt := i_ne hc
      have n20 : (1 : Int32).toInt = 1 := cqn_1
      have n21 : (0 : Int32).toInt = 0 := cqn_0
      refine ⟨(show ¬ ((18 : Nat) = NU) from by decide +kernel), ?_⟩
      refine ⟨(show c_cl UL 18 = 902 from cl_18), ?_⟩
      refine ⟨(show vp_in (x1) 3 from vp_B b18 (by decide +kernel) (by decide +kernel)), ?_⟩
      refine h_B_isWithin  (fun {v24_22} b23 r24 r25 => ?_)
      rcases sp_01 b23 with rfl | rfl
      · have r26 : ((0 : Int) = 0) ∨ ((0 ≤ x2.toInt) ∧ (x2.toInt ≤ ((F 18 x1.toNatClampNeg) - 1).toInt)) := r24
        clear r24
        have q27 : (0) ≤ (F 18 x1.toNatClampNeg).toInt ∧ (F 18 x1.toNatClampNeg).toInt ≤ (64) := (show B 0 64 (F 18 x1.toNatClampNeg) from hI 18 x1.toNatClampNeg)
        have e28 : ((F 18 x1.toNatClampNeg) - 1).toInt = ((F 18 x1.toNatClampNeg).toInt - 1) := (t_sub (show B 0 64 (F 18 x1.toNatClampNeg) from hI 18 x1.toNatClampNeg) cqb_1_1_1 (by decide +kernel) (by decide +kernel)).trans (by rw [cqn_1])
        have q29 : (-1) ≤ ((F 18 x1.toNatClampNeg) - 1).toInt ∧ ((F 18 x1.toNatClampNeg) - 1).toInt ≤ (63) := (show B (-1) 63 ((F 18 x1.toNatClampNeg) - 1) from B_w (B_sub (show B 0 64 (F 18 x1.toNatClampNeg) from hI 18 x1.toNatClampNeg) cqb_1_1_1 (by decide +kernel) (by decide +kernel)) (by decide +kernel) (by decide +kernel))
        have r30 : ((0 : Int) = 1) ∨ ((x2.toInt < 0) ∨ (((F 18 x1.toNatClampNeg) - 1).toInt < x2.toInt)) := r25
        clear r25
        refine ⟨fun hc => ?_, fun hc => ?_⟩
        · have i31 : (0 : Int32).toInt = (0 : Int32).toInt := congrArg Int32.toInt hc
          have n32 : (0 : Int32).toInt = 0 := cqn_0
          have n33 : (0 : Int32).toInt = 0 := cqn_0
          unfold b_Pi_hasBlock_34
          unfold b_Pi_hasBlock_35
          refine ⟨B_nar cqb_0_0_0 (by decide +kernel) (by decide +kernel), ?_⟩
          exact hK (B_w cqb_0_0_0 (by decide +kernel) (by decide +kernel)) (by show ((0 : Int) = 0) ∨ ((0 ≤ x1.toInt) ∧ ((x1.toInt ≤ 2) ∧ ((0 ≤ x2.toInt) ∧ (x2.toInt ≤ 63)))); first | with_reducible assumption | omega)
        · exact (hc (B_z cqb_0_0_0)).elim
      · have r34 : ((1 : Int) = 0) ∨ ((0 ≤ x2.toInt) ∧ (x2.toInt ≤ ((F 18 x1.toNatClampNeg) - 1).toInt)) := r24
        clear r24
        have q35 : (0) ≤ (F 18 x1.toNatClampNeg).toInt ∧ (F 18 x1.toNatClampNeg).toInt ≤ (64) := (show B 0 64 (F 18 x1.toNatClampNeg) from hI 18 x1.toNatClampNeg)
        have e36 : ((F 18 x1.toNatClampNeg) - 1).toInt = ((F 18 x1.toNatClampNeg).toInt - 1) := (t_sub (show B 0 64 (F 18 x1.toNatClampNeg) from hI 18 x1.toNatClampNeg) cqb_1_1_1 (by decide +kernel) (by decide +kernel)).trans (by rw [cqn_1])
        have q37 : (-1) ≤ ((F 18 x1.toNatClampNeg) - 1).toInt ∧ ((F 18 x1.toNatClampNeg) - 1).toInt ≤ (63) := (show B (-1) 63 ((F 18 x1.toNatClampNeg) - 1) from B_w (B_sub (show B 0 64 (F 18 x1.toNatClampNeg) from hI 18 x1.toNatClampNeg) cqb_1_1_1 (by decide +kernel) (by decide +kernel)) (by decide +kernel) (by decide +kernel))
        have r38 : ((1 : Int) = 1) ∨ ((x2.toInt < 0) ∨ (((F 18 x1.toNatClampNeg) - 1).toInt < x2.toInt)) := r25
        clear r25
        have b39 : B 0 63 (x2) := ⟨by omega, by omega⟩
        refine ⟨fun hc => ?_, fun hc => ?_⟩
        · exact (B_dis cqb_1_1_1 cqb_0_0_0 hc (by decide +kernel)).elim
        · have i40 : (1 : Int32).toInt ≠ (0 : Int32).toInt := i_ne hc
          have n41 : (1 : Int32).toInt = 1 := cqn_1
          have n42 : (0 : Int32).toInt = 0 := cqn_0
          unfold b_Pi_hasBlock_35
          refine ⟨B_nar cqb_1_1_1 (by decide +kernel) (by decide +kernel), ?_⟩
          exact hK (B_w cqb_1_1_1 (by decide +kernel) (by decide +kernel)) (by show ((1 : Int) = 0) ∨ ((0 ≤ x1.toInt) ∧ ((x1.toInt ≤ 2) ∧ ((0 ≤ x2.toInt) ∧ (x2.toInt ≤ 63)))); first | with_reducible assumption | omega)
set_option maxRecDepth 20000 in
set_option maxHeartbeats 4000000 in
theorem h_Wa_makeWeights_u7 {a : Bool} {b : Bool} {P : Nat → Nat → Nat} {F : cF} {L : cL} {K : cs → Prop} (hI : IMc F) (hK : ∀ {Z : cF} {LZ : cL}, IMc Z → agc [] [10, 999] F Z → K (Z, LZ, PC a b P)) : p_Wa_makeWeights UL 7 (F, L, PC a b P) K := by
  unfold p_Wa_makeWeights
  refine ⟨fun yx1 yS => B 0 8 yx1 ∧ ∃ (T2 : cF) (LT2 : cL), yS = (T2, LT2, PC a b P) ∧ IMc T2 ∧ agc [] [999] F T2, fun yx1 yS => (8 - yx1.toInt).toNat, ⟨(B_w cqb_0_0_0 (by decide +kernel) (by decide +kernel)), _, _, rfl, hI, (agc_refl (fs := []) (rs := [999]) (F := F))⟩, fun x1_1 ST2 hIv => ?_⟩
  obtain ⟨b3, T2, LT2, rfl, hI4, g5⟩ := hIv
  suffices hs : ∀ (R2 : Int32 → cs → Prop), (∀ zx1 zS, (B 0 8 zx1 ∧ ∃ (T2 : cF) (LT2 : cL), zS = (T2, LT2, PC a b P) ∧ IMc T2 ∧ agc [] [999] F T2) → (8 - zx1.toInt).toNat < (8 - x1_1.toInt).toNat → R2 zx1 zS) → b_Wa_makeWeights_2 UL 7 x1_1 (T2, LT2, PC a b P) R2 K from hs _ (fun _ _ h1 h2 => ⟨h1, h2⟩)
  intro R2 hR20
  have hR2 := fun {zx1} {zS} => hR20 zx1 zS
  unfold b_Wa_makeWeights_2
  refine ⟨fun hc => ?_, fun hc => ?_⟩
  · have hq6 := hc
    have b7 : B 8 8 (x1_1) := B_w (B_leR cqb_8_8_8 b3 hq6) (by decide +kernel) (by decide +kernel)
    refine ⟨fun yx1 yS => B 0 8 yx1 ∧ ∃ (T9 : cF) (LT9 : cL), yS = (T9, LT9, PC a b P) ∧ IMc T9 ∧ agc [] [10, 999] T2 T9, fun yx1 yS => (8 - yx1.toInt).toNat, ⟨(B_w cqb_0_0_0 (by decide +kernel) (by decide +kernel)), _, _, rfl, hI4, (agc_refl (fs := []) (rs := [10, 999]) (F := T2))⟩, fun x1_8 ST9 hIv => ?_⟩
    obtain ⟨b10, T9, LT9, rfl, hI11, g12⟩ := hIv
    suffices hs : ∀ (R98 : Int32 → cs → Prop), (∀ zx1 zS, (B 0 8 zx1 ∧ ∃ (T9 : cF) (LT9 : cL), zS = (T9, LT9, PC a b P) ∧ IMc T9 ∧ agc [] [10, 999] T2 T9) → (8 - zx1.toInt).toNat < (8 - x1_8.toInt).toNat → R98 zx1 zS) → b_Wa_makeWeights_98 UL 7 x1_8 (T9, LT9, PC a b P) R98 K from hs _ (fun _ _ h1 h2 => ⟨h1, h2⟩)
    intro R98 hR980
    have hR98 := fun {zx1} {zS} => hR980 zx1 zS
    unfold b_Wa_makeWeights_98
    refine ⟨fun hc => ?_, fun hc => ?_⟩
    · have hq13 := hc
      have b14 : B 8 8 (x1_8) := B_w (B_leR cqb_8_8_8 b10 hq13) (by decide +kernel) (by decide +kernel)
      have g16 := agc_tr (agc_refl (fs := []) (rs := [10, 999]) (F := F)) g5 (by decide +kernel) (by decide +kernel)
      have g15 := agc_tr g16 g12 (by decide +kernel) (by decide +kernel)
      exact hK hI11 g15
    · have hq17 := (nle_lt hc)
      have b18 : B 0 7 (x1_8) := B_w (B_ltL b10 cqb_8_8_8 hq17) (by decide +kernel) (by decide +kernel)
      refine ⟨fun yx1 yx2 yS => x1_8 = yx1 ∧ B 0 8 yx2 ∧ ∃ (T21 : cF) (LT21 : cL), yS = (T21, LT21, PC a b P) ∧ IMc T21 ∧ agc [] [10] T9 T21, fun yx1 yx2 yS => (8 - yx2.toInt).toNat, ⟨rfl, (B_w cqb_0_0_0 (by decide +kernel) (by decide +kernel)), _, _, rfl, hI11, (agc_refl (fs := []) (rs := [10]) (F := T9))⟩, fun x1_19 x2_20 ST21 hIv => ?_⟩
      obtain ⟨rfl, b22, T21, LT21, rfl, hI23, g24⟩ := hIv
      suffices hs : ∀ (R106 : Int32 → Int32 → cs → Prop), (∀ zx1 zx2 zS, (x1_8 = zx1 ∧ B 0 8 zx2 ∧ ∃ (T21 : cF) (LT21 : cL), zS = (T21, LT21, PC a b P) ∧ IMc T21 ∧ agc [] [10] T9 T21) → (8 - zx2.toInt).toNat < (8 - x2_20.toInt).toNat → R106 zx1 zx2 zS) → b_Wa_makeWeights_106 UL 7 x1_8 x2_20 (T21, LT21, PC a b P) R98 R106 K from hs _ (fun _ _ _ h1 h2 => ⟨h1, h2⟩)
      intro R106 hR1060
      have hR106 := fun {zx1} {zx2} {zS} => hR1060 zx1 zx2 zS
      unfold b_Wa_makeWeights_106
      refine ⟨fun hc => ?_, fun hc => ?_⟩
      · have hq25 := hc
        have b26 : B 8 8 (x2_20) := B_w (B_leR cqb_8_8_8 b22 hq25) (by decide +kernel) (by decide +kernel)
        have g28 := agc_tr (agc_refl (fs := []) (rs := [10, 999]) (F := T2)) g12 (by decide +kernel) (by decide +kernel)
        have g27 := agc_tr g28 g24 (by decide +kernel) (by decide +kernel)
        have q29 : (0) ≤ (x1_8).toInt ∧ (x1_8).toInt ≤ (7) := (show B 0 7 (x1_8) from B_w b18 (by decide +kernel) (by decide +kernel))
        have e30 : (x1_8 + 1).toInt = ((x1_8).toInt + 1) := (t_add b18 cqb_1_1_1 (by decide +kernel) (by decide +kernel)).trans (by rw [cqn_1])
        have q31 : (1) ≤ (x1_8 + 1).toInt ∧ (x1_8 + 1).toInt ≤ (8) := (show B 1 8 (x1_8 + 1) from B_w (B_add b18 cqb_1_1_1 (by decide +kernel) (by decide +kernel)) (by decide +kernel) (by decide +kernel))
        exact hR98 ⟨(B_w (B_add b18 cqb_1_1_1 (by decide +kernel) (by decide +kernel)) (by decide +kernel) (by decide +kernel)), _, _, rfl, hI23, g27⟩ (by show (8 - (x1_8 + 1).toInt).toNat < (8 - x1_8.toInt).toNat; omega)
      · have hq32 := (nle_lt hc)
        have b33 : B 0 7 (x2_20) := B_w (B_ltL b22 cqb_8_8_8 hq32) (by decide +kernel) (by decide +kernel)
        refine ⟨fun yx1 yx2 yx3 yx5 yS => x1_8 = yx1 ∧ x2_20 = yx2 ∧ B 0 8 yx5 ∧ (T21, LT21, PC a b P) = yS, fun yx1 yx2 yx3 yx5 yS => (8 - yx5.toInt).toNat, ⟨rfl, rfl, (B_w cqb_0_0_0 (by decide +kernel) (by decide +kernel)), rfl⟩, fun x1_34 x2_35 x3_36 x5_37 ST38 hIv => ?_⟩
        obtain ⟨rfl, rfl, b39, rfl⟩ := hIv
        suffices hs : ∀ (R119 : Int32 → Int32 → Int64 → Int32 → cs → Prop), (∀ zx1 zx2 zx3 zx5 zS, (x1_8 = zx1 ∧ x2_20 = zx2 ∧ B 0 8 zx5 ∧ (T21, LT21, PC a b P) = zS) → (8 - zx5.toInt).toNat < (8 - x5_37.toInt).toNat → R119 zx1 zx2 zx3 zx5 zS) → b_Wa_makeWeights_119 UL 7 x1_8 x2_20 x3_36 x5_37 (T21, LT21, PC a b P) R98 R106 R119 K from hs _ (fun _ _ _ _ _ h1 h2 => ⟨h1, h2⟩)
        intro R119 hR1190
        have hR119 := fun {zx1} {zx2} {zx3} {zx5} {zS} => hR1190 zx1 zx2 zx3 zx5 zS
        unfold b_Wa_makeWeights_119
        refine ⟨fun hc => ?_, fun hc => ?_⟩
        · have hq40 := hc
          have b41 : B 8 8 (x5_37) := B_w (B_leR cqb_8_8_8 b39 hq40) (by decide +kernel) (by decide +kernel)
          refine ⟨(show ¬ ((10 : Nat) = NU) from by decide +kernel), ?_⟩
          refine ⟨(show c_cl UL 10 = 902 from cl_10), ?_⟩
          refine ⟨(show vp_in ((8 * x1_8) + x2_20) 64 from vp_B (B_add (B_mul cqb_8_8_8 b18 (by decide +kernel) (by decide +kernel) (by decide +kernel)) b33 (by decide +kernel) (by decide +kernel)) (by decide +kernel) (by decide +kernel)), ?_⟩
          have hI42 := IMc_u (u := 10) (i := ((8 * x1_8) + x2_20).toNatClampNeg) (v := (x3_36 >>> ((17 : Int32).toInt64 &&& 63 : Int64) : Int64).toInt32) hI23 (show B (-2147483648) 2147483647 ((x3_36 >>> ((17 : Int32).toInt64 &&& 63 : Int64) : Int64).toInt32) from (B_w (B_any _) (by decide +kernel) (by decide +kernel)))
          have g44 := agc_tr (agc_refl (fs := []) (rs := [10]) (F := T9)) g24 (by decide +kernel) (by decide +kernel)
          have g43 := agc_r (u := 10) (w := upd (T21 10) ((8 * x1_8) + x2_20).toNatClampNeg (x3_36 >>> ((17 : Int32).toInt64 &&& 63 : Int64) : Int64).toInt32) g44 rfl (by decide +kernel)
          have q45 : (0) ≤ (x2_20).toInt ∧ (x2_20).toInt ≤ (7) := (show B 0 7 (x2_20) from B_w b33 (by decide +kernel) (by decide +kernel))
          have e46 : (x2_20 + 1).toInt = ((x2_20).toInt + 1) := (t_add b33 cqb_1_1_1 (by decide +kernel) (by decide +kernel)).trans (by rw [cqn_1])
          have q47 : (1) ≤ (x2_20 + 1).toInt ∧ (x2_20 + 1).toInt ≤ (8) := (show B 1 8 (x2_20 + 1) from B_w (B_add b33 cqb_1_1_1 (by decide +kernel) (by decide +kernel)) (by decide +kernel) (by decide +kernel))
          exact hR106 ⟨rfl, (B_w (B_add b33 cqb_1_1_1 (by decide +kernel) (by decide +kernel)) (by decide +kernel) (by decide +kernel)), _, _, rfl, hI42, g43⟩ (by show (8 - (x2_20 + 1).toInt).toNat < (8 - x2_20.toInt).toNat; omega)
        · have hq48 := (nle_lt hc)
          have b49 : B 0 7 (x5_37) := B_w (B_ltL b39 cqb_8_8_8 hq48) (by decide +kernel) (by decide +kernel)
          refine ⟨(show ¬ ((8 : Nat) = NU) from by decide +kernel), ?_⟩
          refine ⟨(show c_cl UL 8 = 902 from cl_8), ?_⟩
          refine ⟨(show vp_in ((8 * x1_8) + x5_37) 64 from vp_B (B_add (B_mul cqb_8_8_8 b18 (by decide +kernel) (by decide +kernel) (by decide +kernel)) b49 (by decide +kernel) (by decide +kernel)) (by decide +kernel) (by decide +kernel)), ?_⟩
          refine ⟨(show ¬ ((11 : Nat) = NU) from by decide +kernel), ?_⟩
          refine ⟨(show c_cl UL 11 = 904 from cl_11), ?_⟩
          refine ⟨(show vp_in ((8 * x5_37) + x2_20) 64 from vp_B (B_add (B_mul cqb_8_8_8 b49 (by decide +kernel) (by decide +kernel) (by decide +kernel)) b33 (by decide +kernel) (by decide +kernel)) (by decide +kernel) (by decide +kernel)), ?_⟩
          have q50 : (0) ≤ (x5_37).toInt ∧ (x5_37).toInt ≤ (7) := (show B 0 7 (x5_37) from B_w b49 (by decide +kernel) (by decide +kernel))
          have e51 : (x5_37 + 1).toInt = ((x5_37).toInt + 1) := (t_add b49 cqb_1_1_1 (by decide +kernel) (by decide +kernel)).trans (by rw [cqn_1])
          have q52 : (1) ≤ (x5_37 + 1).toInt ∧ (x5_37 + 1).toInt ≤ (8) := (show B 1 8 (x5_37 + 1) from B_w (B_add b49 cqb_1_1_1 (by decide +kernel) (by decide +kernel)) (by decide +kernel) (by decide +kernel))
          exact hR119 ⟨rfl, rfl, (B_w (B_add b49 cqb_1_1_1 (by decide +kernel) (by decide +kernel)) (by decide +kernel) (by decide +kernel)), rfl⟩ (by show (8 - (x5_37 + 1).toInt).toNat < (8 - x5_37.toInt).toNat; omega)
  · have hq53 := (nle_lt hc)
    have b54 : B 0 7 (x1_1) := B_w (B_ltL b3 cqb_8_8_8 hq53) (by decide +kernel) (by decide +kernel)
    refine ⟨fun yx1 yx2 yS => x1_1 = yx1 ∧ B 0 8 yx2 ∧ ∃ (T57 : cF) (LT57 : cL), yS = (T57, LT57, PC a b P) ∧ IMc T57 ∧ agc [] [999] T2 T57, fun yx1 yx2 yS => (8 - yx2.toInt).toNat, ⟨rfl, (B_w cqb_0_0_0 (by decide +kernel) (by decide +kernel)), _, _, rfl, hI4, (agc_refl (fs := []) (rs := [999]) (F := T2))⟩, fun x1_55 x2_56 ST57 hIv => ?_⟩
    obtain ⟨rfl, b58, T57, LT57, rfl, hI59, g60⟩ := hIv
    suffices hs : ∀ (R10 : Int32 → Int32 → cs → Prop), (∀ zx1 zx2 zS, (x1_1 = zx1 ∧ B 0 8 zx2 ∧ ∃ (T57 : cF) (LT57 : cL), zS = (T57, LT57, PC a b P) ∧ IMc T57 ∧ agc [] [999] T2 T57) → (8 - zx2.toInt).toNat < (8 - x2_56.toInt).toNat → R10 zx1 zx2 zS) → b_Wa_makeWeights_10 UL 7 x1_1 x2_56 (T57, LT57, PC a b P) R2 R10 K from hs _ (fun _ _ _ h1 h2 => ⟨h1, h2⟩)
    intro R10 hR100
    have hR10 := fun {zx1} {zx2} {zS} => hR100 zx1 zx2 zS
    unfold b_Wa_makeWeights_10
    refine ⟨fun hc => ?_, fun hc => ?_⟩
    · have hq61 := hc
      have b62 : B 8 8 (x2_56) := B_w (B_leR cqb_8_8_8 b58 hq61) (by decide +kernel) (by decide +kernel)
      have g64 := agc_tr (agc_refl (fs := []) (rs := [999]) (F := F)) g5 (by decide +kernel) (by decide +kernel)
      have g63 := agc_tr g64 g60 (by decide +kernel) (by decide +kernel)
      have q65 : (0) ≤ (x1_1).toInt ∧ (x1_1).toInt ≤ (7) := (show B 0 7 (x1_1) from B_w b54 (by decide +kernel) (by decide +kernel))
      have e66 : (x1_1 + 1).toInt = ((x1_1).toInt + 1) := (t_add b54 cqb_1_1_1 (by decide +kernel) (by decide +kernel)).trans (by rw [cqn_1])
      have q67 : (1) ≤ (x1_1 + 1).toInt ∧ (x1_1 + 1).toInt ≤ (8) := (show B 1 8 (x1_1 + 1) from B_w (B_add b54 cqb_1_1_1 (by decide +kernel) (by decide +kernel)) (by decide +kernel) (by decide +kernel))
      exact hR2 ⟨(B_w (B_add b54 cqb_1_1_1 (by decide +kernel) (by decide +kernel)) (by decide +kernel) (by decide +kernel)), _, _, rfl, hI59, g63⟩ (by show (8 - (x1_1 + 1).toInt).toNat < (8 - x1_1.toInt).toNat; omega)
    · have hq68 := (nle_lt hc)
      have b69 : B 0 7 (x2_56) := B_w (B_ltL b58 cqb_8_8_8 hq68) (by decide +kernel) (by decide +kernel)
      refine ⟨fun yx1 yx2 yx3 yx4 yS => x1_1 = yx1 ∧ x2_56 = yx2 ∧ B (-2147483648) 2147483647 yx3 ∧ B 0 8 yx4 ∧ (T57, LT57, PC a b P) = yS, fun yx1 yx2 yx3 yx4 yS => (8 - yx4.toInt).toNat, ⟨rfl, rfl, (B_w cqb_256_256_256 (by decide +kernel) (by decide +kernel)), (B_w cqb_0_0_0 (by decide +kernel) (by decide +kernel)), rfl⟩, fun x1_70 x2_71 x3_72 x4_73 ST74 hIv => ?_⟩
      obtain ⟨rfl, rfl, b75, b76, rfl⟩ := hIv
      suffices hs : ∀ (R23 : Int32 → Int32 → Int32 → Int32 → cs → Prop), (∀ zx1 zx2 zx3 zx4 zS, (x1_1 = zx1 ∧ x2_56 = zx2 ∧ B (-2147483648) 2147483647 zx3 ∧ B 0 8 zx4 ∧ (T57, LT57, PC a b P) = zS) → (8 - zx4.toInt).toNat < (8 - x4_73.toInt).toNat → R23 zx1 zx2 zx3 zx4 zS) → b_Wa_makeWeights_23 UL 7 x1_1 x2_56 x3_72 x4_73 (T57, LT57, PC a b P) R2 R10 R23 K from hs _ (fun _ _ _ _ _ h1 h2 => ⟨h1, h2⟩)
      intro R23 hR230
      have hR23 := fun {zx1} {zx2} {zx3} {zx4} {zS} => hR230 zx1 zx2 zx3 zx4 zS
      unfold b_Wa_makeWeights_23
      refine ⟨fun hc => ?_, fun hc => ?_⟩
      · have hq77 := hc
        have b78 : B 8 8 (x4_73) := B_w (B_leR cqb_8_8_8 b76 hq77) (by decide +kernel) (by decide +kernel)
        refine ⟨(show ¬ ((11 : Nat) = NU) from by decide +kernel), ?_⟩
        refine ⟨(show c_cl UL 11 = 904 from cl_11), ?_⟩
        refine ⟨(show vp_in ((8 * x1_1) + x2_56) 64 from vp_B (B_add (B_mul cqb_8_8_8 b54 (by decide +kernel) (by decide +kernel) (by decide +kernel)) b69 (by decide +kernel) (by decide +kernel)) (by decide +kernel) (by decide +kernel)), ?_⟩
        have g79 := agc_tr (agc_refl (fs := []) (rs := [999]) (F := T2)) g60 (by decide +kernel) (by decide +kernel)
        have q80 : (0) ≤ (x2_56).toInt ∧ (x2_56).toInt ≤ (7) := (show B 0 7 (x2_56) from B_w b69 (by decide +kernel) (by decide +kernel))
        have e81 : (x2_56 + 1).toInt = ((x2_56).toInt + 1) := (t_add b69 cqb_1_1_1 (by decide +kernel) (by decide +kernel)).trans (by rw [cqn_1])
        have q82 : (1) ≤ (x2_56 + 1).toInt ∧ (x2_56 + 1).toInt ≤ (8) := (show B 1 8 (x2_56 + 1) from B_w (B_add b69 cqb_1_1_1 (by decide +kernel) (by decide +kernel)) (by decide +kernel) (by decide +kernel))
        exact hR10 ⟨rfl, (B_w (B_add b69 cqb_1_1_1 (by decide +kernel) (by decide +kernel)) (by decide +kernel) (by decide +kernel)), _, _, rfl, hI59, g79⟩ (by show (8 - (x2_56 + 1).toInt).toNat < (8 - x2_56.toInt).toNat; omega)
      · have hq83 := (nle_lt hc)
        have b84 : B 0 7 (x4_73) := B_w (B_ltL b76 cqb_8_8_8 hq83) (by decide +kernel) (by decide +kernel)
        refine ⟨(show ¬ ((8 : Nat) = NU) from by decide +kernel), ?_⟩
        refine ⟨(show c_cl UL 8 = 902 from cl_8), ?_⟩
        refine ⟨(show vp_in ((8 * x2_56) + x4_73) 64 from vp_B (B_add (B_mul cqb_8_8_8 b69 (by decide +kernel) (by decide +kernel) (by decide +kernel)) b84 (by decide +kernel) (by decide +kernel)) (by decide +kernel) (by decide +kernel)), ?_⟩
        refine ⟨(show ¬ ((9 : Nat) = NU) from by decide +kernel), ?_⟩
        refine ⟨(show c_cl UL 9 = 902 from cl_9), ?_⟩
        refine ⟨(show vp_in ((8 * x1_1) + x4_73) 64 from vp_B (B_add (B_mul cqb_8_8_8 b54 (by decide +kernel) (by decide +kernel) (by decide +kernel)) b84 (by decide +kernel) (by decide +kernel)) (by decide +kernel) (by decide +kernel)), ?_⟩
        have q85 : (0) ≤ (x4_73).toInt ∧ (x4_73).toInt ≤ (7) := (show B 0 7 (x4_73) from B_w b84 (by decide +kernel) (by decide +kernel))
        have e86 : (x4_73 + 1).toInt = ((x4_73).toInt + 1) := (t_add b84 cqb_1_1_1 (by decide +kernel) (by decide +kernel)).trans (by rw [cqn_1])
        have q87 : (1) ≤ (x4_73 + 1).toInt ∧ (x4_73 + 1).toInt ≤ (8) := (show B 1 8 (x4_73 + 1) from B_w (B_add b84 cqb_1_1_1 (by decide +kernel) (by decide +kernel)) (by decide +kernel) (by decide +kernel))
        exact hR23 ⟨rfl, rfl, (B_w (B_any _) (by decide +kernel) (by decide +kernel)), (B_w (B_add b84 cqb_1_1_1 (by decide +kernel) (by decide +kernel)) (by decide +kernel) (by decide +kernel)), rfl⟩ (by show (8 - (x4_73 + 1).toInt).toNat < (8 - x4_73.toInt).toNat; omega)
set_option maxRecDepth 20000 in
set_option maxHeartbeats 4000000 in
theorem h_B_clamp_x10_x2255 {x0 : Int32} {K : Int32 → Prop} (hK : ∀ {v : Int32}, B 0 255 v → K v) : p_B_clamp x0 0 255 K := by
  unfold p_B_clamp
  refine ⟨fun hc => ?_, fun hc => ?_⟩
  · have hq1 := hc
    have b2 : B 0 2147483647 (x0) := B_w (B_leR cqb_0_0_0 (B_any _) hq1) (by decide +kernel) (by decide +kernel)
    refine ⟨fun hc => ?_, fun hc => ?_⟩
    · have hq3 := hc
      have b4 : B 0 255 (x0) := B_w (B_leL b2 cqb_255_255_255 hq3) (by decide +kernel) (by decide +kernel)
      unfold b_B_clamp_19
      exact hK b4
    · have hq5 := (nle_lt hc)
      have b6 : B 256 2147483647 (x0) := B_w (B_ltR cqb_255_255_255 b2 hq5) (by decide +kernel) (by decide +kernel)
      unfold b_B_clamp_19
      exact hK (B_w cqb_255_255_255 (by decide +kernel) (by decide +kernel))
  · have hq7 := (nle_lt hc)
    have b8 : B (-2147483648) (-1) (x0) := B_w (B_ltL (B_any _) cqb_0_0_0 hq7) (by decide +kernel) (by decide +kernel)
    unfold b_B_clamp_19
    exact hK (B_w cqb_0_0_0 (by decide +kernel) (by decide +kernel))
set_option maxRecDepth 20000 in
set_option maxHeartbeats 4000000 in
theorem h_Wa_hasWeights_u7 {a : Bool} {b : Bool} {P : Nat → Nat → Nat} {x1 : Int32} {F : cF} {L : cL} {K : Int32 → cs → Prop} (b_x1 : B 0 7 x1) (hI : IMc F) (hK : ∀ {v : Int32}, B 0 1 v → K v (F, L, PC a b P)) : p_Wa_hasWeights UL 7 x1 (F, L, PC a b P) K := by
  unfold p_Wa_hasWeights
  refine ⟨fun yx1 yx2 yx3 yS => x1 = yx1 ∧ B 0 1 yx2 ∧ B 0 8 yx3 ∧ (F, L, PC a b P) = yS, fun yx1 yx2 yx3 yS => (8 - yx3.toInt).toNat, ⟨rfl, (B_w cqb_0_0_0 (by decide +kernel) (by decide +kernel)), (B_w cqb_0_0_0 (by decide +kernel) (by decide +kernel)), rfl⟩, fun x1_1 x2_2 x3_3 ST4 hIv => ?_⟩
  obtain ⟨rfl, b5, b6, rfl⟩ := hIv
  suffices hs : ∀ (R4 : Int32 → Int32 → Int32 → cs → Prop), (∀ zx1 zx2 zx3 zS, (x1 = zx1 ∧ B 0 1 zx2 ∧ B 0 8 zx3 ∧ (F, L, PC a b P) = zS) → (8 - zx3.toInt).toNat < (8 - x3_3.toInt).toNat → R4 zx1 zx2 zx3 zS) → b_Wa_hasWeights_4 UL 7 x1 x2_2 x3_3 (F, L, PC a b P) R4 K from hs _ (fun _ _ _ _ h1 h2 => ⟨h1, h2⟩)
  intro R4 hR40
  have hR4 := fun {zx1} {zx2} {zx3} {zS} => hR40 zx1 zx2 zx3 zS
  unfold b_Wa_hasWeights_4
  refine ⟨fun hc => ?_, fun hc => ?_⟩
  · have hq7 := hc
    have b8 : B 8 8 (x3_3) := B_w (B_leR cqb_8_8_8 b6 hq7) (by decide +kernel) (by decide +kernel)
    refine ⟨B_nar b5 (by decide +kernel) (by decide +kernel), ?_⟩
    exact hK b5
  · have hq9 := (nle_lt hc)
    have b10 : B 0 7 (x3_3) := B_w (B_ltL b6 cqb_8_8_8 hq9) (by decide +kernel) (by decide +kernel)
    refine ⟨fun hc => ?_, fun hc => ?_⟩
    · have b11 : B 1 1 (x2_2) := B_w (B_n0 b5 hc) (by decide +kernel) (by decide +kernel)
      unfold b_Wa_hasWeights_28
      unfold b_Wa_hasWeights_33
      have q12 : (0) ≤ (x3_3).toInt ∧ (x3_3).toInt ≤ (7) := (show B 0 7 (x3_3) from B_w b10 (by decide +kernel) (by decide +kernel))
      have e13 : (x3_3 + 1).toInt = ((x3_3).toInt + 1) := (t_add b10 cqb_1_1_1 (by decide +kernel) (by decide +kernel)).trans (by rw [cqn_1])
      have q14 : (1) ≤ (x3_3 + 1).toInt ∧ (x3_3 + 1).toInt ≤ (8) := (show B 1 8 (x3_3 + 1) from B_w (B_add b10 cqb_1_1_1 (by decide +kernel) (by decide +kernel)) (by decide +kernel) (by decide +kernel))
      exact hR4 ⟨rfl, (B_w cqb_1_1_1 (by decide +kernel) (by decide +kernel)), (B_w (B_add b10 cqb_1_1_1 (by decide +kernel) (by decide +kernel)) (by decide +kernel) (by decide +kernel)), rfl⟩ (by show (8 - (x3_3 + 1).toInt).toNat < (8 - x3_3.toInt).toNat; omega)
    · have b15 : B 0 0 (x2_2) := B_w (B_eq hc cqb_0_0_0) (by decide +kernel) (by decide +kernel)
      have q16 : (0) ≤ (x2_2).toInt ∧ (x2_2).toInt ≤ (0) := (show B 0 0 (x2_2) from B_w b15 (by decide +kernel) (by decide +kernel))
      have i17 : (x2_2).toInt = (0 : Int32).toInt := congrArg Int32.toInt hc
      have n18 : (0 : Int32).toInt = 0 := cqn_0
      refine ⟨(show ¬ ((10 : Nat) = NU) from by decide +kernel), ?_⟩
      refine ⟨(show c_cl UL 10 = 902 from cl_10), ?_⟩
      refine ⟨(show vp_in ((8 * x1) + x3_3) 64 from vp_B (B_add (B_mul cqb_8_8_8 b_x1 (by decide +kernel) (by decide +kernel) (by decide +kernel)) b10 (by decide +kernel) (by decide +kernel)) (by decide +kernel) (by decide +kernel)), ?_⟩
      refine ⟨fun hc => ?_, fun hc => ?_⟩
      · have b19 : B 0 0 (F 10 ((8 * x1) + x3_3).toNatClampNeg) := B_w (B_eq hc cqb_0_0_0) (by decide +kernel) (by decide +kernel)
        have q20 : (0) ≤ (F 10 ((8 * x1) + x3_3).toNatClampNeg).toInt ∧ (F 10 ((8 * x1) + x3_3).toNatClampNeg).toInt ≤ (0) := (show B 0 0 (F 10 ((8 * x1) + x3_3).toNatClampNeg) from B_w b19 (by decide +kernel) (by decide +kernel))
        have i21 : (F 10 ((8 * x1) + x3_3).toNatClampNeg).toInt = (0 : Int32).toInt := congrArg Int32.toInt hc
        have n22 : (0 : Int32).toInt = 0 := cqn_0
        unfold b_Wa_hasWeights_33
        have q23 : (0) ≤ (x3_3).toInt ∧ (x3_3).toInt ≤ (7) := (show B 0 7 (x3_3) from B_w b10 (by decide +kernel) (by decide +kernel))
        have e24 : (x3_3 + 1).toInt = ((x3_3).toInt + 1) := (t_add b10 cqb_1_1_1 (by decide +kernel) (by decide +kernel)).trans (by rw [cqn_1])
        have q25 : (1) ≤ (x3_3 + 1).toInt ∧ (x3_3 + 1).toInt ≤ (8) := (show B 1 8 (x3_3 + 1) from B_w (B_add b10 cqb_1_1_1 (by decide +kernel) (by decide +kernel)) (by decide +kernel) (by decide +kernel))
        exact hR4 ⟨rfl, (B_w cqb_0_0_0 (by decide +kernel) (by decide +kernel)), (B_w (B_add b10 cqb_1_1_1 (by decide +kernel) (by decide +kernel)) (by decide +kernel) (by decide +kernel)), rfl⟩ (by show (8 - (x3_3 + 1).toInt).toNat < (8 - x3_3.toInt).toNat; omega)
      · have i26 : (F 10 ((8 * x1) + x3_3).toNatClampNeg).toInt ≠ (0 : Int32).toInt := i_ne hc
        have n27 : (0 : Int32).toInt = 0 := cqn_0
        unfold b_Wa_hasWeights_28
        unfold b_Wa_hasWeights_33
        have q28 : (0) ≤ (x3_3).toInt ∧ (x3_3).toInt ≤ (7) := (show B 0 7 (x3_3) from B_w b10 (by decide +kernel) (by decide +kernel))
        have e29 : (x3_3 + 1).toInt = ((x3_3).toInt + 1) := (t_add b10 cqb_1_1_1 (by decide +kernel) (by decide +kernel)).trans (by rw [cqn_1])
        have q30 : (1) ≤ (x3_3 + 1).toInt ∧ (x3_3 + 1).toInt ≤ (8) := (show B 1 8 (x3_3 + 1) from B_w (B_add b10 cqb_1_1_1 (by decide +kernel) (by decide +kernel)) (by decide +kernel) (by decide +kernel))
        exact hR4 ⟨rfl, (B_w cqb_1_1_1 (by decide +kernel) (by decide +kernel)), (B_w (B_add b10 cqb_1_1_1 (by decide +kernel) (by decide +kernel)) (by decide +kernel) (by decide +kernel)), rfl⟩ (by show (8 - (x3_3 + 1).toInt).toNat < (8 - x3_3.toInt).toNat; omega)
set_option maxRecDepth 20000 in
set_option maxHeartbeats 4000000 in
theorem h_Ar_fillJ_x011 {a : Bool} {b : Bool} {P : Nat → Nat → Nat} {x1 : Int32} {x2 : Int32} {x3 : Int64} {F : cF} {L : cL} {K : cs → Prop} (b_x1 : B 0 64 x1) (b_x2 : B 0 64 x2) (hI : IMc F) (pre0 : x1.toInt ≤ x2.toInt) (hK : ∀ {Z : cF} {LZ : cL}, IMc Z → agc [] [999] F Z → K (Z, LZ, PC a b P)) : p_Ar_fillJ UL 11 x1 x2 x3 (F, L, PC a b P) K := by
  have q1 : (0) ≤ (x1).toInt ∧ (x1).toInt ≤ (64) := (show B 0 64 (x1) from B_w b_x1 (by decide +kernel) (by decide +kernel))
  have q2 : (0) ≤ (x2).toInt ∧ (x2).toInt ≤ (64) := (show B 0 64 (x2) from B_w b_x2 (by decide +kernel) (by decide +kernel))
  unfold p_Ar_fillJ
  refine ⟨(show c_cl UL 11 = 904 from cl_11), ?_⟩
  unfold p_Ar_rangeCheck
  refine ⟨fun hc => ?_, fun hc => ?_⟩
  · have hq3 := hc
    have i4 : (x1).toInt ≤ (x2).toInt := i_le hq3
    refine ⟨fun hc => ?_, fun hc => ?_⟩
    · have hq5 := hc
      refine ⟨fun hc => ?_, fun hc => ?_⟩
      · have hq6 := hc
        refine ⟨fun yx0 yx2 yx3 yx5 yS => (11 : Nat) = yx0 ∧ x2 = yx2 ∧ x3 = yx3 ∧ B 0 64 yx5 ∧ ∃ (T11 : cF) (LT11 : cL), yS = (T11, LT11, PC a b P) ∧ IMc T11 ∧ agc [] [999] F T11, fun yx0 yx2 yx3 yx5 yS => (64 - yx5.toInt).toNat, ⟨rfl, rfl, rfl, b_x1, _, _, rfl, hI, (agc_refl (fs := []) (rs := [999]) (F := F))⟩, fun x0_7 x2_8 x3_9 x5_10 ST11 hIv => ?_⟩
        obtain ⟨rfl, rfl, rfl, b12, T11, LT11, rfl, hI13, g14⟩ := hIv
        suffices hs : ∀ (R10 : Nat → Int32 → Int64 → Int32 → cs → Prop), (∀ zx0 zx2 zx3 zx5 zS, ((11 : Nat) = zx0 ∧ x2 = zx2 ∧ x3 = zx3 ∧ B 0 64 zx5 ∧ ∃ (T11 : cF) (LT11 : cL), zS = (T11, LT11, PC a b P) ∧ IMc T11 ∧ agc [] [999] F T11) → (64 - zx5.toInt).toNat < (64 - x5_10.toInt).toNat → R10 zx0 zx2 zx3 zx5 zS) → b_Ar_fillJ_10 UL 11 x2 x3 x5_10 (T11, LT11, PC a b P) R10 K from hs _ (fun _ _ _ _ _ h1 h2 => ⟨h1, h2⟩)
        intro R10 hR100
        have hR10 := fun {zx0} {zx2} {zx3} {zx5} {zS} => hR100 zx0 zx2 zx3 zx5 zS
        unfold b_Ar_fillJ_10
        refine ⟨fun hc => ?_, fun hc => ?_⟩
        · have hq15 := hc
          have q16 : (0) ≤ (x5_10).toInt ∧ (x5_10).toInt ≤ (64) := (show B 0 64 (x5_10) from B_w b12 (by decide +kernel) (by decide +kernel))
          have i17 : (x2).toInt ≤ (x5_10).toInt := i_le hq15
          have g18 := agc_tr (agc_refl (fs := []) (rs := [999]) (F := F)) g14 (by decide +kernel) (by decide +kernel)
          exact hK hI13 g18
        · have hq19 := (nle_lt hc)
          have b20 : B 0 63 (x5_10) := B_w (B_ltL b12 b_x2 hq19) (by decide +kernel) (by decide +kernel)
          have b21 : B 1 64 (x2) := B_w (B_ltR b12 b_x2 hq19) (by decide +kernel) (by decide +kernel)
          have q22 : (1) ≤ (x2).toInt ∧ (x2).toInt ≤ (64) := (show B 1 64 (x2) from B_w b21 (by decide +kernel) (by decide +kernel))
          have q23 : (0) ≤ (x5_10).toInt ∧ (x5_10).toInt ≤ (63) := (show B 0 63 (x5_10) from B_w b20 (by decide +kernel) (by decide +kernel))
          have i24 : (x5_10).toInt < (x2).toInt := i_lt hq19
          refine ⟨(show c_cl UL 11 = 904 from cl_11), ?_⟩
          refine ⟨(show vp_in (x5_10) 64 from vp_B b20 (by decide +kernel) (by decide +kernel)), ?_⟩
          have g25 := agc_tr (agc_refl (fs := []) (rs := [999]) (F := F)) g14 (by decide +kernel) (by decide +kernel)
          have e26 : (x5_10 + 1).toInt = ((x5_10).toInt + 1) := (t_add b20 cqb_1_1_1 (by decide +kernel) (by decide +kernel)).trans (by rw [cqn_1])
          have q27 : (1) ≤ (x5_10 + 1).toInt ∧ (x5_10 + 1).toInt ≤ (64) := (show B 1 64 (x5_10 + 1) from B_w (B_add b20 cqb_1_1_1 (by decide +kernel) (by decide +kernel)) (by decide +kernel) (by decide +kernel))
          exact hR10 ⟨rfl, rfl, rfl, (B_w (B_add b20 cqb_1_1_1 (by decide +kernel) (by decide +kernel)) (by decide +kernel) (by decide +kernel)), _, _, rfl, hI13, g25⟩ (by show (64 - (x5_10 + 1).toInt).toNat < (64 - x5_10.toInt).toNat; omega)
      · exact (B_dead_lt cqb_64_64_64 b_x2 (nle_lt hc) (by decide +kernel)).elim
    · exact (B_dead_lt b_x1 cqb_0_0_0 (nle_lt hc) (by decide +kernel)).elim
  · have hq28 := (nle_lt hc)
    have b29 : B 0 63 (x2) := B_w (B_ltL b_x2 b_x1 hq28) (by decide +kernel) (by decide +kernel)
    have q30 : (0) ≤ (x2).toInt ∧ (x2).toInt ≤ (63) := (show B 0 63 (x2) from B_w b29 (by decide +kernel) (by decide +kernel))
    have b31 : B 1 64 (x1) := B_w (B_ltR b_x2 b_x1 hq28) (by decide +kernel) (by decide +kernel)
    have q32 : (1) ≤ (x1).toInt ∧ (x1).toInt ≤ (64) := (show B 1 64 (x1) from B_w b31 (by decide +kernel) (by decide +kernel))
    have i33 : (x2).toInt < (x1).toInt := i_lt hq28
    exfalso; omega
set_option maxRecDepth 20000 in
set_option maxHeartbeats 4000000 in
theorem h_Wa_makeRow_u7 {a : Bool} {b : Bool} {P : Nat → Nat → Nat} {x1 : Int32} {F : cF} {L : cL} {K : cs → Prop} (b_x1 : B 0 7 x1) (hI : IMc F) (hK : ∀ {Z : cF} {LZ : cL}, IMc Z → agc [] [999] F Z → K (Z, LZ, PC a b P)) : p_Wa_makeRow UL 7 x1 (F, L, PC a b P) K := by
  unfold p_Wa_makeRow
  refine ⟨fun yx1 yx2 yS => x1 = yx1 ∧ B 0 8 yx2 ∧ ∃ (T3 : cF) (LT3 : cL), yS = (T3, LT3, PC a b P) ∧ IMc T3 ∧ agc [] [999] F T3, fun yx1 yx2 yS => (8 - yx2.toInt).toNat, ⟨rfl, (B_w cqb_0_0_0 (by decide +kernel) (by decide +kernel)), _, _, rfl, hI, (agc_refl (fs := []) (rs := [999]) (F := F))⟩, fun x1_1 x2_2 ST3 hIv => ?_⟩
  obtain ⟨rfl, b4, T3, LT3, rfl, hI5, g6⟩ := hIv
  suffices hs : ∀ (R2 : Int32 → Int32 → cs → Prop), (∀ zx1 zx2 zS, (x1 = zx1 ∧ B 0 8 zx2 ∧ ∃ (T3 : cF) (LT3 : cL), zS = (T3, LT3, PC a b P) ∧ IMc T3 ∧ agc [] [999] F T3) → (8 - zx2.toInt).toNat < (8 - x2_2.toInt).toNat → R2 zx1 zx2 zS) → b_Wa_makeRow_2 UL 7 x1 x2_2 (T3, LT3, PC a b P) R2 K from hs _ (fun _ _ _ h1 h2 => ⟨h1, h2⟩)
  intro R2 hR20
  have hR2 := fun {zx1} {zx2} {zS} => hR20 zx1 zx2 zS
  unfold b_Wa_makeRow_2
  refine ⟨fun hc => ?_, fun hc => ?_⟩
  · have hq7 := hc
    have b8 : B 8 8 (x2_2) := B_w (B_leR cqb_8_8_8 b4 hq7) (by decide +kernel) (by decide +kernel)
    have g9 := agc_tr (agc_refl (fs := []) (rs := [999]) (F := F)) g6 (by decide +kernel) (by decide +kernel)
    exact hK hI5 g9
  · have hq10 := (nle_lt hc)
    have b11 : B 0 7 (x2_2) := B_w (B_ltL b4 cqb_8_8_8 hq10) (by decide +kernel) (by decide +kernel)
    refine ⟨fun yx1 yx2 yx3 yx5 yS => x1 = yx1 ∧ x2_2 = yx2 ∧ B 0 8 yx5 ∧ (T3, LT3, PC a b P) = yS, fun yx1 yx2 yx3 yx5 yS => (8 - yx5.toInt).toNat, ⟨rfl, rfl, (B_w cqb_0_0_0 (by decide +kernel) (by decide +kernel)), rfl⟩, fun x1_12 x2_13 x3_14 x5_15 ST16 hIv => ?_⟩
    obtain ⟨rfl, rfl, b17, rfl⟩ := hIv
    suffices hs : ∀ (R15 : Int32 → Int32 → Int64 → Int32 → cs → Prop), (∀ zx1 zx2 zx3 zx5 zS, (x1 = zx1 ∧ x2_2 = zx2 ∧ B 0 8 zx5 ∧ (T3, LT3, PC a b P) = zS) → (8 - zx5.toInt).toNat < (8 - x5_15.toInt).toNat → R15 zx1 zx2 zx3 zx5 zS) → b_Wa_makeRow_15 UL 7 x1 x2_2 x3_14 x5_15 (T3, LT3, PC a b P) R2 R15 K from hs _ (fun _ _ _ _ _ h1 h2 => ⟨h1, h2⟩)
    intro R15 hR150
    have hR15 := fun {zx1} {zx2} {zx3} {zx5} {zS} => hR150 zx1 zx2 zx3 zx5 zS
    unfold b_Wa_makeRow_15
    refine ⟨fun hc => ?_, fun hc => ?_⟩
    · have hq18 := hc
      have b19 : B 8 8 (x5_15) := B_w (B_leR cqb_8_8_8 b17 hq18) (by decide +kernel) (by decide +kernel)
      refine ⟨(show ¬ ((11 : Nat) = NU) from by decide +kernel), ?_⟩
      refine ⟨(show c_cl UL 11 = 904 from cl_11), ?_⟩
      refine ⟨(show vp_in ((8 * x1) + x2_2) 64 from vp_B (B_add (B_mul cqb_8_8_8 b_x1 (by decide +kernel) (by decide +kernel) (by decide +kernel)) b11 (by decide +kernel) (by decide +kernel)) (by decide +kernel) (by decide +kernel)), ?_⟩
      have g20 := agc_tr (agc_refl (fs := []) (rs := [999]) (F := F)) g6 (by decide +kernel) (by decide +kernel)
      have q21 : (0) ≤ (x2_2).toInt ∧ (x2_2).toInt ≤ (7) := (show B 0 7 (x2_2) from B_w b11 (by decide +kernel) (by decide +kernel))
      have e22 : (x2_2 + 1).toInt = ((x2_2).toInt + 1) := (t_add b11 cqb_1_1_1 (by decide +kernel) (by decide +kernel)).trans (by rw [cqn_1])
      have q23 : (1) ≤ (x2_2 + 1).toInt ∧ (x2_2 + 1).toInt ≤ (8) := (show B 1 8 (x2_2 + 1) from B_w (B_add b11 cqb_1_1_1 (by decide +kernel) (by decide +kernel)) (by decide +kernel) (by decide +kernel))
      exact hR2 ⟨rfl, (B_w (B_add b11 cqb_1_1_1 (by decide +kernel) (by decide +kernel)) (by decide +kernel) (by decide +kernel)), _, _, rfl, hI5, g20⟩ (by show (8 - (x2_2 + 1).toInt).toNat < (8 - x2_2.toInt).toNat; omega)
    · have hq24 := (nle_lt hc)
      have b25 : B 0 7 (x5_15) := B_w (B_ltL b17 cqb_8_8_8 hq24) (by decide +kernel) (by decide +kernel)
      refine ⟨(show ¬ ((8 : Nat) = NU) from by decide +kernel), ?_⟩
      refine ⟨(show c_cl UL 8 = 902 from cl_8), ?_⟩
      refine ⟨(show vp_in ((8 * x5_15) + x2_2) 64 from vp_B (B_add (B_mul cqb_8_8_8 b25 (by decide +kernel) (by decide +kernel) (by decide +kernel)) b11 (by decide +kernel) (by decide +kernel)) (by decide +kernel) (by decide +kernel)), ?_⟩
      refine ⟨(show ¬ ((10 : Nat) = NU) from by decide +kernel), ?_⟩
      refine ⟨(show c_cl UL 10 = 902 from cl_10), ?_⟩
      refine ⟨(show vp_in ((8 * x1) + x5_15) 64 from vp_B (B_add (B_mul cqb_8_8_8 b_x1 (by decide +kernel) (by decide +kernel) (by decide +kernel)) b25 (by decide +kernel) (by decide +kernel)) (by decide +kernel) (by decide +kernel)), ?_⟩
      have q26 : (0) ≤ (x5_15).toInt ∧ (x5_15).toInt ≤ (7) := (show B 0 7 (x5_15) from B_w b25 (by decide +kernel) (by decide +kernel))
      have e27 : (x5_15 + 1).toInt = ((x5_15).toInt + 1) := (t_add b25 cqb_1_1_1 (by decide +kernel) (by decide +kernel)).trans (by rw [cqn_1])
      have q28 : (1) ≤ (x5_15 + 1).toInt ∧ (x5_15 + 1).toInt ≤ (8) := (show B 1 8 (x5_15 + 1) from B_w (B_add b25 cqb_1_1_1 (by decide +kernel) (by decide +kernel)) (by decide +kernel) (by decide +kernel))
      exact hR15 ⟨rfl, rfl, (B_w (B_add b25 cqb_1_1_1 (by decide +kernel) (by decide +kernel)) (by decide +kernel) (by decide +kernel)), rfl⟩ (by show (8 - (x5_15 + 1).toInt).toNat < (8 - x5_15.toInt).toNat; omega)
set_option maxRecDepth 20000 in
set_option maxHeartbeats 4000000 in
theorem h_Wa_makeSamples_u7 {a : Bool} {b : Bool} {P : Nat → Nat → Nat} {F : cF} {L : cL} {K : cs → Prop} (hI : IMc F) (hK : ∀ {Z : cF} {LZ : cL}, IMc Z → agc [] [9, 999] F Z → K (Z, LZ, PC a b P)) : p_Wa_makeSamples UL 7 (F, L, PC a b P) K := by
  unfold p_Wa_makeSamples
  refine ⟨fun yx1 yx2 yS => B 0 8 yx1 ∧ B 0 8 yx2 ∧ ∃ (T3 : cF) (LT3 : cL), yS = (T3, LT3, PC a b P) ∧ IMc T3 ∧ agc [] [999] F T3, fun yx1 yx2 yS => (8 - yx2.toInt).toNat, ⟨(B_w cqb_0_0_0 (by decide +kernel) (by decide +kernel)), (B_w cqb_0_0_0 (by decide +kernel) (by decide +kernel)), _, _, rfl, hI, (agc_refl (fs := []) (rs := [999]) (F := F))⟩, fun x1_1 x2_2 ST3 hIv => ?_⟩
  obtain ⟨b4, b5, T3, LT3, rfl, hI6, g7⟩ := hIv
  suffices hs : ∀ (R4 : Int32 → Int32 → cs → Prop), (∀ zx1 zx2 zS, (B 0 8 zx1 ∧ B 0 8 zx2 ∧ ∃ (T3 : cF) (LT3 : cL), zS = (T3, LT3, PC a b P) ∧ IMc T3 ∧ agc [] [999] F T3) → (8 - zx2.toInt).toNat < (8 - x2_2.toInt).toNat → R4 zx1 zx2 zS) → b_Wa_makeSamples_4 UL 7 x1_1 x2_2 (T3, LT3, PC a b P) R4 K from hs _ (fun _ _ _ h1 h2 => ⟨h1, h2⟩)
  intro R4 hR40
  have hR4 := fun {zx1} {zx2} {zS} => hR40 zx1 zx2 zS
  unfold b_Wa_makeSamples_4
  refine ⟨fun hc => ?_, fun hc => ?_⟩
  · have hq8 := hc
    have b9 : B 8 8 (x2_2) := B_w (B_leR cqb_8_8_8 b5 hq8) (by decide +kernel) (by decide +kernel)
    refine ⟨fun yx1 yx2 yS => x1_1 = yx1 ∧ B 0 8 yx2 ∧ ∃ (T12 : cF) (LT12 : cL), yS = (T12, LT12, PC a b P) ∧ IMc T12 ∧ agc [] [9, 999] T3 T12, fun yx1 yx2 yS => (8 - yx2.toInt).toNat, ⟨rfl, (B_w cqb_0_0_0 (by decide +kernel) (by decide +kernel)), _, _, rfl, hI6, (agc_refl (fs := []) (rs := [9, 999]) (F := T3))⟩, fun x1_10 x2_11 ST12 hIv => ?_⟩
    obtain ⟨rfl, b13, T12, LT12, rfl, hI14, g15⟩ := hIv
    suffices hs : ∀ (R57 : Int32 → Int32 → cs → Prop), (∀ zx1 zx2 zS, (x1_1 = zx1 ∧ B 0 8 zx2 ∧ ∃ (T12 : cF) (LT12 : cL), zS = (T12, LT12, PC a b P) ∧ IMc T12 ∧ agc [] [9, 999] T3 T12) → (8 - zx2.toInt).toNat < (8 - x2_11.toInt).toNat → R57 zx1 zx2 zS) → b_Wa_makeSamples_57 UL 7 x1_1 x2_11 (T12, LT12, PC a b P) R57 K from hs _ (fun _ _ _ h1 h2 => ⟨h1, h2⟩)
    intro R57 hR570
    have hR57 := fun {zx1} {zx2} {zS} => hR570 zx1 zx2 zS
    unfold b_Wa_makeSamples_57
    refine ⟨fun hc => ?_, fun hc => ?_⟩
    · have hq16 := hc
      have b17 : B 8 8 (x2_11) := B_w (B_leR cqb_8_8_8 b13 hq16) (by decide +kernel) (by decide +kernel)
      have g19 := agc_tr (agc_refl (fs := []) (rs := [9, 999]) (F := F)) g7 (by decide +kernel) (by decide +kernel)
      have g18 := agc_tr g19 g15 (by decide +kernel) (by decide +kernel)
      exact hK hI14 g18
    · have hq20 := (nle_lt hc)
      have b21 : B 0 7 (x2_11) := B_w (B_ltL b13 cqb_8_8_8 hq20) (by decide +kernel) (by decide +kernel)
      refine ⟨fun yx1 yx2 yx3 yS => x1_1 = yx1 ∧ x2_11 = yx2 ∧ B 0 8 yx3 ∧ ∃ (T25 : cF) (LT25 : cL), yS = (T25, LT25, PC a b P) ∧ IMc T25 ∧ agc [] [9] T12 T25, fun yx1 yx2 yx3 yS => (8 - yx3.toInt).toNat, ⟨rfl, rfl, (B_w cqb_0_0_0 (by decide +kernel) (by decide +kernel)), _, _, rfl, hI14, (agc_refl (fs := []) (rs := [9]) (F := T12))⟩, fun x1_22 x2_23 x3_24 ST25 hIv => ?_⟩
      obtain ⟨rfl, rfl, b26, T25, LT25, rfl, hI27, g28⟩ := hIv
      suffices hs : ∀ (R65 : Int32 → Int32 → Int32 → cs → Prop), (∀ zx1 zx2 zx3 zS, (x1_1 = zx1 ∧ x2_11 = zx2 ∧ B 0 8 zx3 ∧ ∃ (T25 : cF) (LT25 : cL), zS = (T25, LT25, PC a b P) ∧ IMc T25 ∧ agc [] [9] T12 T25) → (8 - zx3.toInt).toNat < (8 - x3_24.toInt).toNat → R65 zx1 zx2 zx3 zS) → b_Wa_makeSamples_65 UL 7 x1_1 x2_11 x3_24 (T25, LT25, PC a b P) R57 R65 K from hs _ (fun _ _ _ _ h1 h2 => ⟨h1, h2⟩)
      intro R65 hR650
      have hR65 := fun {zx1} {zx2} {zx3} {zS} => hR650 zx1 zx2 zx3 zS
      unfold b_Wa_makeSamples_65
      refine ⟨fun hc => ?_, fun hc => ?_⟩
      · have hq29 := hc
        have b30 : B 8 8 (x3_24) := B_w (B_leR cqb_8_8_8 b26 hq29) (by decide +kernel) (by decide +kernel)
        have g32 := agc_tr (agc_refl (fs := []) (rs := [9, 999]) (F := T3)) g15 (by decide +kernel) (by decide +kernel)
        have g31 := agc_tr g32 g28 (by decide +kernel) (by decide +kernel)
        have q33 : (0) ≤ (x2_11).toInt ∧ (x2_11).toInt ≤ (7) := (show B 0 7 (x2_11) from B_w b21 (by decide +kernel) (by decide +kernel))
        have e34 : (x2_11 + 1).toInt = ((x2_11).toInt + 1) := (t_add b21 cqb_1_1_1 (by decide +kernel) (by decide +kernel)).trans (by rw [cqn_1])
        have q35 : (1) ≤ (x2_11 + 1).toInt ∧ (x2_11 + 1).toInt ≤ (8) := (show B 1 8 (x2_11 + 1) from B_w (B_add b21 cqb_1_1_1 (by decide +kernel) (by decide +kernel)) (by decide +kernel) (by decide +kernel))
        exact hR57 ⟨rfl, (B_w (B_add b21 cqb_1_1_1 (by decide +kernel) (by decide +kernel)) (by decide +kernel) (by decide +kernel)), _, _, rfl, hI27, g31⟩ (by show (8 - (x2_11 + 1).toInt).toNat < (8 - x2_11.toInt).toNat; omega)
      · have hq36 := (nle_lt hc)
        have b37 : B 0 7 (x3_24) := B_w (B_ltL b26 cqb_8_8_8 hq36) (by decide +kernel) (by decide +kernel)
        refine ⟨fun yx1 yx2 yx3 yx4 yx6 yS => x1_1 = yx1 ∧ x2_11 = yx2 ∧ x3_24 = yx3 ∧ B 0 8 yx6 ∧ (T25, LT25, PC a b P) = yS, fun yx1 yx2 yx3 yx4 yx6 yS => (8 - yx6.toInt).toNat, ⟨rfl, rfl, rfl, (B_w cqb_0_0_0 (by decide +kernel) (by decide +kernel)), rfl⟩, fun x1_38 x2_39 x3_40 x4_41 x6_42 ST43 hIv => ?_⟩
        obtain ⟨rfl, rfl, rfl, b44, rfl⟩ := hIv
        suffices hs : ∀ (R79 : Int32 → Int32 → Int32 → Int64 → Int32 → cs → Prop), (∀ zx1 zx2 zx3 zx4 zx6 zS, (x1_1 = zx1 ∧ x2_11 = zx2 ∧ x3_24 = zx3 ∧ B 0 8 zx6 ∧ (T25, LT25, PC a b P) = zS) → (8 - zx6.toInt).toNat < (8 - x6_42.toInt).toNat → R79 zx1 zx2 zx3 zx4 zx6 zS) → b_Wa_makeSamples_79 UL 7 x1_1 x2_11 x3_24 x4_41 x6_42 (T25, LT25, PC a b P) R57 R65 R79 K from hs _ (fun _ _ _ _ _ _ h1 h2 => ⟨h1, h2⟩)
        intro R79 hR790
        have hR79 := fun {zx1} {zx2} {zx3} {zx4} {zx6} {zS} => hR790 zx1 zx2 zx3 zx4 zx6 zS
        unfold b_Wa_makeSamples_79
        refine ⟨fun hc => ?_, fun hc => ?_⟩
        · have hq45 := hc
          have q46 : (0) ≤ (x1_1).toInt ∧ (x1_1).toInt ≤ (8) := (show B 0 8 (x1_1) from B_w b4 (by decide +kernel) (by decide +kernel))
          have q47 : (0) ≤ (x6_42).toInt ∧ (x6_42).toInt ≤ (8) := (show B 0 8 (x6_42) from B_w b44 (by decide +kernel) (by decide +kernel))
          have i48 : (x1_1).toInt ≤ (x6_42).toInt := i_le hq45
          refine ⟨(show ¬ ((9 : Nat) = NU) from by decide +kernel), ?_⟩
          refine h_B_clamp_x10_x2255  (fun {v146_49} b50 => ?_)
          refine ⟨(show c_cl UL 9 = 902 from cl_9), ?_⟩
          refine ⟨(show vp_in ((8 * x2_11) + x3_24) 64 from vp_B (B_add (B_mul cqb_8_8_8 b21 (by decide +kernel) (by decide +kernel) (by decide +kernel)) b37 (by decide +kernel) (by decide +kernel)) (by decide +kernel) (by decide +kernel)), ?_⟩
          have hI51 := IMc_u (u := 9) (i := ((8 * x2_11) + x3_24).toNatClampNeg) (v := v146_49) hI27 (show B (-2147483648) 2147483647 (v146_49) from (B_w b50 (by decide +kernel) (by decide +kernel)))
          have g53 := agc_tr (agc_refl (fs := []) (rs := [9]) (F := T12)) g28 (by decide +kernel) (by decide +kernel)
          have g52 := agc_r (u := 9) (w := upd (T25 9) ((8 * x2_11) + x3_24).toNatClampNeg v146_49) g53 rfl (by decide +kernel)
          have q54 : (0) ≤ (x3_24).toInt ∧ (x3_24).toInt ≤ (7) := (show B 0 7 (x3_24) from B_w b37 (by decide +kernel) (by decide +kernel))
          have e55 : (x3_24 + 1).toInt = ((x3_24).toInt + 1) := (t_add b37 cqb_1_1_1 (by decide +kernel) (by decide +kernel)).trans (by rw [cqn_1])
          have q56 : (1) ≤ (x3_24 + 1).toInt ∧ (x3_24 + 1).toInt ≤ (8) := (show B 1 8 (x3_24 + 1) from B_w (B_add b37 cqb_1_1_1 (by decide +kernel) (by decide +kernel)) (by decide +kernel) (by decide +kernel))
          exact hR65 ⟨rfl, rfl, (B_w (B_add b37 cqb_1_1_1 (by decide +kernel) (by decide +kernel)) (by decide +kernel) (by decide +kernel)), _, _, rfl, hI51, g52⟩ (by show (8 - (x3_24 + 1).toInt).toNat < (8 - x3_24.toInt).toNat; omega)
        · have hq57 := (nle_lt hc)
          have b58 : B 0 7 (x6_42) := B_w (B_ltL b44 b4 hq57) (by decide +kernel) (by decide +kernel)
          have b59 : B 1 8 (x1_1) := B_w (B_ltR b44 b4 hq57) (by decide +kernel) (by decide +kernel)
          have q60 : (0) ≤ (x6_42).toInt ∧ (x6_42).toInt ≤ (7) := (show B 0 7 (x6_42) from B_w b58 (by decide +kernel) (by decide +kernel))
          have q61 : (1) ≤ (x1_1).toInt ∧ (x1_1).toInt ≤ (8) := (show B 1 8 (x1_1) from B_w b59 (by decide +kernel) (by decide +kernel))
          have i62 : (x6_42).toInt < (x1_1).toInt := i_lt hq57
          refine ⟨(show ¬ ((8 : Nat) = NU) from by decide +kernel), ?_⟩
          refine ⟨(show c_cl UL 8 = 902 from cl_8), ?_⟩
          refine ⟨(show vp_in ((8 * x6_42) + x2_11) 64 from vp_B (B_add (B_mul cqb_8_8_8 b58 (by decide +kernel) (by decide +kernel) (by decide +kernel)) b21 (by decide +kernel) (by decide +kernel)) (by decide +kernel) (by decide +kernel)), ?_⟩
          refine ⟨(show ¬ ((11 : Nat) = NU) from by decide +kernel), ?_⟩
          refine ⟨(show c_cl UL 11 = 904 from cl_11), ?_⟩
          refine ⟨(show vp_in ((8 * x6_42) + x3_24) 64 from vp_B (B_add (B_mul cqb_8_8_8 b58 (by decide +kernel) (by decide +kernel) (by decide +kernel)) b37 (by decide +kernel) (by decide +kernel)) (by decide +kernel) (by decide +kernel)), ?_⟩
          have e63 : (x6_42 + 1).toInt = ((x6_42).toInt + 1) := (t_add b58 cqb_1_1_1 (by decide +kernel) (by decide +kernel)).trans (by rw [cqn_1])
          have q64 : (1) ≤ (x6_42 + 1).toInt ∧ (x6_42 + 1).toInt ≤ (8) := (show B 1 8 (x6_42 + 1) from B_w (B_add b58 cqb_1_1_1 (by decide +kernel) (by decide +kernel)) (by decide +kernel) (by decide +kernel))
          exact hR79 ⟨rfl, rfl, rfl, (B_w (B_add b58 cqb_1_1_1 (by decide +kernel) (by decide +kernel)) (by decide +kernel) (by decide +kernel)), rfl⟩ (by show (8 - (x6_42 + 1).toInt).toNat < (8 - x6_42.toInt).toNat; omega)
  · have hq65 := (nle_lt hc)
    have b66 : B 0 7 (x2_2) := B_w (B_ltL b5 cqb_8_8_8 hq65) (by decide +kernel) (by decide +kernel)
    refine h_Wa_hasWeights_u7 b66 hI6 (fun {v12_67} b69 => ?_)
    refine ⟨fun hc => ?_, fun hc => ?_⟩
    · have b70 : B 0 0 (v12_67) := B_w (B_eq hc cqb_0_0_0) (by decide +kernel) (by decide +kernel)
      have q71 : (0) ≤ (v12_67).toInt ∧ (v12_67).toInt ≤ (0) := (show B 0 0 (v12_67) from B_w b70 (by decide +kernel) (by decide +kernel))
      have i72 : (v12_67).toInt = (0 : Int32).toInt := congrArg Int32.toInt hc
      have n73 : (0 : Int32).toInt = 0 := cqn_0
      refine ⟨(show ¬ ((11 : Nat) = NU) from by decide +kernel), ?_⟩
      have q74 : (0) ≤ (x2_2).toInt ∧ (x2_2).toInt ≤ (7) := (show B 0 7 (x2_2) from B_w b66 (by decide +kernel) (by decide +kernel))
      have e75 : (8 * x2_2).toInt = (8 * (x2_2).toInt) := (t_mul cqb_8_8_8 b66 (by decide +kernel) (by decide +kernel) (by decide +kernel)).trans (by rw [cqn_8])
      have q76 : (0) ≤ (8 * x2_2).toInt ∧ (8 * x2_2).toInt ≤ (56) := (show B 0 56 (8 * x2_2) from B_w (B_mul cqb_8_8_8 b66 (by decide +kernel) (by decide +kernel) (by decide +kernel)) (by decide +kernel) (by decide +kernel))
      have e77 : ((8 * x2_2) + 8).toInt = ((8 * (x2_2).toInt) + 8) := (t_add (B_mul cqb_8_8_8 b66 (by decide +kernel) (by decide +kernel) (by decide +kernel)) cqb_8_8_8 (by decide +kernel) (by decide +kernel)).trans (by rw [e75, cqn_8])
      have q78 : (8) ≤ ((8 * x2_2) + 8).toInt ∧ ((8 * x2_2) + 8).toInt ≤ (64) := (show B 8 64 ((8 * x2_2) + 8) from B_w (B_add (B_mul cqb_8_8_8 b66 (by decide +kernel) (by decide +kernel) (by decide +kernel)) cqb_8_8_8 (by decide +kernel) (by decide +kernel)) (by decide +kernel) (by decide +kernel))
      refine h_Ar_fillJ_x011 (B_w (B_mul cqb_8_8_8 b66 (by decide +kernel) (by decide +kernel) (by decide +kernel)) (by decide +kernel) (by decide +kernel)) (B_w (B_add (B_mul cqb_8_8_8 b66 (by decide +kernel) (by decide +kernel) (by decide +kernel)) cqb_8_8_8 (by decide +kernel) (by decide +kernel)) (by decide +kernel) (by decide +kernel)) hI6 (by show (8 * x2_2).toInt ≤ ((8 * x2_2) + 8).toInt; first | with_reducible assumption | omega) (fun {FS46_79} {LFS46_79} hI80 g81 => ?_)
      unfold b_Wa_makeSamples_49
      have g83 := agc_tr (agc_refl (fs := []) (rs := [999]) (F := F)) g7 (by decide +kernel) (by decide +kernel)
      have g82 := agc_tr g83 g81 (by decide +kernel) (by decide +kernel)
      have e84 : (x2_2 + 1).toInt = ((x2_2).toInt + 1) := (t_add b66 cqb_1_1_1 (by decide +kernel) (by decide +kernel)).trans (by rw [cqn_1])
      have q85 : (1) ≤ (x2_2 + 1).toInt ∧ (x2_2 + 1).toInt ≤ (8) := (show B 1 8 (x2_2 + 1) from B_w (B_add b66 cqb_1_1_1 (by decide +kernel) (by decide +kernel)) (by decide +kernel) (by decide +kernel))
      exact hR4 ⟨b4, (B_w (B_add b66 cqb_1_1_1 (by decide +kernel) (by decide +kernel)) (by decide +kernel) (by decide +kernel)), _, _, rfl, hI80, g82⟩ (by show (8 - (x2_2 + 1).toInt).toNat < (8 - x2_2.toInt).toNat; omega)
    · have b86 : B 1 1 (v12_67) := B_w (B_n0 b69 hc) (by decide +kernel) (by decide +kernel)
      refine h_Wa_makeRow_u7 b66 hI6 (fun {FS20_87} {LFS20_87} hI88 g89 => ?_)
      unfold b_Wa_makeSamples_49
      have g91 := agc_tr (agc_refl (fs := []) (rs := [999]) (F := F)) g7 (by decide +kernel) (by decide +kernel)
      have g90 := agc_tr g91 g89 (by decide +kernel) (by decide +kernel)
      have q92 : (0) ≤ (x2_2).toInt ∧ (x2_2).toInt ≤ (7) := (show B 0 7 (x2_2) from B_w b66 (by decide +kernel) (by decide +kernel))
      have e93 : (x2_2 + 1).toInt = ((x2_2).toInt + 1) := (t_add b66 cqb_1_1_1 (by decide +kernel) (by decide +kernel)).trans (by rw [cqn_1])
      have q94 : (1) ≤ (x2_2 + 1).toInt ∧ (x2_2 + 1).toInt ≤ (8) := (show B 1 8 (x2_2 + 1) from B_w (B_add b66 cqb_1_1_1 (by decide +kernel) (by decide +kernel)) (by decide +kernel) (by decide +kernel))
      exact hR4 ⟨(B_w (B_add b66 cqb_1_1_1 (by decide +kernel) (by decide +kernel)) (by decide +kernel) (by decide +kernel)), (B_w (B_add b66 cqb_1_1_1 (by decide +kernel) (by decide +kernel)) (by decide +kernel) (by decide +kernel)), _, _, rfl, hI88, g90⟩ (by show (8 - (x2_2 + 1).toInt).toNat < (8 - x2_2.toInt).toNat; omega)
set_option maxRecDepth 20000 in
set_option maxHeartbeats 4000000 in
theorem h_Re_read_u60 {a : Bool} {b : Bool} {P : Nat → Nat → Nat} {F : cF} {L : cL} {K : Int32 → cs → Prop} {T : Nat → cs → Prop} (hI : IMc F) (hK : ∀ {v : Int32} {Z : cF} {LZ : cL}, B 0 255 v → IMc Z → agc [6001] [] F Z → ((Z 60 1).toInt ≤ 32768) → K v (Z, LZ, PC a b P)) (hT13 : ∀ {Z : cF} {LZ : cL}, IMc Z → agc [6006, 6007] [] F Z → T 13 (Z, LZ, PC a b P)) : p_Re_read UL 60 (F, L, PC a b P) K T := by
  unfold p_Re_read
  refine ⟨(show ¬ ((61 : Nat) = NU) from by decide +kernel), ?_⟩
  refine ⟨(show c_cl UL 61 = 9 from cl_61), ?_⟩
  refine ⟨fun hc => ?_, fun hc => ?_⟩
  · have hq1 := hc
    have b2 : B 0 32767 (F 60 1) := B_w (B_ltL (show B 0 98304 (F 60 1) from hI 60 1) (show B 0 32768 (F 61 1) from hI 61 1) hq1) (by decide +kernel) (by decide +kernel)
    have b3 : B 1 32768 (F 61 1) := B_w (B_ltR (show B 0 98304 (F 60 1) from hI 60 1) (show B 0 32768 (F 61 1) from hI 61 1) hq1) (by decide +kernel) (by decide +kernel)
    have q4 : (0) ≤ (F 60 1).toInt ∧ (F 60 1).toInt ≤ (32767) := (show B 0 32767 (F 60 1) from B_w b2 (by decide +kernel) (by decide +kernel))
    have q5 : (1) ≤ (F 61 1).toInt ∧ (F 61 1).toInt ≤ (32768) := (show B 1 32768 (F 61 1) from B_w b3 (by decide +kernel) (by decide +kernel))
    have i6 : (F 60 1).toInt < (F 61 1).toInt := i_lt hq1
    refine ⟨(show ¬ ((61 : Nat) = NU) from by decide +kernel), ?_⟩
    refine ⟨(show ¬ ((62 : Nat) = NU) from by decide +kernel), ?_⟩
    refine ⟨(show c_cl UL 62 = 902 from cl_62), ?_⟩
    refine ⟨(show vp_in (F 60 1) 32768 from vp_B b2 (by decide +kernel) (by decide +kernel)), ?_⟩
    have hI7 := IMc_u (u := 60) (i := 1) (v := (F 60 1) + 1) hI (show B 0 98304 ((F 60 1) + 1) from (B_w (B_add b2 cqb_1_1_1 (by decide +kernel) (by decide +kernel)) (by decide +kernel) (by decide +kernel)))
    have g8 := agc_f (u := 60) (k := 1) (v := (F 60 1) + 1) (agc_refl (fs := [6001]) (rs := []) (F := F)) rfl (by decide +kernel)
    have e9 : ((F 60 1) + 1).toInt = ((F 60 1).toInt + 1) := (t_add b2 cqb_1_1_1 (by decide +kernel) (by decide +kernel)).trans (by rw [cqn_1])
    have q10 : (1) ≤ ((F 60 1) + 1).toInt ∧ ((F 60 1) + 1).toInt ≤ (32768) := (show B 1 32768 ((F 60 1) + 1) from B_w (B_add b2 cqb_1_1_1 (by decide +kernel) (by decide +kernel)) (by decide +kernel) (by decide +kernel))
    exact hK (B_w (show B 0 255 (F 62 (F 60 1).toNatClampNeg) from hI 62 (F 60 1).toNatClampNeg) (by decide +kernel) (by decide +kernel)) hI7 g8 (by show ((F 60 1) + 1).toInt ≤ 32768; first | with_reducible assumption | omega)
  · have hq11 := (nlt_le hc)
    have q12 : (0) ≤ (F 61 1).toInt ∧ (F 61 1).toInt ≤ (32768) := (show B 0 32768 (F 61 1) from hI 61 1)
    have q13 : (0) ≤ (F 60 1).toInt ∧ (F 60 1).toInt ≤ (98304) := (show B 0 98304 (F 60 1) from hI 60 1)
    have i14 : (F 61 1).toInt ≤ (F 60 1).toInt := i_le hq11
    refine ⟨(show ¬ ((61 : Nat) = NU) from by decide +kernel), ?_⟩
    have hI15 := IMc_u (u := 60) (i := 6) (v := 1) hI (show B 0 8 (1) from (B_w cqb_1_1_1 (by decide +kernel) (by decide +kernel)))
    have hI16 := IMc_u (u := 60) (i := 7) (v := F 61 1) hI15 (show B (-2147483648) 2147483647 (F 61 1) from (B_w (show B 0 32768 (F 61 1) from hI 61 1) (by decide +kernel) (by decide +kernel)))
    have g18 := agc_f (u := 60) (k := 6) (v := 1) (agc_refl (fs := [6006, 6007]) (rs := []) (F := F)) rfl (by decide +kernel)
    have g17 := agc_f (u := 60) (k := 7) (v := F 61 1) g18 rfl (by decide +kernel)
    exact hT13 hI16 g17 
set_option maxRecDepth 20000 in
set_option maxHeartbeats 4000000 in
theorem h_Re_fail_u60 {a : Bool} {b : Bool} {P : Nat → Nat → Nat} {x1 : Int32} {x2 : Int32} {F : cF} {L : cL} {K : cs → Prop} {T : Nat → cs → Prop} (b_x1 : B 1 8 x1) (hI : IMc F) (hT13 : ∀ {Z : cF} {LZ : cL}, IMc Z → agc [6006, 6007] [] F Z → T 13 (Z, LZ, PC a b P)) : p_Re_fail UL 60 x1 x2 (F, L, PC a b P) K T := by
  unfold p_Re_fail
  have hI1 := IMc_u (u := 60) (i := 6) (v := x1) hI (show B 0 8 (x1) from (B_w b_x1 (by decide +kernel) (by decide +kernel)))
  have hI2 := IMc_u (u := 60) (i := 7) (v := x2) hI1 (show B (-2147483648) 2147483647 (x2) from (B_w (B_any _) (by decide +kernel) (by decide +kernel)))
  have g4 := agc_f (u := 60) (k := 6) (v := x1) (agc_refl (fs := [6006, 6007]) (rs := []) (F := F)) rfl (by decide +kernel)
  have g3 := agc_f (u := 60) (k := 7) (v := x2) g4 rfl (by decide +kernel)
  exact hT13 hI2 g3 
set_option maxRecDepth 20000 in
set_option maxHeartbeats 4000000 in
theorem h_Re_readMark_u60 {a : Bool} {b : Bool} {P : Nat → Nat → Nat} {F : cF} {L : cL} {K : Int32 → cs → Prop} {T : Nat → cs → Prop} (hI : IMc F) (hK : ∀ {v : Int32} {Z : cF} {LZ : cL}, B 0 255 v → IMc Z → agc [6001] [999] F Z → K v (Z, LZ, PC a b P)) (hT13 : ∀ {Z : cF} {LZ : cL}, IMc Z → agc [6001, 6006, 6007] [999] F Z → T 13 (Z, LZ, PC a b P)) : p_Re_readMark UL 60 (F, L, PC a b P) K T := by
  unfold p_Re_readMark
  refine h_Re_read_u60 hI (fun {v1_1} {FS1_2} {LFS1_2} b3 hI4 g5 r6 => ?_) (fun hI g => hT13 hI (agc_tr (agc_refl (fs := [6001, 6006, 6007]) (rs := [999]) (F := F)) g (by decide +kernel) (by decide +kernel)))
  have r7 : (FS1_2 60 1).toInt ≤ 32768 := r6
  clear r6
  have q8 : (0) ≤ (FS1_2 60 1).toInt ∧ (FS1_2 60 1).toInt ≤ (98304) := (show B 0 98304 (FS1_2 60 1) from hI4 60 1)
  refine ⟨fun hc => ?_, fun hc => ?_⟩
  · have b9 : B 255 255 (v1_1) := B_w (B_eq hc cqb_255_255_255) (by decide +kernel) (by decide +kernel)
    have q10 : (255) ≤ (v1_1).toInt ∧ (v1_1).toInt ≤ (255) := (show B 255 255 (v1_1) from B_w b9 (by decide +kernel) (by decide +kernel))
    have i11 : (v1_1).toInt = (255 : Int32).toInt := congrArg Int32.toInt hc
    have n12 : (255 : Int32).toInt = 255 := cqn_255
    unfold b_Re_readMark_21
    have g19 := agc_tr (agc_refl (fs := [6001, 6006, 6007]) (rs := [999]) (F := F)) g5 (by decide +kernel) (by decide +kernel)
    refine h_Re_read_u60 hI4 (fun {v22_13} {FS22_14} {LFS22_14} b15 hI16 g17 r18 => ?_) (fun hI g => hT13 hI (agc_tr g19 g (by decide +kernel) (by decide +kernel)))
    have r20 : (FS22_14 60 1).toInt ≤ 32768 := r18
    clear r18
    have q21 : (0) ≤ (FS22_14 60 1).toInt ∧ (FS22_14 60 1).toInt ≤ (98304) := (show B 0 98304 (FS22_14 60 1) from hI16 60 1)
    refine ⟨fun yx1 yx2 yS => B 0 255 yx1 ∧ B 0 32768 yx2 ∧ ∃ (T24 : cF) (LT24 : cL), yS = (T24, LT24, PC a b P) ∧ IMc T24 ∧ agc [6001] [999] FS22_14 T24, fun yx1 yx2 yS => (32768 - yx2.toInt).toNat, ⟨b15, (B_w cqb_0_0_0 (by decide +kernel) (by decide +kernel)), _, _, rfl, hI16, (agc_refl (fs := [6001]) (rs := [999]) (F := FS22_14))⟩, fun x1_22 x2_23 ST24 hIv => ?_⟩
    obtain ⟨b25, b26, T24, LT24, rfl, hI27, g28⟩ := hIv
    suffices hs : ∀ (R28 : Int32 → Int32 → cs → Prop), (∀ zx1 zx2 zS, (B 0 255 zx1 ∧ B 0 32768 zx2 ∧ ∃ (T24 : cF) (LT24 : cL), zS = (T24, LT24, PC a b P) ∧ IMc T24 ∧ agc [6001] [999] FS22_14 T24) → (32768 - zx2.toInt).toNat < (32768 - x2_23.toInt).toNat → R28 zx1 zx2 zS) → b_Re_readMark_28 UL 60 x1_22 x2_23 (T24, LT24, PC a b P) R28 K T from hs _ (fun _ _ _ h1 h2 => ⟨h1, h2⟩)
    intro R28 hR280
    have hR28 := fun {zx1} {zx2} {zS} => hR280 zx1 zx2 zS
    unfold b_Re_readMark_28
    refine ⟨fun hc => ?_, fun hc => ?_⟩
    · have q29 : (0) ≤ (x1_22).toInt ∧ (x1_22).toInt ≤ (255) := (show B 0 255 (x1_22) from B_w b25 (by decide +kernel) (by decide +kernel))
      have i30 : (x1_22).toInt ≠ (255 : Int32).toInt := i_ne hc
      have n31 : (255 : Int32).toInt = 255 := cqn_255
      unfold b_Re_readMark_52
      have g34 := agc_tr (agc_refl (fs := [6001]) (rs := [999]) (F := F)) g5 (by decide +kernel) (by decide +kernel)
      have g33 := agc_tr g34 g17 (by decide +kernel) (by decide +kernel)
      have g32 := agc_tr g33 g28 (by decide +kernel) (by decide +kernel)
      exact hK b25 hI27 g32
    · have b35 : B 255 255 (x1_22) := B_w (B_eq hc cqb_255_255_255) (by decide +kernel) (by decide +kernel)
      have q36 : (255) ≤ (x1_22).toInt ∧ (x1_22).toInt ≤ (255) := (show B 255 255 (x1_22) from B_w b35 (by decide +kernel) (by decide +kernel))
      have i37 : (x1_22).toInt = (255 : Int32).toInt := congrArg Int32.toInt hc
      have n38 : (255 : Int32).toInt = 255 := cqn_255
      refine ⟨fun hc => ?_, fun hc => ?_⟩
      · have hq39 := hc
        have b40 : B 32768 32768 (x2_23) := B_w (B_leR cqb_32768_32768_32768 b26 hq39) (by decide +kernel) (by decide +kernel)
        unfold b_Re_readMark_52
        have g43 := agc_tr (agc_refl (fs := [6001]) (rs := [999]) (F := F)) g5 (by decide +kernel) (by decide +kernel)
        have g42 := agc_tr g43 g17 (by decide +kernel) (by decide +kernel)
        have g41 := agc_tr g42 g28 (by decide +kernel) (by decide +kernel)
        exact hK (B_w b35 (by decide +kernel) (by decide +kernel)) hI27 g41
      · have hq44 := (nle_lt hc)
        have b45 : B 0 32767 (x2_23) := B_w (B_ltL b26 cqb_32768_32768_32768 hq44) (by decide +kernel) (by decide +kernel)
        have g54 := agc_tr (agc_refl (fs := [6001, 6006, 6007]) (rs := [999]) (F := F)) g5 (by decide +kernel) (by decide +kernel)
        have g53 := agc_tr g54 g17 (by decide +kernel) (by decide +kernel)
        have g52 := agc_tr g53 g28 (by decide +kernel) (by decide +kernel)
        refine h_Re_read_u60 hI27 (fun {v42_46} {FS42_47} {LFS42_47} b48 hI49 g50 r51 => ?_) (fun hI g => hT13 hI (agc_tr g52 g (by decide +kernel) (by decide +kernel)))
        have r55 : (FS42_47 60 1).toInt ≤ 32768 := r51
        clear r51
        have q56 : (0) ≤ (FS42_47 60 1).toInt ∧ (FS42_47 60 1).toInt ≤ (98304) := (show B 0 98304 (FS42_47 60 1) from hI49 60 1)
        have g58 := agc_tr (agc_refl (fs := [6001]) (rs := [999]) (F := FS22_14)) g28 (by decide +kernel) (by decide +kernel)
        have g57 := agc_tr g58 g50 (by decide +kernel) (by decide +kernel)
        have q59 : (0) ≤ (x2_23).toInt ∧ (x2_23).toInt ≤ (32767) := (show B 0 32767 (x2_23) from B_w b45 (by decide +kernel) (by decide +kernel))
        have e60 : (x2_23 + 1).toInt = ((x2_23).toInt + 1) := (t_add b45 cqb_1_1_1 (by decide +kernel) (by decide +kernel)).trans (by rw [cqn_1])
        have q61 : (1) ≤ (x2_23 + 1).toInt ∧ (x2_23 + 1).toInt ≤ (32768) := (show B 1 32768 (x2_23 + 1) from B_w (B_add b45 cqb_1_1_1 (by decide +kernel) (by decide +kernel)) (by decide +kernel) (by decide +kernel))
        exact hR28 ⟨b48, (B_w (B_add b45 cqb_1_1_1 (by decide +kernel) (by decide +kernel)) (by decide +kernel) (by decide +kernel)), _, _, rfl, hI49, g57⟩ (by show (32768 - (x2_23 + 1).toInt).toNat < (32768 - x2_23.toInt).toNat; omega)
  · have q62 : (0) ≤ (v1_1).toInt ∧ (v1_1).toInt ≤ (255) := (show B 0 255 (v1_1) from B_w b3 (by decide +kernel) (by decide +kernel))
    have i63 : (v1_1).toInt ≠ (255 : Int32).toInt := i_ne hc
    have n64 : (255 : Int32).toInt = 255 := cqn_255
    have g68 := agc_tr (agc_refl (fs := [6001, 6006, 6007]) (rs := [999]) (F := F)) g5 (by decide +kernel) (by decide +kernel)
    exact h_Re_fail_u60 (B_w cqb_2_2_2 (by decide +kernel) (by decide +kernel)) hI4 (fun hI g => hT13 hI (agc_tr g68 g (by decide +kernel) (by decide +kernel)))
set_option maxRecDepth 20000 in
set_option maxHeartbeats 4000000 in
theorem h_Re_readTwo_u60 {a : Bool} {b : Bool} {P : Nat → Nat → Nat} {F : cF} {L : cL} {K : Int32 → cs → Prop} {T : Nat → cs → Prop} (hI : IMc F) (hK : ∀ {v : Int32} {Z : cF} {LZ : cL}, B 0 65535 v → IMc Z → agc [6001] [] F Z → ((Z 60 1).toInt ≤ 32768) → K v (Z, LZ, PC a b P)) (hT13 : ∀ {Z : cF} {LZ : cL}, IMc Z → agc [6001, 6006, 6007] [] F Z → T 13 (Z, LZ, PC a b P)) : p_Re_readTwo UL 60 (F, L, PC a b P) K T := by
  unfold p_Re_readTwo
  refine h_Re_read_u60 hI (fun {v1_1} {FS1_2} {LFS1_2} b3 hI4 g5 r6 => ?_) (fun hI g => hT13 hI (agc_tr (agc_refl (fs := [6001, 6006, 6007]) (rs := []) (F := F)) g (by decide +kernel) (by decide +kernel)))
  have r7 : (FS1_2 60 1).toInt ≤ 32768 := r6
  clear r6
  have q8 : (0) ≤ (FS1_2 60 1).toInt ∧ (FS1_2 60 1).toInt ≤ (98304) := (show B 0 98304 (FS1_2 60 1) from hI4 60 1)
  have g15 := agc_tr (agc_refl (fs := [6001, 6006, 6007]) (rs := []) (F := F)) g5 (by decide +kernel) (by decide +kernel)
  refine h_Re_read_u60 hI4 (fun {v11_9} {FS11_10} {LFS11_10} b11 hI12 g13 r14 => ?_) (fun hI g => hT13 hI (agc_tr g15 g (by decide +kernel) (by decide +kernel)))
  have r16 : (FS11_10 60 1).toInt ≤ 32768 := r14
  clear r14
  have q17 : (0) ≤ (FS11_10 60 1).toInt ∧ (FS11_10 60 1).toInt ≤ (98304) := (show B 0 98304 (FS11_10 60 1) from hI12 60 1)
  have g19 := agc_tr (agc_refl (fs := [6001]) (rs := []) (F := F)) g5 (by decide +kernel) (by decide +kernel)
  have g18 := agc_tr g19 g13 (by decide +kernel) (by decide +kernel)
  exact hK (B_w (B_add (B_mul cqb_256_256_256 b3 (by decide +kernel) (by decide +kernel) (by decide +kernel)) b11 (by decide +kernel) (by decide +kernel)) (by decide +kernel) (by decide +kernel)) hI12 g18 (by show (FS11_10 60 1).toInt ≤ 32768; first | with_reducible assumption | omega)
set_option maxRecDepth 20000 in
set_option maxHeartbeats 4000000 in
theorem h_Re_skip_u60 {a : Bool} {b : Bool} {P : Nat → Nat → Nat} {x1 : Int32} {F : cF} {L : cL} {K : cs → Prop} (b_x1 : B 0 65533 x1) (hI : IMc F) (pre0 : (F 60 1).toInt ≤ 32768) (hK : ∀ {Z : cF} {LZ : cL}, IMc Z → agc [6001] [] F Z → K (Z, LZ, PC a b P)) : p_Re_skip UL 60 x1 (F, L, PC a b P) K := by
  have q1 : (0) ≤ (F 60 1).toInt ∧ (F 60 1).toInt ≤ (98304) := (show B 0 98304 (F 60 1) from hI 60 1)
  unfold p_Re_skip
  have q2 : (0) ≤ (x1).toInt ∧ (x1).toInt ≤ (65533) := (show B 0 65533 (x1) from B_w b_x1 (by decide +kernel) (by decide +kernel))
  have e3 : ((F 60 1) + x1).toInt = ((F 60 1).toInt + (x1).toInt) := (t_add (show B 0 98304 (F 60 1) from hI 60 1) b_x1 (by decide +kernel) (by decide +kernel)).trans (by rfl)
  have q4 : (0) ≤ ((F 60 1) + x1).toInt ∧ ((F 60 1) + x1).toInt ≤ (163837) := (show B 0 163837 ((F 60 1) + x1) from B_w (B_add (show B 0 98304 (F 60 1) from hI 60 1) b_x1 (by decide +kernel) (by decide +kernel)) (by decide +kernel) (by decide +kernel))
  have hI5 := IMc_u (u := 60) (i := 1) (v := (F 60 1) + x1) hI (show B 0 98304 ((F 60 1) + x1) from (show B 0 98304 ((F 60 1) + x1) from ⟨by omega, by omega⟩))
  have g6 := agc_f (u := 60) (k := 1) (v := (F 60 1) + x1) (agc_refl (fs := [6001]) (rs := []) (F := F)) rfl (by decide +kernel)
  exact hK hI5 g6
set_option maxRecDepth 20000 in
set_option maxHeartbeats 4000000 in
theorem h_Re_readBit_u60 {a : Bool} {b : Bool} {P : Nat → Nat → Nat} {F : cF} {L : cL} {K : Int32 → cs → Prop} {T : Nat → cs → Prop} (hI : IMc F) (hK : ∀ {v : Int32} {Z : cF} {LZ : cL}, B 0 1 v → IMc Z → agc [6001, 6002, 6003, 6004] [] F Z → K v (Z, LZ, PC a b P)) (hT13 : ∀ {Z : cF} {LZ : cL}, IMc Z → agc [6001, 6002, 6003, 6006, 6007] [] F Z → T 13 (Z, LZ, PC a b P)) : p_Re_readBit UL 60 (F, L, PC a b P) K T := by
  unfold p_Re_readBit
  have hj1 : ∀ {T2 : cF} {LT2 : cL}, IMc T2 → agc [6001, 6002, 6003, 6004] [] F T2 → (1 ≤ (T2 60 4).toInt) → b_Re_readBit_56 UL 60 (T2, LT2, PC a b P) K T := by
    intro T2 LT2 hI3 g4 r5
    have q6 : (0) ≤ (T2 60 4).toInt ∧ (T2 60 4).toInt ≤ (8) := (show B 0 8 (T2 60 4) from hI3 60 4)
    unfold b_Re_readBit_56
    have e7 : ((T2 60 4) - 1).toInt = ((T2 60 4).toInt - 1) := (t_sub (show B 0 8 (T2 60 4) from hI3 60 4) cqb_1_1_1 (by decide +kernel) (by decide +kernel)).trans (by rw [cqn_1])
    have q8 : (-1) ≤ ((T2 60 4) - 1).toInt ∧ ((T2 60 4) - 1).toInt ≤ (7) := (show B (-1) 7 ((T2 60 4) - 1) from B_w (B_sub (show B 0 8 (T2 60 4) from hI3 60 4) cqb_1_1_1 (by decide +kernel) (by decide +kernel)) (by decide +kernel) (by decide +kernel))
    have hI9 := IMc_u (u := 60) (i := 4) (v := (T2 60 4) - 1) hI3 (show B 0 8 ((T2 60 4) - 1) from (show B 0 8 ((T2 60 4) - 1) from ⟨by omega, by omega⟩))
    have g11 := agc_tr (agc_refl (fs := [6001, 6002, 6003, 6004]) (rs := []) (F := F)) g4 (by decide +kernel) (by decide +kernel)
    have g10 := agc_f (u := 60) (k := 4) (v := (T2 60 4) - 1) g11 rfl (by decide +kernel)
    exact hK (B_w (show B 0 1 (((T2 60 2) >>> (((T2 60 4) - 1) &&& 31 : Int32) : Int32) &&& 1) from B_and (k := 1) (by decide +kernel) (by decide +kernel)) (by decide +kernel) (by decide +kernel)) hI9 g10
  refine ⟨fun hc => ?_, fun hc => ?_⟩
  · have b12 : B 1 8 (F 60 4) := B_w (B_n0 (show B 0 8 (F 60 4) from hI 60 4) hc) (by decide +kernel) (by decide +kernel)
    have q13 : (1) ≤ (F 60 4).toInt ∧ (F 60 4).toInt ≤ (8) := (show B 1 8 (F 60 4) from B_w b12 (by decide +kernel) (by decide +kernel))
    exact hj1 hI (agc_refl (fs := [6001, 6002, 6003, 6004]) (rs := []) (F := F)) (by show 1 ≤ (F 60 4).toInt; first | with_reducible assumption | omega)
  · have b14 : B 0 0 (F 60 4) := B_w (B_eq hc cqb_0_0_0) (by decide +kernel) (by decide +kernel)
    have q15 : (0) ≤ (F 60 4).toInt ∧ (F 60 4).toInt ≤ (0) := (show B 0 0 (F 60 4) from B_w b14 (by decide +kernel) (by decide +kernel))
    have i16 : (F 60 4).toInt = (0 : Int32).toInt := congrArg Int32.toInt hc
    have n17 : (0 : Int32).toInt = 0 := cqn_0
    have hI18 := IMc_u (u := 60) (i := 3) (v := F 60 1) hI (show B (-2147483648) 2147483647 (F 60 1) from (B_w (show B 0 98304 (F 60 1) from hI 60 1) (by decide +kernel) (by decide +kernel)))
    have g25 := agc_f (u := 60) (k := 3) (v := F 60 1) (agc_refl (fs := [6001, 6002, 6003, 6006, 6007]) (rs := []) (F := F)) rfl (by decide +kernel)
    refine h_Re_read_u60 hI18 (fun {v17_19} {FS17_20} {LFS17_20} b21 hI22 g23 r24 => ?_) (fun hI g => hT13 hI (agc_tr g25 g (by decide +kernel) (by decide +kernel)))
    have r26 : (FS17_20 60 1).toInt ≤ 32768 := r24
    clear r24
    have q27 : (0) ≤ (FS17_20 60 1).toInt ∧ (FS17_20 60 1).toInt ≤ (98304) := (show B 0 98304 (FS17_20 60 1) from hI22 60 1)
    refine ⟨fun hc => ?_, fun hc => ?_⟩
    · have q28 : (0) ≤ (v17_19).toInt ∧ (v17_19).toInt ≤ (255) := (show B 0 255 (v17_19) from B_w b21 (by decide +kernel) (by decide +kernel))
      have i29 : (v17_19).toInt ≠ (255 : Int32).toInt := i_ne hc
      have n30 : (255 : Int32).toInt = 255 := cqn_255
      unfold b_Re_readBit_50
      have hI31 := IMc_u (u := 60) (i := 2) (v := v17_19) hI22 (show B 0 255 (v17_19) from (B_w b21 (by decide +kernel) (by decide +kernel)))
      have hI32 := IMc_u (u := 60) (i := 4) (v := 8) hI31 (show B 0 8 (8) from (B_w cqb_8_8_8 (by decide +kernel) (by decide +kernel)))
      have g36 := agc_f (u := 60) (k := 3) (v := F 60 1) (agc_refl (fs := [6001, 6002, 6003, 6004]) (rs := []) (F := F)) rfl (by decide +kernel)
      have g35 := agc_tr g36 g23 (by decide +kernel) (by decide +kernel)
      have g34 := agc_f (u := 60) (k := 2) (v := v17_19) g35 rfl (by decide +kernel)
      have g33 := agc_f (u := 60) (k := 4) (v := 8) g34 rfl (by decide +kernel)
      exact hj1 hI32 g33 (by show (1 : Int) ≤ 8; first | with_reducible assumption | omega)
    · have b37 : B 255 255 (v17_19) := B_w (B_eq hc cqb_255_255_255) (by decide +kernel) (by decide +kernel)
      have q38 : (255) ≤ (v17_19).toInt ∧ (v17_19).toInt ≤ (255) := (show B 255 255 (v17_19) from B_w b37 (by decide +kernel) (by decide +kernel))
      have i39 : (v17_19).toInt = (255 : Int32).toInt := congrArg Int32.toInt hc
      have n40 : (255 : Int32).toInt = 255 := cqn_255
      have hI41 := IMc_u (u := 60) (i := 2) (v := v17_19) hI22 (show B 0 255 (v17_19) from (B_w b37 (by decide +kernel) (by decide +kernel)))
      have g50 := agc_f (u := 60) (k := 3) (v := F 60 1) (agc_refl (fs := [6001, 6002, 6003, 6006, 6007]) (rs := []) (F := F)) rfl (by decide +kernel)
      have g49 := agc_tr g50 g23 (by decide +kernel) (by decide +kernel)
      have g48 := agc_f (u := 60) (k := 2) (v := v17_19) g49 rfl (by decide +kernel)
      refine h_Re_read_u60 hI41 (fun {v34_42} {FS34_43} {LFS34_43} b44 hI45 g46 r47 => ?_) (fun hI g => hT13 hI (agc_tr g48 g (by decide +kernel) (by decide +kernel)))
      have r51 : (FS34_43 60 1).toInt ≤ 32768 := r47
      clear r47
      have q52 : (0) ≤ (FS34_43 60 1).toInt ∧ (FS34_43 60 1).toInt ≤ (98304) := (show B 0 98304 (FS34_43 60 1) from hI45 60 1)
      refine ⟨fun hc => ?_, fun hc => ?_⟩
      · have b53 : B 0 0 (v34_42) := B_w (B_eq hc cqb_0_0_0) (by decide +kernel) (by decide +kernel)
        have q54 : (0) ≤ (v34_42).toInt ∧ (v34_42).toInt ≤ (0) := (show B 0 0 (v34_42) from B_w b53 (by decide +kernel) (by decide +kernel))
        have i55 : (v34_42).toInt = (0 : Int32).toInt := congrArg Int32.toInt hc
        have n56 : (0 : Int32).toInt = 0 := cqn_0
        unfold b_Re_readBit_50
        have hI57 := IMc_u (u := 60) (i := 4) (v := 8) hI45 (show B 0 8 (8) from (B_w cqb_8_8_8 (by decide +kernel) (by decide +kernel)))
        have g62 := agc_f (u := 60) (k := 3) (v := F 60 1) (agc_refl (fs := [6001, 6002, 6003, 6004]) (rs := []) (F := F)) rfl (by decide +kernel)
        have g61 := agc_tr g62 g23 (by decide +kernel) (by decide +kernel)
        have g60 := agc_f (u := 60) (k := 2) (v := v17_19) g61 rfl (by decide +kernel)
        have g59 := agc_tr g60 g46 (by decide +kernel) (by decide +kernel)
        have g58 := agc_f (u := 60) (k := 4) (v := 8) g59 rfl (by decide +kernel)
        exact hj1 hI57 g58 (by show (1 : Int) ≤ 8; first | with_reducible assumption | omega)
      · have b63 : B 1 255 (v34_42) := B_w (B_n0 b44 hc) (by decide +kernel) (by decide +kernel)
        have g70 := agc_f (u := 60) (k := 3) (v := F 60 1) (agc_refl (fs := [6001, 6002, 6003, 6006, 6007]) (rs := []) (F := F)) rfl (by decide +kernel)
        have g69 := agc_tr g70 g23 (by decide +kernel) (by decide +kernel)
        have g68 := agc_f (u := 60) (k := 2) (v := v17_19) g69 rfl (by decide +kernel)
        have g67 := agc_tr g68 g46 (by decide +kernel) (by decide +kernel)
        exact h_Re_fail_u60 (B_w cqb_7_7_7 (by decide +kernel) (by decide +kernel)) hI45 (fun hI g => hT13 hI (agc_tr g67 g (by decide +kernel) (by decide +kernel)))
set_option maxRecDepth 20000 in
set_option maxHeartbeats 4000000 in
theorem h_Re_readNumber_u60 {a : Bool} {b : Bool} {P : Nat → Nat → Nat} {x1 : Int32} {F : cF} {L : cL} {K : Int32 → cs → Prop} {T : Nat → cs → Prop} (b_x1 : B 0 255 x1) (hI : IMc F) (hK : ∀ {v : Int32} {Z : cF} {LZ : cL}, B (-2147483648) 2147483647 v → IMc Z → agc [6001, 6002, 6003, 6004] [999] F Z → K v (Z, LZ, PC a b P)) (hT13 : ∀ {Z : cF} {LZ : cL}, IMc Z → agc [6001, 6002, 6003, 6004, 6006, 6007] [999] F Z → T 13 (Z, LZ, PC a b P)) : p_Re_readNumber UL 60 x1 (F, L, PC a b P) K T := by
  unfold p_Re_readNumber
  refine ⟨fun yx1 yx2 yx3 yS => x1 = yx1 ∧ B (-2147483648) 2147483647 yx2 ∧ B 0 255 yx3 ∧ ∃ (T4 : cF) (LT4 : cL), yS = (T4, LT4, PC a b P) ∧ IMc T4 ∧ agc [6001, 6002, 6003, 6004] [999] F T4, fun yx1 yx2 yx3 yS => (255 - yx3.toInt).toNat, ⟨rfl, (B_w cqb_0_0_0 (by decide +kernel) (by decide +kernel)), (B_w cqb_0_0_0 (by decide +kernel) (by decide +kernel)), _, _, rfl, hI, (agc_refl (fs := [6001, 6002, 6003, 6004]) (rs := [999]) (F := F))⟩, fun x1_1 x2_2 x3_3 ST4 hIv => ?_⟩
  obtain ⟨rfl, b5, b6, T4, LT4, rfl, hI7, g8⟩ := hIv
  suffices hs : ∀ (R4 : Int32 → Int32 → Int32 → cs → Prop), (∀ zx1 zx2 zx3 zS, (x1 = zx1 ∧ B (-2147483648) 2147483647 zx2 ∧ B 0 255 zx3 ∧ ∃ (T4 : cF) (LT4 : cL), zS = (T4, LT4, PC a b P) ∧ IMc T4 ∧ agc [6001, 6002, 6003, 6004] [999] F T4) → (255 - zx3.toInt).toNat < (255 - x3_3.toInt).toNat → R4 zx1 zx2 zx3 zS) → b_Re_readNumber_4 UL 60 x1 x2_2 x3_3 (T4, LT4, PC a b P) R4 K T from hs _ (fun _ _ _ _ h1 h2 => ⟨h1, h2⟩)
  intro R4 hR40
  have hR4 := fun {zx1} {zx2} {zx3} {zS} => hR40 zx1 zx2 zx3 zS
  unfold b_Re_readNumber_4
  refine ⟨fun hc => ?_, fun hc => ?_⟩
  · have hq9 := hc
    have q10 : (0) ≤ (x1).toInt ∧ (x1).toInt ≤ (255) := (show B 0 255 (x1) from B_w b_x1 (by decide +kernel) (by decide +kernel))
    have q11 : (0) ≤ (x3_3).toInt ∧ (x3_3).toInt ≤ (255) := (show B 0 255 (x3_3) from B_w b6 (by decide +kernel) (by decide +kernel))
    have i12 : (x1).toInt ≤ (x3_3).toInt := i_le hq9
    refine ⟨fun hc => ?_, fun hc => ?_⟩
    · have hq13 := hc
      have i14 : (((1 : Int32) <<< (x1 &&& 31 : Int32) : Int32)).toInt ≤ (2 * x2_2).toInt := i_le hq13
      unfold b_Re_readNumber_44
      have g15 := agc_tr (agc_refl (fs := [6001, 6002, 6003, 6004]) (rs := [999]) (F := F)) g8 (by decide +kernel) (by decide +kernel)
      exact hK b5 hI7 g15
    · have hq16 := (nle_lt hc)
      have b17 : B (-2147483648) 2147483646 (2 * x2_2) := B_w (B_ltL (B_any _) (B_any _) hq16) (by decide +kernel) (by decide +kernel)
      have b18 : B (-2147483647) 2147483647 (((1 : Int32) <<< (x1 &&& 31 : Int32) : Int32)) := B_w (B_ltR (B_any _) (B_any _) hq16) (by decide +kernel) (by decide +kernel)
      have q19 : (-2147483648) ≤ (2 * x2_2).toInt ∧ (2 * x2_2).toInt ≤ (2147483646) := (show B (-2147483648) 2147483646 (2 * x2_2) from B_w b17 (by decide +kernel) (by decide +kernel))
      have q20 : (-2147483647) ≤ (((1 : Int32) <<< (x1 &&& 31 : Int32) : Int32)).toInt ∧ (((1 : Int32) <<< (x1 &&& 31 : Int32) : Int32)).toInt ≤ (2147483647) := (show B (-2147483647) 2147483647 (((1 : Int32) <<< (x1 &&& 31 : Int32) : Int32)) from B_w b18 (by decide +kernel) (by decide +kernel))
      have i21 : (2 * x2_2).toInt < (((1 : Int32) <<< (x1 &&& 31 : Int32) : Int32)).toInt := i_lt hq16
      unfold b_Re_readNumber_44
      have g22 := agc_tr (agc_refl (fs := [6001, 6002, 6003, 6004]) (rs := [999]) (F := F)) g8 (by decide +kernel) (by decide +kernel)
      exact hK (B_w (B_any _) (by decide +kernel) (by decide +kernel)) hI7 g22
  · have hq23 := (nle_lt hc)
    have b24 : B 0 254 (x3_3) := B_w (B_ltL b6 b_x1 hq23) (by decide +kernel) (by decide +kernel)
    have b25 : B 1 255 (x1) := B_w (B_ltR b6 b_x1 hq23) (by decide +kernel) (by decide +kernel)
    have q26 : (0) ≤ (x3_3).toInt ∧ (x3_3).toInt ≤ (254) := (show B 0 254 (x3_3) from B_w b24 (by decide +kernel) (by decide +kernel))
    have q27 : (1) ≤ (x1).toInt ∧ (x1).toInt ≤ (255) := (show B 1 255 (x1) from B_w b25 (by decide +kernel) (by decide +kernel))
    have i28 : (x3_3).toInt < (x1).toInt := i_lt hq23
    have g34 := agc_tr (agc_refl (fs := [6001, 6002, 6003, 6004, 6006, 6007]) (rs := [999]) (F := F)) g8 (by decide +kernel) (by decide +kernel)
    refine h_Re_readBit_u60 hI7 (fun {v13_29} {FS13_30} {LFS13_30} b31 hI32 g33 => ?_) (fun hI g => hT13 hI (agc_tr g34 g (by decide +kernel) (by decide +kernel)))
    have g36 := agc_tr (agc_refl (fs := [6001, 6002, 6003, 6004]) (rs := [999]) (F := F)) g8 (by decide +kernel) (by decide +kernel)
    have g35 := agc_tr g36 g33 (by decide +kernel) (by decide +kernel)
    have e37 : (x3_3 + 1).toInt = ((x3_3).toInt + 1) := (t_add b24 cqb_1_1_1 (by decide +kernel) (by decide +kernel)).trans (by rw [cqn_1])
    have q38 : (1) ≤ (x3_3 + 1).toInt ∧ (x3_3 + 1).toInt ≤ (255) := (show B 1 255 (x3_3 + 1) from B_w (B_add b24 cqb_1_1_1 (by decide +kernel) (by decide +kernel)) (by decide +kernel) (by decide +kernel))
    exact hR4 ⟨rfl, (B_w (B_any _) (by decide +kernel) (by decide +kernel)), (B_w (B_add b24 cqb_1_1_1 (by decide +kernel) (by decide +kernel)) (by decide +kernel) (by decide +kernel)), _, _, rfl, hI32, g35⟩ (by show (255 - (x3_3 + 1).toInt).toNat < (255 - x3_3.toInt).toNat; omega)
