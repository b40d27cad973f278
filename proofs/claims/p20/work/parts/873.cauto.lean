set_option maxRecDepth 20000 in
set_option maxHeartbeats 4000000 in
theorem h_Un_readScanLayer_u59_a0 {b : Bool} {P : Nat → Nat → Nat} {x1 : Int32} {F : cF} {L : cL} {K : Int32 → cs → Prop} {T : Nat → cs → Prop} (b_x1 : B 0 3 x1) (hI : IMc F) (pre0 : CV F) (pre1 : LSQ F) (pre2 : qf (F 74) 0 (F 73 0).toInt 0 ((F 63 2).toInt - 1)) (hK : ∀ {v : Int32} {Z : cF} {LZ : cL}, B 0 2 v → IMc Z → agc [6001, 7300] [71, 74, 75, 76, 103] F Z → (CV Z) → (LSQ Z) → (qf (Z 74) 0 (Z 73 0).toInt 0 ((Z 63 2).toInt - 1)) → K v (Z, LZ, PC false b P)) (hT13 : ∀ {Z : cF} {LZ : cL}, IMc Z → agc [6001, 6006, 6007] [71] F Z → T 13 (Z, LZ, PC false b P)) : p_Un_readScanLayer UL 59 x1 (F, L, PC false b P) K T := by
  have q1 : (0) ≤ (F 73 0).toInt ∧ (F 73 0).toInt ≤ (3) := (show B 0 3 (F 73 0) from hI 73 0)
  unfold p_Un_readScanLayer
  refine ⟨(show ¬ ((60 : Nat) = NU) from by decide +kernel), ?_⟩
  refine ⟨(show c_cl UL 60 = 8 from cl_60), ?_⟩
  refine h_Re_read_u60 hI (fun {v4_2} {FS4_3} {LFS4_3} b4 hI5 g6 r7 => ?_) (fun hI g => hT13 hI (agc_tr (agc_refl (fs := [6001, 6006, 6007]) (rs := [71]) (F := F)) g (by decide +kernel) (by decide +kernel)))
  have r8 : (FS4_3 60 1).toInt ≤ 32768 := r7
  clear r7
  have q9 : (0) ≤ (FS4_3 60 1).toInt ∧ (FS4_3 60 1).toInt ≤ (98304) := (show B 0 98304 (FS4_3 60 1) from hI5 60 1)
  have q17 : (1) ≤ (F 63 2).toInt ∧ (F 63 2).toInt ≤ (3) := (show B 1 3 (F 63 2) from hI 63 2)
  have e18 : (FS4_3 63 2).toInt = (F 63 2).toInt := (congrArg Int32.toInt (g6.1 63 2 rfl rfl)).trans rfl
  refine ⟨fun yx1 yx2 yx3 yx4 yS => x1 = yx1 ∧ v4_2 = yx2 ∧ B (-1) 2 yx3 ∧ B 0 3 yx4 ∧ (FS4_3, LFS4_3, PC false b P) = yS ∧ (yx3.toInt < (FS4_3 63 2).toInt), fun yx1 yx2 yx3 yx4 yS => (3 - yx4.toInt).toNat, ⟨rfl, rfl, (B_w cqb_m1_m1_m1 (by decide +kernel) (by decide +kernel)), b_x1, rfl, (by show (-1) < (FS4_3 63 2).toInt; first | with_reducible assumption | omega)⟩, fun x1_10 x2_11 x3_12 x4_13 ST14 hIv => ?_⟩
  obtain ⟨rfl, rfl, b15, b16, rfl, r19⟩ := hIv
  suffices hs : ∀ (R13 : Int32 → Int32 → Int32 → Int32 → cs → Prop), (∀ zx1 zx2 zx3 zx4 zS, (x1 = zx1 ∧ v4_2 = zx2 ∧ B (-1) 2 zx3 ∧ B 0 3 zx4 ∧ (FS4_3, LFS4_3, PC false b P) = zS ∧ (zx3.toInt < (FS4_3 63 2).toInt)) → (3 - zx4.toInt).toNat < (3 - x4_13.toInt).toNat → R13 zx1 zx2 zx3 zx4 zS) → b_Un_readScanLayer_13 UL 59 x1 v4_2 x3_12 x4_13 (FS4_3, LFS4_3, PC false b P) R13 K T from hs _ (fun _ _ _ _ _ h1 h2 => ⟨h1, h2⟩)
  intro R13 hR130
  have hR13 := fun {zx1} {zx2} {zx3} {zx4} {zS} => hR130 zx1 zx2 zx3 zx4 zS
  have q20 : (-1) ≤ (x3_12).toInt ∧ (x3_12).toInt ≤ (2) := (show B (-1) 2 (x3_12) from B_w b15 (by decide +kernel) (by decide +kernel))
  have q21 : (1) ≤ (F 63 2).toInt ∧ (F 63 2).toInt ≤ (3) := (show B 1 3 (F 63 2) from hI 63 2)
  have e22 : (FS4_3 63 2).toInt = (F 63 2).toInt := (congrArg Int32.toInt (g6.1 63 2 rfl rfl)).trans rfl
  unfold b_Un_readScanLayer_13
  refine ⟨(show ¬ ((63 : Nat) = NU) from by decide +kernel), ?_⟩
  refine ⟨(show c_cl UL 63 = 7 from cl_63), ?_⟩
  refine ⟨fun hc => ?_, fun hc => ?_⟩
  · have hq23 := hc
    have b24 : B 1 3 (x4_13) := B_w (B_leR (B_eq (g6.1 63 2 rfl rfl) (show B 1 3 (F 63 2) from hI 63 2)) b16 hq23) (by decide +kernel) (by decide +kernel)
    have q25 : (1) ≤ (x4_13).toInt ∧ (x4_13).toInt ≤ (3) := (show B 1 3 (x4_13) from B_w b24 (by decide +kernel) (by decide +kernel))
    have i26 : (FS4_3 63 2).toInt ≤ (x4_13).toInt := i_le hq23
    refine ⟨fun hc => ?_, fun hc => ?_⟩
    · have b27 : B (-1) (-1) (x3_12) := B_w (B_eq hc cqb_m1_m1_m1) (by decide +kernel) (by decide +kernel)
      have q28 : (-1) ≤ (x3_12).toInt ∧ (x3_12).toInt ≤ (-1) := (show B (-1) (-1) (x3_12) from B_w b27 (by decide +kernel) (by decide +kernel))
      have i29 : (x3_12).toInt = (-1 : Int32).toInt := congrArg Int32.toInt hc
      have n30 : (-1 : Int32).toInt = -1 := cqn_m1
      unfold b_Un_readScanLayer_59
      refine ⟨(show ¬ ((60 : Nat) = NU) from by decide +kernel), ?_⟩
      refine ⟨(show ¬ ((60 : Nat) = NU) from by decide +kernel), ?_⟩
      refine ⟨(show c_cl UL 60 = 8 from cl_60), ?_⟩
      have g34 := agc_tr (agc_refl (fs := [6001, 6006, 6007]) (rs := [71]) (F := F)) g6 (by decide +kernel) (by decide +kernel)
      exact h_Re_fail_u60 (B_w cqb_5_5_5 (by decide +kernel) (by decide +kernel)) hI5 (fun hI g => hT13 hI (agc_tr g34 g (by decide +kernel) (by decide +kernel)))
    · have i35 : (x3_12).toInt ≠ (-1 : Int32).toInt := i_ne hc
      have n36 : (-1 : Int32).toInt = -1 := cqn_m1
      refine ⟨(show ¬ ((103 : Nat) = NU) from by decide +kernel), ?_⟩
      refine ⟨(show c_cl UL 103 = 903 from cl_103), ?_⟩
      refine ⟨(show vp_in (x3_12) 3 from vp_om (x := x3_12) (by omega) (by omega)), ?_⟩
      have b37 : B 0 2 (x3_12) := ⟨by omega, by omega⟩
      refine ⟨fun hc => ?_, fun hc => ?_⟩
      · have b38 : B 0 0 (F 103 x3_12.toNatClampNeg) := B_w (B_eq (Eq.symm (congrFun (g6.2 103 rfl rfl) x3_12.toNatClampNeg)) (B_eq hc cqb_0_0_0)) (by decide +kernel) (by decide +kernel)
        have q39 : (0) ≤ (F 103 x3_12.toNatClampNeg).toInt ∧ (F 103 x3_12.toNatClampNeg).toInt ≤ (0) := (show B 0 0 (F 103 x3_12.toNatClampNeg) from B_w b38 (by decide +kernel) (by decide +kernel))
        have e40 : (FS4_3 103 x3_12.toNatClampNeg).toInt = (F 103 x3_12.toNatClampNeg).toInt := (congrArg Int32.toInt (congrFun (g6.2 103 rfl rfl) x3_12.toNatClampNeg)).trans rfl
        have i41 : (FS4_3 103 x3_12.toNatClampNeg).toInt = (0 : Int32).toInt := congrArg Int32.toInt hc
        have n42 : (0 : Int32).toInt = 0 := cqn_0
        refine ⟨(show ¬ ((102 : Nat) = NU) from by decide +kernel), ?_⟩
        refine ⟨(show c_cl UL 102 = 902 from cl_102), ?_⟩
        refine ⟨(show vp_in (x3_12) 3 from vp_B b37 (by decide +kernel) (by decide +kernel)), ?_⟩
        refine ⟨(show ¬ ((79 : Nat) = NU) from by decide +kernel), ?_⟩
        refine ⟨(show c_cl UL 79 = 903 from cl_79), ?_⟩
        refine ⟨(show vp_in (FS4_3 102 x3_12.toNatClampNeg) 4 from vp_B (B_eq (congrFun (g6.2 102 rfl rfl) x3_12.toNatClampNeg) (show B 0 3 (F 102 x3_12.toNatClampNeg) from hI 102 x3_12.toNatClampNeg)) (by decide +kernel) (by decide +kernel)), ?_⟩
        refine ⟨fun hc => ?_, fun hc => ?_⟩
        · have b43 : B 1 1 (F 79 (FS4_3 102 x3_12.toNatClampNeg).toNatClampNeg) := B_w (B_eq (Eq.symm (congrFun (g6.2 79 rfl rfl) (FS4_3 102 x3_12.toNatClampNeg).toNatClampNeg)) (B_n0 (B_eq (congrFun (g6.2 79 rfl rfl) (FS4_3 102 x3_12.toNatClampNeg).toNatClampNeg) (show B 0 1 (F 79 (FS4_3 102 x3_12.toNatClampNeg).toNatClampNeg) from hI 79 (FS4_3 102 x3_12.toNatClampNeg).toNatClampNeg)) hc)) (by decide +kernel) (by decide +kernel)
          unfold b_Un_readScanLayer_114
          refine ⟨(show ¬ ((78 : Nat) = NU) from by decide +kernel), ?_⟩
          refine ⟨(show ¬ ((63 : Nat) = NU) from by decide +kernel), ?_⟩
          refine ⟨(show c_cl UL 63 = 7 from cl_63), ?_⟩
          refine ⟨(show ¬ ((71 : Nat) = NU) from by decide +kernel), ?_⟩
          refine ⟨(show c_cl UL 78 = 902 from cl_78), ?_⟩
          refine ⟨(show c_cl UL 71 = 902 from cl_71), ?_⟩
          refine ⟨nlt_B (B_mul cqb_64_64_64 (B_eq (congrFun (g6.2 102 rfl rfl) x3_12.toNatClampNeg) (show B 0 3 (F 102 x3_12.toNatClampNeg) from hI 102 x3_12.toNatClampNeg)) (by decide +kernel) (by decide +kernel) (by decide +kernel)) (by decide +kernel), ?_⟩
          refine ⟨nlt_B (B_mul cqb_64_64_64 b37 (by decide +kernel) (by decide +kernel) (by decide +kernel)) (by decide +kernel), ?_⟩
          refine ⟨(by decide +kernel), ?_⟩
          refine ⟨(show (64 * (FS4_3 102 x3_12.toNatClampNeg)).toNatClampNeg + (64 : Int32).toNatClampNeg ≤ 256 from cl_N (k := 64) (B_mul cqb_64_64_64 (B_eq (congrFun (g6.2 102 rfl rfl) x3_12.toNatClampNeg) (show B 0 3 (F 102 x3_12.toNatClampNeg) from hI 102 x3_12.toNatClampNeg)) (by decide +kernel) (by decide +kernel) (by decide +kernel)) (by decide +kernel) rfl (by decide +kernel)), ?_⟩
          refine ⟨(show (64 * x3_12).toNatClampNeg + (64 : Int32).toNatClampNeg ≤ 192 from cl_N (k := 64) (B_mul cqb_64_64_64 b37 (by decide +kernel) (by decide +kernel) (by decide +kernel)) (by decide +kernel) rfl (by decide +kernel)), ?_⟩
          have hI44 : IMc (va_up FS4_3 71 (va_cpy (FS4_3 78) (FS4_3 71) (64 * (FS4_3 102 x3_12.toNatClampNeg)).toNatClampNeg (64 * x3_12).toNatClampNeg (64 : Int32).toNatClampNeg)) := IMc_w (u := 71) hI5 (fun i => cpy_B (lo := 0) (hi := 255) (fun k => hI5 78 k) (fun k => hI5 71 k) i)
          have g52 := agc_tr (agc_refl (fs := [6001, 6006, 6007]) (rs := [71]) (F := F)) g6 (by decide +kernel) (by decide +kernel)
          have g51 := agc_r (u := 71) (w := va_cpy (FS4_3 78) (FS4_3 71) (64 * (FS4_3 102 x3_12.toNatClampNeg)).toNatClampNeg (64 * x3_12).toNatClampNeg (64 : Int32).toNatClampNeg) g52 rfl (by decide +kernel)
          refine h_Un_readWithin_u59 hI44 (fun {v143_45} {FS143_46} {LFS143_46} b47 hI48 g49 r50 => ?_) (fun hI g => hT13 hI (agc_tr g51 g (by decide +kernel) (by decide +kernel)))
          have r53 : (0 ≤ v143_45.toInt) ∧ (v143_45.toInt ≤ 17) := r50
          clear r50
          have q54 : (0) ≤ (v143_45).toInt ∧ (v143_45).toInt ≤ (255) := (show B 0 255 (v143_45) from B_w b47 (by decide +kernel) (by decide +kernel))
          have b55 : B 0 17 v143_45 := ⟨by omega, by omega⟩
          refine ⟨fun hc => ?_, fun hc => ?_⟩
          · have hq56 := hc
            have b57 : B 0 1 (v143_45 - ((v143_45 / 16) * 16)) := B_w (B_leL (B_rem b55 cqb_16_16_16 (by decide +kernel) (by decide +kernel)) cqb_1_1_1 hq56) (by decide +kernel) (by decide +kernel)
            have e58 : (v143_45 - ((v143_45 / 16) * 16)).toInt = ((v143_45).toInt % 16) := (t_rem b55 cqb_16_16_16 (by decide +kernel) (by decide +kernel)).trans (by rw [cqn_16])
            have q59 : (0) ≤ (v143_45 - ((v143_45 / 16) * 16)).toInt ∧ (v143_45 - ((v143_45 / 16) * 16)).toInt ≤ (1) := (show B 0 1 (v143_45 - ((v143_45 / 16) * 16)) from B_w b57 (by decide +kernel) (by decide +kernel))
            have i60 : (v143_45 - ((v143_45 / 16) * 16)).toInt ≤ (1 : Int32).toInt := i_le hq56
            have n61 : (1 : Int32).toInt = 1 := cqn_1
            unfold b_Un_readScanLayer_174
            refine ⟨(show ¬ ((80 : Nat) = NU) from by decide +kernel), ?_⟩
            refine ⟨(show c_cl UL 80 = 951 from cl_80), ?_⟩
            refine ⟨(show vp_in (v143_45 / 16) 4 from vp_B (show B 0 1 (v143_45 / 16) from B_div2 b55 cqb_16_16_16 (by decide +kernel) (by decide +kernel) (by decide +kernel) (by decide +kernel)) (by decide +kernel) (by decide +kernel)), ?_⟩
            refine ⟨(show ¬ ((PC false b P) 80 (v143_45 / 16).toNatClampNeg = NU) from nu_80 (B_w (show B 0 1 (v143_45 / 16) from B_div2 b55 cqb_16_16_16 (by decide +kernel) (by decide +kernel) (by decide +kernel) (by decide +kernel)) (by decide +kernel) (by decide +kernel))), ?_⟩
            refine ⟨(show c_cl UL ((PC false b P) 80 (v143_45 / 16).toNatClampNeg) = 3 from cx_80 (B_w (show B 0 1 (v143_45 / 16) from B_div2 b55 cqb_16_16_16 (by decide +kernel) (by decide +kernel) (by decide +kernel) (by decide +kernel)) (by decide +kernel) (by decide +kernel))), ?_⟩
            refine ⟨fun hc => ?_, fun hc => ?_⟩
            · unfold b_Un_readScanLayer_208
              refine ⟨(show ¬ ((60 : Nat) = NU) from by decide +kernel), ?_⟩
              refine ⟨(show ¬ ((60 : Nat) = NU) from by decide +kernel), ?_⟩
              refine ⟨(show c_cl UL 60 = 8 from cl_60), ?_⟩
              have g67 := agc_tr (agc_refl (fs := [6001, 6006, 6007]) (rs := [71]) (F := F)) g6 (by decide +kernel) (by decide +kernel)
              have g66 := agc_r (u := 71) (w := va_cpy (FS4_3 78) (FS4_3 71) (64 * (FS4_3 102 x3_12.toNatClampNeg)).toNatClampNeg (64 * x3_12).toNatClampNeg (64 : Int32).toNatClampNeg) g67 rfl (by decide +kernel)
              have g65 := agc_tr g66 g49 (by decide +kernel) (by decide +kernel)
              exact h_Re_fail_u60 (B_w cqb_6_6_6 (by decide +kernel) (by decide +kernel)) hI48 (fun hI g => hT13 hI (agc_tr g65 g (by decide +kernel) (by decide +kernel)))
            · have tl68 : ¬ FS143_46 (cU (v143_45 / 16)) 0 = 0 := tld (F := FS143_46) (B_w (show B 0 1 (v143_45 / 16) from B_div2 b55 cqb_16_16_16 (by decide +kernel) (by decide +kernel) (by decide +kernel) (by decide +kernel)) (by decide +kernel) (by decide +kernel)) (show ¬ FS143_46 ((PC false b P) 80 (v143_45 / 16).toNatClampNeg) 0 = 0 from hc)
              refine ⟨(show ¬ ((80 : Nat) = NU) from by decide +kernel), ?_⟩
              refine ⟨(show vp_in (2 + (v143_45 - ((v143_45 / 16) * 16))) 4 from vp_B (B_add cqb_2_2_2 b57 (by decide +kernel) (by decide +kernel)) (by decide +kernel) (by decide +kernel)), ?_⟩
              refine ⟨(show ¬ ((PC false b P) 80 (2 + (v143_45 - ((v143_45 / 16) * 16))).toNatClampNeg = NU) from nu_80 (B_w (B_add cqb_2_2_2 b57 (by decide +kernel) (by decide +kernel)) (by decide +kernel) (by decide +kernel))), ?_⟩
              refine ⟨(show c_cl UL ((PC false b P) 80 (2 + (v143_45 - ((v143_45 / 16) * 16))).toNatClampNeg) = 3 from cx_80 (B_w (B_add cqb_2_2_2 b57 (by decide +kernel) (by decide +kernel)) (by decide +kernel) (by decide +kernel))), ?_⟩
              refine ⟨fun hc => ?_, fun hc => ?_⟩
              · have tl69 : ¬ FS143_46 (cU (2 + (v143_45 - ((v143_45 / 16) * 16)))) 0 = 0 := tld (F := FS143_46) (B_w (B_add cqb_2_2_2 b57 (by decide +kernel) (by decide +kernel)) (by decide +kernel) (by decide +kernel)) (show ¬ FS143_46 ((PC false b P) 80 (2 + (v143_45 - ((v143_45 / 16) * 16))).toNatClampNeg) 0 = 0 from hc)
                unfold b_Un_readScanLayer_226
                refine ⟨(show ¬ ((73 : Nat) = NU) from by decide +kernel), ?_⟩
                refine ⟨(show c_cl UL 73 = 10 from cl_73), ?_⟩
                have e70 : (FS143_46 73 0).toInt = (F 73 0).toInt := (congrArg Int32.toInt ((g49.1 73 0 rfl rfl).trans (g6.1 73 0 rfl rfl))).trans rfl
                have e71 : (FS143_46 63 2).toInt = (F 63 2).toInt := (congrArg Int32.toInt ((g49.1 63 2 rfl rfl).trans (g6.1 63 2 rfl rfl))).trans rfl
                have g74 := agc_tr (agc_refl (fs := [6001]) (rs := [71]) (F := F)) g6 (by decide +kernel) (by decide +kernel)
                have g73 := agc_r (u := 71) (w := va_cpy (FS4_3 78) (FS4_3 71) (64 * (FS4_3 102 x3_12.toNatClampNeg)).toNatClampNeg (64 * x3_12).toNatClampNeg (64 : Int32).toNatClampNeg) g74 rfl (by decide +kernel)
                have g72 := agc_tr g73 g49 (by decide +kernel) (by decide +kernel)
                refine h_Sc_addLayer_u73_a0 b37 (B_w (show B 0 1 (v143_45 / 16) from B_div2 b55 cqb_16_16_16 (by decide +kernel) (by decide +kernel) (by decide +kernel) (by decide +kernel)) (by decide +kernel) (by decide +kernel)) (B_w (B_add cqb_2_2_2 b57 (by decide +kernel) (by decide +kernel)) (by decide +kernel) (by decide +kernel)) hI48 (qf_eq ((g49.2 74 rfl rfl).trans (g6.2 74 rfl rfl)) (qf_le (b' := (FS143_46 73 0).toInt) (lo' := 0) (hi' := (FS143_46 63 2).toInt - 1) pre2 (by omega) (by omega) (by omega))) (by show x3_12.toInt < (FS143_46 63 2).toInt; first | with_reducible assumption | omega) (LSQ_ag (F := F) (G := FS143_46) pre1 hI g72 (by decide +kernel) rfl rfl) ((show CV FS143_46 from (CV_ag (F := F) (G := FS143_46) pre0 g72 (by decide +kernel) (by decide +kernel))) (v143_45 / 16) (B_w (show B 0 1 (v143_45 / 16) from B_div2 b55 cqb_16_16_16 (by decide +kernel) (by decide +kernel) (by decide +kernel) (by decide +kernel)) (by decide +kernel) (by decide +kernel)) tl68) ((show CV FS143_46 from (CV_ag (F := F) (G := FS143_46) pre0 g72 (by decide +kernel) (by decide +kernel))) (2 + (v143_45 - ((v143_45 / 16) * 16))) (B_w (B_add cqb_2_2_2 b57 (by decide +kernel) (by decide +kernel)) (by decide +kernel) (by decide +kernel)) tl69) (fun {FS243_75} {LFS243_75} hI76 g77 r78 r79 => ?_)
                have r80 : qf (FS243_75 74) 0 (FS243_75 73 0).toInt 0 ((FS243_75 63 2).toInt - 1) := r78
                clear r78
                have q81 : (0) ≤ (FS243_75 73 0).toInt ∧ (FS243_75 73 0).toInt ≤ (3) := (show B 0 3 (FS243_75 73 0) from hI76 73 0)
                have r82 : LSQ FS243_75 := r79
                clear r79
                refine ⟨(show ¬ ((103 : Nat) = NU) from by decide +kernel), ?_⟩
                refine ⟨(show c_cl UL 103 = 903 from cl_103), ?_⟩
                refine ⟨(show vp_in (x3_12) 3 from vp_B b37 (by decide +kernel) (by decide +kernel)), ?_⟩
                have hI83 := IMc_u (u := 103) (i := x3_12.toNatClampNeg) (v := vp_nar .boolean 1) hI76 (show B 0 1 (vp_nar .boolean 1) from (B_w (show B 1 1 (vp_nar .boolean 1) from ⟨by decide +kernel, by decide +kernel⟩) (by decide +kernel) (by decide +kernel)))
                have g88 := agc_tr (agc_refl (fs := [6001, 7300]) (rs := [71, 74, 75, 76, 103]) (F := F)) g6 (by decide +kernel) (by decide +kernel)
                have g87 := agc_r (u := 71) (w := va_cpy (FS4_3 78) (FS4_3 71) (64 * (FS4_3 102 x3_12.toNatClampNeg)).toNatClampNeg (64 * x3_12).toNatClampNeg (64 : Int32).toNatClampNeg) g88 rfl (by decide +kernel)
                have g86 := agc_tr g87 g49 (by decide +kernel) (by decide +kernel)
                have g85 := agc_tr g86 g77 (by decide +kernel) (by decide +kernel)
                have g84 := agc_r (u := 103) (w := upd (FS243_75 103) x3_12.toNatClampNeg (vp_nar .boolean 1)) g85 rfl (by decide +kernel)
                have g89 := agc_r (u := 103) (w := upd (FS243_75 103) x3_12.toNatClampNeg (vp_nar .boolean 1)) (agc_refl (fs := []) (rs := [103]) (F := FS243_75)) rfl (by decide +kernel)
                have e90 : (FS243_75 63 2).toInt = (F 63 2).toInt := (congrArg Int32.toInt (((g77.1 63 2 rfl rfl).trans (g49.1 63 2 rfl rfl)).trans (g6.1 63 2 rfl rfl))).trans rfl
                exact hK b37 hI83 g84 (CV_ag (F := F) (G := va_up FS243_75 103 (upd (FS243_75 103) x3_12.toNatClampNeg (vp_nar .boolean 1))) pre0 g84 (by decide +kernel) (by decide +kernel)) (LSQ_ag (F := FS243_75) (G := va_up FS243_75 103 (upd (FS243_75 103) x3_12.toNatClampNeg (vp_nar .boolean 1))) r82 hI76 g89 (by decide +kernel) rfl rfl) (qf_le (b' := (FS243_75 73 0).toInt) (lo' := 0) (hi' := (FS243_75 63 2).toInt - 1) r80 (by omega) (by omega) (by omega))
              · unfold b_Un_readScanLayer_208
                refine ⟨(show ¬ ((60 : Nat) = NU) from by decide +kernel), ?_⟩
                refine ⟨(show ¬ ((60 : Nat) = NU) from by decide +kernel), ?_⟩
                refine ⟨(show c_cl UL 60 = 8 from cl_60), ?_⟩
                have g96 := agc_tr (agc_refl (fs := [6001, 6006, 6007]) (rs := [71]) (F := F)) g6 (by decide +kernel) (by decide +kernel)
                have g95 := agc_r (u := 71) (w := va_cpy (FS4_3 78) (FS4_3 71) (64 * (FS4_3 102 x3_12.toNatClampNeg)).toNatClampNeg (64 * x3_12).toNatClampNeg (64 : Int32).toNatClampNeg) g96 rfl (by decide +kernel)
                have g94 := agc_tr g95 g49 (by decide +kernel) (by decide +kernel)
                exact h_Re_fail_u60 (B_w cqb_6_6_6 (by decide +kernel) (by decide +kernel)) hI48 (fun hI g => hT13 hI (agc_tr g94 g (by decide +kernel) (by decide +kernel)))
          · have hq97 := (nle_lt hc)
            have b98 : B 2 15 (v143_45 - ((v143_45 / 16) * 16)) := B_w (B_ltR cqb_1_1_1 (B_rem b55 cqb_16_16_16 (by decide +kernel) (by decide +kernel)) hq97) (by decide +kernel) (by decide +kernel)
            have e99 : (v143_45 - ((v143_45 / 16) * 16)).toInt = ((v143_45).toInt % 16) := (t_rem b55 cqb_16_16_16 (by decide +kernel) (by decide +kernel)).trans (by rw [cqn_16])
            have q100 : (2) ≤ (v143_45 - ((v143_45 / 16) * 16)).toInt ∧ (v143_45 - ((v143_45 / 16) * 16)).toInt ≤ (15) := (show B 2 15 (v143_45 - ((v143_45 / 16) * 16)) from B_w b98 (by decide +kernel) (by decide +kernel))
            have i101 : (1 : Int32).toInt < (v143_45 - ((v143_45 / 16) * 16)).toInt := i_lt hq97
            have n102 : (1 : Int32).toInt = 1 := cqn_1
            refine ⟨(show ¬ ((60 : Nat) = NU) from by decide +kernel), ?_⟩
            refine ⟨(show ¬ ((60 : Nat) = NU) from by decide +kernel), ?_⟩
            refine ⟨(show c_cl UL 60 = 8 from cl_60), ?_⟩
            have g108 := agc_tr (agc_refl (fs := [6001, 6006, 6007]) (rs := [71]) (F := F)) g6 (by decide +kernel) (by decide +kernel)
            have g107 := agc_r (u := 71) (w := va_cpy (FS4_3 78) (FS4_3 71) (64 * (FS4_3 102 x3_12.toNatClampNeg)).toNatClampNeg (64 * x3_12).toNatClampNeg (64 : Int32).toNatClampNeg) g108 rfl (by decide +kernel)
            have g106 := agc_tr g107 g49 (by decide +kernel) (by decide +kernel)
            exact h_Re_fail_u60 (B_w cqb_5_5_5 (by decide +kernel) (by decide +kernel)) hI48 (fun hI g => hT13 hI (agc_tr g106 g (by decide +kernel) (by decide +kernel)))
        · have b109 : B 0 0 (F 79 (FS4_3 102 x3_12.toNatClampNeg).toNatClampNeg) := B_w (B_eq (Eq.symm (congrFun (g6.2 79 rfl rfl) (FS4_3 102 x3_12.toNatClampNeg).toNatClampNeg)) (B_eq hc cqb_0_0_0)) (by decide +kernel) (by decide +kernel)
          have q110 : (0) ≤ (F 79 (FS4_3 102 x3_12.toNatClampNeg).toNatClampNeg).toInt ∧ (F 79 (FS4_3 102 x3_12.toNatClampNeg).toNatClampNeg).toInt ≤ (0) := (show B 0 0 (F 79 (FS4_3 102 x3_12.toNatClampNeg).toNatClampNeg) from B_w b109 (by decide +kernel) (by decide +kernel))
          have e111 : (FS4_3 79 (FS4_3 102 x3_12.toNatClampNeg).toNatClampNeg).toInt = (F 79 (FS4_3 102 x3_12.toNatClampNeg).toNatClampNeg).toInt := (congrArg Int32.toInt (congrFun (g6.2 79 rfl rfl) (FS4_3 102 x3_12.toNatClampNeg).toNatClampNeg)).trans rfl
          have i112 : (FS4_3 79 (FS4_3 102 x3_12.toNatClampNeg).toNatClampNeg).toInt = (0 : Int32).toInt := congrArg Int32.toInt hc
          have n113 : (0 : Int32).toInt = 0 := cqn_0
          refine ⟨(show ¬ ((60 : Nat) = NU) from by decide +kernel), ?_⟩
          refine ⟨(show ¬ ((60 : Nat) = NU) from by decide +kernel), ?_⟩
          refine ⟨(show c_cl UL 60 = 8 from cl_60), ?_⟩
          have g117 := agc_tr (agc_refl (fs := [6001, 6006, 6007]) (rs := [71]) (F := F)) g6 (by decide +kernel) (by decide +kernel)
          exact h_Re_fail_u60 (B_w cqb_6_6_6 (by decide +kernel) (by decide +kernel)) hI5 (fun hI g => hT13 hI (agc_tr g117 g (by decide +kernel) (by decide +kernel)))
      · have b118 : B 1 1 (F 103 x3_12.toNatClampNeg) := B_w (B_eq (Eq.symm (congrFun (g6.2 103 rfl rfl) x3_12.toNatClampNeg)) (B_n0 (B_eq (congrFun (g6.2 103 rfl rfl) x3_12.toNatClampNeg) (show B 0 1 (F 103 x3_12.toNatClampNeg) from hI 103 x3_12.toNatClampNeg)) hc)) (by decide +kernel) (by decide +kernel)
        unfold b_Un_readScanLayer_59
        refine ⟨(show ¬ ((60 : Nat) = NU) from by decide +kernel), ?_⟩
        refine ⟨(show ¬ ((60 : Nat) = NU) from by decide +kernel), ?_⟩
        refine ⟨(show c_cl UL 60 = 8 from cl_60), ?_⟩
        have g122 := agc_tr (agc_refl (fs := [6001, 6006, 6007]) (rs := [71]) (F := F)) g6 (by decide +kernel) (by decide +kernel)
        exact h_Re_fail_u60 (B_w cqb_5_5_5 (by decide +kernel) (by decide +kernel)) hI5 (fun hI g => hT13 hI (agc_tr g122 g (by decide +kernel) (by decide +kernel)))
  · have hq123 := (nle_lt hc)
    have b124 : B 0 2 (x4_13) := B_w (B_ltL b16 (B_eq (g6.1 63 2 rfl rfl) (show B 1 3 (F 63 2) from hI 63 2)) hq123) (by decide +kernel) (by decide +kernel)
    have q125 : (0) ≤ (x4_13).toInt ∧ (x4_13).toInt ≤ (2) := (show B 0 2 (x4_13) from B_w b124 (by decide +kernel) (by decide +kernel))
    have i126 : (x4_13).toInt < (FS4_3 63 2).toInt := i_lt hq123
    refine ⟨(show ¬ ((101 : Nat) = NU) from by decide +kernel), ?_⟩
    refine ⟨(show c_cl UL 101 = 902 from cl_101), ?_⟩
    refine ⟨(show vp_in (x4_13) 3 from vp_B b124 (by decide +kernel) (by decide +kernel)), ?_⟩
    refine ⟨fun hc => ?_, fun hc => ?_⟩
    · have q127 : (0) ≤ (F 101 x4_13.toNatClampNeg).toInt ∧ (F 101 x4_13.toNatClampNeg).toInt ≤ (255) := (show B 0 255 (F 101 x4_13.toNatClampNeg) from hI 101 x4_13.toNatClampNeg)
      have e128 : (FS4_3 101 x4_13.toNatClampNeg).toInt = (F 101 x4_13.toNatClampNeg).toInt := (congrArg Int32.toInt (congrFun (g6.2 101 rfl rfl) x4_13.toNatClampNeg)).trans rfl
      have q129 : (0) ≤ (v4_2).toInt ∧ (v4_2).toInt ≤ (255) := (show B 0 255 (v4_2) from B_w b4 (by decide +kernel) (by decide +kernel))
      have i130 : (FS4_3 101 x4_13.toNatClampNeg).toInt ≠ (v4_2).toInt := i_ne hc
      unfold b_Un_readScanLayer_39
      have e131 : (x4_13 + 1).toInt = ((x4_13).toInt + 1) := (t_add b124 cqb_1_1_1 (by decide +kernel) (by decide +kernel)).trans (by rw [cqn_1])
      have q132 : (1) ≤ (x4_13 + 1).toInt ∧ (x4_13 + 1).toInt ≤ (3) := (show B 1 3 (x4_13 + 1) from B_w (B_add b124 cqb_1_1_1 (by decide +kernel) (by decide +kernel)) (by decide +kernel) (by decide +kernel))
      exact hR13 ⟨rfl, rfl, b15, (B_w (B_add b124 cqb_1_1_1 (by decide +kernel) (by decide +kernel)) (by decide +kernel) (by decide +kernel)), rfl, (by show x3_12.toInt < (FS4_3 63 2).toInt; first | with_reducible assumption | omega)⟩ (by show (3 - (x4_13 + 1).toInt).toNat < (3 - x4_13.toInt).toNat; omega)
    · have q133 : (0) ≤ (F 101 x4_13.toNatClampNeg).toInt ∧ (F 101 x4_13.toNatClampNeg).toInt ≤ (255) := (show B 0 255 (F 101 x4_13.toNatClampNeg) from hI 101 x4_13.toNatClampNeg)
      have e134 : (FS4_3 101 x4_13.toNatClampNeg).toInt = (F 101 x4_13.toNatClampNeg).toInt := (congrArg Int32.toInt (congrFun (g6.2 101 rfl rfl) x4_13.toNatClampNeg)).trans rfl
      have q135 : (0) ≤ (v4_2).toInt ∧ (v4_2).toInt ≤ (255) := (show B 0 255 (v4_2) from B_w b4 (by decide +kernel) (by decide +kernel))
      have i136 : (FS4_3 101 x4_13.toNatClampNeg).toInt = (v4_2).toInt := congrArg Int32.toInt hc
      unfold b_Un_readScanLayer_39
      have e137 : (x4_13 + 1).toInt = ((x4_13).toInt + 1) := (t_add b124 cqb_1_1_1 (by decide +kernel) (by decide +kernel)).trans (by rw [cqn_1])
      have q138 : (1) ≤ (x4_13 + 1).toInt ∧ (x4_13 + 1).toInt ≤ (3) := (show B 1 3 (x4_13 + 1) from B_w (B_add b124 cqb_1_1_1 (by decide +kernel) (by decide +kernel)) (by decide +kernel) (by decide +kernel))
      exact hR13 ⟨rfl, rfl, (B_w b124 (by decide +kernel) (by decide +kernel)), (B_w (B_add b124 cqb_1_1_1 (by decide +kernel) (by decide +kernel)) (by decide +kernel) (by decide +kernel)), rfl, (by show x4_13.toInt < (FS4_3 63 2).toInt; first | with_reducible assumption | omega)⟩ (by show (3 - (x4_13 + 1).toInt).toNat < (3 - x4_13.toInt).toNat; omega)
set_option maxRecDepth 20000 in
set_option maxHeartbeats 4000000 in
theorem h_Un_readScan_u59_a0 {b : Bool} {P : Nat → Nat → Nat} {F : cF} {L : cL} {K : cs → Prop} {T : Nat → cs → Prop} (hI : IMc F) (pre0 : CV F) (pre1 : qf (F 64) 0 (F 63 2).toInt 1 (F 63 5).toInt) (pre2 : qf (F 65) 0 (F 63 2).toInt 1 (F 63 6).toInt) (pre3 : ((F 63 5).toInt = 1) ∨ ((F 63 7).toInt ≤ 4)) (pre4 : ((F 63 6).toInt = 1) ∨ ((F 63 8).toInt ≤ 4)) (hK : ∀ {Z : cF} {LZ : cL}, IMc Z → agc [6001, 7300, 7304, 7305, 7306] [71, 74, 75, 76, 77, 103, 999] F Z → (CV Z) → (ZQ Z) → (UPs 73 Z) → K (Z, LZ, PC false b P)) (hT13 : ∀ {Z : cF} {LZ : cL}, IMc Z → agc [6001, 6006, 6007, 7300] [71, 74, 75, 76, 103, 999] F Z → T 13 (Z, LZ, PC false b P)) : p_Un_readScan UL 59 (F, L, PC false b P) K T := by
  have q1 : (1) ≤ (F 63 2).toInt ∧ (F 63 2).toInt ≤ (3) := (show B 1 3 (F 63 2) from hI 63 2)
  have q2 : (1) ≤ (F 63 5).toInt ∧ (F 63 5).toInt ≤ (2) := (show B 1 2 (F 63 5) from hI 63 5)
  have q3 : (1) ≤ (F 63 7).toInt ∧ (F 63 7).toInt ≤ (8) := (show B 1 8 (F 63 7) from hI 63 7)
  have q4 : (1) ≤ (F 63 6).toInt ∧ (F 63 6).toInt ≤ (2) := (show B 1 2 (F 63 6) from hI 63 6)
  have q5 : (1) ≤ (F 63 8).toInt ∧ (F 63 8).toInt ≤ (8) := (show B 1 8 (F 63 8) from hI 63 8)
  unfold p_Un_readScan
  refine ⟨(show ¬ ((60 : Nat) = NU) from by decide +kernel), ?_⟩
  refine ⟨(show c_cl UL 60 = 8 from cl_60), ?_⟩
  refine ⟨(show ¬ ((63 : Nat) = NU) from by decide +kernel), ?_⟩
  refine ⟨(show c_cl UL 63 = 7 from cl_63), ?_⟩
  refine h_Un_readWithin_u59 hI (fun {v17_6} {FS17_7} {LFS17_7} b8 hI9 g10 r11 => ?_) (fun hI g => hT13 hI (agc_tr (agc_refl (fs := [6001, 6006, 6007, 7300]) (rs := [71, 74, 75, 76, 103, 999]) (F := F)) g (by decide +kernel) (by decide +kernel)))
  have r12 : (1 ≤ v17_6.toInt) ∧ (v17_6.toInt ≤ (F 63 2).toInt) := r11
  clear r11
  have q13 : (0) ≤ (v17_6).toInt ∧ (v17_6).toInt ≤ (255) := (show B 0 255 (v17_6) from B_w b8 (by decide +kernel) (by decide +kernel))
  have b14 : B 1 3 v17_6 := ⟨by omega, by omega⟩
  refine ⟨fun hc => ?_, fun hc => ?_⟩
  · have q15 : (0) ≤ (F 59 13).toInt ∧ (F 59 13).toInt ≤ (65535) := (show B 0 65535 (F 59 13) from hI 59 13)
    have e16 : (FS17_7 59 13).toInt = (F 59 13).toInt := (congrArg Int32.toInt (g10.1 59 13 rfl rfl)).trans rfl
    have e17 : (2 * v17_6).toInt = (2 * (v17_6).toInt) := (t_mul cqb_2_2_2 b14 (by decide +kernel) (by decide +kernel) (by decide +kernel)).trans (by rw [cqn_2])
    have q18 : (2) ≤ (2 * v17_6).toInt ∧ (2 * v17_6).toInt ≤ (6) := (show B 2 6 (2 * v17_6) from B_w (B_mul cqb_2_2_2 b14 (by decide +kernel) (by decide +kernel) (by decide +kernel)) (by decide +kernel) (by decide +kernel))
    have e19 : (6 + (2 * v17_6)).toInt = (6 + (2 * (v17_6).toInt)) := (t_add cqb_6_6_6 (B_mul cqb_2_2_2 b14 (by decide +kernel) (by decide +kernel) (by decide +kernel)) (by decide +kernel) (by decide +kernel)).trans (by rw [cqn_6, e17])
    have q20 : (8) ≤ (6 + (2 * v17_6)).toInt ∧ (6 + (2 * v17_6)).toInt ≤ (12) := (show B 8 12 (6 + (2 * v17_6)) from B_w (B_add cqb_6_6_6 (B_mul cqb_2_2_2 b14 (by decide +kernel) (by decide +kernel) (by decide +kernel)) (by decide +kernel) (by decide +kernel)) (by decide +kernel) (by decide +kernel))
    have i21 : (FS17_7 59 13).toInt ≠ (6 + (2 * v17_6)).toInt := i_ne hc
    unfold b_Un_readScan_40
    have g24 := agc_tr (agc_refl (fs := [6001, 6006, 6007, 7300]) (rs := [71, 74, 75, 76, 103, 999]) (F := F)) g10 (by decide +kernel) (by decide +kernel)
    refine h_Un_wantLength_u59 (B_w cqb_0_0_0 (by decide +kernel) (by decide +kernel)) hI9 (fun r23 => ?_) (fun hI g => hT13 hI (agc_tr g24 g (by decide +kernel) (by decide +kernel)))
    exact absurd (show ((0 : Int) = 1) from r23) (by decide +kernel)
  · have b25 : B 8 12 (F 59 13) := B_w (B_eq (Eq.symm (g10.1 59 13 rfl rfl)) (B_eq hc (B_add cqb_6_6_6 (B_mul cqb_2_2_2 b14 (by decide +kernel) (by decide +kernel) (by decide +kernel)) (by decide +kernel) (by decide +kernel)))) (by decide +kernel) (by decide +kernel)
    have q26 : (8) ≤ (F 59 13).toInt ∧ (F 59 13).toInt ≤ (12) := (show B 8 12 (F 59 13) from B_w b25 (by decide +kernel) (by decide +kernel))
    have e27 : (FS17_7 59 13).toInt = (F 59 13).toInt := (congrArg Int32.toInt (g10.1 59 13 rfl rfl)).trans rfl
    have e28 : (2 * v17_6).toInt = (2 * (v17_6).toInt) := (t_mul cqb_2_2_2 b14 (by decide +kernel) (by decide +kernel) (by decide +kernel)).trans (by rw [cqn_2])
    have q29 : (2) ≤ (2 * v17_6).toInt ∧ (2 * v17_6).toInt ≤ (6) := (show B 2 6 (2 * v17_6) from B_w (B_mul cqb_2_2_2 b14 (by decide +kernel) (by decide +kernel) (by decide +kernel)) (by decide +kernel) (by decide +kernel))
    have e30 : (6 + (2 * v17_6)).toInt = (6 + (2 * (v17_6).toInt)) := (t_add cqb_6_6_6 (B_mul cqb_2_2_2 b14 (by decide +kernel) (by decide +kernel) (by decide +kernel)) (by decide +kernel) (by decide +kernel)).trans (by rw [cqn_6, e28])
    have q31 : (8) ≤ (6 + (2 * v17_6)).toInt ∧ (6 + (2 * v17_6)).toInt ≤ (12) := (show B 8 12 (6 + (2 * v17_6)) from B_w (B_add cqb_6_6_6 (B_mul cqb_2_2_2 b14 (by decide +kernel) (by decide +kernel) (by decide +kernel)) (by decide +kernel) (by decide +kernel)) (by decide +kernel) (by decide +kernel))
    have i32 : (FS17_7 59 13).toInt = (6 + (2 * v17_6)).toInt := congrArg Int32.toInt hc
    unfold b_Un_readScan_40
    have g35 := agc_tr (agc_refl (fs := [6001, 6006, 6007, 7300]) (rs := [71, 74, 75, 76, 103, 999]) (F := F)) g10 (by decide +kernel) (by decide +kernel)
    refine h_Un_wantLength_u59 (B_w cqb_1_1_1 (by decide +kernel) (by decide +kernel)) hI9 (fun r34 => ?_) (fun hI g => hT13 hI (agc_tr g35 g (by decide +kernel) (by decide +kernel)))
    have r36 : (1 : Int) = 1 := r34
    clear r34
    refine ⟨(show ¬ ((73 : Nat) = NU) from by decide +kernel), ?_⟩
    refine ⟨(show c_cl UL 73 = 10 from cl_73), ?_⟩
    have hI46 := IMc_u (u := 73) (i := 0) (v := 0) hI9 (show B 0 3 (0) from (B_w cqb_0_0_0 (by decide +kernel) (by decide +kernel)))
    have g48 := agc_tr (agc_refl (fs := [6001, 7300]) (rs := []) (F := F)) g10 (by decide +kernel) (by decide +kernel)
    have g47 := agc_f (u := 73) (k := 0) (v := 0) g48 rfl (by decide +kernel)
    refine ⟨fun yx1 yx2 yx3 yx4 yS => (F 60 1) = yx1 ∧ v17_6 = yx2 ∧ B 0 3 yx3 ∧ B 0 3 yx4 ∧ ∃ (T41 : cF) (LT41 : cL), yS = (T41, LT41, PC false b P) ∧ IMc T41 ∧ agc [6001, 7300] [71, 74, 75, 76, 103, 999] (va_up FS17_7 73 (upd (FS17_7 73) 0 0)) T41 ∧ (CV T41) ∧ (LSQ T41) ∧ (qf (T41 74) 0 (T41 73 0).toInt 0 ((T41 63 2).toInt - 1)), fun yx1 yx2 yx3 yx4 yS => (3 - yx4.toInt).toNat, ⟨rfl, rfl, (B_w cqb_0_0_0 (by decide +kernel) (by decide +kernel)), (B_w cqb_0_0_0 (by decide +kernel) (by decide +kernel)), _, _, rfl, hI46, (agc_refl (fs := [6001, 7300]) (rs := [71, 74, 75, 76, 103, 999]) (F := va_up FS17_7 73 (upd (FS17_7 73) 0 0))), (CV_ag (F := F) (G := va_up FS17_7 73 (upd (FS17_7 73) 0 0)) pre0 g47 (by decide +kernel) (by decide +kernel)), (fun i h0 h1 => absurd (show i.toInt < 0 from h1) (by omega)), (qf_0 (b := 0) (by omega))⟩, fun x1_37 x2_38 x3_39 x4_40 ST41 hIv => ?_⟩
    obtain ⟨rfl, rfl, b42, b43, T41, LT41, rfl, hI44, g45, r49, r50, r51⟩ := hIv
    suffices hs : ∀ (R56 : Int32 → Int32 → Int32 → Int32 → cs → Prop), (∀ zx1 zx2 zx3 zx4 zS, ((F 60 1) = zx1 ∧ v17_6 = zx2 ∧ B 0 3 zx3 ∧ B 0 3 zx4 ∧ ∃ (T41 : cF) (LT41 : cL), zS = (T41, LT41, PC false b P) ∧ IMc T41 ∧ agc [6001, 7300] [71, 74, 75, 76, 103, 999] (va_up FS17_7 73 (upd (FS17_7 73) 0 0)) T41 ∧ (CV T41) ∧ (LSQ T41) ∧ (qf (T41 74) 0 (T41 73 0).toInt 0 ((T41 63 2).toInt - 1))) → (3 - zx4.toInt).toNat < (3 - x4_40.toInt).toNat → R56 zx1 zx2 zx3 zx4 zS) → b_Un_readScan_56 UL 59 (F 60 1) v17_6 x3_39 x4_40 (T41, LT41, PC false b P) R56 K T from hs _ (fun _ _ _ _ _ h1 h2 => ⟨h1, h2⟩)
    intro R56 hR560
    have hR56 := fun {zx1} {zx2} {zx3} {zx4} {zS} => hR560 zx1 zx2 zx3 zx4 zS
    have q52 : (0) ≤ (T41 73 0).toInt ∧ (T41 73 0).toInt ≤ (3) := (show B 0 3 (T41 73 0) from hI44 73 0)
    unfold b_Un_readScan_56
    refine ⟨fun hc => ?_, fun hc => ?_⟩
    · have hq53 := hc
      have b54 : B 1 3 (x4_40) := B_w (B_leR b14 b43 hq53) (by decide +kernel) (by decide +kernel)
      have q55 : (1) ≤ (x4_40).toInt ∧ (x4_40).toInt ≤ (3) := (show B 1 3 (x4_40) from B_w b54 (by decide +kernel) (by decide +kernel))
      have i56 : (v17_6).toInt ≤ (x4_40).toInt := i_le hq53
      have g65 := agc_tr (agc_refl (fs := [6001, 6006, 6007, 7300]) (rs := [71, 74, 75, 76, 103, 999]) (F := F)) g10 (by decide +kernel) (by decide +kernel)
      have g64 := agc_f (u := 73) (k := 0) (v := 0) g65 rfl (by decide +kernel)
      have g63 := agc_tr g64 g45 (by decide +kernel) (by decide +kernel)
      refine h_Un_readWithin_u59 hI44 (fun {v79_57} {FS79_58} {LFS79_58} b59 hI60 g61 r62 => ?_) (fun hI g => hT13 hI (agc_tr g63 g (by decide +kernel) (by decide +kernel)))
      have r66 : (0 ≤ v79_57.toInt) ∧ (v79_57.toInt ≤ 0) := r62
      clear r62
      have q67 : (0) ≤ (v79_57).toInt ∧ (v79_57).toInt ≤ (255) := (show B 0 255 (v79_57) from B_w b59 (by decide +kernel) (by decide +kernel))
      have b68 : B 0 0 v79_57 := ⟨by omega, by omega⟩
      have g78 := agc_tr (agc_refl (fs := [6001, 6006, 6007, 7300]) (rs := [71, 74, 75, 76, 103, 999]) (F := F)) g10 (by decide +kernel) (by decide +kernel)
      have g77 := agc_f (u := 73) (k := 0) (v := 0) g78 rfl (by decide +kernel)
      have g76 := agc_tr g77 g45 (by decide +kernel) (by decide +kernel)
      have g75 := agc_tr g76 g61 (by decide +kernel) (by decide +kernel)
      refine h_Un_readWithin_u59 hI60 (fun {v88_69} {FS88_70} {LFS88_70} b71 hI72 g73 r74 => ?_) (fun hI g => hT13 hI (agc_tr g75 g (by decide +kernel) (by decide +kernel)))
      have r79 : (63 ≤ v88_69.toInt) ∧ (v88_69.toInt ≤ 63) := r74
      clear r74
      have q80 : (0) ≤ (v88_69).toInt ∧ (v88_69).toInt ≤ (255) := (show B 0 255 (v88_69) from B_w b71 (by decide +kernel) (by decide +kernel))
      have b81 : B 63 63 v88_69 := ⟨by omega, by omega⟩
      have g92 := agc_tr (agc_refl (fs := [6001, 6006, 6007, 7300]) (rs := [71, 74, 75, 76, 103, 999]) (F := F)) g10 (by decide +kernel) (by decide +kernel)
      have g91 := agc_f (u := 73) (k := 0) (v := 0) g92 rfl (by decide +kernel)
      have g90 := agc_tr g91 g45 (by decide +kernel) (by decide +kernel)
      have g89 := agc_tr g90 g61 (by decide +kernel) (by decide +kernel)
      have g88 := agc_tr g89 g73 (by decide +kernel) (by decide +kernel)
      refine h_Un_readWithin_u59 hI72 (fun {v95_82} {FS95_83} {LFS95_83} b84 hI85 g86 r87 => ?_) (fun hI g => hT13 hI (agc_tr g88 g (by decide +kernel) (by decide +kernel)))
      have r93 : (0 ≤ v95_82.toInt) ∧ (v95_82.toInt ≤ 0) := r87
      clear r87
      have q94 : (0) ≤ (v95_82).toInt ∧ (v95_82).toInt ≤ (255) := (show B 0 255 (v95_82) from B_w b84 (by decide +kernel) (by decide +kernel))
      have b95 : B 0 0 v95_82 := ⟨by omega, by omega⟩
      refine ⟨fun hc => ?_, fun hc => ?_⟩
      · have hq96 := hc
        have b97 : B 1 1 (v17_6) := B_w (B_leL b14 cqb_1_1_1 hq96) (by decide +kernel) (by decide +kernel)
        have q98 : (1) ≤ (v17_6).toInt ∧ (v17_6).toInt ≤ (1) := (show B 1 1 (v17_6) from B_w b97 (by decide +kernel) (by decide +kernel))
        unfold b_Un_readScan_130
        refine ⟨(show ¬ ((73 : Nat) = NU) from by decide +kernel), ?_⟩
        refine ⟨(show ¬ ((63 : Nat) = NU) from by decide +kernel), ?_⟩
        refine ⟨(show c_cl UL 73 = 10 from cl_73), ?_⟩
        have e99 : (FS95_83 73 0).toInt = (T41 73 0).toInt := (congrArg Int32.toInt (((g86.1 73 0 rfl rfl).trans (g73.1 73 0 rfl rfl)).trans (g61.1 73 0 rfl rfl))).trans rfl
        have e100 : (FS95_83 63 2).toInt = (F 63 2).toInt := (congrArg Int32.toInt (((((g86.1 63 2 rfl rfl).trans (g73.1 63 2 rfl rfl)).trans (g61.1 63 2 rfl rfl)).trans (g45.1 63 2 rfl rfl)).trans (g10.1 63 2 rfl rfl))).trans rfl
        have e101 : (T41 63 2).toInt = (F 63 2).toInt := (congrArg Int32.toInt ((g45.1 63 2 rfl rfl).trans (g10.1 63 2 rfl rfl))).trans rfl
        have e102 : (FS95_83 63 5).toInt = (F 63 5).toInt := (congrArg Int32.toInt (((((g86.1 63 5 rfl rfl).trans (g73.1 63 5 rfl rfl)).trans (g61.1 63 5 rfl rfl)).trans (g45.1 63 5 rfl rfl)).trans (g10.1 63 5 rfl rfl))).trans rfl
        have e103 : (FS95_83 63 6).toInt = (F 63 6).toInt := (congrArg Int32.toInt (((((g86.1 63 6 rfl rfl).trans (g73.1 63 6 rfl rfl)).trans (g61.1 63 6 rfl rfl)).trans (g45.1 63 6 rfl rfl)).trans (g10.1 63 6 rfl rfl))).trans rfl
        have e104 : (FS95_83 63 7).toInt = (F 63 7).toInt := (congrArg Int32.toInt (((((g86.1 63 7 rfl rfl).trans (g73.1 63 7 rfl rfl)).trans (g61.1 63 7 rfl rfl)).trans (g45.1 63 7 rfl rfl)).trans (g10.1 63 7 rfl rfl))).trans rfl
        have e105 : (FS95_83 63 8).toInt = (F 63 8).toInt := (congrArg Int32.toInt (((((g86.1 63 8 rfl rfl).trans (g73.1 63 8 rfl rfl)).trans (g61.1 63 8 rfl rfl)).trans (g45.1 63 8 rfl rfl)).trans (g10.1 63 8 rfl rfl))).trans rfl
        have g108 := agc_tr (agc_refl (fs := [6001]) (rs := []) (F := T41)) g61 (by decide +kernel) (by decide +kernel)
        have g107 := agc_tr g108 g73 (by decide +kernel) (by decide +kernel)
        have g106 := agc_tr g107 g86 (by decide +kernel) (by decide +kernel)
        refine h_Sc_arrange_u73_x163_a0 hI85 (qf_eq (((g86.2 74 rfl rfl).trans (g73.2 74 rfl rfl)).trans (g61.2 74 rfl rfl)) (qf_le (b' := (FS95_83 73 0).toInt) (lo' := 0) (hi' := (FS95_83 63 2).toInt - 1) r51 (by omega) (by omega) (by omega))) (qf_eq (((((g86.2 64 rfl rfl).trans (g73.2 64 rfl rfl)).trans (g61.2 64 rfl rfl)).trans (g45.2 64 rfl rfl)).trans (g10.2 64 rfl rfl)) (qf_le (b' := (FS95_83 63 2).toInt) (lo' := 1) (hi' := (FS95_83 63 5).toInt) pre1 (by omega) (by omega) (by omega))) (qf_eq (((((g86.2 65 rfl rfl).trans (g73.2 65 rfl rfl)).trans (g61.2 65 rfl rfl)).trans (g45.2 65 rfl rfl)).trans (g10.2 65 rfl rfl)) (qf_le (b' := (FS95_83 63 2).toInt) (lo' := 1) (hi' := (FS95_83 63 6).toInt) pre2 (by omega) (by omega) (by omega))) (by show ((FS95_83 63 5).toInt = 1) ∨ ((FS95_83 63 7).toInt ≤ 4); first | with_reducible assumption | omega) (by show ((FS95_83 63 6).toInt = 1) ∨ ((FS95_83 63 8).toInt ≤ 4); first | with_reducible assumption | omega) (LSQ_ag (F := T41) (G := FS95_83) r50 hI44 g106 (by decide +kernel) rfl rfl) (fun {FS138_109} {LFS138_109} hI110 g111 r112 r113 r114 => ?_)
        have r115 : qf (FS138_109 77) 0 (FS138_109 73 6).toInt 0 ((64 * (FS138_109 63 2).toInt) - 1) := r112
        clear r112
        have q116 : (0) ≤ (FS138_109 73 6).toInt ∧ (FS138_109 73 6).toInt ≤ (192) := (show B 0 192 (FS138_109 73 6) from hI110 73 6)
        have r117 : UPs 73 FS138_109 := r113
        clear r113
        have r118 : ZQ FS138_109 := r114
        clear r114
        have g125 := agc_tr (agc_refl (fs := [6001, 7300, 7304, 7305, 7306]) (rs := [71, 74, 75, 76, 77, 103, 999]) (F := F)) g10 (by decide +kernel) (by decide +kernel)
        have g124 := agc_f (u := 73) (k := 0) (v := 0) g125 rfl (by decide +kernel)
        have g123 := agc_tr g124 g45 (by decide +kernel) (by decide +kernel)
        have g122 := agc_tr g123 g61 (by decide +kernel) (by decide +kernel)
        have g121 := agc_tr g122 g73 (by decide +kernel) (by decide +kernel)
        have g120 := agc_tr g121 g86 (by decide +kernel) (by decide +kernel)
        have g119 := agc_tr g120 g111 (by decide +kernel) (by decide +kernel)
        have g129 := agc_tr (agc_refl (fs := [6001, 7304, 7305, 7306]) (rs := [77, 999]) (F := T41)) g61 (by decide +kernel) (by decide +kernel)
        have g128 := agc_tr g129 g73 (by decide +kernel) (by decide +kernel)
        have g127 := agc_tr g128 g86 (by decide +kernel) (by decide +kernel)
        have g126 := agc_tr g127 g111 (by decide +kernel) (by decide +kernel)
        exact hK hI110 g119 (CV_ag (F := T41) (G := FS138_109) r49 g126 (by decide +kernel) (by decide +kernel)) r118 (UPs_tr (F := FS138_109) (G := FS138_109) r117 rfl rfl rfl)
      · have hq130 := (nle_lt hc)
        have b131 : B 2 3 (v17_6) := B_w (B_ltR cqb_1_1_1 b14 hq130) (by decide +kernel) (by decide +kernel)
        have q132 : (2) ≤ (v17_6).toInt ∧ (v17_6).toInt ≤ (3) := (show B 2 3 (v17_6) from B_w b131 (by decide +kernel) (by decide +kernel))
        refine ⟨(show ¬ ((73 : Nat) = NU) from by decide +kernel), ?_⟩
        refine ⟨(show ¬ ((63 : Nat) = NU) from by decide +kernel), ?_⟩
        refine ⟨(show c_cl UL 73 = 10 from cl_73), ?_⟩
        refine h_Sc_blocksTogether_u73_x163 hI85 (fun {v112_133} b135 => ?_)
        refine ⟨fun hc => ?_, fun hc => ?_⟩
        · have hq136 := hc
          have b137 : B 0 10 (v112_133) := B_w (B_leL b135 cqb_10_10_10 hq136) (by decide +kernel) (by decide +kernel)
          unfold b_Un_readScan_130
          refine ⟨(show ¬ ((73 : Nat) = NU) from by decide +kernel), ?_⟩
          refine ⟨(show ¬ ((63 : Nat) = NU) from by decide +kernel), ?_⟩
          refine ⟨(show c_cl UL 73 = 10 from cl_73), ?_⟩
          have e138 : (FS95_83 73 0).toInt = (T41 73 0).toInt := (congrArg Int32.toInt (((g86.1 73 0 rfl rfl).trans (g73.1 73 0 rfl rfl)).trans (g61.1 73 0 rfl rfl))).trans rfl
          have e139 : (FS95_83 63 2).toInt = (F 63 2).toInt := (congrArg Int32.toInt (((((g86.1 63 2 rfl rfl).trans (g73.1 63 2 rfl rfl)).trans (g61.1 63 2 rfl rfl)).trans (g45.1 63 2 rfl rfl)).trans (g10.1 63 2 rfl rfl))).trans rfl
          have e140 : (T41 63 2).toInt = (F 63 2).toInt := (congrArg Int32.toInt ((g45.1 63 2 rfl rfl).trans (g10.1 63 2 rfl rfl))).trans rfl
          have e141 : (FS95_83 63 5).toInt = (F 63 5).toInt := (congrArg Int32.toInt (((((g86.1 63 5 rfl rfl).trans (g73.1 63 5 rfl rfl)).trans (g61.1 63 5 rfl rfl)).trans (g45.1 63 5 rfl rfl)).trans (g10.1 63 5 rfl rfl))).trans rfl
          have e142 : (FS95_83 63 6).toInt = (F 63 6).toInt := (congrArg Int32.toInt (((((g86.1 63 6 rfl rfl).trans (g73.1 63 6 rfl rfl)).trans (g61.1 63 6 rfl rfl)).trans (g45.1 63 6 rfl rfl)).trans (g10.1 63 6 rfl rfl))).trans rfl
          have e143 : (FS95_83 63 7).toInt = (F 63 7).toInt := (congrArg Int32.toInt (((((g86.1 63 7 rfl rfl).trans (g73.1 63 7 rfl rfl)).trans (g61.1 63 7 rfl rfl)).trans (g45.1 63 7 rfl rfl)).trans (g10.1 63 7 rfl rfl))).trans rfl
          have e144 : (FS95_83 63 8).toInt = (F 63 8).toInt := (congrArg Int32.toInt (((((g86.1 63 8 rfl rfl).trans (g73.1 63 8 rfl rfl)).trans (g61.1 63 8 rfl rfl)).trans (g45.1 63 8 rfl rfl)).trans (g10.1 63 8 rfl rfl))).trans rfl
          have g147 := agc_tr (agc_refl (fs := [6001]) (rs := []) (F := T41)) g61 (by decide +kernel) (by decide +kernel)
          have g146 := agc_tr g147 g73 (by decide +kernel) (by decide +kernel)
          have g145 := agc_tr g146 g86 (by decide +kernel) (by decide +kernel)
          refine h_Sc_arrange_u73_x163_a0 hI85 (qf_eq (((g86.2 74 rfl rfl).trans (g73.2 74 rfl rfl)).trans (g61.2 74 rfl rfl)) (qf_le (b' := (FS95_83 73 0).toInt) (lo' := 0) (hi' := (FS95_83 63 2).toInt - 1) r51 (by omega) (by omega) (by omega))) (qf_eq (((((g86.2 64 rfl rfl).trans (g73.2 64 rfl rfl)).trans (g61.2 64 rfl rfl)).trans (g45.2 64 rfl rfl)).trans (g10.2 64 rfl rfl)) (qf_le (b' := (FS95_83 63 2).toInt) (lo' := 1) (hi' := (FS95_83 63 5).toInt) pre1 (by omega) (by omega) (by omega))) (qf_eq (((((g86.2 65 rfl rfl).trans (g73.2 65 rfl rfl)).trans (g61.2 65 rfl rfl)).trans (g45.2 65 rfl rfl)).trans (g10.2 65 rfl rfl)) (qf_le (b' := (FS95_83 63 2).toInt) (lo' := 1) (hi' := (FS95_83 63 6).toInt) pre2 (by omega) (by omega) (by omega))) (by show ((FS95_83 63 5).toInt = 1) ∨ ((FS95_83 63 7).toInt ≤ 4); first | with_reducible assumption | omega) (by show ((FS95_83 63 6).toInt = 1) ∨ ((FS95_83 63 8).toInt ≤ 4); first | with_reducible assumption | omega) (LSQ_ag (F := T41) (G := FS95_83) r50 hI44 g145 (by decide +kernel) rfl rfl) (fun {FS138_148} {LFS138_148} hI149 g150 r151 r152 r153 => ?_)
          have r154 : qf (FS138_148 77) 0 (FS138_148 73 6).toInt 0 ((64 * (FS138_148 63 2).toInt) - 1) := r151
          clear r151
          have q155 : (0) ≤ (FS138_148 73 6).toInt ∧ (FS138_148 73 6).toInt ≤ (192) := (show B 0 192 (FS138_148 73 6) from hI149 73 6)
          have r156 : UPs 73 FS138_148 := r152
          clear r152
          have r157 : ZQ FS138_148 := r153
          clear r153
          have g164 := agc_tr (agc_refl (fs := [6001, 7300, 7304, 7305, 7306]) (rs := [71, 74, 75, 76, 77, 103, 999]) (F := F)) g10 (by decide +kernel) (by decide +kernel)
          have g163 := agc_f (u := 73) (k := 0) (v := 0) g164 rfl (by decide +kernel)
          have g162 := agc_tr g163 g45 (by decide +kernel) (by decide +kernel)
          have g161 := agc_tr g162 g61 (by decide +kernel) (by decide +kernel)
          have g160 := agc_tr g161 g73 (by decide +kernel) (by decide +kernel)
          have g159 := agc_tr g160 g86 (by decide +kernel) (by decide +kernel)
          have g158 := agc_tr g159 g150 (by decide +kernel) (by decide +kernel)
          have g168 := agc_tr (agc_refl (fs := [6001, 7304, 7305, 7306]) (rs := [77, 999]) (F := T41)) g61 (by decide +kernel) (by decide +kernel)
          have g167 := agc_tr g168 g73 (by decide +kernel) (by decide +kernel)
          have g166 := agc_tr g167 g86 (by decide +kernel) (by decide +kernel)
          have g165 := agc_tr g166 g150 (by decide +kernel) (by decide +kernel)
          exact hK hI149 g158 (CV_ag (F := T41) (G := FS138_148) r49 g165 (by decide +kernel) (by decide +kernel)) r157 (UPs_tr (F := FS138_148) (G := FS138_148) r156 rfl rfl rfl)
        · have hq169 := (nle_lt hc)
          have b170 : B 11 12 (v112_133) := B_w (B_ltR cqb_10_10_10 b135 hq169) (by decide +kernel) (by decide +kernel)
          refine ⟨(show ¬ ((60 : Nat) = NU) from by decide +kernel), ?_⟩
          refine ⟨(show c_cl UL 60 = 8 from cl_60), ?_⟩
          have g179 := agc_tr (agc_refl (fs := [6001, 6006, 6007, 7300]) (rs := [71, 74, 75, 76, 103, 999]) (F := F)) g10 (by decide +kernel) (by decide +kernel)
          have g178 := agc_f (u := 73) (k := 0) (v := 0) g179 rfl (by decide +kernel)
          have g177 := agc_tr g178 g45 (by decide +kernel) (by decide +kernel)
          have g176 := agc_tr g177 g61 (by decide +kernel) (by decide +kernel)
          have g175 := agc_tr g176 g73 (by decide +kernel) (by decide +kernel)
          have g174 := agc_tr g175 g86 (by decide +kernel) (by decide +kernel)
          exact h_Re_fail_u60 (B_w cqb_6_6_6 (by decide +kernel) (by decide +kernel)) hI85 (fun hI g => hT13 hI (agc_tr g174 g (by decide +kernel) (by decide +kernel)))
    · have hq180 := (nle_lt hc)
      have b181 : B 0 2 (x4_40) := B_w (B_ltL b43 b14 hq180) (by decide +kernel) (by decide +kernel)
      have q182 : (0) ≤ (x4_40).toInt ∧ (x4_40).toInt ≤ (2) := (show B 0 2 (x4_40) from B_w b181 (by decide +kernel) (by decide +kernel))
      have i183 : (x4_40).toInt < (v17_6).toInt := i_lt hq180
      have e184 : (T41 63 2).toInt = (F 63 2).toInt := (congrArg Int32.toInt ((g45.1 63 2 rfl rfl).trans (g10.1 63 2 rfl rfl))).trans rfl
      have g195 := agc_tr (agc_refl (fs := [6001, 6006, 6007, 7300]) (rs := [71, 74, 75, 76, 103, 999]) (F := F)) g10 (by decide +kernel) (by decide +kernel)
      have g194 := agc_f (u := 73) (k := 0) (v := 0) g195 rfl (by decide +kernel)
      have g193 := agc_tr g194 g45 (by decide +kernel) (by decide +kernel)
      refine h_Un_readScanLayer_u59_a0 b42 hI44 r49 r50 (qf_le (b' := (T41 73 0).toInt) (lo' := 0) (hi' := (T41 63 2).toInt - 1) r51 (by omega) (by omega) (by omega)) (fun {v64_185} {FS64_186} {LFS64_186} b187 hI188 g189 r190 r191 r192 => ?_) (fun hI g => hT13 hI (agc_tr g193 g (by decide +kernel) (by decide +kernel)))
      have r196 : CV FS64_186 := r190
      clear r190
      have r197 : LSQ FS64_186 := r191
      clear r191
      have r198 : qf (FS64_186 74) 0 (FS64_186 73 0).toInt 0 ((FS64_186 63 2).toInt - 1) := r192
      clear r192
      have q199 : (0) ≤ (FS64_186 73 0).toInt ∧ (FS64_186 73 0).toInt ≤ (3) := (show B 0 3 (FS64_186 73 0) from hI188 73 0)
      have g201 := agc_tr (agc_refl (fs := [6001, 7300]) (rs := [71, 74, 75, 76, 103, 999]) (F := va_up FS17_7 73 (upd (FS17_7 73) 0 0))) g45 (by decide +kernel) (by decide +kernel)
      have g200 := agc_tr g201 g189 (by decide +kernel) (by decide +kernel)
      have e202 : (FS64_186 63 2).toInt = (F 63 2).toInt := (congrArg Int32.toInt (((g189.1 63 2 rfl rfl).trans (g45.1 63 2 rfl rfl)).trans (g10.1 63 2 rfl rfl))).trans rfl
      have e203 : (x4_40 + 1).toInt = ((x4_40).toInt + 1) := (t_add b181 cqb_1_1_1 (by decide +kernel) (by decide +kernel)).trans (by rw [cqn_1])
      have q204 : (1) ≤ (x4_40 + 1).toInt ∧ (x4_40 + 1).toInt ≤ (3) := (show B 1 3 (x4_40 + 1) from B_w (B_add b181 cqb_1_1_1 (by decide +kernel) (by decide +kernel)) (by decide +kernel) (by decide +kernel))
      exact hR56 ⟨rfl, rfl, (B_w (B_add b187 cqb_1_1_1 (by decide +kernel) (by decide +kernel)) (by decide +kernel) (by decide +kernel)), (B_w (B_add b181 cqb_1_1_1 (by decide +kernel) (by decide +kernel)) (by decide +kernel) (by decide +kernel)), _, _, rfl, hI188, g200, r196, r197, (qf_le (b' := (FS64_186 73 0).toInt) (lo' := 0) (hi' := (FS64_186 63 2).toInt - 1) r198 (by omega) (by omega) (by omega))⟩ (by show (3 - (x4_40 + 1).toInt).toNat < (3 - x4_40.toInt).toNat; omega)
set_option maxRecDepth 20000 in
set_option maxHeartbeats 4000000 in
theorem h_Un_readSection_u59_a0 {b : Bool} {P : Nat → Nat → Nat} {x1 : Int32} {F : cF} {L : cL} {K : cs → Prop} {T : Nat → cs → Prop} (b_x1 : B 0 255 x1) (hI : IMc F) (pre0 : ((x1.toInt = 192) → ((F 59 6).toInt = 0)) ∧ ((x1.toInt = 218) → ((F 59 6).toInt = 1))) (pre1 : CV F) (pre2 : FA 63 F) (hK : ∀ {Z : cF} {LZ : cL}, IMc Z → agc [5906, 5911, 5912, 5913, 6001, 6300, 6301, 6302, 6305, 6306, 6307, 6308, 6316, 7300, 7304, 7305, 7306, 8100, 8105, 8600, 8605, 9100, 9105, 9600, 9605] [64, 65, 66, 67, 68, 69, 70, 71, 74, 75, 76, 77, 78, 79, 82, 83, 84, 85, 87, 88, 89, 90, 92, 93, 94, 95, 97, 98, 99, 100, 101, 102, 103, 999] F Z → (CV Z) → (FA 63 Z) → (SR x1 Z) → K (Z, LZ, PC false b P)) (hT13 : ∀ {Z : cF} {LZ : cL}, IMc Z → agc [5912, 5913, 6001, 6006, 6007, 6300, 6301, 6302, 6305, 6306, 6316, 7300, 8100, 8105, 8600, 8605, 9100, 9105, 9600, 9605] [64, 65, 70, 71, 74, 75, 76, 78, 79, 82, 83, 84, 85, 87, 88, 89, 90, 92, 93, 94, 95, 97, 98, 99, 100, 101, 102, 103, 999] F Z → T 13 (Z, LZ, PC false b P)) : p_Un_readSection UL 59 x1 (F, L, PC false b P) K T := by
  have q1 : (0) ≤ (x1).toInt ∧ (x1).toInt ≤ (255) := (show B 0 255 (x1) from B_w b_x1 (by decide +kernel) (by decide +kernel))
  have q2 : (0) ≤ (F 59 6).toInt ∧ (F 59 6).toInt ≤ (1) := (show B 0 1 (F 59 6) from hI 59 6)
  unfold p_Un_readSection
  refine ⟨(show ¬ ((60 : Nat) = NU) from by decide +kernel), ?_⟩
  refine ⟨(show c_cl UL 60 = 8 from cl_60), ?_⟩
  refine ⟨(show ¬ ((60 : Nat) = NU) from by decide +kernel), ?_⟩
  have hI3 := IMc_u (u := 59) (i := 12) (v := F 60 1) hI (show B (-2147483648) 2147483647 (F 60 1) from (B_w (show B 0 98304 (F 60 1) from hI 60 1) (by decide +kernel) (by decide +kernel)))
  have g10 := agc_f (u := 59) (k := 12) (v := F 60 1) (agc_refl (fs := [5912, 5913, 6001, 6006, 6007, 6300, 6301, 6302, 6305, 6306, 6316, 7300, 8100, 8105, 8600, 8605, 9100, 9105, 9600, 9605]) (rs := [64, 65, 70, 71, 74, 75, 76, 78, 79, 82, 83, 84, 85, 87, 88, 89, 90, 92, 93, 94, 95, 97, 98, 99, 100, 101, 102, 103, 999]) (F := F)) rfl (by decide +kernel)
  refine h_Re_readTwo_u60 hI3 (fun {v16_4} {FS16_5} {LFS16_5} b6 hI7 g8 r9 => ?_) (fun hI g => hT13 hI (agc_tr g10 g (by decide +kernel) (by decide +kernel)))
  have r11 : (FS16_5 60 1).toInt ≤ 32768 := r9
  clear r9
  have q12 : (0) ≤ (FS16_5 60 1).toInt ∧ (FS16_5 60 1).toInt ≤ (98304) := (show B 0 98304 (FS16_5 60 1) from hI7 60 1)
  refine ⟨fun hc => ?_, fun hc => ?_⟩
  · have i13 : (x1).toInt ≠ (192 : Int32).toInt := i_ne hc
    have n14 : (192 : Int32).toInt = 192 := cqn_192
    refine ⟨fun hc => ?_, fun hc => ?_⟩
    · have i15 : (x1).toInt ≠ (218 : Int32).toInt := i_ne hc
      have n16 : (218 : Int32).toInt = 218 := cqn_218
      refine ⟨fun hc => ?_, fun hc => ?_⟩
      · have i17 : (x1).toInt ≠ (221 : Int32).toInt := i_ne hc
        have n18 : (221 : Int32).toInt = 221 := cqn_221
        refine ⟨fun hc => ?_, fun hc => ?_⟩
        · have b19 : B 219 219 (x1) := B_w (B_eq hc cqb_219_219_219) (by decide +kernel) (by decide +kernel)
          have q20 : (219) ≤ (x1).toInt ∧ (x1).toInt ≤ (219) := (show B 219 219 (x1) from B_w b19 (by decide +kernel) (by decide +kernel))
          have i21 : (x1).toInt = (219 : Int32).toInt := congrArg Int32.toInt hc
          have n22 : (219 : Int32).toInt = 219 := cqn_219
          unfold b_Un_readSection_102
          refine ⟨fun hc => ?_, fun hc => ?_⟩
          · have hq23 := hc
            have b24 : B 0 2 (v16_4) := B_w (B_leL b6 cqb_2_2_2 hq23) (by decide +kernel) (by decide +kernel)
            unfold b_Un_readSection_116
            have hI25 := IMc_u (u := 59) (i := 13) (v := v16_4) hI7 (show B 0 65535 (v16_4) from (B_w b24 (by decide +kernel) (by decide +kernel)))
            have g30 := agc_f (u := 59) (k := 12) (v := F 60 1) (agc_refl (fs := [5912, 5913, 6001, 6006, 6007, 6300, 6301, 6302, 6305, 6306, 6316, 7300, 8100, 8105, 8600, 8605, 9100, 9105, 9600, 9605]) (rs := [64, 65, 70, 71, 74, 75, 76, 78, 79, 82, 83, 84, 85, 87, 88, 89, 90, 92, 93, 94, 95, 97, 98, 99, 100, 101, 102, 103, 999]) (F := F)) rfl (by decide +kernel)
            have g29 := agc_tr g30 g8 (by decide +kernel) (by decide +kernel)
            have g28 := agc_f (u := 59) (k := 13) (v := v16_4) g29 rfl (by decide +kernel)
            refine h_Un_wantLength_u59 (B_w cqb_0_0_0 (by decide +kernel) (by decide +kernel)) hI25 (fun r27 => ?_) (fun hI g => hT13 hI (agc_tr g28 g (by decide +kernel) (by decide +kernel)))
            exact absurd (show ((0 : Int) = 1) from r27) (by decide +kernel)
          · have hq31 := (nle_lt hc)
            have b32 : B 3 65535 (v16_4) := B_w (B_ltR cqb_2_2_2 b6 hq31) (by decide +kernel) (by decide +kernel)
            unfold b_Un_readSection_116
            have hI33 := IMc_u (u := 59) (i := 13) (v := v16_4) hI7 (show B 0 65535 (v16_4) from (B_w b32 (by decide +kernel) (by decide +kernel)))
            have g38 := agc_f (u := 59) (k := 12) (v := F 60 1) (agc_refl (fs := [5912, 5913, 6001, 6006, 6007, 6300, 6301, 6302, 6305, 6306, 6316, 7300, 8100, 8105, 8600, 8605, 9100, 9105, 9600, 9605]) (rs := [64, 65, 70, 71, 74, 75, 76, 78, 79, 82, 83, 84, 85, 87, 88, 89, 90, 92, 93, 94, 95, 97, 98, 99, 100, 101, 102, 103, 999]) (F := F)) rfl (by decide +kernel)
            have g37 := agc_tr g38 g8 (by decide +kernel) (by decide +kernel)
            have g36 := agc_f (u := 59) (k := 13) (v := v16_4) g37 rfl (by decide +kernel)
            refine h_Un_wantLength_u59 (B_w cqb_1_1_1 (by decide +kernel) (by decide +kernel)) hI33 (fun r35 => ?_) (fun hI g => hT13 hI (agc_tr g36 g (by decide +kernel) (by decide +kernel)))
            have r39 : (1 : Int) = 1 := r35
            clear r35
            have g42 := agc_f (u := 59) (k := 12) (v := F 60 1) (agc_refl (fs := [5912, 5913, 6001]) (rs := []) (F := F)) rfl (by decide +kernel)
            have g41 := agc_tr g42 g8 (by decide +kernel) (by decide +kernel)
            have g40 := agc_f (u := 59) (k := 13) (v := v16_4) g41 rfl (by decide +kernel)
            have g49 := agc_f (u := 59) (k := 12) (v := F 60 1) (agc_refl (fs := [5912, 5913, 6001, 6006, 6007, 6300, 6301, 6302, 6305, 6306, 6316, 7300, 8100, 8105, 8600, 8605, 9100, 9105, 9600, 9605]) (rs := [64, 65, 70, 71, 74, 75, 76, 78, 79, 82, 83, 84, 85, 87, 88, 89, 90, 92, 93, 94, 95, 97, 98, 99, 100, 101, 102, 103, 999]) (F := F)) rfl (by decide +kernel)
            have g48 := agc_tr g49 g8 (by decide +kernel) (by decide +kernel)
            have g47 := agc_f (u := 59) (k := 13) (v := v16_4) g48 rfl (by decide +kernel)
            refine h_Un_readParts_u59 hI33 (CV_ag (F := F) (G := va_up FS16_5 59 (upd (FS16_5 59) 13 v16_4)) pre1 g40 (by decide +kernel) (by decide +kernel)) (fun {FS121_43} {LFS121_43} hI44 g45 r46 => ?_) (fun hI g => hT13 hI (agc_tr g47 g (by decide +kernel) (by decide +kernel)))
            have r50 : CV FS121_43 := r46
            clear r46
            unfold b_Un_readSection_157
            have g54 := agc_f (u := 59) (k := 12) (v := F 60 1) (agc_refl (fs := [5906, 5911, 5912, 5913, 6001, 6300, 6301, 6302, 6305, 6306, 6307, 6308, 6316, 7300, 7304, 7305, 7306, 8100, 8105, 8600, 8605, 9100, 9105, 9600, 9605]) (rs := [64, 65, 66, 67, 68, 69, 70, 71, 74, 75, 76, 77, 78, 79, 82, 83, 84, 85, 87, 88, 89, 90, 92, 93, 94, 95, 97, 98, 99, 100, 101, 102, 103, 999]) (F := F)) rfl (by decide +kernel)
            have g53 := agc_tr g54 g8 (by decide +kernel) (by decide +kernel)
            have g52 := agc_f (u := 59) (k := 13) (v := v16_4) g53 rfl (by decide +kernel)
            have g51 := agc_tr g52 g45 (by decide +kernel) (by decide +kernel)
            exact hK hI44 g51 r50 (FA_tr (m := 63) (F := F) (G := FS121_43) pre2 ((g45.1 59 6 rfl rfl).trans (g8.1 59 6 rfl rfl)) ((g45.2 64 rfl rfl).trans (g8.2 64 rfl rfl)) ((g45.2 65 rfl rfl).trans (g8.2 65 rfl rfl)) ((g45.1 63 2 rfl rfl).trans (g8.1 63 2 rfl rfl)) ((g45.1 63 5 rfl rfl).trans (g8.1 63 5 rfl rfl)) ((g45.1 63 6 rfl rfl).trans (g8.1 63 6 rfl rfl)) ((g45.1 63 7 rfl rfl).trans (g8.1 63 7 rfl rfl)) ((g45.1 63 8 rfl rfl).trans (g8.1 63 8 rfl rfl))) (fun h => (B_dis b19 cqb_218_218_218 h (by decide +kernel)).elim)
        · have i55 : (x1).toInt ≠ (219 : Int32).toInt := i_ne hc
          have n56 : (219 : Int32).toInt = 219 := cqn_219
          refine ⟨fun hc => ?_, fun hc => ?_⟩
          · have i57 : (x1).toInt ≠ (196 : Int32).toInt := i_ne hc
            have n58 : (196 : Int32).toInt = 196 := cqn_196
            refine ⟨fun hc => ?_, fun hc => ?_⟩
            · have hq59 := hc
              have b60 : B 0 1 (v16_4) := B_w (B_ltL b6 cqb_2_2_2 hq59) (by decide +kernel) (by decide +kernel)
              unfold b_Un_readSection_141
              have hI61 := IMc_u (u := 59) (i := 13) (v := v16_4) hI7 (show B 0 65535 (v16_4) from (B_w b60 (by decide +kernel) (by decide +kernel)))
              have g66 := agc_f (u := 59) (k := 12) (v := F 60 1) (agc_refl (fs := [5912, 5913, 6001, 6006, 6007, 6300, 6301, 6302, 6305, 6306, 6316, 7300, 8100, 8105, 8600, 8605, 9100, 9105, 9600, 9605]) (rs := [64, 65, 70, 71, 74, 75, 76, 78, 79, 82, 83, 84, 85, 87, 88, 89, 90, 92, 93, 94, 95, 97, 98, 99, 100, 101, 102, 103, 999]) (F := F)) rfl (by decide +kernel)
              have g65 := agc_tr g66 g8 (by decide +kernel) (by decide +kernel)
              have g64 := agc_f (u := 59) (k := 13) (v := v16_4) g65 rfl (by decide +kernel)
              refine h_Un_wantLength_u59 (B_w cqb_0_0_0 (by decide +kernel) (by decide +kernel)) hI61 (fun r63 => ?_) (fun hI g => hT13 hI (agc_tr g64 g (by decide +kernel) (by decide +kernel)))
              exact absurd (show ((0 : Int) = 1) from r63) (by decide +kernel)
            · have hq67 := (nlt_le hc)
              have b68 : B 2 65535 (v16_4) := B_w (B_leR cqb_2_2_2 b6 hq67) (by decide +kernel) (by decide +kernel)
              unfold b_Un_readSection_141
              have hI69 := IMc_u (u := 59) (i := 13) (v := v16_4) hI7 (show B 0 65535 (v16_4) from (B_w b68 (by decide +kernel) (by decide +kernel)))
              have g74 := agc_f (u := 59) (k := 12) (v := F 60 1) (agc_refl (fs := [5912, 5913, 6001, 6006, 6007, 6300, 6301, 6302, 6305, 6306, 6316, 7300, 8100, 8105, 8600, 8605, 9100, 9105, 9600, 9605]) (rs := [64, 65, 70, 71, 74, 75, 76, 78, 79, 82, 83, 84, 85, 87, 88, 89, 90, 92, 93, 94, 95, 97, 98, 99, 100, 101, 102, 103, 999]) (F := F)) rfl (by decide +kernel)
              have g73 := agc_tr g74 g8 (by decide +kernel) (by decide +kernel)
              have g72 := agc_f (u := 59) (k := 13) (v := v16_4) g73 rfl (by decide +kernel)
              refine h_Un_wantLength_u59 (B_w cqb_1_1_1 (by decide +kernel) (by decide +kernel)) hI69 (fun r71 => ?_) (fun hI g => hT13 hI (agc_tr g72 g (by decide +kernel) (by decide +kernel)))
              have r75 : (1 : Int) = 1 := r71
              clear r71
              refine ⟨(show ¬ ((60 : Nat) = NU) from by decide +kernel), ?_⟩
              refine ⟨(show c_cl UL 60 = 8 from cl_60), ?_⟩
              refine h_Re_skip_u60 (B_w (B_sub b68 cqb_2_2_2 (by decide +kernel) (by decide +kernel)) (by decide +kernel) (by decide +kernel)) hI69 (by show (FS16_5 60 1).toInt ≤ 32768; first | with_reducible assumption | omega) (fun {FS154_76} {LFS154_76} hI77 g78 => ?_)
              unfold b_Un_readSection_157
              have g82 := agc_f (u := 59) (k := 12) (v := F 60 1) (agc_refl (fs := [5906, 5911, 5912, 5913, 6001, 6300, 6301, 6302, 6305, 6306, 6307, 6308, 6316, 7300, 7304, 7305, 7306, 8100, 8105, 8600, 8605, 9100, 9105, 9600, 9605]) (rs := [64, 65, 66, 67, 68, 69, 70, 71, 74, 75, 76, 77, 78, 79, 82, 83, 84, 85, 87, 88, 89, 90, 92, 93, 94, 95, 97, 98, 99, 100, 101, 102, 103, 999]) (F := F)) rfl (by decide +kernel)
              have g81 := agc_tr g82 g8 (by decide +kernel) (by decide +kernel)
              have g80 := agc_f (u := 59) (k := 13) (v := v16_4) g81 rfl (by decide +kernel)
              have g79 := agc_tr g80 g78 (by decide +kernel) (by decide +kernel)
              have g86 := agc_f (u := 59) (k := 12) (v := F 60 1) (agc_refl (fs := [5912, 5913, 6001]) (rs := []) (F := F)) rfl (by decide +kernel)
              have g85 := agc_tr g86 g8 (by decide +kernel) (by decide +kernel)
              have g84 := agc_f (u := 59) (k := 13) (v := v16_4) g85 rfl (by decide +kernel)
              have g83 := agc_tr g84 g78 (by decide +kernel) (by decide +kernel)
              exact hK hI77 g79 (CV_ag (F := F) (G := FS154_76) pre1 g83 (by decide +kernel) (by decide +kernel)) (FA_tr (m := 63) (F := F) (G := FS154_76) pre2 ((g78.1 59 6 rfl rfl).trans (g8.1 59 6 rfl rfl)) ((g78.2 64 rfl rfl).trans (g8.2 64 rfl rfl)) ((g78.2 65 rfl rfl).trans (g8.2 65 rfl rfl)) ((g78.1 63 2 rfl rfl).trans (g8.1 63 2 rfl rfl)) ((g78.1 63 5 rfl rfl).trans (g8.1 63 5 rfl rfl)) ((g78.1 63 6 rfl rfl).trans (g8.1 63 6 rfl rfl)) ((g78.1 63 7 rfl rfl).trans (g8.1 63 7 rfl rfl)) ((g78.1 63 8 rfl rfl).trans (g8.1 63 8 rfl rfl))) (fun h => absurd h (by assumption))
          · have b87 : B 196 196 (x1) := B_w (B_eq hc cqb_196_196_196) (by decide +kernel) (by decide +kernel)
            have q88 : (196) ≤ (x1).toInt ∧ (x1).toInt ≤ (196) := (show B 196 196 (x1) from B_w b87 (by decide +kernel) (by decide +kernel))
            have i89 : (x1).toInt = (196 : Int32).toInt := congrArg Int32.toInt hc
            have n90 : (196 : Int32).toInt = 196 := cqn_196
            unfold b_Un_readSection_102
            refine ⟨fun hc => ?_, fun hc => ?_⟩
            · have hq91 := hc
              have b92 : B 0 2 (v16_4) := B_w (B_leL b6 cqb_2_2_2 hq91) (by decide +kernel) (by decide +kernel)
              unfold b_Un_readSection_116
              have hI93 := IMc_u (u := 59) (i := 13) (v := v16_4) hI7 (show B 0 65535 (v16_4) from (B_w b92 (by decide +kernel) (by decide +kernel)))
              have g98 := agc_f (u := 59) (k := 12) (v := F 60 1) (agc_refl (fs := [5912, 5913, 6001, 6006, 6007, 6300, 6301, 6302, 6305, 6306, 6316, 7300, 8100, 8105, 8600, 8605, 9100, 9105, 9600, 9605]) (rs := [64, 65, 70, 71, 74, 75, 76, 78, 79, 82, 83, 84, 85, 87, 88, 89, 90, 92, 93, 94, 95, 97, 98, 99, 100, 101, 102, 103, 999]) (F := F)) rfl (by decide +kernel)
              have g97 := agc_tr g98 g8 (by decide +kernel) (by decide +kernel)
              have g96 := agc_f (u := 59) (k := 13) (v := v16_4) g97 rfl (by decide +kernel)
              refine h_Un_wantLength_u59 (B_w cqb_0_0_0 (by decide +kernel) (by decide +kernel)) hI93 (fun r95 => ?_) (fun hI g => hT13 hI (agc_tr g96 g (by decide +kernel) (by decide +kernel)))
              exact absurd (show ((0 : Int) = 1) from r95) (by decide +kernel)
            · have hq99 := (nle_lt hc)
              have b100 : B 3 65535 (v16_4) := B_w (B_ltR cqb_2_2_2 b6 hq99) (by decide +kernel) (by decide +kernel)
              unfold b_Un_readSection_116
              have hI101 := IMc_u (u := 59) (i := 13) (v := v16_4) hI7 (show B 0 65535 (v16_4) from (B_w b100 (by decide +kernel) (by decide +kernel)))
              have g106 := agc_f (u := 59) (k := 12) (v := F 60 1) (agc_refl (fs := [5912, 5913, 6001, 6006, 6007, 6300, 6301, 6302, 6305, 6306, 6316, 7300, 8100, 8105, 8600, 8605, 9100, 9105, 9600, 9605]) (rs := [64, 65, 70, 71, 74, 75, 76, 78, 79, 82, 83, 84, 85, 87, 88, 89, 90, 92, 93, 94, 95, 97, 98, 99, 100, 101, 102, 103, 999]) (F := F)) rfl (by decide +kernel)
              have g105 := agc_tr g106 g8 (by decide +kernel) (by decide +kernel)
              have g104 := agc_f (u := 59) (k := 13) (v := v16_4) g105 rfl (by decide +kernel)
              refine h_Un_wantLength_u59 (B_w cqb_1_1_1 (by decide +kernel) (by decide +kernel)) hI101 (fun r103 => ?_) (fun hI g => hT13 hI (agc_tr g104 g (by decide +kernel) (by decide +kernel)))
              have r107 : (1 : Int) = 1 := r103
              clear r103
              have g110 := agc_f (u := 59) (k := 12) (v := F 60 1) (agc_refl (fs := [5912, 5913, 6001]) (rs := []) (F := F)) rfl (by decide +kernel)
              have g109 := agc_tr g110 g8 (by decide +kernel) (by decide +kernel)
              have g108 := agc_f (u := 59) (k := 13) (v := v16_4) g109 rfl (by decide +kernel)
              have g117 := agc_f (u := 59) (k := 12) (v := F 60 1) (agc_refl (fs := [5912, 5913, 6001, 6006, 6007, 6300, 6301, 6302, 6305, 6306, 6316, 7300, 8100, 8105, 8600, 8605, 9100, 9105, 9600, 9605]) (rs := [64, 65, 70, 71, 74, 75, 76, 78, 79, 82, 83, 84, 85, 87, 88, 89, 90, 92, 93, 94, 95, 97, 98, 99, 100, 101, 102, 103, 999]) (F := F)) rfl (by decide +kernel)
              have g116 := agc_tr g117 g8 (by decide +kernel) (by decide +kernel)
              have g115 := agc_f (u := 59) (k := 13) (v := v16_4) g116 rfl (by decide +kernel)
              refine h_Un_readParts_u59 hI101 (CV_ag (F := F) (G := va_up FS16_5 59 (upd (FS16_5 59) 13 v16_4)) pre1 g108 (by decide +kernel) (by decide +kernel)) (fun {FS121_111} {LFS121_111} hI112 g113 r114 => ?_) (fun hI g => hT13 hI (agc_tr g115 g (by decide +kernel) (by decide +kernel)))
              have r118 : CV FS121_111 := r114
              clear r114
              unfold b_Un_readSection_157
              have g122 := agc_f (u := 59) (k := 12) (v := F 60 1) (agc_refl (fs := [5906, 5911, 5912, 5913, 6001, 6300, 6301, 6302, 6305, 6306, 6307, 6308, 6316, 7300, 7304, 7305, 7306, 8100, 8105, 8600, 8605, 9100, 9105, 9600, 9605]) (rs := [64, 65, 66, 67, 68, 69, 70, 71, 74, 75, 76, 77, 78, 79, 82, 83, 84, 85, 87, 88, 89, 90, 92, 93, 94, 95, 97, 98, 99, 100, 101, 102, 103, 999]) (F := F)) rfl (by decide +kernel)
              have g121 := agc_tr g122 g8 (by decide +kernel) (by decide +kernel)
              have g120 := agc_f (u := 59) (k := 13) (v := v16_4) g121 rfl (by decide +kernel)
              have g119 := agc_tr g120 g113 (by decide +kernel) (by decide +kernel)
              exact hK hI112 g119 r118 (FA_tr (m := 63) (F := F) (G := FS121_111) pre2 ((g113.1 59 6 rfl rfl).trans (g8.1 59 6 rfl rfl)) ((g113.2 64 rfl rfl).trans (g8.2 64 rfl rfl)) ((g113.2 65 rfl rfl).trans (g8.2 65 rfl rfl)) ((g113.1 63 2 rfl rfl).trans (g8.1 63 2 rfl rfl)) ((g113.1 63 5 rfl rfl).trans (g8.1 63 5 rfl rfl)) ((g113.1 63 6 rfl rfl).trans (g8.1 63 6 rfl rfl)) ((g113.1 63 7 rfl rfl).trans (g8.1 63 7 rfl rfl)) ((g113.1 63 8 rfl rfl).trans (g8.1 63 8 rfl rfl))) (fun h => (B_dis b87 cqb_218_218_218 h (by decide +kernel)).elim)
      · have b123 : B 221 221 (x1) := B_w (B_eq hc cqb_221_221_221) (by decide +kernel) (by decide +kernel)
        have q124 : (221) ≤ (x1).toInt ∧ (x1).toInt ≤ (221) := (show B 221 221 (x1) from B_w b123 (by decide +kernel) (by decide +kernel))
        have i125 : (x1).toInt = (221 : Int32).toInt := congrArg Int32.toInt hc
        have n126 : (221 : Int32).toInt = 221 := cqn_221
        refine ⟨fun hc => ?_, fun hc => ?_⟩
        · have q127 : (0) ≤ (v16_4).toInt ∧ (v16_4).toInt ≤ (65535) := (show B 0 65535 (v16_4) from B_w b6 (by decide +kernel) (by decide +kernel))
          have i128 : (v16_4).toInt ≠ (4 : Int32).toInt := i_ne hc
          have n129 : (4 : Int32).toInt = 4 := cqn_4
          unfold b_Un_readSection_71
          have hI130 := IMc_u (u := 59) (i := 13) (v := v16_4) hI7 (show B 0 65535 (v16_4) from (B_w b6 (by decide +kernel) (by decide +kernel)))
          have g135 := agc_f (u := 59) (k := 12) (v := F 60 1) (agc_refl (fs := [5912, 5913, 6001, 6006, 6007, 6300, 6301, 6302, 6305, 6306, 6316, 7300, 8100, 8105, 8600, 8605, 9100, 9105, 9600, 9605]) (rs := [64, 65, 70, 71, 74, 75, 76, 78, 79, 82, 83, 84, 85, 87, 88, 89, 90, 92, 93, 94, 95, 97, 98, 99, 100, 101, 102, 103, 999]) (F := F)) rfl (by decide +kernel)
          have g134 := agc_tr g135 g8 (by decide +kernel) (by decide +kernel)
          have g133 := agc_f (u := 59) (k := 13) (v := v16_4) g134 rfl (by decide +kernel)
          refine h_Un_wantLength_u59 (B_w cqb_0_0_0 (by decide +kernel) (by decide +kernel)) hI130 (fun r132 => ?_) (fun hI g => hT13 hI (agc_tr g133 g (by decide +kernel) (by decide +kernel)))
          exact absurd (show ((0 : Int) = 1) from r132) (by decide +kernel)
        · have b136 : B 4 4 (v16_4) := B_w (B_eq hc cqb_4_4_4) (by decide +kernel) (by decide +kernel)
          have q137 : (4) ≤ (v16_4).toInt ∧ (v16_4).toInt ≤ (4) := (show B 4 4 (v16_4) from B_w b136 (by decide +kernel) (by decide +kernel))
          have i138 : (v16_4).toInt = (4 : Int32).toInt := congrArg Int32.toInt hc
          have n139 : (4 : Int32).toInt = 4 := cqn_4
          unfold b_Un_readSection_71
          have hI140 := IMc_u (u := 59) (i := 13) (v := v16_4) hI7 (show B 0 65535 (v16_4) from (B_w b136 (by decide +kernel) (by decide +kernel)))
          have g145 := agc_f (u := 59) (k := 12) (v := F 60 1) (agc_refl (fs := [5912, 5913, 6001, 6006, 6007, 6300, 6301, 6302, 6305, 6306, 6316, 7300, 8100, 8105, 8600, 8605, 9100, 9105, 9600, 9605]) (rs := [64, 65, 70, 71, 74, 75, 76, 78, 79, 82, 83, 84, 85, 87, 88, 89, 90, 92, 93, 94, 95, 97, 98, 99, 100, 101, 102, 103, 999]) (F := F)) rfl (by decide +kernel)
          have g144 := agc_tr g145 g8 (by decide +kernel) (by decide +kernel)
          have g143 := agc_f (u := 59) (k := 13) (v := v16_4) g144 rfl (by decide +kernel)
          refine h_Un_wantLength_u59 (B_w cqb_1_1_1 (by decide +kernel) (by decide +kernel)) hI140 (fun r142 => ?_) (fun hI g => hT13 hI (agc_tr g143 g (by decide +kernel) (by decide +kernel)))
          have r146 : (1 : Int) = 1 := r142
          clear r142
          refine ⟨(show ¬ ((60 : Nat) = NU) from by decide +kernel), ?_⟩
          refine ⟨(show c_cl UL 60 = 8 from cl_60), ?_⟩
          have g155 := agc_f (u := 59) (k := 12) (v := F 60 1) (agc_refl (fs := [5912, 5913, 6001, 6006, 6007, 6300, 6301, 6302, 6305, 6306, 6316, 7300, 8100, 8105, 8600, 8605, 9100, 9105, 9600, 9605]) (rs := [64, 65, 70, 71, 74, 75, 76, 78, 79, 82, 83, 84, 85, 87, 88, 89, 90, 92, 93, 94, 95, 97, 98, 99, 100, 101, 102, 103, 999]) (F := F)) rfl (by decide +kernel)
          have g154 := agc_tr g155 g8 (by decide +kernel) (by decide +kernel)
          have g153 := agc_f (u := 59) (k := 13) (v := v16_4) g154 rfl (by decide +kernel)
          refine h_Re_readTwo_u60 hI140 (fun {v79_147} {FS79_148} {LFS79_148} b149 hI150 g151 r152 => ?_) (fun hI g => hT13 hI (agc_tr g153 g (by decide +kernel) (by decide +kernel)))
          have r156 : (FS79_148 60 1).toInt ≤ 32768 := r152
          clear r152
          have q157 : (0) ≤ (FS79_148 60 1).toInt ∧ (FS79_148 60 1).toInt ≤ (98304) := (show B 0 98304 (FS79_148 60 1) from hI150 60 1)
          unfold b_Un_readSection_157
          have hI158 := IMc_u (u := 59) (i := 11) (v := v79_147) hI150 (show B 0 65535 (v79_147) from (B_w b149 (by decide +kernel) (by decide +kernel)))
          have g163 := agc_f (u := 59) (k := 12) (v := F 60 1) (agc_refl (fs := [5906, 5911, 5912, 5913, 6001, 6300, 6301, 6302, 6305, 6306, 6307, 6308, 6316, 7300, 7304, 7305, 7306, 8100, 8105, 8600, 8605, 9100, 9105, 9600, 9605]) (rs := [64, 65, 66, 67, 68, 69, 70, 71, 74, 75, 76, 77, 78, 79, 82, 83, 84, 85, 87, 88, 89, 90, 92, 93, 94, 95, 97, 98, 99, 100, 101, 102, 103, 999]) (F := F)) rfl (by decide +kernel)
          have g162 := agc_tr g163 g8 (by decide +kernel) (by decide +kernel)
          have g161 := agc_f (u := 59) (k := 13) (v := v16_4) g162 rfl (by decide +kernel)
          have g160 := agc_tr g161 g151 (by decide +kernel) (by decide +kernel)
          have g159 := agc_f (u := 59) (k := 11) (v := v79_147) g160 rfl (by decide +kernel)
          have g168 := agc_f (u := 59) (k := 12) (v := F 60 1) (agc_refl (fs := [5911, 5912, 5913, 6001]) (rs := []) (F := F)) rfl (by decide +kernel)
          have g167 := agc_tr g168 g8 (by decide +kernel) (by decide +kernel)
          have g166 := agc_f (u := 59) (k := 13) (v := v16_4) g167 rfl (by decide +kernel)
          have g165 := agc_tr g166 g151 (by decide +kernel) (by decide +kernel)
          have g164 := agc_f (u := 59) (k := 11) (v := v79_147) g165 rfl (by decide +kernel)
          exact hK hI158 g159 (CV_ag (F := F) (G := va_up FS79_148 59 (upd (FS79_148 59) 11 v79_147)) pre1 g164 (by decide +kernel) (by decide +kernel)) (FA_tr (m := 63) (F := F) (G := va_up FS79_148 59 (upd (FS79_148 59) 11 v79_147)) pre2 ((g151.1 59 6 rfl rfl).trans (g8.1 59 6 rfl rfl)) ((g151.2 64 rfl rfl).trans (g8.2 64 rfl rfl)) ((g151.2 65 rfl rfl).trans (g8.2 65 rfl rfl)) ((g151.1 63 2 rfl rfl).trans (g8.1 63 2 rfl rfl)) ((g151.1 63 5 rfl rfl).trans (g8.1 63 5 rfl rfl)) ((g151.1 63 6 rfl rfl).trans (g8.1 63 6 rfl rfl)) ((g151.1 63 7 rfl rfl).trans (g8.1 63 7 rfl rfl)) ((g151.1 63 8 rfl rfl).trans (g8.1 63 8 rfl rfl))) (fun h => (B_dis b123 cqb_218_218_218 h (by decide +kernel)).elim)
    · have b169 : B 218 218 (x1) := B_w (B_eq hc cqb_218_218_218) (by decide +kernel) (by decide +kernel)
      have q170 : (218) ≤ (x1).toInt ∧ (x1).toInt ≤ (218) := (show B 218 218 (x1) from B_w b169 (by decide +kernel) (by decide +kernel))
      have i171 : (x1).toInt = (218 : Int32).toInt := congrArg Int32.toInt hc
      have n172 : (218 : Int32).toInt = 218 := cqn_218
      have hI173 := IMc_u (u := 59) (i := 13) (v := v16_4) hI7 (show B 0 65535 (v16_4) from (B_w b6 (by decide +kernel) (by decide +kernel)))
      have e174 : (FS16_5 59 6).toInt = (F 59 6).toInt := (congrArg Int32.toInt (g8.1 59 6 rfl rfl)).trans rfl
      obtain ⟨r175, r176, r177, r178⟩ := (show FA 63 (va_up FS16_5 59 (upd (FS16_5 59) 13 v16_4)) from (FA_tr (m := 63) (F := F) (G := va_up FS16_5 59 (upd (FS16_5 59) 13 v16_4)) pre2 (g8.1 59 6 rfl rfl) (g8.2 64 rfl rfl) (g8.2 65 rfl rfl) (g8.1 63 2 rfl rfl) (g8.1 63 5 rfl rfl) (g8.1 63 6 rfl rfl) (g8.1 63 7 rfl rfl) (g8.1 63 8 rfl rfl))) (by show (FS16_5 59 6).toInt = 1; first | with_reducible assumption | omega)
      have r175 : qf (FS16_5 64) 0 (FS16_5 63 2).toInt 1 (FS16_5 63 5).toInt := r175
      have q180 : (1) ≤ (F 63 2).toInt ∧ (F 63 2).toInt ≤ (3) := (show B 1 3 (F 63 2) from hI 63 2)
      have e181 : (FS16_5 63 2).toInt = (F 63 2).toInt := (congrArg Int32.toInt (g8.1 63 2 rfl rfl)).trans rfl
      have w179 : qf (F 64) 0 (FS16_5 63 2).toInt 1 (FS16_5 63 5).toInt := qf_eq (Eq.symm (g8.2 64 rfl rfl)) r175
      have r176 : qf (FS16_5 65) 0 (FS16_5 63 2).toInt 1 (FS16_5 63 6).toInt := r176
      have w182 : qf (F 65) 0 (FS16_5 63 2).toInt 1 (FS16_5 63 6).toInt := qf_eq (Eq.symm (g8.2 65 rfl rfl)) r176
      have r177 : ((FS16_5 63 5).toInt = 1) ∨ ((FS16_5 63 7).toInt ≤ 4) := r177
      have q183 : (1) ≤ (F 63 5).toInt ∧ (F 63 5).toInt ≤ (2) := (show B 1 2 (F 63 5) from hI 63 5)
      have e184 : (FS16_5 63 5).toInt = (F 63 5).toInt := (congrArg Int32.toInt (g8.1 63 5 rfl rfl)).trans rfl
      have q185 : (1) ≤ (F 63 7).toInt ∧ (F 63 7).toInt ≤ (8) := (show B 1 8 (F 63 7) from hI 63 7)
      have e186 : (FS16_5 63 7).toInt = (F 63 7).toInt := (congrArg Int32.toInt (g8.1 63 7 rfl rfl)).trans rfl
      have r178 : ((FS16_5 63 6).toInt = 1) ∨ ((FS16_5 63 8).toInt ≤ 4) := r178
      have q187 : (1) ≤ (F 63 6).toInt ∧ (F 63 6).toInt ≤ (2) := (show B 1 2 (F 63 6) from hI 63 6)
      have e188 : (FS16_5 63 6).toInt = (F 63 6).toInt := (congrArg Int32.toInt (g8.1 63 6 rfl rfl)).trans rfl
      have q189 : (1) ≤ (F 63 8).toInt ∧ (F 63 8).toInt ≤ (8) := (show B 1 8 (F 63 8) from hI 63 8)
      have e190 : (FS16_5 63 8).toInt = (F 63 8).toInt := (congrArg Int32.toInt (g8.1 63 8 rfl rfl)).trans rfl
      have g193 := agc_f (u := 59) (k := 12) (v := F 60 1) (agc_refl (fs := [5912, 5913, 6001]) (rs := []) (F := F)) rfl (by decide +kernel)
      have g192 := agc_tr g193 g8 (by decide +kernel) (by decide +kernel)
      have g191 := agc_f (u := 59) (k := 13) (v := v16_4) g192 rfl (by decide +kernel)
      have g202 := agc_f (u := 59) (k := 12) (v := F 60 1) (agc_refl (fs := [5912, 5913, 6001, 6006, 6007, 6300, 6301, 6302, 6305, 6306, 6316, 7300, 8100, 8105, 8600, 8605, 9100, 9105, 9600, 9605]) (rs := [64, 65, 70, 71, 74, 75, 76, 78, 79, 82, 83, 84, 85, 87, 88, 89, 90, 92, 93, 94, 95, 97, 98, 99, 100, 101, 102, 103, 999]) (F := F)) rfl (by decide +kernel)
      have g201 := agc_tr g202 g8 (by decide +kernel) (by decide +kernel)
      have g200 := agc_f (u := 59) (k := 13) (v := v16_4) g201 rfl (by decide +kernel)
      refine h_Un_readScan_u59_a0 hI173 (CV_ag (F := F) (G := va_up FS16_5 59 (upd (FS16_5 59) 13 v16_4)) pre1 g191 (by decide +kernel) (by decide +kernel)) (qf_eq (g8.2 64 rfl rfl) (qf_le (b' := (FS16_5 63 2).toInt) (lo' := 1) (hi' := (FS16_5 63 5).toInt) w179 (by omega) (by omega) (by omega))) (qf_eq (g8.2 65 rfl rfl) (qf_le (b' := (FS16_5 63 2).toInt) (lo' := 1) (hi' := (FS16_5 63 6).toInt) w182 (by omega) (by omega) (by omega))) (by show ((FS16_5 63 5).toInt = 1) ∨ ((FS16_5 63 7).toInt ≤ 4); first | with_reducible assumption | omega) (by show ((FS16_5 63 6).toInt = 1) ∨ ((FS16_5 63 8).toInt ≤ 4); first | with_reducible assumption | omega) (fun {FS44_194} {LFS44_194} hI195 g196 r197 r198 r199 => ?_) (fun hI g => hT13 hI (agc_tr g200 g (by decide +kernel) (by decide +kernel)))
      have r203 : CV FS44_194 := r197
      clear r197
      have r204 : ZQ FS44_194 := r198
      clear r198
      have r205 : UPs 73 FS44_194 := r199
      clear r199
      unfold b_Un_readSection_157
      have g209 := agc_f (u := 59) (k := 12) (v := F 60 1) (agc_refl (fs := [5906, 5911, 5912, 5913, 6001, 6300, 6301, 6302, 6305, 6306, 6307, 6308, 6316, 7300, 7304, 7305, 7306, 8100, 8105, 8600, 8605, 9100, 9105, 9600, 9605]) (rs := [64, 65, 66, 67, 68, 69, 70, 71, 74, 75, 76, 77, 78, 79, 82, 83, 84, 85, 87, 88, 89, 90, 92, 93, 94, 95, 97, 98, 99, 100, 101, 102, 103, 999]) (F := F)) rfl (by decide +kernel)
      have g208 := agc_tr g209 g8 (by decide +kernel) (by decide +kernel)
      have g207 := agc_f (u := 59) (k := 13) (v := v16_4) g208 rfl (by decide +kernel)
      have g206 := agc_tr g207 g196 (by decide +kernel) (by decide +kernel)
      exact hK hI195 g206 r203 (FA_tr (m := 63) (F := F) (G := FS44_194) pre2 ((g196.1 59 6 rfl rfl).trans (g8.1 59 6 rfl rfl)) ((g196.2 64 rfl rfl).trans (g8.2 64 rfl rfl)) ((g196.2 65 rfl rfl).trans (g8.2 65 rfl rfl)) ((g196.1 63 2 rfl rfl).trans (g8.1 63 2 rfl rfl)) ((g196.1 63 5 rfl rfl).trans (g8.1 63 5 rfl rfl)) ((g196.1 63 6 rfl rfl).trans (g8.1 63 6 rfl rfl)) ((g196.1 63 7 rfl rfl).trans (g8.1 63 7 rfl rfl)) ((g196.1 63 8 rfl rfl).trans (g8.1 63 8 rfl rfl))) (fun _ => ⟨r204, (UPs_tr (F := FS44_194) (G := FS44_194) r205 rfl rfl rfl)⟩)
  · have b210 : B 192 192 (x1) := B_w (B_eq hc cqb_192_192_192) (by decide +kernel) (by decide +kernel)
    have q211 : (192) ≤ (x1).toInt ∧ (x1).toInt ≤ (192) := (show B 192 192 (x1) from B_w b210 (by decide +kernel) (by decide +kernel))
    have i212 : (x1).toInt = (192 : Int32).toInt := congrArg Int32.toInt hc
    have n213 : (192 : Int32).toInt = 192 := cqn_192
    have hI214 := IMc_u (u := 59) (i := 13) (v := v16_4) hI7 (show B 0 65535 (v16_4) from (B_w b6 (by decide +kernel) (by decide +kernel)))
    have e215 : (FS16_5 59 6).toInt = (F 59 6).toInt := (congrArg Int32.toInt (g8.1 59 6 rfl rfl)).trans rfl
    have g225 := agc_f (u := 59) (k := 12) (v := F 60 1) (agc_refl (fs := [5912, 5913, 6001, 6006, 6007, 6300, 6301, 6302, 6305, 6306, 6316, 7300, 8100, 8105, 8600, 8605, 9100, 9105, 9600, 9605]) (rs := [64, 65, 70, 71, 74, 75, 76, 78, 79, 82, 83, 84, 85, 87, 88, 89, 90, 92, 93, 94, 95, 97, 98, 99, 100, 101, 102, 103, 999]) (F := F)) rfl (by decide +kernel)
    have g224 := agc_tr g225 g8 (by decide +kernel) (by decide +kernel)
    have g223 := agc_f (u := 59) (k := 13) (v := v16_4) g224 rfl (by decide +kernel)
    refine h_Un_readFrame_u59_a0 hI214 (by show (FS16_5 59 6).toInt = 0; first | with_reducible assumption | omega) (fun {FS30_216} {LFS30_216} hI217 g218 r219 r220 r221 r222 => ?_) (fun hI g => hT13 hI (agc_tr g223 g (by decide +kernel) (by decide +kernel)))
    have r226 : qf (FS30_216 64) 0 (FS30_216 63 2).toInt 1 (FS30_216 63 5).toInt := r219
    clear r219
    have q227 : (1) ≤ (FS30_216 63 2).toInt ∧ (FS30_216 63 2).toInt ≤ (3) := (show B 1 3 (FS30_216 63 2) from hI217 63 2)
    have r228 : qf (FS30_216 65) 0 (FS30_216 63 2).toInt 1 (FS30_216 63 6).toInt := r220
    clear r220
    have r229 : ((FS30_216 63 5).toInt = 1) ∨ ((FS30_216 63 7).toInt ≤ 4) := r221
    clear r221
    have q230 : (1) ≤ (FS30_216 63 5).toInt ∧ (FS30_216 63 5).toInt ≤ (2) := (show B 1 2 (FS30_216 63 5) from hI217 63 5)
    have q231 : (1) ≤ (FS30_216 63 7).toInt ∧ (FS30_216 63 7).toInt ≤ (8) := (show B 1 8 (FS30_216 63 7) from hI217 63 7)
    have r232 : ((FS30_216 63 6).toInt = 1) ∨ ((FS30_216 63 8).toInt ≤ 4) := r222
    clear r222
    have q233 : (1) ≤ (FS30_216 63 6).toInt ∧ (FS30_216 63 6).toInt ≤ (2) := (show B 1 2 (FS30_216 63 6) from hI217 63 6)
    have q234 : (1) ≤ (FS30_216 63 8).toInt ∧ (FS30_216 63 8).toInt ≤ (8) := (show B 1 8 (FS30_216 63 8) from hI217 63 8)
    unfold b_Un_readSection_157
    have g238 := agc_f (u := 59) (k := 12) (v := F 60 1) (agc_refl (fs := [5906, 5911, 5912, 5913, 6001, 6300, 6301, 6302, 6305, 6306, 6307, 6308, 6316, 7300, 7304, 7305, 7306, 8100, 8105, 8600, 8605, 9100, 9105, 9600, 9605]) (rs := [64, 65, 66, 67, 68, 69, 70, 71, 74, 75, 76, 77, 78, 79, 82, 83, 84, 85, 87, 88, 89, 90, 92, 93, 94, 95, 97, 98, 99, 100, 101, 102, 103, 999]) (F := F)) rfl (by decide +kernel)
    have g237 := agc_tr g238 g8 (by decide +kernel) (by decide +kernel)
    have g236 := agc_f (u := 59) (k := 13) (v := v16_4) g237 rfl (by decide +kernel)
    have g235 := agc_tr g236 g218 (by decide +kernel) (by decide +kernel)
    have g242 := agc_f (u := 59) (k := 12) (v := F 60 1) (agc_refl (fs := [5906, 5912, 5913, 6001, 6300, 6301, 6302, 6305, 6306, 6307, 6308, 6316]) (rs := [64, 65, 66, 67, 68, 69, 70, 101, 102, 103, 999]) (F := F)) rfl (by decide +kernel)
    have g241 := agc_tr g242 g8 (by decide +kernel) (by decide +kernel)
    have g240 := agc_f (u := 59) (k := 13) (v := v16_4) g241 rfl (by decide +kernel)
    have g239 := agc_tr g240 g218 (by decide +kernel) (by decide +kernel)
    have q243 : (0) ≤ (FS30_216 59 6).toInt ∧ (FS30_216 59 6).toInt ≤ (1) := (show B 0 1 (FS30_216 59 6) from hI217 59 6)
    exact hK hI217 g235 (CV_ag (F := F) (G := FS30_216) pre1 g239 (by decide +kernel) (by decide +kernel)) (fun _ => ⟨(qf_le (b' := (FS30_216 63 2).toInt) (lo' := 1) (hi' := (FS30_216 63 5).toInt) r226 (by omega) (by omega) (by omega)), (qf_le (b' := (FS30_216 63 2).toInt) (lo' := 1) (hi' := (FS30_216 63 6).toInt) r228 (by omega) (by omega) (by omega)), (by show ((FS30_216 63 5).toInt = 1) ∨ ((FS30_216 63 7).toInt ≤ 4); first | with_reducible assumption | omega), (by show ((FS30_216 63 6).toInt = 1) ∨ ((FS30_216 63 8).toInt ≤ 4); first | with_reducible assumption | omega)⟩) (fun h => (B_dis b210 cqb_218_218_218 h (by decide +kernel)).elim)
set_option maxRecDepth 20000 in
set_option maxHeartbeats 4000000 in
theorem h_Un_readRow_u59_a0 {b : Bool} {P : Nat → Nat → Nat} {F : cF} {L : cL} {K : cs → Prop} {T : Nat → cs → Prop} (hI : IMc F) (hK : ∀ {Z : cF} {LZ : cL}, IMc Z → agc [5906, 5911, 5912, 5913, 6001, 6002, 6003, 6004, 6005, 6300, 6301, 6302, 6305, 6306, 6307, 6308, 6316, 7300, 7304, 7305, 7306, 8100, 8105, 8600, 8605, 9100, 9105, 9600, 9605] [64, 65, 66, 67, 68, 69, 70, 71, 74, 75, 76, 77, 78, 79, 82, 83, 84, 85, 87, 88, 89, 90, 92, 93, 94, 95, 97, 98, 99, 100, 101, 102, 103, 104, 999] F Z → K (Z, LZ, PC false b P)) (hT13 : ∀ {Z : cF} {LZ : cL}, IMc Z → agc [5906, 5911, 5912, 5913, 6001, 6002, 6003, 6004, 6005, 6006, 6007, 6300, 6301, 6302, 6305, 6306, 6307, 6308, 6316, 7300, 7304, 7305, 7306, 8100, 8105, 8600, 8605, 9100, 9105, 9600, 9605] [64, 65, 66, 67, 68, 69, 70, 71, 74, 75, 76, 77, 78, 79, 82, 83, 84, 85, 87, 88, 89, 90, 92, 93, 94, 95, 97, 98, 99, 100, 101, 102, 103, 104, 999] F Z → T 13 (Z, LZ, PC false b P)) : p_Un_readRow UL 59 (F, L, PC false b P) K T := by
  unfold p_Un_readRow
  refine h_Un_begin_u59 hI (fun {FS1_1} {LFS1_1} hI2 g3 r4 r5 => ?_)
  have r6 : CV FS1_1 := r4
  clear r4
  have r7 : (FS1_1 59 6).toInt = 0 := r5
  clear r5
  have q8 : (0) ≤ (FS1_1 59 6).toInt ∧ (FS1_1 59 6).toInt ≤ (1) := (show B 0 1 (FS1_1 59 6) from hI2 59 6)
  refine ⟨(show ¬ ((60 : Nat) = NU) from by decide +kernel), ?_⟩
  refine ⟨(show c_cl UL 60 = 8 from cl_60), ?_⟩
  have g14 := agc_tr (agc_refl (fs := [5906, 5911, 5912, 5913, 6001, 6002, 6003, 6004, 6005, 6006, 6007, 6300, 6301, 6302, 6305, 6306, 6307, 6308, 6316, 7300, 7304, 7305, 7306, 8100, 8105, 8600, 8605, 9100, 9105, 9600, 9605]) (rs := [64, 65, 66, 67, 68, 69, 70, 71, 74, 75, 76, 77, 78, 79, 82, 83, 84, 85, 87, 88, 89, 90, 92, 93, 94, 95, 97, 98, 99, 100, 101, 102, 103, 104, 999]) (F := F)) g3 (by decide +kernel) (by decide +kernel)
  refine h_Re_readMark_u60 hI2 (fun {v8_9} {FS8_10} {LFS8_10} b11 hI12 g13 => ?_) (fun hI g => hT13 hI (agc_tr g14 g (by decide +kernel) (by decide +kernel)))
  refine ⟨fun hc => ?_, fun hc => ?_⟩
  · have b15 : B 216 216 (v8_9) := B_w (B_eq hc cqb_216_216_216) (by decide +kernel) (by decide +kernel)
    have q16 : (216) ≤ (v8_9).toInt ∧ (v8_9).toInt ≤ (216) := (show B 216 216 (v8_9) from B_w b15 (by decide +kernel) (by decide +kernel))
    have i17 : (v8_9).toInt = (216 : Int32).toInt := congrArg Int32.toInt hc
    have n18 : (216 : Int32).toInt = 216 := cqn_216
    unfold b_Un_readRow_34
    have g26 := agc_tr (agc_refl (fs := [6001]) (rs := [999]) (F := FS1_1)) g13 (by decide +kernel) (by decide +kernel)
    have e28 : (FS8_10 59 6).toInt = (FS1_1 59 6).toInt := (congrArg Int32.toInt (g13.1 59 6 rfl rfl)).trans rfl
    refine ⟨fun yx1 yx2 yS => B 0 1 yx1 ∧ B 0 32768 yx2 ∧ ∃ (T21 : cF) (LT21 : cL), yS = (T21, LT21, PC false b P) ∧ IMc T21 ∧ agc [5906, 5911, 5912, 5913, 6001, 6002, 6003, 6004, 6005, 6300, 6301, 6302, 6305, 6306, 6307, 6308, 6316, 7300, 7304, 7305, 7306, 8100, 8105, 8600, 8605, 9100, 9105, 9600, 9605] [64, 65, 66, 67, 68, 69, 70, 71, 74, 75, 76, 77, 78, 79, 82, 83, 84, 85, 87, 88, 89, 90, 92, 93, 94, 95, 97, 98, 99, 100, 101, 102, 103, 104, 999] FS8_10 T21 ∧ (CV T21) ∧ (FA 63 T21), fun yx1 yx2 yS => (32768 - yx2.toInt).toNat, ⟨(B_w cqb_1_1_1 (by decide +kernel) (by decide +kernel)), (B_w cqb_0_0_0 (by decide +kernel) (by decide +kernel)), _, _, rfl, hI12, (agc_refl (fs := [5906, 5911, 5912, 5913, 6001, 6002, 6003, 6004, 6005, 6300, 6301, 6302, 6305, 6306, 6307, 6308, 6316, 7300, 7304, 7305, 7306, 8100, 8105, 8600, 8605, 9100, 9105, 9600, 9605]) (rs := [64, 65, 66, 67, 68, 69, 70, 71, 74, 75, 76, 77, 78, 79, 82, 83, 84, 85, 87, 88, 89, 90, 92, 93, 94, 95, 97, 98, 99, 100, 101, 102, 103, 104, 999]) (F := FS8_10)), (CV_ag (F := FS1_1) (G := FS8_10) r6 g26 (by decide +kernel) (by decide +kernel)), (fun h => absurd (show (FS8_10 59 6).toInt = 1 from h) (by omega))⟩, fun x1_19 x2_20 ST21 hIv => ?_⟩
    obtain ⟨b22, b23, T21, LT21, rfl, hI24, g25, r27, r29⟩ := hIv
    suffices hs : ∀ (R38 : Int32 → Int32 → cs → Prop), (∀ zx1 zx2 zS, (B 0 1 zx1 ∧ B 0 32768 zx2 ∧ ∃ (T21 : cF) (LT21 : cL), zS = (T21, LT21, PC false b P) ∧ IMc T21 ∧ agc [5906, 5911, 5912, 5913, 6001, 6002, 6003, 6004, 6005, 6300, 6301, 6302, 6305, 6306, 6307, 6308, 6316, 7300, 7304, 7305, 7306, 8100, 8105, 8600, 8605, 9100, 9105, 9600, 9605] [64, 65, 66, 67, 68, 69, 70, 71, 74, 75, 76, 77, 78, 79, 82, 83, 84, 85, 87, 88, 89, 90, 92, 93, 94, 95, 97, 98, 99, 100, 101, 102, 103, 104, 999] FS8_10 T21 ∧ (CV T21) ∧ (FA 63 T21)) → (32768 - zx2.toInt).toNat < (32768 - x2_20.toInt).toNat → R38 zx1 zx2 zS) → b_Un_readRow_38 UL 59 x1_19 x2_20 (T21, LT21, PC false b P) R38 K T from hs _ (fun _ _ _ h1 h2 => ⟨h1, h2⟩)
    intro R38 hR380
    have hR38 := fun {zx1} {zx2} {zS} => hR380 zx1 zx2 zS
    unfold b_Un_readRow_38
    refine ⟨fun hc => ?_, fun hc => ?_⟩
    · have b30 : B 0 0 (x1_19) := B_w (B_eq hc cqb_0_0_0) (by decide +kernel) (by decide +kernel)
      have q31 : (0) ≤ (x1_19).toInt ∧ (x1_19).toInt ≤ (0) := (show B 0 0 (x1_19) from B_w b30 (by decide +kernel) (by decide +kernel))
      have i32 : (x1_19).toInt = (0 : Int32).toInt := congrArg Int32.toInt hc
      have n33 : (0 : Int32).toInt = 0 := cqn_0
      unfold b_Un_readRow_120
      refine ⟨(show ¬ ((60 : Nat) = NU) from by decide +kernel), ?_⟩
      refine ⟨(show c_cl UL 60 = 8 from cl_60), ?_⟩
      refine ⟨(show ¬ ((61 : Nat) = NU) from by decide +kernel), ?_⟩
      refine ⟨(show ¬ ((60 : Nat) = NU) from by decide +kernel), ?_⟩
      refine ⟨(show c_cl UL 61 = 9 from cl_61), ?_⟩
      refine h_Ro_has_u61 hI24 (fun {v134_34} b36 r37 => ?_)
      rcases sp_01 b36 with rfl | rfl
      · have r38 : ((0 : Int) = 0) ∨ ((0 ≤ (T21 60 1).toInt) ∧ ((T21 60 1).toInt < (T21 61 1).toInt)) := r37
        clear r37
        have q39 : (0) ≤ (T21 60 1).toInt ∧ (T21 60 1).toInt ≤ (98304) := (show B 0 98304 (T21 60 1) from hI24 60 1)
        have q40 : (0) ≤ (F 61 1).toInt ∧ (F 61 1).toInt ≤ (32768) := (show B 0 32768 (F 61 1) from hI 61 1)
        have e41 : (T21 61 1).toInt = (F 61 1).toInt := (congrArg Int32.toInt (((g25.1 61 1 rfl rfl).trans (g13.1 61 1 rfl rfl)).trans (g3.1 61 1 rfl rfl))).trans rfl
        refine ⟨fun hc => ?_, fun hc => ?_⟩
        · have i42 : (0 : Int32).toInt = (0 : Int32).toInt := congrArg Int32.toInt hc
          have n43 : (0 : Int32).toInt = 0 := cqn_0
          have n44 : (0 : Int32).toInt = 0 := cqn_0
          unfold b_Un_readRow_156
          have g47 := agc_tr (agc_refl (fs := [5906, 5911, 5912, 5913, 6001, 6002, 6003, 6004, 6005, 6300, 6301, 6302, 6305, 6306, 6307, 6308, 6316, 7300, 7304, 7305, 7306, 8100, 8105, 8600, 8605, 9100, 9105, 9600, 9605]) (rs := [64, 65, 66, 67, 68, 69, 70, 71, 74, 75, 76, 77, 78, 79, 82, 83, 84, 85, 87, 88, 89, 90, 92, 93, 94, 95, 97, 98, 99, 100, 101, 102, 103, 104, 999]) (F := F)) g3 (by decide +kernel) (by decide +kernel)
          have g46 := agc_tr g47 g13 (by decide +kernel) (by decide +kernel)
          have g45 := agc_tr g46 g25 (by decide +kernel) (by decide +kernel)
          exact hK hI24 g45
        · exact (hc (B_z cqb_0_0_0)).elim
      · have r48 : ((1 : Int) = 0) ∨ ((0 ≤ (T21 60 1).toInt) ∧ ((T21 60 1).toInt < (T21 61 1).toInt)) := r37
        clear r37
        have q49 : (0) ≤ (T21 60 1).toInt ∧ (T21 60 1).toInt ≤ (98304) := (show B 0 98304 (T21 60 1) from hI24 60 1)
        have q50 : (0) ≤ (F 61 1).toInt ∧ (F 61 1).toInt ≤ (32768) := (show B 0 32768 (F 61 1) from hI 61 1)
        have e51 : (T21 61 1).toInt = (F 61 1).toInt := (congrArg Int32.toInt (((g25.1 61 1 rfl rfl).trans (g13.1 61 1 rfl rfl)).trans (g3.1 61 1 rfl rfl))).trans rfl
        have b52 : B 0 32767 (T21 60 1) := ⟨by omega, by omega⟩
        refine ⟨fun hc => ?_, fun hc => ?_⟩
        · exact (B_dis cqb_1_1_1 cqb_0_0_0 hc (by decide +kernel)).elim
        · have i53 : (1 : Int32).toInt ≠ (0 : Int32).toInt := i_ne hc
          have n54 : (1 : Int32).toInt = 1 := cqn_1
          have n55 : (0 : Int32).toInt = 0 := cqn_0
          refine ⟨(show ¬ ((60 : Nat) = NU) from by decide +kernel), ?_⟩
          refine ⟨(show ¬ ((60 : Nat) = NU) from by decide +kernel), ?_⟩
          refine ⟨(show c_cl UL 60 = 8 from cl_60), ?_⟩
          have g61 := agc_tr (agc_refl (fs := [5906, 5911, 5912, 5913, 6001, 6002, 6003, 6004, 6005, 6006, 6007, 6300, 6301, 6302, 6305, 6306, 6307, 6308, 6316, 7300, 7304, 7305, 7306, 8100, 8105, 8600, 8605, 9100, 9105, 9600, 9605]) (rs := [64, 65, 66, 67, 68, 69, 70, 71, 74, 75, 76, 77, 78, 79, 82, 83, 84, 85, 87, 88, 89, 90, 92, 93, 94, 95, 97, 98, 99, 100, 101, 102, 103, 104, 999]) (F := F)) g3 (by decide +kernel) (by decide +kernel)
          have g60 := agc_tr g61 g13 (by decide +kernel) (by decide +kernel)
          have g59 := agc_tr g60 g25 (by decide +kernel) (by decide +kernel)
          exact h_Re_fail_u60 (B_w cqb_8_8_8 (by decide +kernel) (by decide +kernel)) hI24 (fun hI g => hT13 hI (agc_tr g59 g (by decide +kernel) (by decide +kernel)))
    · have b62 : B 1 1 (x1_19) := B_w (B_n0 b22 hc) (by decide +kernel) (by decide +kernel)
      refine ⟨fun hc => ?_, fun hc => ?_⟩
      · have hq63 := hc
        have b64 : B 32768 32768 (x2_20) := B_w (B_leR cqb_32768_32768_32768 b23 hq63) (by decide +kernel) (by decide +kernel)
        unfold b_Un_readRow_120
        refine ⟨(show ¬ ((60 : Nat) = NU) from by decide +kernel), ?_⟩
        refine ⟨(show c_cl UL 60 = 8 from cl_60), ?_⟩
        refine ⟨(show ¬ ((61 : Nat) = NU) from by decide +kernel), ?_⟩
        refine ⟨(show ¬ ((60 : Nat) = NU) from by decide +kernel), ?_⟩
        refine ⟨(show c_cl UL 61 = 9 from cl_61), ?_⟩
        refine h_Ro_has_u61 hI24 (fun {v134_65} b67 r68 => ?_)
        rcases sp_01 b67 with rfl | rfl
        · have r69 : ((0 : Int) = 0) ∨ ((0 ≤ (T21 60 1).toInt) ∧ ((T21 60 1).toInt < (T21 61 1).toInt)) := r68
          clear r68
          have q70 : (0) ≤ (T21 60 1).toInt ∧ (T21 60 1).toInt ≤ (98304) := (show B 0 98304 (T21 60 1) from hI24 60 1)
          have q71 : (0) ≤ (F 61 1).toInt ∧ (F 61 1).toInt ≤ (32768) := (show B 0 32768 (F 61 1) from hI 61 1)
          have e72 : (T21 61 1).toInt = (F 61 1).toInt := (congrArg Int32.toInt (((g25.1 61 1 rfl rfl).trans (g13.1 61 1 rfl rfl)).trans (g3.1 61 1 rfl rfl))).trans rfl
          refine ⟨fun hc => ?_, fun hc => ?_⟩
          · have i73 : (0 : Int32).toInt = (0 : Int32).toInt := congrArg Int32.toInt hc
            have n74 : (0 : Int32).toInt = 0 := cqn_0
            have n75 : (0 : Int32).toInt = 0 := cqn_0
            unfold b_Un_readRow_156
            have g78 := agc_tr (agc_refl (fs := [5906, 5911, 5912, 5913, 6001, 6002, 6003, 6004, 6005, 6300, 6301, 6302, 6305, 6306, 6307, 6308, 6316, 7300, 7304, 7305, 7306, 8100, 8105, 8600, 8605, 9100, 9105, 9600, 9605]) (rs := [64, 65, 66, 67, 68, 69, 70, 71, 74, 75, 76, 77, 78, 79, 82, 83, 84, 85, 87, 88, 89, 90, 92, 93, 94, 95, 97, 98, 99, 100, 101, 102, 103, 104, 999]) (F := F)) g3 (by decide +kernel) (by decide +kernel)
            have g77 := agc_tr g78 g13 (by decide +kernel) (by decide +kernel)
            have g76 := agc_tr g77 g25 (by decide +kernel) (by decide +kernel)
            exact hK hI24 g76
          · exact (hc (B_z cqb_0_0_0)).elim
        · have r79 : ((1 : Int) = 0) ∨ ((0 ≤ (T21 60 1).toInt) ∧ ((T21 60 1).toInt < (T21 61 1).toInt)) := r68
          clear r68
          have q80 : (0) ≤ (T21 60 1).toInt ∧ (T21 60 1).toInt ≤ (98304) := (show B 0 98304 (T21 60 1) from hI24 60 1)
          have q81 : (0) ≤ (F 61 1).toInt ∧ (F 61 1).toInt ≤ (32768) := (show B 0 32768 (F 61 1) from hI 61 1)
          have e82 : (T21 61 1).toInt = (F 61 1).toInt := (congrArg Int32.toInt (((g25.1 61 1 rfl rfl).trans (g13.1 61 1 rfl rfl)).trans (g3.1 61 1 rfl rfl))).trans rfl
          have b83 : B 0 32767 (T21 60 1) := ⟨by omega, by omega⟩
          refine ⟨fun hc => ?_, fun hc => ?_⟩
          · exact (B_dis cqb_1_1_1 cqb_0_0_0 hc (by decide +kernel)).elim
          · have i84 : (1 : Int32).toInt ≠ (0 : Int32).toInt := i_ne hc
            have n85 : (1 : Int32).toInt = 1 := cqn_1
            have n86 : (0 : Int32).toInt = 0 := cqn_0
            refine ⟨(show ¬ ((60 : Nat) = NU) from by decide +kernel), ?_⟩
            refine ⟨(show ¬ ((60 : Nat) = NU) from by decide +kernel), ?_⟩
            refine ⟨(show c_cl UL 60 = 8 from cl_60), ?_⟩
            have g92 := agc_tr (agc_refl (fs := [5906, 5911, 5912, 5913, 6001, 6002, 6003, 6004, 6005, 6006, 6007, 6300, 6301, 6302, 6305, 6306, 6307, 6308, 6316, 7300, 7304, 7305, 7306, 8100, 8105, 8600, 8605, 9100, 9105, 9600, 9605]) (rs := [64, 65, 66, 67, 68, 69, 70, 71, 74, 75, 76, 77, 78, 79, 82, 83, 84, 85, 87, 88, 89, 90, 92, 93, 94, 95, 97, 98, 99, 100, 101, 102, 103, 104, 999]) (F := F)) g3 (by decide +kernel) (by decide +kernel)
            have g91 := agc_tr g92 g13 (by decide +kernel) (by decide +kernel)
            have g90 := agc_tr g91 g25 (by decide +kernel) (by decide +kernel)
            exact h_Re_fail_u60 (B_w cqb_8_8_8 (by decide +kernel) (by decide +kernel)) hI24 (fun hI g => hT13 hI (agc_tr g90 g (by decide +kernel) (by decide +kernel)))
      · have hq93 := (nle_lt hc)
        have b94 : B 0 32767 (x2_20) := B_w (B_ltL b23 cqb_32768_32768_32768 hq93) (by decide +kernel) (by decide +kernel)
        refine ⟨(show ¬ ((60 : Nat) = NU) from by decide +kernel), ?_⟩
        refine ⟨(show c_cl UL 60 = 8 from cl_60), ?_⟩
        have g102 := agc_tr (agc_refl (fs := [5906, 5911, 5912, 5913, 6001, 6002, 6003, 6004, 6005, 6006, 6007, 6300, 6301, 6302, 6305, 6306, 6307, 6308, 6316, 7300, 7304, 7305, 7306, 8100, 8105, 8600, 8605, 9100, 9105, 9600, 9605]) (rs := [64, 65, 66, 67, 68, 69, 70, 71, 74, 75, 76, 77, 78, 79, 82, 83, 84, 85, 87, 88, 89, 90, 92, 93, 94, 95, 97, 98, 99, 100, 101, 102, 103, 104, 999]) (F := F)) g3 (by decide +kernel) (by decide +kernel)
        have g101 := agc_tr g102 g13 (by decide +kernel) (by decide +kernel)
        have g100 := agc_tr g101 g25 (by decide +kernel) (by decide +kernel)
        refine h_Re_readMark_u60 hI24 (fun {v52_95} {FS52_96} {LFS52_96} b97 hI98 g99 => ?_) (fun hI g => hT13 hI (agc_tr g100 g (by decide +kernel) (by decide +kernel)))
        refine ⟨fun hc => ?_, fun hc => ?_⟩
        · have b103 : B 217 217 (v52_95) := B_w (B_eq hc cqb_217_217_217) (by decide +kernel) (by decide +kernel)
          have q104 : (217) ≤ (v52_95).toInt ∧ (v52_95).toInt ≤ (217) := (show B 217 217 (v52_95) from B_w b103 (by decide +kernel) (by decide +kernel))
          have i105 : (v52_95).toInt = (217 : Int32).toInt := congrArg Int32.toInt hc
          have n106 : (217 : Int32).toInt = 217 := cqn_217
          unfold b_Un_readRow_68
          refine h_Un_canCome_u59_a0 (B_w b103 (by decide +kernel) (by decide +kernel)) hI98 (fun {v71_107} b109 r110 => ?_)
          have r111 : (v71_107.toInt = 0) ∨ (((v52_95.toInt = 192) → ((FS52_96 59 6).toInt = 0)) ∧ ((v52_95.toInt = 218) → ((FS52_96 59 6).toInt = 1))) := r110
          clear r110
          have q112 : (0) ≤ (v71_107).toInt ∧ (v71_107).toInt ≤ (1) := (show B 0 1 (v71_107) from B_w b109 (by decide +kernel) (by decide +kernel))
          have q113 : (0) ≤ (T21 59 6).toInt ∧ (T21 59 6).toInt ≤ (1) := (show B 0 1 (T21 59 6) from hI24 59 6)
          have e114 : (FS52_96 59 6).toInt = (T21 59 6).toInt := (congrArg Int32.toInt (g99.1 59 6 rfl rfl)).trans rfl
          refine ⟨fun hc => ?_, fun hc => ?_⟩
          · have b115 : B 1 1 (v71_107) := B_w (B_n0 b109 hc) (by decide +kernel) (by decide +kernel)
            have q116 : (1) ≤ (v71_107).toInt ∧ (v71_107).toInt ≤ (1) := (show B 1 1 (v71_107) from B_w b115 (by decide +kernel) (by decide +kernel))
            unfold b_Un_readRow_94
            refine ⟨fun hc => ?_, fun hc => ?_⟩
            · have i117 : (0 : Int32).toInt = (0 : Int32).toInt := congrArg Int32.toInt hc
              have n118 : (0 : Int32).toInt = 0 := cqn_0
              have n119 : (0 : Int32).toInt = 0 := cqn_0
              unfold b_Un_readRow_103
              refine ⟨fun hc => ?_, fun hc => ?_⟩
              · have i120 : (v52_95).toInt ≠ (218 : Int32).toInt := i_ne hc
                have n121 : (218 : Int32).toInt = 218 := cqn_218
                unfold b_Un_readRow_114
                have g123 := agc_tr (agc_refl (fs := [5906, 5911, 5912, 5913, 6001, 6002, 6003, 6004, 6005, 6300, 6301, 6302, 6305, 6306, 6307, 6308, 6316, 7300, 7304, 7305, 7306, 8100, 8105, 8600, 8605, 9100, 9105, 9600, 9605]) (rs := [64, 65, 66, 67, 68, 69, 70, 71, 74, 75, 76, 77, 78, 79, 82, 83, 84, 85, 87, 88, 89, 90, 92, 93, 94, 95, 97, 98, 99, 100, 101, 102, 103, 104, 999]) (F := FS8_10)) g25 (by decide +kernel) (by decide +kernel)
                have g122 := agc_tr g123 g99 (by decide +kernel) (by decide +kernel)
                have g124 := agc_tr (agc_refl (fs := [6001]) (rs := [999]) (F := T21)) g99 (by decide +kernel) (by decide +kernel)
                have q125 : (0) ≤ (x2_20).toInt ∧ (x2_20).toInt ≤ (32767) := (show B 0 32767 (x2_20) from B_w b94 (by decide +kernel) (by decide +kernel))
                have e126 : (x2_20 + 1).toInt = ((x2_20).toInt + 1) := (t_add b94 cqb_1_1_1 (by decide +kernel) (by decide +kernel)).trans (by rw [cqn_1])
                have q127 : (1) ≤ (x2_20 + 1).toInt ∧ (x2_20 + 1).toInt ≤ (32768) := (show B 1 32768 (x2_20 + 1) from B_w (B_add b94 cqb_1_1_1 (by decide +kernel) (by decide +kernel)) (by decide +kernel) (by decide +kernel))
                exact hR38 ⟨(B_w cqb_0_0_0 (by decide +kernel) (by decide +kernel)), (B_w (B_add b94 cqb_1_1_1 (by decide +kernel) (by decide +kernel)) (by decide +kernel) (by decide +kernel)), _, _, rfl, hI98, g122, (CV_ag (F := T21) (G := FS52_96) r27 g124 (by decide +kernel) (by decide +kernel)), (FA_tr (m := 63) (F := T21) (G := FS52_96) r29 (g99.1 59 6 rfl rfl) (g99.2 64 rfl rfl) (g99.2 65 rfl rfl) (g99.1 63 2 rfl rfl) (g99.1 63 5 rfl rfl) (g99.1 63 6 rfl rfl) (g99.1 63 7 rfl rfl) (g99.1 63 8 rfl rfl))⟩ (by show (32768 - (x2_20 + 1).toInt).toNat < (32768 - x2_20.toInt).toNat; omega)
              · exact (B_dis b103 cqb_218_218_218 hc (by decide +kernel)).elim
            · exact (hc (B_z cqb_0_0_0)).elim
          · have b128 : B 0 0 (v71_107) := B_w (B_eq hc cqb_0_0_0) (by decide +kernel) (by decide +kernel)
            have q129 : (0) ≤ (v71_107).toInt ∧ (v71_107).toInt ≤ (0) := (show B 0 0 (v71_107) from B_w b128 (by decide +kernel) (by decide +kernel))
            have i130 : (v71_107).toInt = (0 : Int32).toInt := congrArg Int32.toInt hc
            have n131 : (0 : Int32).toInt = 0 := cqn_0
            refine ⟨(show ¬ ((60 : Nat) = NU) from by decide +kernel), ?_⟩
            refine ⟨(show ¬ ((60 : Nat) = NU) from by decide +kernel), ?_⟩
            refine ⟨(show c_cl UL 60 = 8 from cl_60), ?_⟩
            have g138 := agc_tr (agc_refl (fs := [5906, 5911, 5912, 5913, 6001, 6002, 6003, 6004, 6005, 6006, 6007, 6300, 6301, 6302, 6305, 6306, 6307, 6308, 6316, 7300, 7304, 7305, 7306, 8100, 8105, 8600, 8605, 9100, 9105, 9600, 9605]) (rs := [64, 65, 66, 67, 68, 69, 70, 71, 74, 75, 76, 77, 78, 79, 82, 83, 84, 85, 87, 88, 89, 90, 92, 93, 94, 95, 97, 98, 99, 100, 101, 102, 103, 104, 999]) (F := F)) g3 (by decide +kernel) (by decide +kernel)
            have g137 := agc_tr g138 g13 (by decide +kernel) (by decide +kernel)
            have g136 := agc_tr g137 g25 (by decide +kernel) (by decide +kernel)
            have g135 := agc_tr g136 g99 (by decide +kernel) (by decide +kernel)
            exact h_Re_fail_u60 (B_w cqb_3_3_3 (by decide +kernel) (by decide +kernel)) hI98 (fun hI g => hT13 hI (agc_tr g135 g (by decide +kernel) (by decide +kernel)))
        · have q139 : (0) ≤ (v52_95).toInt ∧ (v52_95).toInt ≤ (255) := (show B 0 255 (v52_95) from B_w b97 (by decide +kernel) (by decide +kernel))
          have i140 : (v52_95).toInt ≠ (217 : Int32).toInt := i_ne hc
          have n141 : (217 : Int32).toInt = 217 := cqn_217
          unfold b_Un_readRow_68
          refine h_Un_canCome_u59_a0 b97 hI98 (fun {v71_142} b144 r145 => ?_)
          have r146 : (v71_142.toInt = 0) ∨ (((v52_95.toInt = 192) → ((FS52_96 59 6).toInt = 0)) ∧ ((v52_95.toInt = 218) → ((FS52_96 59 6).toInt = 1))) := r145
          clear r145
          have q147 : (0) ≤ (v71_142).toInt ∧ (v71_142).toInt ≤ (1) := (show B 0 1 (v71_142) from B_w b144 (by decide +kernel) (by decide +kernel))
          have q148 : (0) ≤ (T21 59 6).toInt ∧ (T21 59 6).toInt ≤ (1) := (show B 0 1 (T21 59 6) from hI24 59 6)
          have e149 : (FS52_96 59 6).toInt = (T21 59 6).toInt := (congrArg Int32.toInt (g99.1 59 6 rfl rfl)).trans rfl
          refine ⟨fun hc => ?_, fun hc => ?_⟩
          · have b150 : B 1 1 (v71_142) := B_w (B_n0 b144 hc) (by decide +kernel) (by decide +kernel)
            have q151 : (1) ≤ (v71_142).toInt ∧ (v71_142).toInt ≤ (1) := (show B 1 1 (v71_142) from B_w b150 (by decide +kernel) (by decide +kernel))
            unfold b_Un_readRow_94
            refine ⟨fun hc => ?_, fun hc => ?_⟩
            · exact (B_dis cqb_1_1_1 cqb_0_0_0 hc (by decide +kernel)).elim
            · have i152 : (1 : Int32).toInt ≠ (0 : Int32).toInt := i_ne hc
              have n153 : (1 : Int32).toInt = 1 := cqn_1
              have n154 : (0 : Int32).toInt = 0 := cqn_0
              have g155 := agc_tr (agc_refl (fs := [6001]) (rs := [999]) (F := T21)) g99 (by decide +kernel) (by decide +kernel)
              have g165 := agc_tr (agc_refl (fs := [5906, 5911, 5912, 5913, 6001, 6002, 6003, 6004, 6005, 6006, 6007, 6300, 6301, 6302, 6305, 6306, 6307, 6308, 6316, 7300, 7304, 7305, 7306, 8100, 8105, 8600, 8605, 9100, 9105, 9600, 9605]) (rs := [64, 65, 66, 67, 68, 69, 70, 71, 74, 75, 76, 77, 78, 79, 82, 83, 84, 85, 87, 88, 89, 90, 92, 93, 94, 95, 97, 98, 99, 100, 101, 102, 103, 104, 999]) (F := F)) g3 (by decide +kernel) (by decide +kernel)
              have g164 := agc_tr g165 g13 (by decide +kernel) (by decide +kernel)
              have g163 := agc_tr g164 g25 (by decide +kernel) (by decide +kernel)
              have g162 := agc_tr g163 g99 (by decide +kernel) (by decide +kernel)
              refine h_Un_readSection_u59_a0 b97 hI98 (by show ((v52_95.toInt = 192) → ((FS52_96 59 6).toInt = 0)) ∧ ((v52_95.toInt = 218) → ((FS52_96 59 6).toInt = 1)); first | with_reducible assumption | omega) (CV_ag (F := T21) (G := FS52_96) r27 g155 (by decide +kernel) (by decide +kernel)) (FA_tr (m := 63) (F := T21) (G := FS52_96) r29 (g99.1 59 6 rfl rfl) (g99.2 64 rfl rfl) (g99.2 65 rfl rfl) (g99.1 63 2 rfl rfl) (g99.1 63 5 rfl rfl) (g99.1 63 6 rfl rfl) (g99.1 63 7 rfl rfl) (g99.1 63 8 rfl rfl)) (fun {FS100_156} {LFS100_156} hI157 g158 r159 r160 r161 => ?_) (fun hI g => hT13 hI (agc_tr g162 g (by decide +kernel) (by decide +kernel)))
              have r166 : CV FS100_156 := r159
              clear r159
              have r167 : FA 63 FS100_156 := r160
              clear r160
              have r168 : SR v52_95 FS100_156 := r161
              clear r161
              unfold b_Un_readRow_103
              refine ⟨fun hc => ?_, fun hc => ?_⟩
              · have i169 : (v52_95).toInt ≠ (218 : Int32).toInt := i_ne hc
                have n170 : (218 : Int32).toInt = 218 := cqn_218
                unfold b_Un_readRow_114
                have g173 := agc_tr (agc_refl (fs := [5906, 5911, 5912, 5913, 6001, 6002, 6003, 6004, 6005, 6300, 6301, 6302, 6305, 6306, 6307, 6308, 6316, 7300, 7304, 7305, 7306, 8100, 8105, 8600, 8605, 9100, 9105, 9600, 9605]) (rs := [64, 65, 66, 67, 68, 69, 70, 71, 74, 75, 76, 77, 78, 79, 82, 83, 84, 85, 87, 88, 89, 90, 92, 93, 94, 95, 97, 98, 99, 100, 101, 102, 103, 104, 999]) (F := FS8_10)) g25 (by decide +kernel) (by decide +kernel)
                have g172 := agc_tr g173 g99 (by decide +kernel) (by decide +kernel)
                have g171 := agc_tr g172 g158 (by decide +kernel) (by decide +kernel)
                have q174 : (0) ≤ (x2_20).toInt ∧ (x2_20).toInt ≤ (32767) := (show B 0 32767 (x2_20) from B_w b94 (by decide +kernel) (by decide +kernel))
                have e175 : (x2_20 + 1).toInt = ((x2_20).toInt + 1) := (t_add b94 cqb_1_1_1 (by decide +kernel) (by decide +kernel)).trans (by rw [cqn_1])
                have q176 : (1) ≤ (x2_20 + 1).toInt ∧ (x2_20 + 1).toInt ≤ (32768) := (show B 1 32768 (x2_20 + 1) from B_w (B_add b94 cqb_1_1_1 (by decide +kernel) (by decide +kernel)) (by decide +kernel) (by decide +kernel))
                exact hR38 ⟨(B_w cqb_1_1_1 (by decide +kernel) (by decide +kernel)), (B_w (B_add b94 cqb_1_1_1 (by decide +kernel) (by decide +kernel)) (by decide +kernel) (by decide +kernel)), _, _, rfl, hI157, g171, r166, r167⟩ (by show (32768 - (x2_20 + 1).toInt).toNat < (32768 - x2_20.toInt).toNat; omega)
              · have b177 : B 218 218 (v52_95) := B_w (B_eq hc cqb_218_218_218) (by decide +kernel) (by decide +kernel)
                have q178 : (218) ≤ (v52_95).toInt ∧ (v52_95).toInt ≤ (218) := (show B 218 218 (v52_95) from B_w b177 (by decide +kernel) (by decide +kernel))
                have i179 : (v52_95).toInt = (218 : Int32).toInt := congrArg Int32.toInt hc
                have n180 : (218 : Int32).toInt = 218 := cqn_218
                obtain ⟨r181, r182⟩ := r168 (by assumption)
                have g190 := agc_tr (agc_refl (fs := [5906, 5911, 5912, 5913, 6001, 6002, 6003, 6004, 6005, 6006, 6007, 6300, 6301, 6302, 6305, 6306, 6307, 6308, 6316, 7300, 7304, 7305, 7306, 8100, 8105, 8600, 8605, 9100, 9105, 9600, 9605]) (rs := [64, 65, 66, 67, 68, 69, 70, 71, 74, 75, 76, 77, 78, 79, 82, 83, 84, 85, 87, 88, 89, 90, 92, 93, 94, 95, 97, 98, 99, 100, 101, 102, 103, 104, 999]) (F := F)) g3 (by decide +kernel) (by decide +kernel)
                have g189 := agc_tr g190 g13 (by decide +kernel) (by decide +kernel)
                have g188 := agc_tr g189 g25 (by decide +kernel) (by decide +kernel)
                have g187 := agc_tr g188 g99 (by decide +kernel) (by decide +kernel)
                have g186 := agc_tr g187 g158 (by decide +kernel) (by decide +kernel)
                refine h_Un_readData_u59_a0 hI157 r181 (UPs_tr (F := FS100_156) (G := FS100_156) r182 rfl rfl rfl) (fun {FS111_183} {LFS111_183} hI184 g185 => ?_) (fun hI g => hT13 hI (agc_tr g186 g (by decide +kernel) (by decide +kernel)))
                unfold b_Un_readRow_114
                have g194 := agc_tr (agc_refl (fs := [5906, 5911, 5912, 5913, 6001, 6002, 6003, 6004, 6005, 6300, 6301, 6302, 6305, 6306, 6307, 6308, 6316, 7300, 7304, 7305, 7306, 8100, 8105, 8600, 8605, 9100, 9105, 9600, 9605]) (rs := [64, 65, 66, 67, 68, 69, 70, 71, 74, 75, 76, 77, 78, 79, 82, 83, 84, 85, 87, 88, 89, 90, 92, 93, 94, 95, 97, 98, 99, 100, 101, 102, 103, 104, 999]) (F := FS8_10)) g25 (by decide +kernel) (by decide +kernel)
                have g193 := agc_tr g194 g99 (by decide +kernel) (by decide +kernel)
                have g192 := agc_tr g193 g158 (by decide +kernel) (by decide +kernel)
                have g191 := agc_tr g192 g185 (by decide +kernel) (by decide +kernel)
                have g195 := agc_tr (agc_refl (fs := [6001, 6002, 6003, 6004, 6005]) (rs := [70, 104, 999]) (F := FS100_156)) g185 (by decide +kernel) (by decide +kernel)
                have q196 : (0) ≤ (x2_20).toInt ∧ (x2_20).toInt ≤ (32767) := (show B 0 32767 (x2_20) from B_w b94 (by decide +kernel) (by decide +kernel))
                have e197 : (x2_20 + 1).toInt = ((x2_20).toInt + 1) := (t_add b94 cqb_1_1_1 (by decide +kernel) (by decide +kernel)).trans (by rw [cqn_1])
                have q198 : (1) ≤ (x2_20 + 1).toInt ∧ (x2_20 + 1).toInt ≤ (32768) := (show B 1 32768 (x2_20 + 1) from B_w (B_add b94 cqb_1_1_1 (by decide +kernel) (by decide +kernel)) (by decide +kernel) (by decide +kernel))
                exact hR38 ⟨(B_w cqb_1_1_1 (by decide +kernel) (by decide +kernel)), (B_w (B_add b94 cqb_1_1_1 (by decide +kernel) (by decide +kernel)) (by decide +kernel) (by decide +kernel)), _, _, rfl, hI184, g191, (CV_ag (F := FS100_156) (G := FS111_183) r166 g195 (by decide +kernel) (by decide +kernel)), (FA_tr (m := 63) (F := FS100_156) (G := FS111_183) r167 (g185.1 59 6 rfl rfl) (g185.2 64 rfl rfl) (g185.2 65 rfl rfl) (g185.1 63 2 rfl rfl) (g185.1 63 5 rfl rfl) (g185.1 63 6 rfl rfl) (g185.1 63 7 rfl rfl) (g185.1 63 8 rfl rfl))⟩ (by show (32768 - (x2_20 + 1).toInt).toNat < (32768 - x2_20.toInt).toNat; omega)
          · have b199 : B 0 0 (v71_142) := B_w (B_eq hc cqb_0_0_0) (by decide +kernel) (by decide +kernel)
            have q200 : (0) ≤ (v71_142).toInt ∧ (v71_142).toInt ≤ (0) := (show B 0 0 (v71_142) from B_w b199 (by decide +kernel) (by decide +kernel))
            have i201 : (v71_142).toInt = (0 : Int32).toInt := congrArg Int32.toInt hc
            have n202 : (0 : Int32).toInt = 0 := cqn_0
            refine ⟨(show ¬ ((60 : Nat) = NU) from by decide +kernel), ?_⟩
            refine ⟨(show ¬ ((60 : Nat) = NU) from by decide +kernel), ?_⟩
            refine ⟨(show c_cl UL 60 = 8 from cl_60), ?_⟩
            have g209 := agc_tr (agc_refl (fs := [5906, 5911, 5912, 5913, 6001, 6002, 6003, 6004, 6005, 6006, 6007, 6300, 6301, 6302, 6305, 6306, 6307, 6308, 6316, 7300, 7304, 7305, 7306, 8100, 8105, 8600, 8605, 9100, 9105, 9600, 9605]) (rs := [64, 65, 66, 67, 68, 69, 70, 71, 74, 75, 76, 77, 78, 79, 82, 83, 84, 85, 87, 88, 89, 90, 92, 93, 94, 95, 97, 98, 99, 100, 101, 102, 103, 104, 999]) (F := F)) g3 (by decide +kernel) (by decide +kernel)
            have g208 := agc_tr g209 g13 (by decide +kernel) (by decide +kernel)
            have g207 := agc_tr g208 g25 (by decide +kernel) (by decide +kernel)
            have g206 := agc_tr g207 g99 (by decide +kernel) (by decide +kernel)
            exact h_Re_fail_u60 (B_w cqb_3_3_3 (by decide +kernel) (by decide +kernel)) hI98 (fun hI g => hT13 hI (agc_tr g206 g (by decide +kernel) (by decide +kernel)))
  · have q210 : (0) ≤ (v8_9).toInt ∧ (v8_9).toInt ≤ (255) := (show B 0 255 (v8_9) from B_w b11 (by decide +kernel) (by decide +kernel))
    have i211 : (v8_9).toInt ≠ (216 : Int32).toInt := i_ne hc
    have n212 : (216 : Int32).toInt = 216 := cqn_216
    refine ⟨(show ¬ ((60 : Nat) = NU) from by decide +kernel), ?_⟩
    refine ⟨(show ¬ ((60 : Nat) = NU) from by decide +kernel), ?_⟩
    refine ⟨(show c_cl UL 60 = 8 from cl_60), ?_⟩
    have g217 := agc_tr (agc_refl (fs := [5906, 5911, 5912, 5913, 6001, 6002, 6003, 6004, 6005, 6006, 6007, 6300, 6301, 6302, 6305, 6306, 6307, 6308, 6316, 7300, 7304, 7305, 7306, 8100, 8105, 8600, 8605, 9100, 9105, 9600, 9605]) (rs := [64, 65, 66, 67, 68, 69, 70, 71, 74, 75, 76, 77, 78, 79, 82, 83, 84, 85, 87, 88, 89, 90, 92, 93, 94, 95, 97, 98, 99, 100, 101, 102, 103, 104, 999]) (F := F)) g3 (by decide +kernel) (by decide +kernel)
    have g216 := agc_tr g217 g13 (by decide +kernel) (by decide +kernel)
    exact h_Re_fail_u60 (B_w cqb_3_3_3 (by decide +kernel) (by decide +kernel)) hI12 (fun hI g => hT13 hI (agc_tr g216 g (by decide +kernel) (by decide +kernel)))
set_option maxRecDepth 20000 in
set_option maxHeartbeats 4000000 in
theorem h_Un_readScanLayer_u59_a1 {b : Bool} {P : Nat → Nat → Nat} {x1 : Int32} {F : cF} {L : cL} {K : Int32 → cs → Prop} {T : Nat → cs → Prop} (b_x1 : B 0 3 x1) (hI : IMc F) (pre0 : CV F) (pre1 : LSQ F) (pre2 : qf (F 74) 0 (F 73 0).toInt 0 ((F 105 2).toInt - 1)) (hK : ∀ {v : Int32} {Z : cF} {LZ : cL}, B 0 2 v → IMc Z → agc [6001, 7300] [74, 75, 76, 103, 113] F Z → (CV Z) → (LSQ Z) → (qf (Z 74) 0 (Z 73 0).toInt 0 ((Z 105 2).toInt - 1)) → K v (Z, LZ, PC true b P)) (hT13 : ∀ {Z : cF} {LZ : cL}, IMc Z → agc [6001, 6006, 6007] [113] F Z → T 13 (Z, LZ, PC true b P)) : p_Un_readScanLayer UL 59 x1 (F, L, PC true b P) K T := by
  have q1 : (0) ≤ (F 73 0).toInt ∧ (F 73 0).toInt ≤ (3) := (show B 0 3 (F 73 0) from hI 73 0)
  unfold p_Un_readScanLayer
  refine ⟨(show ¬ ((60 : Nat) = NU) from by decide +kernel), ?_⟩
  refine ⟨(show c_cl UL 60 = 8 from cl_60), ?_⟩
  refine h_Re_read_u60 hI (fun {v4_2} {FS4_3} {LFS4_3} b4 hI5 g6 r7 => ?_) (fun hI g => hT13 hI (agc_tr (agc_refl (fs := [6001, 6006, 6007]) (rs := [113]) (F := F)) g (by decide +kernel) (by decide +kernel)))
  have r8 : (FS4_3 60 1).toInt ≤ 32768 := r7
  clear r7
  have q9 : (0) ≤ (FS4_3 60 1).toInt ∧ (FS4_3 60 1).toInt ≤ (98304) := (show B 0 98304 (FS4_3 60 1) from hI5 60 1)
  have q17 : (1) ≤ (F 105 2).toInt ∧ (F 105 2).toInt ≤ (3) := (show B 1 3 (F 105 2) from hI 105 2)
  have e18 : (FS4_3 105 2).toInt = (F 105 2).toInt := (congrArg Int32.toInt (g6.1 105 2 rfl rfl)).trans rfl
  refine ⟨fun yx1 yx2 yx3 yx4 yS => x1 = yx1 ∧ v4_2 = yx2 ∧ B (-1) 2 yx3 ∧ B 0 3 yx4 ∧ (FS4_3, LFS4_3, PC true b P) = yS ∧ (yx3.toInt < (FS4_3 105 2).toInt), fun yx1 yx2 yx3 yx4 yS => (3 - yx4.toInt).toNat, ⟨rfl, rfl, (B_w cqb_m1_m1_m1 (by decide +kernel) (by decide +kernel)), b_x1, rfl, (by show (-1) < (FS4_3 105 2).toInt; first | with_reducible assumption | omega)⟩, fun x1_10 x2_11 x3_12 x4_13 ST14 hIv => ?_⟩
  obtain ⟨rfl, rfl, b15, b16, rfl, r19⟩ := hIv
  suffices hs : ∀ (R13 : Int32 → Int32 → Int32 → Int32 → cs → Prop), (∀ zx1 zx2 zx3 zx4 zS, (x1 = zx1 ∧ v4_2 = zx2 ∧ B (-1) 2 zx3 ∧ B 0 3 zx4 ∧ (FS4_3, LFS4_3, PC true b P) = zS ∧ (zx3.toInt < (FS4_3 105 2).toInt)) → (3 - zx4.toInt).toNat < (3 - x4_13.toInt).toNat → R13 zx1 zx2 zx3 zx4 zS) → b_Un_readScanLayer_13 UL 59 x1 v4_2 x3_12 x4_13 (FS4_3, LFS4_3, PC true b P) R13 K T from hs _ (fun _ _ _ _ _ h1 h2 => ⟨h1, h2⟩)
  intro R13 hR130
  have hR13 := fun {zx1} {zx2} {zx3} {zx4} {zS} => hR130 zx1 zx2 zx3 zx4 zS
  have q20 : (-1) ≤ (x3_12).toInt ∧ (x3_12).toInt ≤ (2) := (show B (-1) 2 (x3_12) from B_w b15 (by decide +kernel) (by decide +kernel))
  have q21 : (1) ≤ (F 105 2).toInt ∧ (F 105 2).toInt ≤ (3) := (show B 1 3 (F 105 2) from hI 105 2)
  have e22 : (FS4_3 105 2).toInt = (F 105 2).toInt := (congrArg Int32.toInt (g6.1 105 2 rfl rfl)).trans rfl
  unfold b_Un_readScanLayer_13
  refine ⟨(show ¬ ((105 : Nat) = NU) from by decide +kernel), ?_⟩
  refine ⟨(show c_cl UL 105 = 7 from cl_105), ?_⟩
  refine ⟨fun hc => ?_, fun hc => ?_⟩
  · have hq23 := hc
    have b24 : B 1 3 (x4_13) := B_w (B_leR (B_eq (g6.1 105 2 rfl rfl) (show B 1 3 (F 105 2) from hI 105 2)) b16 hq23) (by decide +kernel) (by decide +kernel)
    have q25 : (1) ≤ (x4_13).toInt ∧ (x4_13).toInt ≤ (3) := (show B 1 3 (x4_13) from B_w b24 (by decide +kernel) (by decide +kernel))
    have i26 : (FS4_3 105 2).toInt ≤ (x4_13).toInt := i_le hq23
    refine ⟨fun hc => ?_, fun hc => ?_⟩
    · have b27 : B (-1) (-1) (x3_12) := B_w (B_eq hc cqb_m1_m1_m1) (by decide +kernel) (by decide +kernel)
      have q28 : (-1) ≤ (x3_12).toInt ∧ (x3_12).toInt ≤ (-1) := (show B (-1) (-1) (x3_12) from B_w b27 (by decide +kernel) (by decide +kernel))
      have i29 : (x3_12).toInt = (-1 : Int32).toInt := congrArg Int32.toInt hc
      have n30 : (-1 : Int32).toInt = -1 := cqn_m1
      unfold b_Un_readScanLayer_59
      refine ⟨(show ¬ ((60 : Nat) = NU) from by decide +kernel), ?_⟩
      refine ⟨(show ¬ ((60 : Nat) = NU) from by decide +kernel), ?_⟩
      refine ⟨(show c_cl UL 60 = 8 from cl_60), ?_⟩
      have g34 := agc_tr (agc_refl (fs := [6001, 6006, 6007]) (rs := [113]) (F := F)) g6 (by decide +kernel) (by decide +kernel)
      exact h_Re_fail_u60 (B_w cqb_5_5_5 (by decide +kernel) (by decide +kernel)) hI5 (fun hI g => hT13 hI (agc_tr g34 g (by decide +kernel) (by decide +kernel)))
    · have i35 : (x3_12).toInt ≠ (-1 : Int32).toInt := i_ne hc
      have n36 : (-1 : Int32).toInt = -1 := cqn_m1
      refine ⟨(show ¬ ((103 : Nat) = NU) from by decide +kernel), ?_⟩
      refine ⟨(show c_cl UL 103 = 903 from cl_103), ?_⟩
      refine ⟨(show vp_in (x3_12) 3 from vp_om (x := x3_12) (by omega) (by omega)), ?_⟩
      have b37 : B 0 2 (x3_12) := ⟨by omega, by omega⟩
      refine ⟨fun hc => ?_, fun hc => ?_⟩
      · have b38 : B 0 0 (F 103 x3_12.toNatClampNeg) := B_w (B_eq (Eq.symm (congrFun (g6.2 103 rfl rfl) x3_12.toNatClampNeg)) (B_eq hc cqb_0_0_0)) (by decide +kernel) (by decide +kernel)
        have q39 : (0) ≤ (F 103 x3_12.toNatClampNeg).toInt ∧ (F 103 x3_12.toNatClampNeg).toInt ≤ (0) := (show B 0 0 (F 103 x3_12.toNatClampNeg) from B_w b38 (by decide +kernel) (by decide +kernel))
        have e40 : (FS4_3 103 x3_12.toNatClampNeg).toInt = (F 103 x3_12.toNatClampNeg).toInt := (congrArg Int32.toInt (congrFun (g6.2 103 rfl rfl) x3_12.toNatClampNeg)).trans rfl
        have i41 : (FS4_3 103 x3_12.toNatClampNeg).toInt = (0 : Int32).toInt := congrArg Int32.toInt hc
        have n42 : (0 : Int32).toInt = 0 := cqn_0
        refine ⟨(show ¬ ((102 : Nat) = NU) from by decide +kernel), ?_⟩
        refine ⟨(show c_cl UL 102 = 902 from cl_102), ?_⟩
        refine ⟨(show vp_in (x3_12) 3 from vp_B b37 (by decide +kernel) (by decide +kernel)), ?_⟩
        refine ⟨(show ¬ ((79 : Nat) = NU) from by decide +kernel), ?_⟩
        refine ⟨(show c_cl UL 79 = 903 from cl_79), ?_⟩
        refine ⟨(show vp_in (FS4_3 102 x3_12.toNatClampNeg) 4 from vp_B (B_eq (congrFun (g6.2 102 rfl rfl) x3_12.toNatClampNeg) (show B 0 3 (F 102 x3_12.toNatClampNeg) from hI 102 x3_12.toNatClampNeg)) (by decide +kernel) (by decide +kernel)), ?_⟩
        refine ⟨fun hc => ?_, fun hc => ?_⟩
        · have b43 : B 1 1 (F 79 (FS4_3 102 x3_12.toNatClampNeg).toNatClampNeg) := B_w (B_eq (Eq.symm (congrFun (g6.2 79 rfl rfl) (FS4_3 102 x3_12.toNatClampNeg).toNatClampNeg)) (B_n0 (B_eq (congrFun (g6.2 79 rfl rfl) (FS4_3 102 x3_12.toNatClampNeg).toNatClampNeg) (show B 0 1 (F 79 (FS4_3 102 x3_12.toNatClampNeg).toNatClampNeg) from hI 79 (FS4_3 102 x3_12.toNatClampNeg).toNatClampNeg)) hc)) (by decide +kernel) (by decide +kernel)
          unfold b_Un_readScanLayer_114
          refine ⟨(show ¬ ((78 : Nat) = NU) from by decide +kernel), ?_⟩
          refine ⟨(show ¬ ((105 : Nat) = NU) from by decide +kernel), ?_⟩
          refine ⟨(show c_cl UL 105 = 7 from cl_105), ?_⟩
          refine ⟨(show ¬ ((113 : Nat) = NU) from by decide +kernel), ?_⟩
          refine ⟨(show c_cl UL 78 = 902 from cl_78), ?_⟩
          refine ⟨(show c_cl UL 113 = 902 from cl_113), ?_⟩
          refine ⟨nlt_B (B_mul cqb_64_64_64 (B_eq (congrFun (g6.2 102 rfl rfl) x3_12.toNatClampNeg) (show B 0 3 (F 102 x3_12.toNatClampNeg) from hI 102 x3_12.toNatClampNeg)) (by decide +kernel) (by decide +kernel) (by decide +kernel)) (by decide +kernel), ?_⟩
          refine ⟨nlt_B (B_mul cqb_64_64_64 b37 (by decide +kernel) (by decide +kernel) (by decide +kernel)) (by decide +kernel), ?_⟩
          refine ⟨(by decide +kernel), ?_⟩
          refine ⟨(show (64 * (FS4_3 102 x3_12.toNatClampNeg)).toNatClampNeg + (64 : Int32).toNatClampNeg ≤ 256 from cl_N (k := 64) (B_mul cqb_64_64_64 (B_eq (congrFun (g6.2 102 rfl rfl) x3_12.toNatClampNeg) (show B 0 3 (F 102 x3_12.toNatClampNeg) from hI 102 x3_12.toNatClampNeg)) (by decide +kernel) (by decide +kernel) (by decide +kernel)) (by decide +kernel) rfl (by decide +kernel)), ?_⟩
          refine ⟨(show (64 * x3_12).toNatClampNeg + (64 : Int32).toNatClampNeg ≤ 192 from cl_N (k := 64) (B_mul cqb_64_64_64 b37 (by decide +kernel) (by decide +kernel) (by decide +kernel)) (by decide +kernel) rfl (by decide +kernel)), ?_⟩
          have hI44 : IMc (va_up FS4_3 113 (va_cpy (FS4_3 78) (FS4_3 113) (64 * (FS4_3 102 x3_12.toNatClampNeg)).toNatClampNeg (64 * x3_12).toNatClampNeg (64 : Int32).toNatClampNeg)) := IMc_w (u := 113) hI5 (fun i => cpy_B (lo := 0) (hi := 255) (fun k => hI5 78 k) (fun k => hI5 113 k) i)
          have g52 := agc_tr (agc_refl (fs := [6001, 6006, 6007]) (rs := [113]) (F := F)) g6 (by decide +kernel) (by decide +kernel)
          have g51 := agc_r (u := 113) (w := va_cpy (FS4_3 78) (FS4_3 113) (64 * (FS4_3 102 x3_12.toNatClampNeg)).toNatClampNeg (64 * x3_12).toNatClampNeg (64 : Int32).toNatClampNeg) g52 rfl (by decide +kernel)
          refine h_Un_readWithin_u59 hI44 (fun {v143_45} {FS143_46} {LFS143_46} b47 hI48 g49 r50 => ?_) (fun hI g => hT13 hI (agc_tr g51 g (by decide +kernel) (by decide +kernel)))
          have r53 : (0 ≤ v143_45.toInt) ∧ (v143_45.toInt ≤ 17) := r50
          clear r50
          have q54 : (0) ≤ (v143_45).toInt ∧ (v143_45).toInt ≤ (255) := (show B 0 255 (v143_45) from B_w b47 (by decide +kernel) (by decide +kernel))
          have b55 : B 0 17 v143_45 := ⟨by omega, by omega⟩
          refine ⟨fun hc => ?_, fun hc => ?_⟩
          · have hq56 := hc
            have b57 : B 0 1 (v143_45 - ((v143_45 / 16) * 16)) := B_w (B_leL (B_rem b55 cqb_16_16_16 (by decide +kernel) (by decide +kernel)) cqb_1_1_1 hq56) (by decide +kernel) (by decide +kernel)
            have e58 : (v143_45 - ((v143_45 / 16) * 16)).toInt = ((v143_45).toInt % 16) := (t_rem b55 cqb_16_16_16 (by decide +kernel) (by decide +kernel)).trans (by rw [cqn_16])
            have q59 : (0) ≤ (v143_45 - ((v143_45 / 16) * 16)).toInt ∧ (v143_45 - ((v143_45 / 16) * 16)).toInt ≤ (1) := (show B 0 1 (v143_45 - ((v143_45 / 16) * 16)) from B_w b57 (by decide +kernel) (by decide +kernel))
            have i60 : (v143_45 - ((v143_45 / 16) * 16)).toInt ≤ (1 : Int32).toInt := i_le hq56
            have n61 : (1 : Int32).toInt = 1 := cqn_1
            unfold b_Un_readScanLayer_174
            refine ⟨(show ¬ ((80 : Nat) = NU) from by decide +kernel), ?_⟩
            refine ⟨(show c_cl UL 80 = 951 from cl_80), ?_⟩
            refine ⟨(show vp_in (v143_45 / 16) 4 from vp_B (show B 0 1 (v143_45 / 16) from B_div2 b55 cqb_16_16_16 (by decide +kernel) (by decide +kernel) (by decide +kernel) (by decide +kernel)) (by decide +kernel) (by decide +kernel)), ?_⟩
            refine ⟨(show ¬ ((PC true b P) 80 (v143_45 / 16).toNatClampNeg = NU) from nu_80 (B_w (show B 0 1 (v143_45 / 16) from B_div2 b55 cqb_16_16_16 (by decide +kernel) (by decide +kernel) (by decide +kernel) (by decide +kernel)) (by decide +kernel) (by decide +kernel))), ?_⟩
            refine ⟨(show c_cl UL ((PC true b P) 80 (v143_45 / 16).toNatClampNeg) = 3 from cx_80 (B_w (show B 0 1 (v143_45 / 16) from B_div2 b55 cqb_16_16_16 (by decide +kernel) (by decide +kernel) (by decide +kernel) (by decide +kernel)) (by decide +kernel) (by decide +kernel))), ?_⟩
            refine ⟨fun hc => ?_, fun hc => ?_⟩
            · unfold b_Un_readScanLayer_208
              refine ⟨(show ¬ ((60 : Nat) = NU) from by decide +kernel), ?_⟩
              refine ⟨(show ¬ ((60 : Nat) = NU) from by decide +kernel), ?_⟩
              refine ⟨(show c_cl UL 60 = 8 from cl_60), ?_⟩
              have g67 := agc_tr (agc_refl (fs := [6001, 6006, 6007]) (rs := [113]) (F := F)) g6 (by decide +kernel) (by decide +kernel)
              have g66 := agc_r (u := 113) (w := va_cpy (FS4_3 78) (FS4_3 113) (64 * (FS4_3 102 x3_12.toNatClampNeg)).toNatClampNeg (64 * x3_12).toNatClampNeg (64 : Int32).toNatClampNeg) g67 rfl (by decide +kernel)
              have g65 := agc_tr g66 g49 (by decide +kernel) (by decide +kernel)
              exact h_Re_fail_u60 (B_w cqb_6_6_6 (by decide +kernel) (by decide +kernel)) hI48 (fun hI g => hT13 hI (agc_tr g65 g (by decide +kernel) (by decide +kernel)))
            · have tl68 : ¬ FS143_46 (cU (v143_45 / 16)) 0 = 0 := tld (F := FS143_46) (B_w (show B 0 1 (v143_45 / 16) from B_div2 b55 cqb_16_16_16 (by decide +kernel) (by decide +kernel) (by decide +kernel) (by decide +kernel)) (by decide +kernel) (by decide +kernel)) (show ¬ FS143_46 ((PC true b P) 80 (v143_45 / 16).toNatClampNeg) 0 = 0 from hc)
              refine ⟨(show ¬ ((80 : Nat) = NU) from by decide +kernel), ?_⟩
              refine ⟨(show vp_in (2 + (v143_45 - ((v143_45 / 16) * 16))) 4 from vp_B (B_add cqb_2_2_2 b57 (by decide +kernel) (by decide +kernel)) (by decide +kernel) (by decide +kernel)), ?_⟩
              refine ⟨(show ¬ ((PC true b P) 80 (2 + (v143_45 - ((v143_45 / 16) * 16))).toNatClampNeg = NU) from nu_80 (B_w (B_add cqb_2_2_2 b57 (by decide +kernel) (by decide +kernel)) (by decide +kernel) (by decide +kernel))), ?_⟩
              refine ⟨(show c_cl UL ((PC true b P) 80 (2 + (v143_45 - ((v143_45 / 16) * 16))).toNatClampNeg) = 3 from cx_80 (B_w (B_add cqb_2_2_2 b57 (by decide +kernel) (by decide +kernel)) (by decide +kernel) (by decide +kernel))), ?_⟩
              refine ⟨fun hc => ?_, fun hc => ?_⟩
              · have tl69 : ¬ FS143_46 (cU (2 + (v143_45 - ((v143_45 / 16) * 16)))) 0 = 0 := tld (F := FS143_46) (B_w (B_add cqb_2_2_2 b57 (by decide +kernel) (by decide +kernel)) (by decide +kernel) (by decide +kernel)) (show ¬ FS143_46 ((PC true b P) 80 (2 + (v143_45 - ((v143_45 / 16) * 16))).toNatClampNeg) 0 = 0 from hc)
                unfold b_Un_readScanLayer_226
                refine ⟨(show ¬ ((73 : Nat) = NU) from by decide +kernel), ?_⟩
                refine ⟨(show c_cl UL 73 = 10 from cl_73), ?_⟩
                have e70 : (FS143_46 73 0).toInt = (F 73 0).toInt := (congrArg Int32.toInt ((g49.1 73 0 rfl rfl).trans (g6.1 73 0 rfl rfl))).trans rfl
                have e71 : (FS143_46 105 2).toInt = (F 105 2).toInt := (congrArg Int32.toInt ((g49.1 105 2 rfl rfl).trans (g6.1 105 2 rfl rfl))).trans rfl
                have g74 := agc_tr (agc_refl (fs := [6001]) (rs := [113]) (F := F)) g6 (by decide +kernel) (by decide +kernel)
                have g73 := agc_r (u := 113) (w := va_cpy (FS4_3 78) (FS4_3 113) (64 * (FS4_3 102 x3_12.toNatClampNeg)).toNatClampNeg (64 * x3_12).toNatClampNeg (64 : Int32).toNatClampNeg) g74 rfl (by decide +kernel)
                have g72 := agc_tr g73 g49 (by decide +kernel) (by decide +kernel)
                refine h_Sc_addLayer_u73_a1 b37 (B_w (show B 0 1 (v143_45 / 16) from B_div2 b55 cqb_16_16_16 (by decide +kernel) (by decide +kernel) (by decide +kernel) (by decide +kernel)) (by decide +kernel) (by decide +kernel)) (B_w (B_add cqb_2_2_2 b57 (by decide +kernel) (by decide +kernel)) (by decide +kernel) (by decide +kernel)) hI48 (qf_eq ((g49.2 74 rfl rfl).trans (g6.2 74 rfl rfl)) (qf_le (b' := (FS143_46 73 0).toInt) (lo' := 0) (hi' := (FS143_46 105 2).toInt - 1) pre2 (by omega) (by omega) (by omega))) (by show x3_12.toInt < (FS143_46 105 2).toInt; first | with_reducible assumption | omega) (LSQ_ag (F := F) (G := FS143_46) pre1 hI g72 (by decide +kernel) rfl rfl) ((show CV FS143_46 from (CV_ag (F := F) (G := FS143_46) pre0 g72 (by decide +kernel) (by decide +kernel))) (v143_45 / 16) (B_w (show B 0 1 (v143_45 / 16) from B_div2 b55 cqb_16_16_16 (by decide +kernel) (by decide +kernel) (by decide +kernel) (by decide +kernel)) (by decide +kernel) (by decide +kernel)) tl68) ((show CV FS143_46 from (CV_ag (F := F) (G := FS143_46) pre0 g72 (by decide +kernel) (by decide +kernel))) (2 + (v143_45 - ((v143_45 / 16) * 16))) (B_w (B_add cqb_2_2_2 b57 (by decide +kernel) (by decide +kernel)) (by decide +kernel) (by decide +kernel)) tl69) (fun {FS243_75} {LFS243_75} hI76 g77 r78 r79 => ?_)
                have r80 : qf (FS243_75 74) 0 (FS243_75 73 0).toInt 0 ((FS243_75 105 2).toInt - 1) := r78
                clear r78
                have q81 : (0) ≤ (FS243_75 73 0).toInt ∧ (FS243_75 73 0).toInt ≤ (3) := (show B 0 3 (FS243_75 73 0) from hI76 73 0)
                have r82 : LSQ FS243_75 := r79
                clear r79
                refine ⟨(show ¬ ((103 : Nat) = NU) from by decide +kernel), ?_⟩
                refine ⟨(show c_cl UL 103 = 903 from cl_103), ?_⟩
                refine ⟨(show vp_in (x3_12) 3 from vp_B b37 (by decide +kernel) (by decide +kernel)), ?_⟩
                have hI83 := IMc_u (u := 103) (i := x3_12.toNatClampNeg) (v := vp_nar .boolean 1) hI76 (show B 0 1 (vp_nar .boolean 1) from (B_w (show B 1 1 (vp_nar .boolean 1) from ⟨by decide +kernel, by decide +kernel⟩) (by decide +kernel) (by decide +kernel)))
                have g88 := agc_tr (agc_refl (fs := [6001, 7300]) (rs := [74, 75, 76, 103, 113]) (F := F)) g6 (by decide +kernel) (by decide +kernel)
                have g87 := agc_r (u := 113) (w := va_cpy (FS4_3 78) (FS4_3 113) (64 * (FS4_3 102 x3_12.toNatClampNeg)).toNatClampNeg (64 * x3_12).toNatClampNeg (64 : Int32).toNatClampNeg) g88 rfl (by decide +kernel)
                have g86 := agc_tr g87 g49 (by decide +kernel) (by decide +kernel)
                have g85 := agc_tr g86 g77 (by decide +kernel) (by decide +kernel)
                have g84 := agc_r (u := 103) (w := upd (FS243_75 103) x3_12.toNatClampNeg (vp_nar .boolean 1)) g85 rfl (by decide +kernel)
                have g93 := agc_tr (agc_refl (fs := [6001, 7300]) (rs := [74, 75, 76, 103, 113]) (F := F)) g6 (by decide +kernel) (by decide +kernel)
                have g92 := agc_r (u := 113) (w := va_cpy (FS4_3 78) (FS4_3 113) (64 * (FS4_3 102 x3_12.toNatClampNeg)).toNatClampNeg (64 * x3_12).toNatClampNeg (64 : Int32).toNatClampNeg) g93 rfl (by decide +kernel)
                have g91 := agc_tr g92 g49 (by decide +kernel) (by decide +kernel)
                have g90 := agc_tr g91 g77 (by decide +kernel) (by decide +kernel)
                have g89 := agc_r (u := 103) (w := upd (FS243_75 103) x3_12.toNatClampNeg (vp_nar .boolean 1)) g90 rfl (by decide +kernel)
                have g94 := agc_r (u := 103) (w := upd (FS243_75 103) x3_12.toNatClampNeg (vp_nar .boolean 1)) (agc_refl (fs := []) (rs := [103]) (F := FS243_75)) rfl (by decide +kernel)
                have e95 : (FS243_75 105 2).toInt = (F 105 2).toInt := (congrArg Int32.toInt (((g77.1 105 2 rfl rfl).trans (g49.1 105 2 rfl rfl)).trans (g6.1 105 2 rfl rfl))).trans rfl
                exact hK b37 hI83 g84 (CV_ag (F := F) (G := va_up FS243_75 103 (upd (FS243_75 103) x3_12.toNatClampNeg (vp_nar .boolean 1))) pre0 g89 (by decide +kernel) (by decide +kernel)) (LSQ_ag (F := FS243_75) (G := va_up FS243_75 103 (upd (FS243_75 103) x3_12.toNatClampNeg (vp_nar .boolean 1))) r82 hI76 g94 (by decide +kernel) rfl rfl) (qf_le (b' := (FS243_75 73 0).toInt) (lo' := 0) (hi' := (FS243_75 105 2).toInt - 1) r80 (by omega) (by omega) (by omega))
              · unfold b_Un_readScanLayer_208
                refine ⟨(show ¬ ((60 : Nat) = NU) from by decide +kernel), ?_⟩
                refine ⟨(show ¬ ((60 : Nat) = NU) from by decide +kernel), ?_⟩
                refine ⟨(show c_cl UL 60 = 8 from cl_60), ?_⟩
                have g101 := agc_tr (agc_refl (fs := [6001, 6006, 6007]) (rs := [113]) (F := F)) g6 (by decide +kernel) (by decide +kernel)
                have g100 := agc_r (u := 113) (w := va_cpy (FS4_3 78) (FS4_3 113) (64 * (FS4_3 102 x3_12.toNatClampNeg)).toNatClampNeg (64 * x3_12).toNatClampNeg (64 : Int32).toNatClampNeg) g101 rfl (by decide +kernel)
                have g99 := agc_tr g100 g49 (by decide +kernel) (by decide +kernel)
                exact h_Re_fail_u60 (B_w cqb_6_6_6 (by decide +kernel) (by decide +kernel)) hI48 (fun hI g => hT13 hI (agc_tr g99 g (by decide +kernel) (by decide +kernel)))
          · have hq102 := (nle_lt hc)
            have b103 : B 2 15 (v143_45 - ((v143_45 / 16) * 16)) := B_w (B_ltR cqb_1_1_1 (B_rem b55 cqb_16_16_16 (by decide +kernel) (by decide +kernel)) hq102) (by decide +kernel) (by decide +kernel)
            have e104 : (v143_45 - ((v143_45 / 16) * 16)).toInt = ((v143_45).toInt % 16) := (t_rem b55 cqb_16_16_16 (by decide +kernel) (by decide +kernel)).trans (by rw [cqn_16])
            have q105 : (2) ≤ (v143_45 - ((v143_45 / 16) * 16)).toInt ∧ (v143_45 - ((v143_45 / 16) * 16)).toInt ≤ (15) := (show B 2 15 (v143_45 - ((v143_45 / 16) * 16)) from B_w b103 (by decide +kernel) (by decide +kernel))
            have i106 : (1 : Int32).toInt < (v143_45 - ((v143_45 / 16) * 16)).toInt := i_lt hq102
            have n107 : (1 : Int32).toInt = 1 := cqn_1
            refine ⟨(show ¬ ((60 : Nat) = NU) from by decide +kernel), ?_⟩
            refine ⟨(show ¬ ((60 : Nat) = NU) from by decide +kernel), ?_⟩
            refine ⟨(show c_cl UL 60 = 8 from cl_60), ?_⟩
            have g113 := agc_tr (agc_refl (fs := [6001, 6006, 6007]) (rs := [113]) (F := F)) g6 (by decide +kernel) (by decide +kernel)
            have g112 := agc_r (u := 113) (w := va_cpy (FS4_3 78) (FS4_3 113) (64 * (FS4_3 102 x3_12.toNatClampNeg)).toNatClampNeg (64 * x3_12).toNatClampNeg (64 : Int32).toNatClampNeg) g113 rfl (by decide +kernel)
            have g111 := agc_tr g112 g49 (by decide +kernel) (by decide +kernel)
            exact h_Re_fail_u60 (B_w cqb_5_5_5 (by decide +kernel) (by decide +kernel)) hI48 (fun hI g => hT13 hI (agc_tr g111 g (by decide +kernel) (by decide +kernel)))
        · have b114 : B 0 0 (F 79 (FS4_3 102 x3_12.toNatClampNeg).toNatClampNeg) := B_w (B_eq (Eq.symm (congrFun (g6.2 79 rfl rfl) (FS4_3 102 x3_12.toNatClampNeg).toNatClampNeg)) (B_eq hc cqb_0_0_0)) (by decide +kernel) (by decide +kernel)
          have q115 : (0) ≤ (F 79 (FS4_3 102 x3_12.toNatClampNeg).toNatClampNeg).toInt ∧ (F 79 (FS4_3 102 x3_12.toNatClampNeg).toNatClampNeg).toInt ≤ (0) := (show B 0 0 (F 79 (FS4_3 102 x3_12.toNatClampNeg).toNatClampNeg) from B_w b114 (by decide +kernel) (by decide +kernel))
          have e116 : (FS4_3 79 (FS4_3 102 x3_12.toNatClampNeg).toNatClampNeg).toInt = (F 79 (FS4_3 102 x3_12.toNatClampNeg).toNatClampNeg).toInt := (congrArg Int32.toInt (congrFun (g6.2 79 rfl rfl) (FS4_3 102 x3_12.toNatClampNeg).toNatClampNeg)).trans rfl
          have i117 : (FS4_3 79 (FS4_3 102 x3_12.toNatClampNeg).toNatClampNeg).toInt = (0 : Int32).toInt := congrArg Int32.toInt hc
          have n118 : (0 : Int32).toInt = 0 := cqn_0
          refine ⟨(show ¬ ((60 : Nat) = NU) from by decide +kernel), ?_⟩
          refine ⟨(show ¬ ((60 : Nat) = NU) from by decide +kernel), ?_⟩
          refine ⟨(show c_cl UL 60 = 8 from cl_60), ?_⟩
          have g122 := agc_tr (agc_refl (fs := [6001, 6006, 6007]) (rs := [113]) (F := F)) g6 (by decide +kernel) (by decide +kernel)
          exact h_Re_fail_u60 (B_w cqb_6_6_6 (by decide +kernel) (by decide +kernel)) hI5 (fun hI g => hT13 hI (agc_tr g122 g (by decide +kernel) (by decide +kernel)))
      · have b123 : B 1 1 (F 103 x3_12.toNatClampNeg) := B_w (B_eq (Eq.symm (congrFun (g6.2 103 rfl rfl) x3_12.toNatClampNeg)) (B_n0 (B_eq (congrFun (g6.2 103 rfl rfl) x3_12.toNatClampNeg) (show B 0 1 (F 103 x3_12.toNatClampNeg) from hI 103 x3_12.toNatClampNeg)) hc)) (by decide +kernel) (by decide +kernel)
        unfold b_Un_readScanLayer_59
        refine ⟨(show ¬ ((60 : Nat) = NU) from by decide +kernel), ?_⟩
        refine ⟨(show ¬ ((60 : Nat) = NU) from by decide +kernel), ?_⟩
        refine ⟨(show c_cl UL 60 = 8 from cl_60), ?_⟩
        have g127 := agc_tr (agc_refl (fs := [6001, 6006, 6007]) (rs := [113]) (F := F)) g6 (by decide +kernel) (by decide +kernel)
        exact h_Re_fail_u60 (B_w cqb_5_5_5 (by decide +kernel) (by decide +kernel)) hI5 (fun hI g => hT13 hI (agc_tr g127 g (by decide +kernel) (by decide +kernel)))
  · have hq128 := (nle_lt hc)
    have b129 : B 0 2 (x4_13) := B_w (B_ltL b16 (B_eq (g6.1 105 2 rfl rfl) (show B 1 3 (F 105 2) from hI 105 2)) hq128) (by decide +kernel) (by decide +kernel)
    have q130 : (0) ≤ (x4_13).toInt ∧ (x4_13).toInt ≤ (2) := (show B 0 2 (x4_13) from B_w b129 (by decide +kernel) (by decide +kernel))
    have i131 : (x4_13).toInt < (FS4_3 105 2).toInt := i_lt hq128
    refine ⟨(show ¬ ((101 : Nat) = NU) from by decide +kernel), ?_⟩
    refine ⟨(show c_cl UL 101 = 902 from cl_101), ?_⟩
    refine ⟨(show vp_in (x4_13) 3 from vp_B b129 (by decide +kernel) (by decide +kernel)), ?_⟩
    refine ⟨fun hc => ?_, fun hc => ?_⟩
    · have q132 : (0) ≤ (F 101 x4_13.toNatClampNeg).toInt ∧ (F 101 x4_13.toNatClampNeg).toInt ≤ (255) := (show B 0 255 (F 101 x4_13.toNatClampNeg) from hI 101 x4_13.toNatClampNeg)
      have e133 : (FS4_3 101 x4_13.toNatClampNeg).toInt = (F 101 x4_13.toNatClampNeg).toInt := (congrArg Int32.toInt (congrFun (g6.2 101 rfl rfl) x4_13.toNatClampNeg)).trans rfl
      have q134 : (0) ≤ (v4_2).toInt ∧ (v4_2).toInt ≤ (255) := (show B 0 255 (v4_2) from B_w b4 (by decide +kernel) (by decide +kernel))
      have i135 : (FS4_3 101 x4_13.toNatClampNeg).toInt ≠ (v4_2).toInt := i_ne hc
      unfold b_Un_readScanLayer_39
      have e136 : (x4_13 + 1).toInt = ((x4_13).toInt + 1) := (t_add b129 cqb_1_1_1 (by decide +kernel) (by decide +kernel)).trans (by rw [cqn_1])
      have q137 : (1) ≤ (x4_13 + 1).toInt ∧ (x4_13 + 1).toInt ≤ (3) := (show B 1 3 (x4_13 + 1) from B_w (B_add b129 cqb_1_1_1 (by decide +kernel) (by decide +kernel)) (by decide +kernel) (by decide +kernel))
      exact hR13 ⟨rfl, rfl, b15, (B_w (B_add b129 cqb_1_1_1 (by decide +kernel) (by decide +kernel)) (by decide +kernel) (by decide +kernel)), rfl, (by show x3_12.toInt < (FS4_3 105 2).toInt; first | with_reducible assumption | omega)⟩ (by show (3 - (x4_13 + 1).toInt).toNat < (3 - x4_13.toInt).toNat; omega)
    · have q138 : (0) ≤ (F 101 x4_13.toNatClampNeg).toInt ∧ (F 101 x4_13.toNatClampNeg).toInt ≤ (255) := (show B 0 255 (F 101 x4_13.toNatClampNeg) from hI 101 x4_13.toNatClampNeg)
      have e139 : (FS4_3 101 x4_13.toNatClampNeg).toInt = (F 101 x4_13.toNatClampNeg).toInt := (congrArg Int32.toInt (congrFun (g6.2 101 rfl rfl) x4_13.toNatClampNeg)).trans rfl
      have q140 : (0) ≤ (v4_2).toInt ∧ (v4_2).toInt ≤ (255) := (show B 0 255 (v4_2) from B_w b4 (by decide +kernel) (by decide +kernel))
      have i141 : (FS4_3 101 x4_13.toNatClampNeg).toInt = (v4_2).toInt := congrArg Int32.toInt hc
      unfold b_Un_readScanLayer_39
      have e142 : (x4_13 + 1).toInt = ((x4_13).toInt + 1) := (t_add b129 cqb_1_1_1 (by decide +kernel) (by decide +kernel)).trans (by rw [cqn_1])
      have q143 : (1) ≤ (x4_13 + 1).toInt ∧ (x4_13 + 1).toInt ≤ (3) := (show B 1 3 (x4_13 + 1) from B_w (B_add b129 cqb_1_1_1 (by decide +kernel) (by decide +kernel)) (by decide +kernel) (by decide +kernel))
      exact hR13 ⟨rfl, rfl, (B_w b129 (by decide +kernel) (by decide +kernel)), (B_w (B_add b129 cqb_1_1_1 (by decide +kernel) (by decide +kernel)) (by decide +kernel) (by decide +kernel)), rfl, (by show x4_13.toInt < (FS4_3 105 2).toInt; first | with_reducible assumption | omega)⟩ (by show (3 - (x4_13 + 1).toInt).toNat < (3 - x4_13.toInt).toNat; omega)
set_option maxRecDepth 20000 in
set_option maxHeartbeats 4000000 in
theorem h_Un_readScan_u59_a1 {b : Bool} {P : Nat → Nat → Nat} {F : cF} {L : cL} {K : cs → Prop} {T : Nat → cs → Prop} (hI : IMc F) (pre0 : CV F) (pre1 : qf (F 106) 0 (F 105 2).toInt 1 (F 105 5).toInt) (pre2 : qf (F 107) 0 (F 105 2).toInt 1 (F 105 6).toInt) (pre3 : ((F 105 5).toInt = 1) ∨ ((F 105 7).toInt ≤ 4)) (pre4 : ((F 105 6).toInt = 1) ∨ ((F 105 8).toInt ≤ 4)) (hK : ∀ {Z : cF} {LZ : cL}, IMc Z → agc [6001, 7300, 7304, 7305, 7306] [74, 75, 76, 77, 103, 113, 999] F Z → (CV Z) → (ZQ Z) → (UPs 73 Z) → K (Z, LZ, PC true b P)) (hT13 : ∀ {Z : cF} {LZ : cL}, IMc Z → agc [6001, 6006, 6007, 7300] [74, 75, 76, 103, 113, 999] F Z → T 13 (Z, LZ, PC true b P)) : p_Un_readScan UL 59 (F, L, PC true b P) K T := by
  have q1 : (1) ≤ (F 105 2).toInt ∧ (F 105 2).toInt ≤ (3) := (show B 1 3 (F 105 2) from hI 105 2)
  have q2 : (1) ≤ (F 105 5).toInt ∧ (F 105 5).toInt ≤ (2) := (show B 1 2 (F 105 5) from hI 105 5)
  have q3 : (1) ≤ (F 105 7).toInt ∧ (F 105 7).toInt ≤ (8) := (show B 1 8 (F 105 7) from hI 105 7)
  have q4 : (1) ≤ (F 105 6).toInt ∧ (F 105 6).toInt ≤ (2) := (show B 1 2 (F 105 6) from hI 105 6)
  have q5 : (1) ≤ (F 105 8).toInt ∧ (F 105 8).toInt ≤ (8) := (show B 1 8 (F 105 8) from hI 105 8)
  unfold p_Un_readScan
  refine ⟨(show ¬ ((60 : Nat) = NU) from by decide +kernel), ?_⟩
  refine ⟨(show c_cl UL 60 = 8 from cl_60), ?_⟩
  refine ⟨(show ¬ ((105 : Nat) = NU) from by decide +kernel), ?_⟩
  refine ⟨(show c_cl UL 105 = 7 from cl_105), ?_⟩
  refine h_Un_readWithin_u59 hI (fun {v17_6} {FS17_7} {LFS17_7} b8 hI9 g10 r11 => ?_) (fun hI g => hT13 hI (agc_tr (agc_refl (fs := [6001, 6006, 6007, 7300]) (rs := [74, 75, 76, 103, 113, 999]) (F := F)) g (by decide +kernel) (by decide +kernel)))
  have r12 : (1 ≤ v17_6.toInt) ∧ (v17_6.toInt ≤ (F 105 2).toInt) := r11
  clear r11
  have q13 : (0) ≤ (v17_6).toInt ∧ (v17_6).toInt ≤ (255) := (show B 0 255 (v17_6) from B_w b8 (by decide +kernel) (by decide +kernel))
  have b14 : B 1 3 v17_6 := ⟨by omega, by omega⟩
  refine ⟨fun hc => ?_, fun hc => ?_⟩
  · have q15 : (0) ≤ (F 59 13).toInt ∧ (F 59 13).toInt ≤ (65535) := (show B 0 65535 (F 59 13) from hI 59 13)
    have e16 : (FS17_7 59 13).toInt = (F 59 13).toInt := (congrArg Int32.toInt (g10.1 59 13 rfl rfl)).trans rfl
    have e17 : (2 * v17_6).toInt = (2 * (v17_6).toInt) := (t_mul cqb_2_2_2 b14 (by decide +kernel) (by decide +kernel) (by decide +kernel)).trans (by rw [cqn_2])
    have q18 : (2) ≤ (2 * v17_6).toInt ∧ (2 * v17_6).toInt ≤ (6) := (show B 2 6 (2 * v17_6) from B_w (B_mul cqb_2_2_2 b14 (by decide +kernel) (by decide +kernel) (by decide +kernel)) (by decide +kernel) (by decide +kernel))
    have e19 : (6 + (2 * v17_6)).toInt = (6 + (2 * (v17_6).toInt)) := (t_add cqb_6_6_6 (B_mul cqb_2_2_2 b14 (by decide +kernel) (by decide +kernel) (by decide +kernel)) (by decide +kernel) (by decide +kernel)).trans (by rw [cqn_6, e17])
    have q20 : (8) ≤ (6 + (2 * v17_6)).toInt ∧ (6 + (2 * v17_6)).toInt ≤ (12) := (show B 8 12 (6 + (2 * v17_6)) from B_w (B_add cqb_6_6_6 (B_mul cqb_2_2_2 b14 (by decide +kernel) (by decide +kernel) (by decide +kernel)) (by decide +kernel) (by decide +kernel)) (by decide +kernel) (by decide +kernel))
    have i21 : (FS17_7 59 13).toInt ≠ (6 + (2 * v17_6)).toInt := i_ne hc
    unfold b_Un_readScan_40
    have g24 := agc_tr (agc_refl (fs := [6001, 6006, 6007, 7300]) (rs := [74, 75, 76, 103, 113, 999]) (F := F)) g10 (by decide +kernel) (by decide +kernel)
    refine h_Un_wantLength_u59 (B_w cqb_0_0_0 (by decide +kernel) (by decide +kernel)) hI9 (fun r23 => ?_) (fun hI g => hT13 hI (agc_tr g24 g (by decide +kernel) (by decide +kernel)))
    exact absurd (show ((0 : Int) = 1) from r23) (by decide +kernel)
  · have b25 : B 8 12 (F 59 13) := B_w (B_eq (Eq.symm (g10.1 59 13 rfl rfl)) (B_eq hc (B_add cqb_6_6_6 (B_mul cqb_2_2_2 b14 (by decide +kernel) (by decide +kernel) (by decide +kernel)) (by decide +kernel) (by decide +kernel)))) (by decide +kernel) (by decide +kernel)
    have q26 : (8) ≤ (F 59 13).toInt ∧ (F 59 13).toInt ≤ (12) := (show B 8 12 (F 59 13) from B_w b25 (by decide +kernel) (by decide +kernel))
    have e27 : (FS17_7 59 13).toInt = (F 59 13).toInt := (congrArg Int32.toInt (g10.1 59 13 rfl rfl)).trans rfl
    have e28 : (2 * v17_6).toInt = (2 * (v17_6).toInt) := (t_mul cqb_2_2_2 b14 (by decide +kernel) (by decide +kernel) (by decide +kernel)).trans (by rw [cqn_2])
    have q29 : (2) ≤ (2 * v17_6).toInt ∧ (2 * v17_6).toInt ≤ (6) := (show B 2 6 (2 * v17_6) from B_w (B_mul cqb_2_2_2 b14 (by decide +kernel) (by decide +kernel) (by decide +kernel)) (by decide +kernel) (by decide +kernel))
    have e30 : (6 + (2 * v17_6)).toInt = (6 + (2 * (v17_6).toInt)) := (t_add cqb_6_6_6 (B_mul cqb_2_2_2 b14 (by decide +kernel) (by decide +kernel) (by decide +kernel)) (by decide +kernel) (by decide +kernel)).trans (by rw [cqn_6, e28])
    have q31 : (8) ≤ (6 + (2 * v17_6)).toInt ∧ (6 + (2 * v17_6)).toInt ≤ (12) := (show B 8 12 (6 + (2 * v17_6)) from B_w (B_add cqb_6_6_6 (B_mul cqb_2_2_2 b14 (by decide +kernel) (by decide +kernel) (by decide +kernel)) (by decide +kernel) (by decide +kernel)) (by decide +kernel) (by decide +kernel))
    have i32 : (FS17_7 59 13).toInt = (6 + (2 * v17_6)).toInt := congrArg Int32.toInt hc
    unfold b_Un_readScan_40
    have g35 := agc_tr (agc_refl (fs := [6001, 6006, 6007, 7300]) (rs := [74, 75, 76, 103, 113, 999]) (F := F)) g10 (by decide +kernel) (by decide +kernel)
    refine h_Un_wantLength_u59 (B_w cqb_1_1_1 (by decide +kernel) (by decide +kernel)) hI9 (fun r34 => ?_) (fun hI g => hT13 hI (agc_tr g35 g (by decide +kernel) (by decide +kernel)))
    have r36 : (1 : Int) = 1 := r34
    clear r34
    refine ⟨(show ¬ ((73 : Nat) = NU) from by decide +kernel), ?_⟩
    refine ⟨(show c_cl UL 73 = 10 from cl_73), ?_⟩
    have hI46 := IMc_u (u := 73) (i := 0) (v := 0) hI9 (show B 0 3 (0) from (B_w cqb_0_0_0 (by decide +kernel) (by decide +kernel)))
    have g48 := agc_tr (agc_refl (fs := [6001, 7300]) (rs := []) (F := F)) g10 (by decide +kernel) (by decide +kernel)
    have g47 := agc_f (u := 73) (k := 0) (v := 0) g48 rfl (by decide +kernel)
    refine ⟨fun yx1 yx2 yx3 yx4 yS => (F 60 1) = yx1 ∧ v17_6 = yx2 ∧ B 0 3 yx3 ∧ B 0 3 yx4 ∧ ∃ (T41 : cF) (LT41 : cL), yS = (T41, LT41, PC true b P) ∧ IMc T41 ∧ agc [6001, 7300] [74, 75, 76, 103, 113, 999] (va_up FS17_7 73 (upd (FS17_7 73) 0 0)) T41 ∧ (CV T41) ∧ (LSQ T41) ∧ (qf (T41 74) 0 (T41 73 0).toInt 0 ((T41 105 2).toInt - 1)), fun yx1 yx2 yx3 yx4 yS => (3 - yx4.toInt).toNat, ⟨rfl, rfl, (B_w cqb_0_0_0 (by decide +kernel) (by decide +kernel)), (B_w cqb_0_0_0 (by decide +kernel) (by decide +kernel)), _, _, rfl, hI46, (agc_refl (fs := [6001, 7300]) (rs := [74, 75, 76, 103, 113, 999]) (F := va_up FS17_7 73 (upd (FS17_7 73) 0 0))), (CV_ag (F := F) (G := va_up FS17_7 73 (upd (FS17_7 73) 0 0)) pre0 g47 (by decide +kernel) (by decide +kernel)), (fun i h0 h1 => absurd (show i.toInt < 0 from h1) (by omega)), (qf_0 (b := 0) (by omega))⟩, fun x1_37 x2_38 x3_39 x4_40 ST41 hIv => ?_⟩
    obtain ⟨rfl, rfl, b42, b43, T41, LT41, rfl, hI44, g45, r49, r50, r51⟩ := hIv
    suffices hs : ∀ (R56 : Int32 → Int32 → Int32 → Int32 → cs → Prop), (∀ zx1 zx2 zx3 zx4 zS, ((F 60 1) = zx1 ∧ v17_6 = zx2 ∧ B 0 3 zx3 ∧ B 0 3 zx4 ∧ ∃ (T41 : cF) (LT41 : cL), zS = (T41, LT41, PC true b P) ∧ IMc T41 ∧ agc [6001, 7300] [74, 75, 76, 103, 113, 999] (va_up FS17_7 73 (upd (FS17_7 73) 0 0)) T41 ∧ (CV T41) ∧ (LSQ T41) ∧ (qf (T41 74) 0 (T41 73 0).toInt 0 ((T41 105 2).toInt - 1))) → (3 - zx4.toInt).toNat < (3 - x4_40.toInt).toNat → R56 zx1 zx2 zx3 zx4 zS) → b_Un_readScan_56 UL 59 (F 60 1) v17_6 x3_39 x4_40 (T41, LT41, PC true b P) R56 K T from hs _ (fun _ _ _ _ _ h1 h2 => ⟨h1, h2⟩)
    intro R56 hR560
    have hR56 := fun {zx1} {zx2} {zx3} {zx4} {zS} => hR560 zx1 zx2 zx3 zx4 zS
    have q52 : (0) ≤ (T41 73 0).toInt ∧ (T41 73 0).toInt ≤ (3) := (show B 0 3 (T41 73 0) from hI44 73 0)
    unfold b_Un_readScan_56
    refine ⟨fun hc => ?_, fun hc => ?_⟩
    · have hq53 := hc
      have b54 : B 1 3 (x4_40) := B_w (B_leR b14 b43 hq53) (by decide +kernel) (by decide +kernel)
      have q55 : (1) ≤ (x4_40).toInt ∧ (x4_40).toInt ≤ (3) := (show B 1 3 (x4_40) from B_w b54 (by decide +kernel) (by decide +kernel))
      have i56 : (v17_6).toInt ≤ (x4_40).toInt := i_le hq53
      have g65 := agc_tr (agc_refl (fs := [6001, 6006, 6007, 7300]) (rs := [74, 75, 76, 103, 113, 999]) (F := F)) g10 (by decide +kernel) (by decide +kernel)
      have g64 := agc_f (u := 73) (k := 0) (v := 0) g65 rfl (by decide +kernel)
      have g63 := agc_tr g64 g45 (by decide +kernel) (by decide +kernel)
      refine h_Un_readWithin_u59 hI44 (fun {v79_57} {FS79_58} {LFS79_58} b59 hI60 g61 r62 => ?_) (fun hI g => hT13 hI (agc_tr g63 g (by decide +kernel) (by decide +kernel)))
      have r66 : (0 ≤ v79_57.toInt) ∧ (v79_57.toInt ≤ 0) := r62
      clear r62
      have q67 : (0) ≤ (v79_57).toInt ∧ (v79_57).toInt ≤ (255) := (show B 0 255 (v79_57) from B_w b59 (by decide +kernel) (by decide +kernel))
      have b68 : B 0 0 v79_57 := ⟨by omega, by omega⟩
      have g78 := agc_tr (agc_refl (fs := [6001, 6006, 6007, 7300]) (rs := [74, 75, 76, 103, 113, 999]) (F := F)) g10 (by decide +kernel) (by decide +kernel)
      have g77 := agc_f (u := 73) (k := 0) (v := 0) g78 rfl (by decide +kernel)
      have g76 := agc_tr g77 g45 (by decide +kernel) (by decide +kernel)
      have g75 := agc_tr g76 g61 (by decide +kernel) (by decide +kernel)
      refine h_Un_readWithin_u59 hI60 (fun {v88_69} {FS88_70} {LFS88_70} b71 hI72 g73 r74 => ?_) (fun hI g => hT13 hI (agc_tr g75 g (by decide +kernel) (by decide +kernel)))
      have r79 : (63 ≤ v88_69.toInt) ∧ (v88_69.toInt ≤ 63) := r74
      clear r74
      have q80 : (0) ≤ (v88_69).toInt ∧ (v88_69).toInt ≤ (255) := (show B 0 255 (v88_69) from B_w b71 (by decide +kernel) (by decide +kernel))
      have b81 : B 63 63 v88_69 := ⟨by omega, by omega⟩
      have g92 := agc_tr (agc_refl (fs := [6001, 6006, 6007, 7300]) (rs := [74, 75, 76, 103, 113, 999]) (F := F)) g10 (by decide +kernel) (by decide +kernel)
      have g91 := agc_f (u := 73) (k := 0) (v := 0) g92 rfl (by decide +kernel)
      have g90 := agc_tr g91 g45 (by decide +kernel) (by decide +kernel)
      have g89 := agc_tr g90 g61 (by decide +kernel) (by decide +kernel)
      have g88 := agc_tr g89 g73 (by decide +kernel) (by decide +kernel)
      refine h_Un_readWithin_u59 hI72 (fun {v95_82} {FS95_83} {LFS95_83} b84 hI85 g86 r87 => ?_) (fun hI g => hT13 hI (agc_tr g88 g (by decide +kernel) (by decide +kernel)))
      have r93 : (0 ≤ v95_82.toInt) ∧ (v95_82.toInt ≤ 0) := r87
      clear r87
      have q94 : (0) ≤ (v95_82).toInt ∧ (v95_82).toInt ≤ (255) := (show B 0 255 (v95_82) from B_w b84 (by decide +kernel) (by decide +kernel))
      have b95 : B 0 0 v95_82 := ⟨by omega, by omega⟩
      refine ⟨fun hc => ?_, fun hc => ?_⟩
      · have hq96 := hc
        have b97 : B 1 1 (v17_6) := B_w (B_leL b14 cqb_1_1_1 hq96) (by decide +kernel) (by decide +kernel)
        have q98 : (1) ≤ (v17_6).toInt ∧ (v17_6).toInt ≤ (1) := (show B 1 1 (v17_6) from B_w b97 (by decide +kernel) (by decide +kernel))
        unfold b_Un_readScan_130
        refine ⟨(show ¬ ((73 : Nat) = NU) from by decide +kernel), ?_⟩
        refine ⟨(show ¬ ((105 : Nat) = NU) from by decide +kernel), ?_⟩
        refine ⟨(show c_cl UL 73 = 10 from cl_73), ?_⟩
        have e99 : (FS95_83 73 0).toInt = (T41 73 0).toInt := (congrArg Int32.toInt (((g86.1 73 0 rfl rfl).trans (g73.1 73 0 rfl rfl)).trans (g61.1 73 0 rfl rfl))).trans rfl
        have e100 : (FS95_83 105 2).toInt = (F 105 2).toInt := (congrArg Int32.toInt (((((g86.1 105 2 rfl rfl).trans (g73.1 105 2 rfl rfl)).trans (g61.1 105 2 rfl rfl)).trans (g45.1 105 2 rfl rfl)).trans (g10.1 105 2 rfl rfl))).trans rfl
        have e101 : (T41 105 2).toInt = (F 105 2).toInt := (congrArg Int32.toInt ((g45.1 105 2 rfl rfl).trans (g10.1 105 2 rfl rfl))).trans rfl
        have e102 : (FS95_83 105 5).toInt = (F 105 5).toInt := (congrArg Int32.toInt (((((g86.1 105 5 rfl rfl).trans (g73.1 105 5 rfl rfl)).trans (g61.1 105 5 rfl rfl)).trans (g45.1 105 5 rfl rfl)).trans (g10.1 105 5 rfl rfl))).trans rfl
        have e103 : (FS95_83 105 6).toInt = (F 105 6).toInt := (congrArg Int32.toInt (((((g86.1 105 6 rfl rfl).trans (g73.1 105 6 rfl rfl)).trans (g61.1 105 6 rfl rfl)).trans (g45.1 105 6 rfl rfl)).trans (g10.1 105 6 rfl rfl))).trans rfl
        have e104 : (FS95_83 105 7).toInt = (F 105 7).toInt := (congrArg Int32.toInt (((((g86.1 105 7 rfl rfl).trans (g73.1 105 7 rfl rfl)).trans (g61.1 105 7 rfl rfl)).trans (g45.1 105 7 rfl rfl)).trans (g10.1 105 7 rfl rfl))).trans rfl
        have e105 : (FS95_83 105 8).toInt = (F 105 8).toInt := (congrArg Int32.toInt (((((g86.1 105 8 rfl rfl).trans (g73.1 105 8 rfl rfl)).trans (g61.1 105 8 rfl rfl)).trans (g45.1 105 8 rfl rfl)).trans (g10.1 105 8 rfl rfl))).trans rfl
        have g108 := agc_tr (agc_refl (fs := [6001]) (rs := []) (F := T41)) g61 (by decide +kernel) (by decide +kernel)
        have g107 := agc_tr g108 g73 (by decide +kernel) (by decide +kernel)
        have g106 := agc_tr g107 g86 (by decide +kernel) (by decide +kernel)
        refine h_Sc_arrange_u73_x1105_a1 hI85 (qf_eq (((g86.2 74 rfl rfl).trans (g73.2 74 rfl rfl)).trans (g61.2 74 rfl rfl)) (qf_le (b' := (FS95_83 73 0).toInt) (lo' := 0) (hi' := (FS95_83 105 2).toInt - 1) r51 (by omega) (by omega) (by omega))) (qf_eq (((((g86.2 106 rfl rfl).trans (g73.2 106 rfl rfl)).trans (g61.2 106 rfl rfl)).trans (g45.2 106 rfl rfl)).trans (g10.2 106 rfl rfl)) (qf_le (b' := (FS95_83 105 2).toInt) (lo' := 1) (hi' := (FS95_83 105 5).toInt) pre1 (by omega) (by omega) (by omega))) (qf_eq (((((g86.2 107 rfl rfl).trans (g73.2 107 rfl rfl)).trans (g61.2 107 rfl rfl)).trans (g45.2 107 rfl rfl)).trans (g10.2 107 rfl rfl)) (qf_le (b' := (FS95_83 105 2).toInt) (lo' := 1) (hi' := (FS95_83 105 6).toInt) pre2 (by omega) (by omega) (by omega))) (by show ((FS95_83 105 5).toInt = 1) ∨ ((FS95_83 105 7).toInt ≤ 4); first | with_reducible assumption | omega) (by show ((FS95_83 105 6).toInt = 1) ∨ ((FS95_83 105 8).toInt ≤ 4); first | with_reducible assumption | omega) (LSQ_ag (F := T41) (G := FS95_83) r50 hI44 g106 (by decide +kernel) rfl rfl) (fun {FS138_109} {LFS138_109} hI110 g111 r112 r113 r114 => ?_)
        have r115 : qf (FS138_109 77) 0 (FS138_109 73 6).toInt 0 ((64 * (FS138_109 105 2).toInt) - 1) := r112
        clear r112
        have q116 : (0) ≤ (FS138_109 73 6).toInt ∧ (FS138_109 73 6).toInt ≤ (192) := (show B 0 192 (FS138_109 73 6) from hI110 73 6)
        have r117 : UPs 73 FS138_109 := r113
        clear r113
        have r118 : ZQ FS138_109 := r114
        clear r114
        have g125 := agc_tr (agc_refl (fs := [6001, 7300, 7304, 7305, 7306]) (rs := [74, 75, 76, 77, 103, 113, 999]) (F := F)) g10 (by decide +kernel) (by decide +kernel)
        have g124 := agc_f (u := 73) (k := 0) (v := 0) g125 rfl (by decide +kernel)
        have g123 := agc_tr g124 g45 (by decide +kernel) (by decide +kernel)
        have g122 := agc_tr g123 g61 (by decide +kernel) (by decide +kernel)
        have g121 := agc_tr g122 g73 (by decide +kernel) (by decide +kernel)
        have g120 := agc_tr g121 g86 (by decide +kernel) (by decide +kernel)
        have g119 := agc_tr g120 g111 (by decide +kernel) (by decide +kernel)
        have g129 := agc_tr (agc_refl (fs := [6001, 7304, 7305, 7306]) (rs := [77, 999]) (F := T41)) g61 (by decide +kernel) (by decide +kernel)
        have g128 := agc_tr g129 g73 (by decide +kernel) (by decide +kernel)
        have g127 := agc_tr g128 g86 (by decide +kernel) (by decide +kernel)
        have g126 := agc_tr g127 g111 (by decide +kernel) (by decide +kernel)
        exact hK hI110 g119 (CV_ag (F := T41) (G := FS138_109) r49 g126 (by decide +kernel) (by decide +kernel)) r118 (UPs_tr (F := FS138_109) (G := FS138_109) r117 rfl rfl rfl)
      · have hq130 := (nle_lt hc)
        have b131 : B 2 3 (v17_6) := B_w (B_ltR cqb_1_1_1 b14 hq130) (by decide +kernel) (by decide +kernel)
        have q132 : (2) ≤ (v17_6).toInt ∧ (v17_6).toInt ≤ (3) := (show B 2 3 (v17_6) from B_w b131 (by decide +kernel) (by decide +kernel))
        refine ⟨(show ¬ ((73 : Nat) = NU) from by decide +kernel), ?_⟩
        refine ⟨(show ¬ ((105 : Nat) = NU) from by decide +kernel), ?_⟩
        refine ⟨(show c_cl UL 73 = 10 from cl_73), ?_⟩
        refine h_Sc_blocksTogether_u73_x1105 hI85 (fun {v112_133} b135 => ?_)
        refine ⟨fun hc => ?_, fun hc => ?_⟩
        · have hq136 := hc
          have b137 : B 0 10 (v112_133) := B_w (B_leL b135 cqb_10_10_10 hq136) (by decide +kernel) (by decide +kernel)
          unfold b_Un_readScan_130
          refine ⟨(show ¬ ((73 : Nat) = NU) from by decide +kernel), ?_⟩
          refine ⟨(show ¬ ((105 : Nat) = NU) from by decide +kernel), ?_⟩
          refine ⟨(show c_cl UL 73 = 10 from cl_73), ?_⟩
          have e138 : (FS95_83 73 0).toInt = (T41 73 0).toInt := (congrArg Int32.toInt (((g86.1 73 0 rfl rfl).trans (g73.1 73 0 rfl rfl)).trans (g61.1 73 0 rfl rfl))).trans rfl
          have e139 : (FS95_83 105 2).toInt = (F 105 2).toInt := (congrArg Int32.toInt (((((g86.1 105 2 rfl rfl).trans (g73.1 105 2 rfl rfl)).trans (g61.1 105 2 rfl rfl)).trans (g45.1 105 2 rfl rfl)).trans (g10.1 105 2 rfl rfl))).trans rfl
          have e140 : (T41 105 2).toInt = (F 105 2).toInt := (congrArg Int32.toInt ((g45.1 105 2 rfl rfl).trans (g10.1 105 2 rfl rfl))).trans rfl
          have e141 : (FS95_83 105 5).toInt = (F 105 5).toInt := (congrArg Int32.toInt (((((g86.1 105 5 rfl rfl).trans (g73.1 105 5 rfl rfl)).trans (g61.1 105 5 rfl rfl)).trans (g45.1 105 5 rfl rfl)).trans (g10.1 105 5 rfl rfl))).trans rfl
          have e142 : (FS95_83 105 6).toInt = (F 105 6).toInt := (congrArg Int32.toInt (((((g86.1 105 6 rfl rfl).trans (g73.1 105 6 rfl rfl)).trans (g61.1 105 6 rfl rfl)).trans (g45.1 105 6 rfl rfl)).trans (g10.1 105 6 rfl rfl))).trans rfl
          have e143 : (FS95_83 105 7).toInt = (F 105 7).toInt := (congrArg Int32.toInt (((((g86.1 105 7 rfl rfl).trans (g73.1 105 7 rfl rfl)).trans (g61.1 105 7 rfl rfl)).trans (g45.1 105 7 rfl rfl)).trans (g10.1 105 7 rfl rfl))).trans rfl
          have e144 : (FS95_83 105 8).toInt = (F 105 8).toInt := (congrArg Int32.toInt (((((g86.1 105 8 rfl rfl).trans (g73.1 105 8 rfl rfl)).trans (g61.1 105 8 rfl rfl)).trans (g45.1 105 8 rfl rfl)).trans (g10.1 105 8 rfl rfl))).trans rfl
          have g147 := agc_tr (agc_refl (fs := [6001]) (rs := []) (F := T41)) g61 (by decide +kernel) (by decide +kernel)
          have g146 := agc_tr g147 g73 (by decide +kernel) (by decide +kernel)
          have g145 := agc_tr g146 g86 (by decide +kernel) (by decide +kernel)
          refine h_Sc_arrange_u73_x1105_a1 hI85 (qf_eq (((g86.2 74 rfl rfl).trans (g73.2 74 rfl rfl)).trans (g61.2 74 rfl rfl)) (qf_le (b' := (FS95_83 73 0).toInt) (lo' := 0) (hi' := (FS95_83 105 2).toInt - 1) r51 (by omega) (by omega) (by omega))) (qf_eq (((((g86.2 106 rfl rfl).trans (g73.2 106 rfl rfl)).trans (g61.2 106 rfl rfl)).trans (g45.2 106 rfl rfl)).trans (g10.2 106 rfl rfl)) (qf_le (b' := (FS95_83 105 2).toInt) (lo' := 1) (hi' := (FS95_83 105 5).toInt) pre1 (by omega) (by omega) (by omega))) (qf_eq (((((g86.2 107 rfl rfl).trans (g73.2 107 rfl rfl)).trans (g61.2 107 rfl rfl)).trans (g45.2 107 rfl rfl)).trans (g10.2 107 rfl rfl)) (qf_le (b' := (FS95_83 105 2).toInt) (lo' := 1) (hi' := (FS95_83 105 6).toInt) pre2 (by omega) (by omega) (by omega))) (by show ((FS95_83 105 5).toInt = 1) ∨ ((FS95_83 105 7).toInt ≤ 4); first | with_reducible assumption | omega) (by show ((FS95_83 105 6).toInt = 1) ∨ ((FS95_83 105 8).toInt ≤ 4); first | with_reducible assumption | omega) (LSQ_ag (F := T41) (G := FS95_83) r50 hI44 g145 (by decide +kernel) rfl rfl) (fun {FS138_148} {LFS138_148} hI149 g150 r151 r152 r153 => ?_)
          have r154 : qf (FS138_148 77) 0 (FS138_148 73 6).toInt 0 ((64 * (FS138_148 105 2).toInt) - 1) := r151
          clear r151
          have q155 : (0) ≤ (FS138_148 73 6).toInt ∧ (FS138_148 73 6).toInt ≤ (192) := (show B 0 192 (FS138_148 73 6) from hI149 73 6)
          have r156 : UPs 73 FS138_148 := r152
          clear r152
          have r157 : ZQ FS138_148 := r153
          clear r153
          have g164 := agc_tr (agc_refl (fs := [6001, 7300, 7304, 7305, 7306]) (rs := [74, 75, 76, 77, 103, 113, 999]) (F := F)) g10 (by decide +kernel) (by decide +kernel)
          have g163 := agc_f (u := 73) (k := 0) (v := 0) g164 rfl (by decide +kernel)
          have g162 := agc_tr g163 g45 (by decide +kernel) (by decide +kernel)
          have g161 := agc_tr g162 g61 (by decide +kernel) (by decide +kernel)
          have g160 := agc_tr g161 g73 (by decide +kernel) (by decide +kernel)
          have g159 := agc_tr g160 g86 (by decide +kernel) (by decide +kernel)
          have g158 := agc_tr g159 g150 (by decide +kernel) (by decide +kernel)
          have g168 := agc_tr (agc_refl (fs := [6001, 7304, 7305, 7306]) (rs := [77, 999]) (F := T41)) g61 (by decide +kernel) (by decide +kernel)
          have g167 := agc_tr g168 g73 (by decide +kernel) (by decide +kernel)
          have g166 := agc_tr g167 g86 (by decide +kernel) (by decide +kernel)
          have g165 := agc_tr g166 g150 (by decide +kernel) (by decide +kernel)
          exact hK hI149 g158 (CV_ag (F := T41) (G := FS138_148) r49 g165 (by decide +kernel) (by decide +kernel)) r157 (UPs_tr (F := FS138_148) (G := FS138_148) r156 rfl rfl rfl)
        · have hq169 := (nle_lt hc)
          have b170 : B 11 12 (v112_133) := B_w (B_ltR cqb_10_10_10 b135 hq169) (by decide +kernel) (by decide +kernel)
          refine ⟨(show ¬ ((60 : Nat) = NU) from by decide +kernel), ?_⟩
          refine ⟨(show c_cl UL 60 = 8 from cl_60), ?_⟩
          have g179 := agc_tr (agc_refl (fs := [6001, 6006, 6007, 7300]) (rs := [74, 75, 76, 103, 113, 999]) (F := F)) g10 (by decide +kernel) (by decide +kernel)
          have g178 := agc_f (u := 73) (k := 0) (v := 0) g179 rfl (by decide +kernel)
          have g177 := agc_tr g178 g45 (by decide +kernel) (by decide +kernel)
          have g176 := agc_tr g177 g61 (by decide +kernel) (by decide +kernel)
          have g175 := agc_tr g176 g73 (by decide +kernel) (by decide +kernel)
          have g174 := agc_tr g175 g86 (by decide +kernel) (by decide +kernel)
          exact h_Re_fail_u60 (B_w cqb_6_6_6 (by decide +kernel) (by decide +kernel)) hI85 (fun hI g => hT13 hI (agc_tr g174 g (by decide +kernel) (by decide +kernel)))
    · have hq180 := (nle_lt hc)
      have b181 : B 0 2 (x4_40) := B_w (B_ltL b43 b14 hq180) (by decide +kernel) (by decide +kernel)
      have q182 : (0) ≤ (x4_40).toInt ∧ (x4_40).toInt ≤ (2) := (show B 0 2 (x4_40) from B_w b181 (by decide +kernel) (by decide +kernel))
      have i183 : (x4_40).toInt < (v17_6).toInt := i_lt hq180
      have e184 : (T41 105 2).toInt = (F 105 2).toInt := (congrArg Int32.toInt ((g45.1 105 2 rfl rfl).trans (g10.1 105 2 rfl rfl))).trans rfl
      have g195 := agc_tr (agc_refl (fs := [6001, 6006, 6007, 7300]) (rs := [74, 75, 76, 103, 113, 999]) (F := F)) g10 (by decide +kernel) (by decide +kernel)
      have g194 := agc_f (u := 73) (k := 0) (v := 0) g195 rfl (by decide +kernel)
      have g193 := agc_tr g194 g45 (by decide +kernel) (by decide +kernel)
      refine h_Un_readScanLayer_u59_a1 b42 hI44 r49 r50 (qf_le (b' := (T41 73 0).toInt) (lo' := 0) (hi' := (T41 105 2).toInt - 1) r51 (by omega) (by omega) (by omega)) (fun {v64_185} {FS64_186} {LFS64_186} b187 hI188 g189 r190 r191 r192 => ?_) (fun hI g => hT13 hI (agc_tr g193 g (by decide +kernel) (by decide +kernel)))
      have r196 : CV FS64_186 := r190
      clear r190
      have r197 : LSQ FS64_186 := r191
      clear r191
      have r198 : qf (FS64_186 74) 0 (FS64_186 73 0).toInt 0 ((FS64_186 105 2).toInt - 1) := r192
      clear r192
      have q199 : (0) ≤ (FS64_186 73 0).toInt ∧ (FS64_186 73 0).toInt ≤ (3) := (show B 0 3 (FS64_186 73 0) from hI188 73 0)
      have g201 := agc_tr (agc_refl (fs := [6001, 7300]) (rs := [74, 75, 76, 103, 113, 999]) (F := va_up FS17_7 73 (upd (FS17_7 73) 0 0))) g45 (by decide +kernel) (by decide +kernel)
      have g200 := agc_tr g201 g189 (by decide +kernel) (by decide +kernel)
      have e202 : (FS64_186 105 2).toInt = (F 105 2).toInt := (congrArg Int32.toInt (((g189.1 105 2 rfl rfl).trans (g45.1 105 2 rfl rfl)).trans (g10.1 105 2 rfl rfl))).trans rfl
      have e203 : (x4_40 + 1).toInt = ((x4_40).toInt + 1) := (t_add b181 cqb_1_1_1 (by decide +kernel) (by decide +kernel)).trans (by rw [cqn_1])
      have q204 : (1) ≤ (x4_40 + 1).toInt ∧ (x4_40 + 1).toInt ≤ (3) := (show B 1 3 (x4_40 + 1) from B_w (B_add b181 cqb_1_1_1 (by decide +kernel) (by decide +kernel)) (by decide +kernel) (by decide +kernel))
      exact hR56 ⟨rfl, rfl, (B_w (B_add b187 cqb_1_1_1 (by decide +kernel) (by decide +kernel)) (by decide +kernel) (by decide +kernel)), (B_w (B_add b181 cqb_1_1_1 (by decide +kernel) (by decide +kernel)) (by decide +kernel) (by decide +kernel)), _, _, rfl, hI188, g200, r196, r197, (qf_le (b' := (FS64_186 73 0).toInt) (lo' := 0) (hi' := (FS64_186 105 2).toInt - 1) r198 (by omega) (by omega) (by omega))⟩ (by show (3 - (x4_40 + 1).toInt).toNat < (3 - x4_40.toInt).toNat; omega)
set_option maxRecDepth 20000 in
set_option maxHeartbeats 4000000 in
theorem h_Un_readSection_u59_a1 {b : Bool} {P : Nat → Nat → Nat} {x1 : Int32} {F : cF} {L : cL} {K : cs → Prop} {T : Nat → cs → Prop} (b_x1 : B 0 255 x1) (hI : IMc F) (pre0 : ((x1.toInt = 192) → ((F 59 6).toInt = 0)) ∧ ((x1.toInt = 218) → ((F 59 6).toInt = 1))) (pre1 : CV F) (pre2 : FA 105 F) (hK : ∀ {Z : cF} {LZ : cL}, IMc Z → agc [5906, 5911, 5912, 5913, 6001, 7300, 7304, 7305, 7306, 8100, 8105, 8600, 8605, 9100, 9105, 9600, 9605, 10500, 10501, 10502, 10505, 10506, 10507, 10508, 10516] [74, 75, 76, 77, 78, 79, 82, 83, 84, 85, 87, 88, 89, 90, 92, 93, 94, 95, 97, 98, 99, 100, 101, 102, 103, 106, 107, 108, 109, 110, 111, 112, 113, 999] F Z → (CV Z) → (FA 105 Z) → (SR x1 Z) → K (Z, LZ, PC true b P)) (hT13 : ∀ {Z : cF} {LZ : cL}, IMc Z → agc [5912, 5913, 6001, 6006, 6007, 7300, 8100, 8105, 8600, 8605, 9100, 9105, 9600, 9605, 10500, 10501, 10502, 10505, 10506, 10516] [74, 75, 76, 78, 79, 82, 83, 84, 85, 87, 88, 89, 90, 92, 93, 94, 95, 97, 98, 99, 100, 101, 102, 103, 106, 107, 112, 113, 999] F Z → T 13 (Z, LZ, PC true b P)) : p_Un_readSection UL 59 x1 (F, L, PC true b P) K T := by
  have q1 : (0) ≤ (x1).toInt ∧ (x1).toInt ≤ (255) := (show B 0 255 (x1) from B_w b_x1 (by decide +kernel) (by decide +kernel))
  have q2 : (0) ≤ (F 59 6).toInt ∧ (F 59 6).toInt ≤ (1) := (show B 0 1 (F 59 6) from hI 59 6)
  unfold p_Un_readSection
  refine ⟨(show ¬ ((60 : Nat) = NU) from by decide +kernel), ?_⟩
  refine ⟨(show c_cl UL 60 = 8 from cl_60), ?_⟩
  refine ⟨(show ¬ ((60 : Nat) = NU) from by decide +kernel), ?_⟩
  have hI3 := IMc_u (u := 59) (i := 12) (v := F 60 1) hI (show B (-2147483648) 2147483647 (F 60 1) from (B_w (show B 0 98304 (F 60 1) from hI 60 1) (by decide +kernel) (by decide +kernel)))
  have g10 := agc_f (u := 59) (k := 12) (v := F 60 1) (agc_refl (fs := [5912, 5913, 6001, 6006, 6007, 7300, 8100, 8105, 8600, 8605, 9100, 9105, 9600, 9605, 10500, 10501, 10502, 10505, 10506, 10516]) (rs := [74, 75, 76, 78, 79, 82, 83, 84, 85, 87, 88, 89, 90, 92, 93, 94, 95, 97, 98, 99, 100, 101, 102, 103, 106, 107, 112, 113, 999]) (F := F)) rfl (by decide +kernel)
  refine h_Re_readTwo_u60 hI3 (fun {v16_4} {FS16_5} {LFS16_5} b6 hI7 g8 r9 => ?_) (fun hI g => hT13 hI (agc_tr g10 g (by decide +kernel) (by decide +kernel)))
  have r11 : (FS16_5 60 1).toInt ≤ 32768 := r9
  clear r9
  have q12 : (0) ≤ (FS16_5 60 1).toInt ∧ (FS16_5 60 1).toInt ≤ (98304) := (show B 0 98304 (FS16_5 60 1) from hI7 60 1)
  refine ⟨fun hc => ?_, fun hc => ?_⟩
  · have i13 : (x1).toInt ≠ (192 : Int32).toInt := i_ne hc
    have n14 : (192 : Int32).toInt = 192 := cqn_192
    refine ⟨fun hc => ?_, fun hc => ?_⟩
    · have i15 : (x1).toInt ≠ (218 : Int32).toInt := i_ne hc
      have n16 : (218 : Int32).toInt = 218 := cqn_218
      refine ⟨fun hc => ?_, fun hc => ?_⟩
      · have i17 : (x1).toInt ≠ (221 : Int32).toInt := i_ne hc
        have n18 : (221 : Int32).toInt = 221 := cqn_221
        refine ⟨fun hc => ?_, fun hc => ?_⟩
        · have b19 : B 219 219 (x1) := B_w (B_eq hc cqb_219_219_219) (by decide +kernel) (by decide +kernel)
          have q20 : (219) ≤ (x1).toInt ∧ (x1).toInt ≤ (219) := (show B 219 219 (x1) from B_w b19 (by decide +kernel) (by decide +kernel))
          have i21 : (x1).toInt = (219 : Int32).toInt := congrArg Int32.toInt hc
          have n22 : (219 : Int32).toInt = 219 := cqn_219
          unfold b_Un_readSection_102
          refine ⟨fun hc => ?_, fun hc => ?_⟩
          · have hq23 := hc
            have b24 : B 0 2 (v16_4) := B_w (B_leL b6 cqb_2_2_2 hq23) (by decide +kernel) (by decide +kernel)
            unfold b_Un_readSection_116
            have hI25 := IMc_u (u := 59) (i := 13) (v := v16_4) hI7 (show B 0 65535 (v16_4) from (B_w b24 (by decide +kernel) (by decide +kernel)))
            have g30 := agc_f (u := 59) (k := 12) (v := F 60 1) (agc_refl (fs := [5912, 5913, 6001, 6006, 6007, 7300, 8100, 8105, 8600, 8605, 9100, 9105, 9600, 9605, 10500, 10501, 10502, 10505, 10506, 10516]) (rs := [74, 75, 76, 78, 79, 82, 83, 84, 85, 87, 88, 89, 90, 92, 93, 94, 95, 97, 98, 99, 100, 101, 102, 103, 106, 107, 112, 113, 999]) (F := F)) rfl (by decide +kernel)
            have g29 := agc_tr g30 g8 (by decide +kernel) (by decide +kernel)
            have g28 := agc_f (u := 59) (k := 13) (v := v16_4) g29 rfl (by decide +kernel)
            refine h_Un_wantLength_u59 (B_w cqb_0_0_0 (by decide +kernel) (by decide +kernel)) hI25 (fun r27 => ?_) (fun hI g => hT13 hI (agc_tr g28 g (by decide +kernel) (by decide +kernel)))
            exact absurd (show ((0 : Int) = 1) from r27) (by decide +kernel)
          · have hq31 := (nle_lt hc)
            have b32 : B 3 65535 (v16_4) := B_w (B_ltR cqb_2_2_2 b6 hq31) (by decide +kernel) (by decide +kernel)
            unfold b_Un_readSection_116
            have hI33 := IMc_u (u := 59) (i := 13) (v := v16_4) hI7 (show B 0 65535 (v16_4) from (B_w b32 (by decide +kernel) (by decide +kernel)))
            have g38 := agc_f (u := 59) (k := 12) (v := F 60 1) (agc_refl (fs := [5912, 5913, 6001, 6006, 6007, 7300, 8100, 8105, 8600, 8605, 9100, 9105, 9600, 9605, 10500, 10501, 10502, 10505, 10506, 10516]) (rs := [74, 75, 76, 78, 79, 82, 83, 84, 85, 87, 88, 89, 90, 92, 93, 94, 95, 97, 98, 99, 100, 101, 102, 103, 106, 107, 112, 113, 999]) (F := F)) rfl (by decide +kernel)
            have g37 := agc_tr g38 g8 (by decide +kernel) (by decide +kernel)
            have g36 := agc_f (u := 59) (k := 13) (v := v16_4) g37 rfl (by decide +kernel)
            refine h_Un_wantLength_u59 (B_w cqb_1_1_1 (by decide +kernel) (by decide +kernel)) hI33 (fun r35 => ?_) (fun hI g => hT13 hI (agc_tr g36 g (by decide +kernel) (by decide +kernel)))
            have r39 : (1 : Int) = 1 := r35
            clear r35
            have g42 := agc_f (u := 59) (k := 12) (v := F 60 1) (agc_refl (fs := [5912, 5913, 6001]) (rs := []) (F := F)) rfl (by decide +kernel)
            have g41 := agc_tr g42 g8 (by decide +kernel) (by decide +kernel)
            have g40 := agc_f (u := 59) (k := 13) (v := v16_4) g41 rfl (by decide +kernel)
            have g49 := agc_f (u := 59) (k := 12) (v := F 60 1) (agc_refl (fs := [5912, 5913, 6001, 6006, 6007, 7300, 8100, 8105, 8600, 8605, 9100, 9105, 9600, 9605, 10500, 10501, 10502, 10505, 10506, 10516]) (rs := [74, 75, 76, 78, 79, 82, 83, 84, 85, 87, 88, 89, 90, 92, 93, 94, 95, 97, 98, 99, 100, 101, 102, 103, 106, 107, 112, 113, 999]) (F := F)) rfl (by decide +kernel)
            have g48 := agc_tr g49 g8 (by decide +kernel) (by decide +kernel)
            have g47 := agc_f (u := 59) (k := 13) (v := v16_4) g48 rfl (by decide +kernel)
            refine h_Un_readParts_u59 hI33 (CV_ag (F := F) (G := va_up FS16_5 59 (upd (FS16_5 59) 13 v16_4)) pre1 g40 (by decide +kernel) (by decide +kernel)) (fun {FS121_43} {LFS121_43} hI44 g45 r46 => ?_) (fun hI g => hT13 hI (agc_tr g47 g (by decide +kernel) (by decide +kernel)))
            have r50 : CV FS121_43 := r46
            clear r46
            unfold b_Un_readSection_157
            have g54 := agc_f (u := 59) (k := 12) (v := F 60 1) (agc_refl (fs := [5906, 5911, 5912, 5913, 6001, 7300, 7304, 7305, 7306, 8100, 8105, 8600, 8605, 9100, 9105, 9600, 9605, 10500, 10501, 10502, 10505, 10506, 10507, 10508, 10516]) (rs := [74, 75, 76, 77, 78, 79, 82, 83, 84, 85, 87, 88, 89, 90, 92, 93, 94, 95, 97, 98, 99, 100, 101, 102, 103, 106, 107, 108, 109, 110, 111, 112, 113, 999]) (F := F)) rfl (by decide +kernel)
            have g53 := agc_tr g54 g8 (by decide +kernel) (by decide +kernel)
            have g52 := agc_f (u := 59) (k := 13) (v := v16_4) g53 rfl (by decide +kernel)
            have g51 := agc_tr g52 g45 (by decide +kernel) (by decide +kernel)
            exact hK hI44 g51 r50 (FA_tr (m := 105) (F := F) (G := FS121_43) pre2 ((g45.1 59 6 rfl rfl).trans (g8.1 59 6 rfl rfl)) ((g45.2 106 rfl rfl).trans (g8.2 106 rfl rfl)) ((g45.2 107 rfl rfl).trans (g8.2 107 rfl rfl)) ((g45.1 105 2 rfl rfl).trans (g8.1 105 2 rfl rfl)) ((g45.1 105 5 rfl rfl).trans (g8.1 105 5 rfl rfl)) ((g45.1 105 6 rfl rfl).trans (g8.1 105 6 rfl rfl)) ((g45.1 105 7 rfl rfl).trans (g8.1 105 7 rfl rfl)) ((g45.1 105 8 rfl rfl).trans (g8.1 105 8 rfl rfl))) (fun h => (B_dis b19 cqb_218_218_218 h (by decide +kernel)).elim)
        · have i55 : (x1).toInt ≠ (219 : Int32).toInt := i_ne hc
          have n56 : (219 : Int32).toInt = 219 := cqn_219
          refine ⟨fun hc => ?_, fun hc => ?_⟩
          · have i57 : (x1).toInt ≠ (196 : Int32).toInt := i_ne hc
            have n58 : (196 : Int32).toInt = 196 := cqn_196
            refine ⟨fun hc => ?_, fun hc => ?_⟩
            · have hq59 := hc
              have b60 : B 0 1 (v16_4) := B_w (B_ltL b6 cqb_2_2_2 hq59) (by decide +kernel) (by decide +kernel)
              unfold b_Un_readSection_141
              have hI61 := IMc_u (u := 59) (i := 13) (v := v16_4) hI7 (show B 0 65535 (v16_4) from (B_w b60 (by decide +kernel) (by decide +kernel)))
              have g66 := agc_f (u := 59) (k := 12) (v := F 60 1) (agc_refl (fs := [5912, 5913, 6001, 6006, 6007, 7300, 8100, 8105, 8600, 8605, 9100, 9105, 9600, 9605, 10500, 10501, 10502, 10505, 10506, 10516]) (rs := [74, 75, 76, 78, 79, 82, 83, 84, 85, 87, 88, 89, 90, 92, 93, 94, 95, 97, 98, 99, 100, 101, 102, 103, 106, 107, 112, 113, 999]) (F := F)) rfl (by decide +kernel)
              have g65 := agc_tr g66 g8 (by decide +kernel) (by decide +kernel)
              have g64 := agc_f (u := 59) (k := 13) (v := v16_4) g65 rfl (by decide +kernel)
              refine h_Un_wantLength_u59 (B_w cqb_0_0_0 (by decide +kernel) (by decide +kernel)) hI61 (fun r63 => ?_) (fun hI g => hT13 hI (agc_tr g64 g (by decide +kernel) (by decide +kernel)))
              exact absurd (show ((0 : Int) = 1) from r63) (by decide +kernel)
            · have hq67 := (nlt_le hc)
              have b68 : B 2 65535 (v16_4) := B_w (B_leR cqb_2_2_2 b6 hq67) (by decide +kernel) (by decide +kernel)
              unfold b_Un_readSection_141
              have hI69 := IMc_u (u := 59) (i := 13) (v := v16_4) hI7 (show B 0 65535 (v16_4) from (B_w b68 (by decide +kernel) (by decide +kernel)))
              have g74 := agc_f (u := 59) (k := 12) (v := F 60 1) (agc_refl (fs := [5912, 5913, 6001, 6006, 6007, 7300, 8100, 8105, 8600, 8605, 9100, 9105, 9600, 9605, 10500, 10501, 10502, 10505, 10506, 10516]) (rs := [74, 75, 76, 78, 79, 82, 83, 84, 85, 87, 88, 89, 90, 92, 93, 94, 95, 97, 98, 99, 100, 101, 102, 103, 106, 107, 112, 113, 999]) (F := F)) rfl (by decide +kernel)
              have g73 := agc_tr g74 g8 (by decide +kernel) (by decide +kernel)
              have g72 := agc_f (u := 59) (k := 13) (v := v16_4) g73 rfl (by decide +kernel)
              refine h_Un_wantLength_u59 (B_w cqb_1_1_1 (by decide +kernel) (by decide +kernel)) hI69 (fun r71 => ?_) (fun hI g => hT13 hI (agc_tr g72 g (by decide +kernel) (by decide +kernel)))
              have r75 : (1 : Int) = 1 := r71
              clear r71
              refine ⟨(show ¬ ((60 : Nat) = NU) from by decide +kernel), ?_⟩
              refine ⟨(show c_cl UL 60 = 8 from cl_60), ?_⟩
              refine h_Re_skip_u60 (B_w (B_sub b68 cqb_2_2_2 (by decide +kernel) (by decide +kernel)) (by decide +kernel) (by decide +kernel)) hI69 (by show (FS16_5 60 1).toInt ≤ 32768; first | with_reducible assumption | omega) (fun {FS154_76} {LFS154_76} hI77 g78 => ?_)
              unfold b_Un_readSection_157
              have g82 := agc_f (u := 59) (k := 12) (v := F 60 1) (agc_refl (fs := [5906, 5911, 5912, 5913, 6001, 7300, 7304, 7305, 7306, 8100, 8105, 8600, 8605, 9100, 9105, 9600, 9605, 10500, 10501, 10502, 10505, 10506, 10507, 10508, 10516]) (rs := [74, 75, 76, 77, 78, 79, 82, 83, 84, 85, 87, 88, 89, 90, 92, 93, 94, 95, 97, 98, 99, 100, 101, 102, 103, 106, 107, 108, 109, 110, 111, 112, 113, 999]) (F := F)) rfl (by decide +kernel)
              have g81 := agc_tr g82 g8 (by decide +kernel) (by decide +kernel)
              have g80 := agc_f (u := 59) (k := 13) (v := v16_4) g81 rfl (by decide +kernel)
              have g79 := agc_tr g80 g78 (by decide +kernel) (by decide +kernel)
              have g86 := agc_f (u := 59) (k := 12) (v := F 60 1) (agc_refl (fs := [5912, 5913, 6001]) (rs := []) (F := F)) rfl (by decide +kernel)
              have g85 := agc_tr g86 g8 (by decide +kernel) (by decide +kernel)
              have g84 := agc_f (u := 59) (k := 13) (v := v16_4) g85 rfl (by decide +kernel)
              have g83 := agc_tr g84 g78 (by decide +kernel) (by decide +kernel)
              exact hK hI77 g79 (CV_ag (F := F) (G := FS154_76) pre1 g83 (by decide +kernel) (by decide +kernel)) (FA_tr (m := 105) (F := F) (G := FS154_76) pre2 ((g78.1 59 6 rfl rfl).trans (g8.1 59 6 rfl rfl)) ((g78.2 106 rfl rfl).trans (g8.2 106 rfl rfl)) ((g78.2 107 rfl rfl).trans (g8.2 107 rfl rfl)) ((g78.1 105 2 rfl rfl).trans (g8.1 105 2 rfl rfl)) ((g78.1 105 5 rfl rfl).trans (g8.1 105 5 rfl rfl)) ((g78.1 105 6 rfl rfl).trans (g8.1 105 6 rfl rfl)) ((g78.1 105 7 rfl rfl).trans (g8.1 105 7 rfl rfl)) ((g78.1 105 8 rfl rfl).trans (g8.1 105 8 rfl rfl))) (fun h => absurd h (by assumption))
          · have b87 : B 196 196 (x1) := B_w (B_eq hc cqb_196_196_196) (by decide +kernel) (by decide +kernel)
            have q88 : (196) ≤ (x1).toInt ∧ (x1).toInt ≤ (196) := (show B 196 196 (x1) from B_w b87 (by decide +kernel) (by decide +kernel))
            have i89 : (x1).toInt = (196 : Int32).toInt := congrArg Int32.toInt hc
            have n90 : (196 : Int32).toInt = 196 := cqn_196
            unfold b_Un_readSection_102
            refine ⟨fun hc => ?_, fun hc => ?_⟩
            · have hq91 := hc
              have b92 : B 0 2 (v16_4) := B_w (B_leL b6 cqb_2_2_2 hq91) (by decide +kernel) (by decide +kernel)
              unfold b_Un_readSection_116
              have hI93 := IMc_u (u := 59) (i := 13) (v := v16_4) hI7 (show B 0 65535 (v16_4) from (B_w b92 (by decide +kernel) (by decide +kernel)))
              have g98 := agc_f (u := 59) (k := 12) (v := F 60 1) (agc_refl (fs := [5912, 5913, 6001, 6006, 6007, 7300, 8100, 8105, 8600, 8605, 9100, 9105, 9600, 9605, 10500, 10501, 10502, 10505, 10506, 10516]) (rs := [74, 75, 76, 78, 79, 82, 83, 84, 85, 87, 88, 89, 90, 92, 93, 94, 95, 97, 98, 99, 100, 101, 102, 103, 106, 107, 112, 113, 999]) (F := F)) rfl (by decide +kernel)
              have g97 := agc_tr g98 g8 (by decide +kernel) (by decide +kernel)
              have g96 := agc_f (u := 59) (k := 13) (v := v16_4) g97 rfl (by decide +kernel)
              refine h_Un_wantLength_u59 (B_w cqb_0_0_0 (by decide +kernel) (by decide +kernel)) hI93 (fun r95 => ?_) (fun hI g => hT13 hI (agc_tr g96 g (by decide +kernel) (by decide +kernel)))
              exact absurd (show ((0 : Int) = 1) from r95) (by decide +kernel)
            · have hq99 := (nle_lt hc)
              have b100 : B 3 65535 (v16_4) := B_w (B_ltR cqb_2_2_2 b6 hq99) (by decide +kernel) (by decide +kernel)
              unfold b_Un_readSection_116
              have hI101 := IMc_u (u := 59) (i := 13) (v := v16_4) hI7 (show B 0 65535 (v16_4) from (B_w b100 (by decide +kernel) (by decide +kernel)))
              have g106 := agc_f (u := 59) (k := 12) (v := F 60 1) (agc_refl (fs := [5912, 5913, 6001, 6006, 6007, 7300, 8100, 8105, 8600, 8605, 9100, 9105, 9600, 9605, 10500, 10501, 10502, 10505, 10506, 10516]) (rs := [74, 75, 76, 78, 79, 82, 83, 84, 85, 87, 88, 89, 90, 92, 93, 94, 95, 97, 98, 99, 100, 101, 102, 103, 106, 107, 112, 113, 999]) (F := F)) rfl (by decide +kernel)
              have g105 := agc_tr g106 g8 (by decide +kernel) (by decide +kernel)
              have g104 := agc_f (u := 59) (k := 13) (v := v16_4) g105 rfl (by decide +kernel)
              refine h_Un_wantLength_u59 (B_w cqb_1_1_1 (by decide +kernel) (by decide +kernel)) hI101 (fun r103 => ?_) (fun hI g => hT13 hI (agc_tr g104 g (by decide +kernel) (by decide +kernel)))
              have r107 : (1 : Int) = 1 := r103
              clear r103
              have g110 := agc_f (u := 59) (k := 12) (v := F 60 1) (agc_refl (fs := [5912, 5913, 6001]) (rs := []) (F := F)) rfl (by decide +kernel)
              have g109 := agc_tr g110 g8 (by decide +kernel) (by decide +kernel)
              have g108 := agc_f (u := 59) (k := 13) (v := v16_4) g109 rfl (by decide +kernel)
              have g117 := agc_f (u := 59) (k := 12) (v := F 60 1) (agc_refl (fs := [5912, 5913, 6001, 6006, 6007, 7300, 8100, 8105, 8600, 8605, 9100, 9105, 9600, 9605, 10500, 10501, 10502, 10505, 10506, 10516]) (rs := [74, 75, 76, 78, 79, 82, 83, 84, 85, 87, 88, 89, 90, 92, 93, 94, 95, 97, 98, 99, 100, 101, 102, 103, 106, 107, 112, 113, 999]) (F := F)) rfl (by decide +kernel)
              have g116 := agc_tr g117 g8 (by decide +kernel) (by decide +kernel)
              have g115 := agc_f (u := 59) (k := 13) (v := v16_4) g116 rfl (by decide +kernel)
              refine h_Un_readParts_u59 hI101 (CV_ag (F := F) (G := va_up FS16_5 59 (upd (FS16_5 59) 13 v16_4)) pre1 g108 (by decide +kernel) (by decide +kernel)) (fun {FS121_111} {LFS121_111} hI112 g113 r114 => ?_) (fun hI g => hT13 hI (agc_tr g115 g (by decide +kernel) (by decide +kernel)))
              have r118 : CV FS121_111 := r114
              clear r114
              unfold b_Un_readSection_157
              have g122 := agc_f (u := 59) (k := 12) (v := F 60 1) (agc_refl (fs := [5906, 5911, 5912, 5913, 6001, 7300, 7304, 7305, 7306, 8100, 8105, 8600, 8605, 9100, 9105, 9600, 9605, 10500, 10501, 10502, 10505, 10506, 10507, 10508, 10516]) (rs := [74, 75, 76, 77, 78, 79, 82, 83, 84, 85, 87, 88, 89, 90, 92, 93, 94, 95, 97, 98, 99, 100, 101, 102, 103, 106, 107, 108, 109, 110, 111, 112, 113, 999]) (F := F)) rfl (by decide +kernel)
              have g121 := agc_tr g122 g8 (by decide +kernel) (by decide +kernel)
              have g120 := agc_f (u := 59) (k := 13) (v := v16_4) g121 rfl (by decide +kernel)
              have g119 := agc_tr g120 g113 (by decide +kernel) (by decide +kernel)
              exact hK hI112 g119 r118 (FA_tr (m := 105) (F := F) (G := FS121_111) pre2 ((g113.1 59 6 rfl rfl).trans (g8.1 59 6 rfl rfl)) ((g113.2 106 rfl rfl).trans (g8.2 106 rfl rfl)) ((g113.2 107 rfl rfl).trans (g8.2 107 rfl rfl)) ((g113.1 105 2 rfl rfl).trans (g8.1 105 2 rfl rfl)) ((g113.1 105 5 rfl rfl).trans (g8.1 105 5 rfl rfl)) ((g113.1 105 6 rfl rfl).trans (g8.1 105 6 rfl rfl)) ((g113.1 105 7 rfl rfl).trans (g8.1 105 7 rfl rfl)) ((g113.1 105 8 rfl rfl).trans (g8.1 105 8 rfl rfl))) (fun h => (B_dis b87 cqb_218_218_218 h (by decide +kernel)).elim)
      · have b123 : B 221 221 (x1) := B_w (B_eq hc cqb_221_221_221) (by decide +kernel) (by decide +kernel)
        have q124 : (221) ≤ (x1).toInt ∧ (x1).toInt ≤ (221) := (show B 221 221 (x1) from B_w b123 (by decide +kernel) (by decide +kernel))
        have i125 : (x1).toInt = (221 : Int32).toInt := congrArg Int32.toInt hc
        have n126 : (221 : Int32).toInt = 221 := cqn_221
        refine ⟨fun hc => ?_, fun hc => ?_⟩
        · have q127 : (0) ≤ (v16_4).toInt ∧ (v16_4).toInt ≤ (65535) := (show B 0 65535 (v16_4) from B_w b6 (by decide +kernel) (by decide +kernel))
          have i128 : (v16_4).toInt ≠ (4 : Int32).toInt := i_ne hc
          have n129 : (4 : Int32).toInt = 4 := cqn_4
          unfold b_Un_readSection_71
          have hI130 := IMc_u (u := 59) (i := 13) (v := v16_4) hI7 (show B 0 65535 (v16_4) from (B_w b6 (by decide +kernel) (by decide +kernel)))
          have g135 := agc_f (u := 59) (k := 12) (v := F 60 1) (agc_refl (fs := [5912, 5913, 6001, 6006, 6007, 7300, 8100, 8105, 8600, 8605, 9100, 9105, 9600, 9605, 10500, 10501, 10502, 10505, 10506, 10516]) (rs := [74, 75, 76, 78, 79, 82, 83, 84, 85, 87, 88, 89, 90, 92, 93, 94, 95, 97, 98, 99, 100, 101, 102, 103, 106, 107, 112, 113, 999]) (F := F)) rfl (by decide +kernel)
          have g134 := agc_tr g135 g8 (by decide +kernel) (by decide +kernel)
          have g133 := agc_f (u := 59) (k := 13) (v := v16_4) g134 rfl (by decide +kernel)
          refine h_Un_wantLength_u59 (B_w cqb_0_0_0 (by decide +kernel) (by decide +kernel)) hI130 (fun r132 => ?_) (fun hI g => hT13 hI (agc_tr g133 g (by decide +kernel) (by decide +kernel)))
          exact absurd (show ((0 : Int) = 1) from r132) (by decide +kernel)
        · have b136 : B 4 4 (v16_4) := B_w (B_eq hc cqb_4_4_4) (by decide +kernel) (by decide +kernel)
          have q137 : (4) ≤ (v16_4).toInt ∧ (v16_4).toInt ≤ (4) := (show B 4 4 (v16_4) from B_w b136 (by decide +kernel) (by decide +kernel))
          have i138 : (v16_4).toInt = (4 : Int32).toInt := congrArg Int32.toInt hc
          have n139 : (4 : Int32).toInt = 4 := cqn_4
          unfold b_Un_readSection_71
          have hI140 := IMc_u (u := 59) (i := 13) (v := v16_4) hI7 (show B 0 65535 (v16_4) from (B_w b136 (by decide +kernel) (by decide +kernel)))
          have g145 := agc_f (u := 59) (k := 12) (v := F 60 1) (agc_refl (fs := [5912, 5913, 6001, 6006, 6007, 7300, 8100, 8105, 8600, 8605, 9100, 9105, 9600, 9605, 10500, 10501, 10502, 10505, 10506, 10516]) (rs := [74, 75, 76, 78, 79, 82, 83, 84, 85, 87, 88, 89, 90, 92, 93, 94, 95, 97, 98, 99, 100, 101, 102, 103, 106, 107, 112, 113, 999]) (F := F)) rfl (by decide +kernel)
          have g144 := agc_tr g145 g8 (by decide +kernel) (by decide +kernel)
          have g143 := agc_f (u := 59) (k := 13) (v := v16_4) g144 rfl (by decide +kernel)
          refine h_Un_wantLength_u59 (B_w cqb_1_1_1 (by decide +kernel) (by decide +kernel)) hI140 (fun r142 => ?_) (fun hI g => hT13 hI (agc_tr g143 g (by decide +kernel) (by decide +kernel)))
          have r146 : (1 : Int) = 1 := r142
          clear r142
          refine ⟨(show ¬ ((60 : Nat) = NU) from by decide +kernel), ?_⟩
          refine ⟨(show c_cl UL 60 = 8 from cl_60), ?_⟩
          have g155 := agc_f (u := 59) (k := 12) (v := F 60 1) (agc_refl (fs := [5912, 5913, 6001, 6006, 6007, 7300, 8100, 8105, 8600, 8605, 9100, 9105, 9600, 9605, 10500, 10501, 10502, 10505, 10506, 10516]) (rs := [74, 75, 76, 78, 79, 82, 83, 84, 85, 87, 88, 89, 90, 92, 93, 94, 95, 97, 98, 99, 100, 101, 102, 103, 106, 107, 112, 113, 999]) (F := F)) rfl (by decide +kernel)
          have g154 := agc_tr g155 g8 (by decide +kernel) (by decide +kernel)
          have g153 := agc_f (u := 59) (k := 13) (v := v16_4) g154 rfl (by decide +kernel)
          refine h_Re_readTwo_u60 hI140 (fun {v79_147} {FS79_148} {LFS79_148} b149 hI150 g151 r152 => ?_) (fun hI g => hT13 hI (agc_tr g153 g (by decide +kernel) (by decide +kernel)))
          have r156 : (FS79_148 60 1).toInt ≤ 32768 := r152
          clear r152
          have q157 : (0) ≤ (FS79_148 60 1).toInt ∧ (FS79_148 60 1).toInt ≤ (98304) := (show B 0 98304 (FS79_148 60 1) from hI150 60 1)
          unfold b_Un_readSection_157
          have hI158 := IMc_u (u := 59) (i := 11) (v := v79_147) hI150 (show B 0 65535 (v79_147) from (B_w b149 (by decide +kernel) (by decide +kernel)))
          have g163 := agc_f (u := 59) (k := 12) (v := F 60 1) (agc_refl (fs := [5906, 5911, 5912, 5913, 6001, 7300, 7304, 7305, 7306, 8100, 8105, 8600, 8605, 9100, 9105, 9600, 9605, 10500, 10501, 10502, 10505, 10506, 10507, 10508, 10516]) (rs := [74, 75, 76, 77, 78, 79, 82, 83, 84, 85, 87, 88, 89, 90, 92, 93, 94, 95, 97, 98, 99, 100, 101, 102, 103, 106, 107, 108, 109, 110, 111, 112, 113, 999]) (F := F)) rfl (by decide +kernel)
          have g162 := agc_tr g163 g8 (by decide +kernel) (by decide +kernel)
          have g161 := agc_f (u := 59) (k := 13) (v := v16_4) g162 rfl (by decide +kernel)
          have g160 := agc_tr g161 g151 (by decide +kernel) (by decide +kernel)
          have g159 := agc_f (u := 59) (k := 11) (v := v79_147) g160 rfl (by decide +kernel)
          have g168 := agc_f (u := 59) (k := 12) (v := F 60 1) (agc_refl (fs := [5911, 5912, 5913, 6001]) (rs := []) (F := F)) rfl (by decide +kernel)
          have g167 := agc_tr g168 g8 (by decide +kernel) (by decide +kernel)
          have g166 := agc_f (u := 59) (k := 13) (v := v16_4) g167 rfl (by decide +kernel)
          have g165 := agc_tr g166 g151 (by decide +kernel) (by decide +kernel)
          have g164 := agc_f (u := 59) (k := 11) (v := v79_147) g165 rfl (by decide +kernel)
          exact hK hI158 g159 (CV_ag (F := F) (G := va_up FS79_148 59 (upd (FS79_148 59) 11 v79_147)) pre1 g164 (by decide +kernel) (by decide +kernel)) (FA_tr (m := 105) (F := F) (G := va_up FS79_148 59 (upd (FS79_148 59) 11 v79_147)) pre2 ((g151.1 59 6 rfl rfl).trans (g8.1 59 6 rfl rfl)) ((g151.2 106 rfl rfl).trans (g8.2 106 rfl rfl)) ((g151.2 107 rfl rfl).trans (g8.2 107 rfl rfl)) ((g151.1 105 2 rfl rfl).trans (g8.1 105 2 rfl rfl)) ((g151.1 105 5 rfl rfl).trans (g8.1 105 5 rfl rfl)) ((g151.1 105 6 rfl rfl).trans (g8.1 105 6 rfl rfl)) ((g151.1 105 7 rfl rfl).trans (g8.1 105 7 rfl rfl)) ((g151.1 105 8 rfl rfl).trans (g8.1 105 8 rfl rfl))) (fun h => (B_dis b123 cqb_218_218_218 h (by decide +kernel)).elim)
    · have b169 : B 218 218 (x1) := B_w (B_eq hc cqb_218_218_218) (by decide +kernel) (by decide +kernel)
      have q170 : (218) ≤ (x1).toInt ∧ (x1).toInt ≤ (218) := (show B 218 218 (x1) from B_w b169 (by decide +kernel) (by decide +kernel))
      have i171 : (x1).toInt = (218 : Int32).toInt := congrArg Int32.toInt hc
      have n172 : (218 : Int32).toInt = 218 := cqn_218
      have hI173 := IMc_u (u := 59) (i := 13) (v := v16_4) hI7 (show B 0 65535 (v16_4) from (B_w b6 (by decide +kernel) (by decide +kernel)))
      have e174 : (FS16_5 59 6).toInt = (F 59 6).toInt := (congrArg Int32.toInt (g8.1 59 6 rfl rfl)).trans rfl
      obtain ⟨r175, r176, r177, r178⟩ := (show FA 105 (va_up FS16_5 59 (upd (FS16_5 59) 13 v16_4)) from (FA_tr (m := 105) (F := F) (G := va_up FS16_5 59 (upd (FS16_5 59) 13 v16_4)) pre2 (g8.1 59 6 rfl rfl) (g8.2 106 rfl rfl) (g8.2 107 rfl rfl) (g8.1 105 2 rfl rfl) (g8.1 105 5 rfl rfl) (g8.1 105 6 rfl rfl) (g8.1 105 7 rfl rfl) (g8.1 105 8 rfl rfl))) (by show (FS16_5 59 6).toInt = 1; first | with_reducible assumption | omega)
      have r175 : qf (FS16_5 106) 0 (FS16_5 105 2).toInt 1 (FS16_5 105 5).toInt := r175
      have q180 : (1) ≤ (F 105 2).toInt ∧ (F 105 2).toInt ≤ (3) := (show B 1 3 (F 105 2) from hI 105 2)
      have e181 : (FS16_5 105 2).toInt = (F 105 2).toInt := (congrArg Int32.toInt (g8.1 105 2 rfl rfl)).trans rfl
      have w179 : qf (F 106) 0 (FS16_5 105 2).toInt 1 (FS16_5 105 5).toInt := qf_eq (Eq.symm (g8.2 106 rfl rfl)) r175
      have r176 : qf (FS16_5 107) 0 (FS16_5 105 2).toInt 1 (FS16_5 105 6).toInt := r176
      have w182 : qf (F 107) 0 (FS16_5 105 2).toInt 1 (FS16_5 105 6).toInt := qf_eq (Eq.symm (g8.2 107 rfl rfl)) r176
      have r177 : ((FS16_5 105 5).toInt = 1) ∨ ((FS16_5 105 7).toInt ≤ 4) := r177
      have q183 : (1) ≤ (F 105 5).toInt ∧ (F 105 5).toInt ≤ (2) := (show B 1 2 (F 105 5) from hI 105 5)
      have e184 : (FS16_5 105 5).toInt = (F 105 5).toInt := (congrArg Int32.toInt (g8.1 105 5 rfl rfl)).trans rfl
      have q185 : (1) ≤ (F 105 7).toInt ∧ (F 105 7).toInt ≤ (8) := (show B 1 8 (F 105 7) from hI 105 7)
      have e186 : (FS16_5 105 7).toInt = (F 105 7).toInt := (congrArg Int32.toInt (g8.1 105 7 rfl rfl)).trans rfl
      have r178 : ((FS16_5 105 6).toInt = 1) ∨ ((FS16_5 105 8).toInt ≤ 4) := r178
      have q187 : (1) ≤ (F 105 6).toInt ∧ (F 105 6).toInt ≤ (2) := (show B 1 2 (F 105 6) from hI 105 6)
      have e188 : (FS16_5 105 6).toInt = (F 105 6).toInt := (congrArg Int32.toInt (g8.1 105 6 rfl rfl)).trans rfl
      have q189 : (1) ≤ (F 105 8).toInt ∧ (F 105 8).toInt ≤ (8) := (show B 1 8 (F 105 8) from hI 105 8)
      have e190 : (FS16_5 105 8).toInt = (F 105 8).toInt := (congrArg Int32.toInt (g8.1 105 8 rfl rfl)).trans rfl
      have g193 := agc_f (u := 59) (k := 12) (v := F 60 1) (agc_refl (fs := [5912, 5913, 6001]) (rs := []) (F := F)) rfl (by decide +kernel)
      have g192 := agc_tr g193 g8 (by decide +kernel) (by decide +kernel)
      have g191 := agc_f (u := 59) (k := 13) (v := v16_4) g192 rfl (by decide +kernel)
      have g202 := agc_f (u := 59) (k := 12) (v := F 60 1) (agc_refl (fs := [5912, 5913, 6001, 6006, 6007, 7300, 8100, 8105, 8600, 8605, 9100, 9105, 9600, 9605, 10500, 10501, 10502, 10505, 10506, 10516]) (rs := [74, 75, 76, 78, 79, 82, 83, 84, 85, 87, 88, 89, 90, 92, 93, 94, 95, 97, 98, 99, 100, 101, 102, 103, 106, 107, 112, 113, 999]) (F := F)) rfl (by decide +kernel)
      have g201 := agc_tr g202 g8 (by decide +kernel) (by decide +kernel)
      have g200 := agc_f (u := 59) (k := 13) (v := v16_4) g201 rfl (by decide +kernel)
      refine h_Un_readScan_u59_a1 hI173 (CV_ag (F := F) (G := va_up FS16_5 59 (upd (FS16_5 59) 13 v16_4)) pre1 g191 (by decide +kernel) (by decide +kernel)) (qf_eq (g8.2 106 rfl rfl) (qf_le (b' := (FS16_5 105 2).toInt) (lo' := 1) (hi' := (FS16_5 105 5).toInt) w179 (by omega) (by omega) (by omega))) (qf_eq (g8.2 107 rfl rfl) (qf_le (b' := (FS16_5 105 2).toInt) (lo' := 1) (hi' := (FS16_5 105 6).toInt) w182 (by omega) (by omega) (by omega))) (by show ((FS16_5 105 5).toInt = 1) ∨ ((FS16_5 105 7).toInt ≤ 4); first | with_reducible assumption | omega) (by show ((FS16_5 105 6).toInt = 1) ∨ ((FS16_5 105 8).toInt ≤ 4); first | with_reducible assumption | omega) (fun {FS44_194} {LFS44_194} hI195 g196 r197 r198 r199 => ?_) (fun hI g => hT13 hI (agc_tr g200 g (by decide +kernel) (by decide +kernel)))
      have r203 : CV FS44_194 := r197
      clear r197
      have r204 : ZQ FS44_194 := r198
      clear r198
      have r205 : UPs 73 FS44_194 := r199
      clear r199
      unfold b_Un_readSection_157
      have g209 := agc_f (u := 59) (k := 12) (v := F 60 1) (agc_refl (fs := [5906, 5911, 5912, 5913, 6001, 7300, 7304, 7305, 7306, 8100, 8105, 8600, 8605, 9100, 9105, 9600, 9605, 10500, 10501, 10502, 10505, 10506, 10507, 10508, 10516]) (rs := [74, 75, 76, 77, 78, 79, 82, 83, 84, 85, 87, 88, 89, 90, 92, 93, 94, 95, 97, 98, 99, 100, 101, 102, 103, 106, 107, 108, 109, 110, 111, 112, 113, 999]) (F := F)) rfl (by decide +kernel)
      have g208 := agc_tr g209 g8 (by decide +kernel) (by decide +kernel)
      have g207 := agc_f (u := 59) (k := 13) (v := v16_4) g208 rfl (by decide +kernel)
      have g206 := agc_tr g207 g196 (by decide +kernel) (by decide +kernel)
      exact hK hI195 g206 r203 (FA_tr (m := 105) (F := F) (G := FS44_194) pre2 ((g196.1 59 6 rfl rfl).trans (g8.1 59 6 rfl rfl)) ((g196.2 106 rfl rfl).trans (g8.2 106 rfl rfl)) ((g196.2 107 rfl rfl).trans (g8.2 107 rfl rfl)) ((g196.1 105 2 rfl rfl).trans (g8.1 105 2 rfl rfl)) ((g196.1 105 5 rfl rfl).trans (g8.1 105 5 rfl rfl)) ((g196.1 105 6 rfl rfl).trans (g8.1 105 6 rfl rfl)) ((g196.1 105 7 rfl rfl).trans (g8.1 105 7 rfl rfl)) ((g196.1 105 8 rfl rfl).trans (g8.1 105 8 rfl rfl))) (fun _ => ⟨r204, (UPs_tr (F := FS44_194) (G := FS44_194) r205 rfl rfl rfl)⟩)
  · have b210 : B 192 192 (x1) := B_w (B_eq hc cqb_192_192_192) (by decide +kernel) (by decide +kernel)
    have q211 : (192) ≤ (x1).toInt ∧ (x1).toInt ≤ (192) := (show B 192 192 (x1) from B_w b210 (by decide +kernel) (by decide +kernel))
    have i212 : (x1).toInt = (192 : Int32).toInt := congrArg Int32.toInt hc
    have n213 : (192 : Int32).toInt = 192 := cqn_192
    have hI214 := IMc_u (u := 59) (i := 13) (v := v16_4) hI7 (show B 0 65535 (v16_4) from (B_w b6 (by decide +kernel) (by decide +kernel)))
    have e215 : (FS16_5 59 6).toInt = (F 59 6).toInt := (congrArg Int32.toInt (g8.1 59 6 rfl rfl)).trans rfl
    have g225 := agc_f (u := 59) (k := 12) (v := F 60 1) (agc_refl (fs := [5912, 5913, 6001, 6006, 6007, 7300, 8100, 8105, 8600, 8605, 9100, 9105, 9600, 9605, 10500, 10501, 10502, 10505, 10506, 10516]) (rs := [74, 75, 76, 78, 79, 82, 83, 84, 85, 87, 88, 89, 90, 92, 93, 94, 95, 97, 98, 99, 100, 101, 102, 103, 106, 107, 112, 113, 999]) (F := F)) rfl (by decide +kernel)
    have g224 := agc_tr g225 g8 (by decide +kernel) (by decide +kernel)
    have g223 := agc_f (u := 59) (k := 13) (v := v16_4) g224 rfl (by decide +kernel)
    refine h_Un_readFrame_u59_a1 hI214 (by show (FS16_5 59 6).toInt = 0; first | with_reducible assumption | omega) (fun {FS30_216} {LFS30_216} hI217 g218 r219 r220 r221 r222 => ?_) (fun hI g => hT13 hI (agc_tr g223 g (by decide +kernel) (by decide +kernel)))
    have r226 : qf (FS30_216 106) 0 (FS30_216 105 2).toInt 1 (FS30_216 105 5).toInt := r219
    clear r219
    have q227 : (1) ≤ (FS30_216 105 2).toInt ∧ (FS30_216 105 2).toInt ≤ (3) := (show B 1 3 (FS30_216 105 2) from hI217 105 2)
    have r228 : qf (FS30_216 107) 0 (FS30_216 105 2).toInt 1 (FS30_216 105 6).toInt := r220
    clear r220
    have r229 : ((FS30_216 105 5).toInt = 1) ∨ ((FS30_216 105 7).toInt ≤ 4) := r221
    clear r221
    have q230 : (1) ≤ (FS30_216 105 5).toInt ∧ (FS30_216 105 5).toInt ≤ (2) := (show B 1 2 (FS30_216 105 5) from hI217 105 5)
    have q231 : (1) ≤ (FS30_216 105 7).toInt ∧ (FS30_216 105 7).toInt ≤ (8) := (show B 1 8 (FS30_216 105 7) from hI217 105 7)
    have r232 : ((FS30_216 105 6).toInt = 1) ∨ ((FS30_216 105 8).toInt ≤ 4) := r222
    clear r222
    have q233 : (1) ≤ (FS30_216 105 6).toInt ∧ (FS30_216 105 6).toInt ≤ (2) := (show B 1 2 (FS30_216 105 6) from hI217 105 6)
    have q234 : (1) ≤ (FS30_216 105 8).toInt ∧ (FS30_216 105 8).toInt ≤ (8) := (show B 1 8 (FS30_216 105 8) from hI217 105 8)
    unfold b_Un_readSection_157
    have g238 := agc_f (u := 59) (k := 12) (v := F 60 1) (agc_refl (fs := [5906, 5911, 5912, 5913, 6001, 7300, 7304, 7305, 7306, 8100, 8105, 8600, 8605, 9100, 9105, 9600, 9605, 10500, 10501, 10502, 10505, 10506, 10507, 10508, 10516]) (rs := [74, 75, 76, 77, 78, 79, 82, 83, 84, 85, 87, 88, 89, 90, 92, 93, 94, 95, 97, 98, 99, 100, 101, 102, 103, 106, 107, 108, 109, 110, 111, 112, 113, 999]) (F := F)) rfl (by decide +kernel)
    have g237 := agc_tr g238 g8 (by decide +kernel) (by decide +kernel)
    have g236 := agc_f (u := 59) (k := 13) (v := v16_4) g237 rfl (by decide +kernel)
    have g235 := agc_tr g236 g218 (by decide +kernel) (by decide +kernel)
    have g242 := agc_f (u := 59) (k := 12) (v := F 60 1) (agc_refl (fs := [5906, 5912, 5913, 6001, 10500, 10501, 10502, 10505, 10506, 10507, 10508, 10516]) (rs := [101, 102, 103, 106, 107, 108, 109, 110, 111, 112, 999]) (F := F)) rfl (by decide +kernel)
    have g241 := agc_tr g242 g8 (by decide +kernel) (by decide +kernel)
    have g240 := agc_f (u := 59) (k := 13) (v := v16_4) g241 rfl (by decide +kernel)
    have g239 := agc_tr g240 g218 (by decide +kernel) (by decide +kernel)
    have q243 : (0) ≤ (FS30_216 59 6).toInt ∧ (FS30_216 59 6).toInt ≤ (1) := (show B 0 1 (FS30_216 59 6) from hI217 59 6)
    exact hK hI217 g235 (CV_ag (F := F) (G := FS30_216) pre1 g239 (by decide +kernel) (by decide +kernel)) (fun _ => ⟨(qf_le (b' := (FS30_216 105 2).toInt) (lo' := 1) (hi' := (FS30_216 105 5).toInt) r226 (by omega) (by omega) (by omega)), (qf_le (b' := (FS30_216 105 2).toInt) (lo' := 1) (hi' := (FS30_216 105 6).toInt) r228 (by omega) (by omega) (by omega)), (by show ((FS30_216 105 5).toInt = 1) ∨ ((FS30_216 105 7).toInt ≤ 4); first | with_reducible assumption | omega), (by show ((FS30_216 105 6).toInt = 1) ∨ ((FS30_216 105 8).toInt ≤ 4); first | with_reducible assumption | omega)⟩) (fun h => (B_dis b210 cqb_218_218_218 h (by decide +kernel)).elim)
set_option maxRecDepth 20000 in
set_option maxHeartbeats 4000000 in
theorem h_Un_readRow_u59_a1 {b : Bool} {P : Nat → Nat → Nat} {F : cF} {L : cL} {K : cs → Prop} {T : Nat → cs → Prop} (hI : IMc F) (hK : ∀ {Z : cF} {LZ : cL}, IMc Z → agc [5906, 5911, 5912, 5913, 6001, 6002, 6003, 6004, 6005, 7300, 7304, 7305, 7306, 8100, 8105, 8600, 8605, 9100, 9105, 9600, 9605, 10500, 10501, 10502, 10505, 10506, 10507, 10508, 10516] [74, 75, 76, 77, 78, 79, 82, 83, 84, 85, 87, 88, 89, 90, 92, 93, 94, 95, 97, 98, 99, 100, 101, 102, 103, 104, 106, 107, 108, 109, 110, 111, 112, 113, 999] F Z → K (Z, LZ, PC true b P)) (hT13 : ∀ {Z : cF} {LZ : cL}, IMc Z → agc [5906, 5911, 5912, 5913, 6001, 6002, 6003, 6004, 6005, 6006, 6007, 7300, 7304, 7305, 7306, 8100, 8105, 8600, 8605, 9100, 9105, 9600, 9605, 10500, 10501, 10502, 10505, 10506, 10507, 10508, 10516] [74, 75, 76, 77, 78, 79, 82, 83, 84, 85, 87, 88, 89, 90, 92, 93, 94, 95, 97, 98, 99, 100, 101, 102, 103, 104, 106, 107, 108, 109, 110, 111, 112, 113, 999] F Z → T 13 (Z, LZ, PC true b P)) : p_Un_readRow UL 59 (F, L, PC true b P) K T := by
  unfold p_Un_readRow
  refine h_Un_begin_u59 hI (fun {FS1_1} {LFS1_1} hI2 g3 r4 r5 => ?_)
  have r6 : CV FS1_1 := r4
  clear r4
  have r7 : (FS1_1 59 6).toInt = 0 := r5
  clear r5
  have q8 : (0) ≤ (FS1_1 59 6).toInt ∧ (FS1_1 59 6).toInt ≤ (1) := (show B 0 1 (FS1_1 59 6) from hI2 59 6)
  refine ⟨(show ¬ ((60 : Nat) = NU) from by decide +kernel), ?_⟩
  refine ⟨(show c_cl UL 60 = 8 from cl_60), ?_⟩
  have g14 := agc_tr (agc_refl (fs := [5906, 5911, 5912, 5913, 6001, 6002, 6003, 6004, 6005, 6006, 6007, 7300, 7304, 7305, 7306, 8100, 8105, 8600, 8605, 9100, 9105, 9600, 9605, 10500, 10501, 10502, 10505, 10506, 10507, 10508, 10516]) (rs := [74, 75, 76, 77, 78, 79, 82, 83, 84, 85, 87, 88, 89, 90, 92, 93, 94, 95, 97, 98, 99, 100, 101, 102, 103, 104, 106, 107, 108, 109, 110, 111, 112, 113, 999]) (F := F)) g3 (by decide +kernel) (by decide +kernel)
  refine h_Re_readMark_u60 hI2 (fun {v8_9} {FS8_10} {LFS8_10} b11 hI12 g13 => ?_) (fun hI g => hT13 hI (agc_tr g14 g (by decide +kernel) (by decide +kernel)))
  refine ⟨fun hc => ?_, fun hc => ?_⟩
  · have b15 : B 216 216 (v8_9) := B_w (B_eq hc cqb_216_216_216) (by decide +kernel) (by decide +kernel)
    have q16 : (216) ≤ (v8_9).toInt ∧ (v8_9).toInt ≤ (216) := (show B 216 216 (v8_9) from B_w b15 (by decide +kernel) (by decide +kernel))
    have i17 : (v8_9).toInt = (216 : Int32).toInt := congrArg Int32.toInt hc
    have n18 : (216 : Int32).toInt = 216 := cqn_216
    unfold b_Un_readRow_34
    have g26 := agc_tr (agc_refl (fs := [6001]) (rs := [999]) (F := FS1_1)) g13 (by decide +kernel) (by decide +kernel)
    have e28 : (FS8_10 59 6).toInt = (FS1_1 59 6).toInt := (congrArg Int32.toInt (g13.1 59 6 rfl rfl)).trans rfl
    refine ⟨fun yx1 yx2 yS => B 0 1 yx1 ∧ B 0 32768 yx2 ∧ ∃ (T21 : cF) (LT21 : cL), yS = (T21, LT21, PC true b P) ∧ IMc T21 ∧ agc [5906, 5911, 5912, 5913, 6001, 6002, 6003, 6004, 6005, 7300, 7304, 7305, 7306, 8100, 8105, 8600, 8605, 9100, 9105, 9600, 9605, 10500, 10501, 10502, 10505, 10506, 10507, 10508, 10516] [74, 75, 76, 77, 78, 79, 82, 83, 84, 85, 87, 88, 89, 90, 92, 93, 94, 95, 97, 98, 99, 100, 101, 102, 103, 104, 106, 107, 108, 109, 110, 111, 112, 113, 999] FS8_10 T21 ∧ (CV T21) ∧ (FA 105 T21), fun yx1 yx2 yS => (32768 - yx2.toInt).toNat, ⟨(B_w cqb_1_1_1 (by decide +kernel) (by decide +kernel)), (B_w cqb_0_0_0 (by decide +kernel) (by decide +kernel)), _, _, rfl, hI12, (agc_refl (fs := [5906, 5911, 5912, 5913, 6001, 6002, 6003, 6004, 6005, 7300, 7304, 7305, 7306, 8100, 8105, 8600, 8605, 9100, 9105, 9600, 9605, 10500, 10501, 10502, 10505, 10506, 10507, 10508, 10516]) (rs := [74, 75, 76, 77, 78, 79, 82, 83, 84, 85, 87, 88, 89, 90, 92, 93, 94, 95, 97, 98, 99, 100, 101, 102, 103, 104, 106, 107, 108, 109, 110, 111, 112, 113, 999]) (F := FS8_10)), (CV_ag (F := FS1_1) (G := FS8_10) r6 g26 (by decide +kernel) (by decide +kernel)), (fun h => absurd (show (FS8_10 59 6).toInt = 1 from h) (by omega))⟩, fun x1_19 x2_20 ST21 hIv => ?_⟩
    obtain ⟨b22, b23, T21, LT21, rfl, hI24, g25, r27, r29⟩ := hIv
    suffices hs : ∀ (R38 : Int32 → Int32 → cs → Prop), (∀ zx1 zx2 zS, (B 0 1 zx1 ∧ B 0 32768 zx2 ∧ ∃ (T21 : cF) (LT21 : cL), zS = (T21, LT21, PC true b P) ∧ IMc T21 ∧ agc [5906, 5911, 5912, 5913, 6001, 6002, 6003, 6004, 6005, 7300, 7304, 7305, 7306, 8100, 8105, 8600, 8605, 9100, 9105, 9600, 9605, 10500, 10501, 10502, 10505, 10506, 10507, 10508, 10516] [74, 75, 76, 77, 78, 79, 82, 83, 84, 85, 87, 88, 89, 90, 92, 93, 94, 95, 97, 98, 99, 100, 101, 102, 103, 104, 106, 107, 108, 109, 110, 111, 112, 113, 999] FS8_10 T21 ∧ (CV T21) ∧ (FA 105 T21)) → (32768 - zx2.toInt).toNat < (32768 - x2_20.toInt).toNat → R38 zx1 zx2 zS) → b_Un_readRow_38 UL 59 x1_19 x2_20 (T21, LT21, PC true b P) R38 K T from hs _ (fun _ _ _ h1 h2 => ⟨h1, h2⟩)
    intro R38 hR380
    have hR38 := fun {zx1} {zx2} {zS} => hR380 zx1 zx2 zS
    unfold b_Un_readRow_38
    refine ⟨fun hc => ?_, fun hc => ?_⟩
    · have b30 : B 0 0 (x1_19) := B_w (B_eq hc cqb_0_0_0) (by decide +kernel) (by decide +kernel)
      have q31 : (0) ≤ (x1_19).toInt ∧ (x1_19).toInt ≤ (0) := (show B 0 0 (x1_19) from B_w b30 (by decide +kernel) (by decide +kernel))
      have i32 : (x1_19).toInt = (0 : Int32).toInt := congrArg Int32.toInt hc
      have n33 : (0 : Int32).toInt = 0 := cqn_0
      unfold b_Un_readRow_120
      refine ⟨(show ¬ ((60 : Nat) = NU) from by decide +kernel), ?_⟩
      refine ⟨(show c_cl UL 60 = 8 from cl_60), ?_⟩
      refine ⟨(show ¬ ((61 : Nat) = NU) from by decide +kernel), ?_⟩
      refine ⟨(show ¬ ((60 : Nat) = NU) from by decide +kernel), ?_⟩
      refine ⟨(show c_cl UL 61 = 9 from cl_61), ?_⟩
      refine h_Ro_has_u61 hI24 (fun {v134_34} b36 r37 => ?_)
      rcases sp_01 b36 with rfl | rfl
      · have r38 : ((0 : Int) = 0) ∨ ((0 ≤ (T21 60 1).toInt) ∧ ((T21 60 1).toInt < (T21 61 1).toInt)) := r37
        clear r37
        have q39 : (0) ≤ (T21 60 1).toInt ∧ (T21 60 1).toInt ≤ (98304) := (show B 0 98304 (T21 60 1) from hI24 60 1)
        have q40 : (0) ≤ (F 61 1).toInt ∧ (F 61 1).toInt ≤ (32768) := (show B 0 32768 (F 61 1) from hI 61 1)
        have e41 : (T21 61 1).toInt = (F 61 1).toInt := (congrArg Int32.toInt (((g25.1 61 1 rfl rfl).trans (g13.1 61 1 rfl rfl)).trans (g3.1 61 1 rfl rfl))).trans rfl
        refine ⟨fun hc => ?_, fun hc => ?_⟩
        · have i42 : (0 : Int32).toInt = (0 : Int32).toInt := congrArg Int32.toInt hc
          have n43 : (0 : Int32).toInt = 0 := cqn_0
          have n44 : (0 : Int32).toInt = 0 := cqn_0
          unfold b_Un_readRow_156
          have g47 := agc_tr (agc_refl (fs := [5906, 5911, 5912, 5913, 6001, 6002, 6003, 6004, 6005, 7300, 7304, 7305, 7306, 8100, 8105, 8600, 8605, 9100, 9105, 9600, 9605, 10500, 10501, 10502, 10505, 10506, 10507, 10508, 10516]) (rs := [74, 75, 76, 77, 78, 79, 82, 83, 84, 85, 87, 88, 89, 90, 92, 93, 94, 95, 97, 98, 99, 100, 101, 102, 103, 104, 106, 107, 108, 109, 110, 111, 112, 113, 999]) (F := F)) g3 (by decide +kernel) (by decide +kernel)
          have g46 := agc_tr g47 g13 (by decide +kernel) (by decide +kernel)
          have g45 := agc_tr g46 g25 (by decide +kernel) (by decide +kernel)
          exact hK hI24 g45
        · exact (hc (B_z cqb_0_0_0)).elim
      · have r48 : ((1 : Int) = 0) ∨ ((0 ≤ (T21 60 1).toInt) ∧ ((T21 60 1).toInt < (T21 61 1).toInt)) := r37
        clear r37
        have q49 : (0) ≤ (T21 60 1).toInt ∧ (T21 60 1).toInt ≤ (98304) := (show B 0 98304 (T21 60 1) from hI24 60 1)
        have q50 : (0) ≤ (F 61 1).toInt ∧ (F 61 1).toInt ≤ (32768) := (show B 0 32768 (F 61 1) from hI 61 1)
        have e51 : (T21 61 1).toInt = (F 61 1).toInt := (congrArg Int32.toInt (((g25.1 61 1 rfl rfl).trans (g13.1 61 1 rfl rfl)).trans (g3.1 61 1 rfl rfl))).trans rfl
        have b52 : B 0 32767 (T21 60 1) := ⟨by omega, by omega⟩
        refine ⟨fun hc => ?_, fun hc => ?_⟩
        · exact (B_dis cqb_1_1_1 cqb_0_0_0 hc (by decide +kernel)).elim
        · have i53 : (1 : Int32).toInt ≠ (0 : Int32).toInt := i_ne hc
          have n54 : (1 : Int32).toInt = 1 := cqn_1
          have n55 : (0 : Int32).toInt = 0 := cqn_0
          refine ⟨(show ¬ ((60 : Nat) = NU) from by decide +kernel), ?_⟩
          refine ⟨(show ¬ ((60 : Nat) = NU) from by decide +kernel), ?_⟩
          refine ⟨(show c_cl UL 60 = 8 from cl_60), ?_⟩
          have g61 := agc_tr (agc_refl (fs := [5906, 5911, 5912, 5913, 6001, 6002, 6003, 6004, 6005, 6006, 6007, 7300, 7304, 7305, 7306, 8100, 8105, 8600, 8605, 9100, 9105, 9600, 9605, 10500, 10501, 10502, 10505, 10506, 10507, 10508, 10516]) (rs := [74, 75, 76, 77, 78, 79, 82, 83, 84, 85, 87, 88, 89, 90, 92, 93, 94, 95, 97, 98, 99, 100, 101, 102, 103, 104, 106, 107, 108, 109, 110, 111, 112, 113, 999]) (F := F)) g3 (by decide +kernel) (by decide +kernel)
          have g60 := agc_tr g61 g13 (by decide +kernel) (by decide +kernel)
          have g59 := agc_tr g60 g25 (by decide +kernel) (by decide +kernel)
          exact h_Re_fail_u60 (B_w cqb_8_8_8 (by decide +kernel) (by decide +kernel)) hI24 (fun hI g => hT13 hI (agc_tr g59 g (by decide +kernel) (by decide +kernel)))
    · have b62 : B 1 1 (x1_19) := B_w (B_n0 b22 hc) (by decide +kernel) (by decide +kernel)
      refine ⟨fun hc => ?_, fun hc => ?_⟩
      · have hq63 := hc
        have b64 : B 32768 32768 (x2_20) := B_w (B_leR cqb_32768_32768_32768 b23 hq63) (by decide +kernel) (by decide +kernel)
        unfold b_Un_readRow_120
        refine ⟨(show ¬ ((60 : Nat) = NU) from by decide +kernel), ?_⟩
        refine ⟨(show c_cl UL 60 = 8 from cl_60), ?_⟩
        refine ⟨(show ¬ ((61 : Nat) = NU) from by decide +kernel), ?_⟩
        refine ⟨(show ¬ ((60 : Nat) = NU) from by decide +kernel), ?_⟩
        refine ⟨(show c_cl UL 61 = 9 from cl_61), ?_⟩
        refine h_Ro_has_u61 hI24 (fun {v134_65} b67 r68 => ?_)
        rcases sp_01 b67 with rfl | rfl
        · have r69 : ((0 : Int) = 0) ∨ ((0 ≤ (T21 60 1).toInt) ∧ ((T21 60 1).toInt < (T21 61 1).toInt)) := r68
          clear r68
          have q70 : (0) ≤ (T21 60 1).toInt ∧ (T21 60 1).toInt ≤ (98304) := (show B 0 98304 (T21 60 1) from hI24 60 1)
          have q71 : (0) ≤ (F 61 1).toInt ∧ (F 61 1).toInt ≤ (32768) := (show B 0 32768 (F 61 1) from hI 61 1)
          have e72 : (T21 61 1).toInt = (F 61 1).toInt := (congrArg Int32.toInt (((g25.1 61 1 rfl rfl).trans (g13.1 61 1 rfl rfl)).trans (g3.1 61 1 rfl rfl))).trans rfl
          refine ⟨fun hc => ?_, fun hc => ?_⟩
          · have i73 : (0 : Int32).toInt = (0 : Int32).toInt := congrArg Int32.toInt hc
            have n74 : (0 : Int32).toInt = 0 := cqn_0
            have n75 : (0 : Int32).toInt = 0 := cqn_0
            unfold b_Un_readRow_156
            have g78 := agc_tr (agc_refl (fs := [5906, 5911, 5912, 5913, 6001, 6002, 6003, 6004, 6005, 7300, 7304, 7305, 7306, 8100, 8105, 8600, 8605, 9100, 9105, 9600, 9605, 10500, 10501, 10502, 10505, 10506, 10507, 10508, 10516]) (rs := [74, 75, 76, 77, 78, 79, 82, 83, 84, 85, 87, 88, 89, 90, 92, 93, 94, 95, 97, 98, 99, 100, 101, 102, 103, 104, 106, 107, 108, 109, 110, 111, 112, 113, 999]) (F := F)) g3 (by decide +kernel) (by decide +kernel)
            have g77 := agc_tr g78 g13 (by decide +kernel) (by decide +kernel)
            have g76 := agc_tr g77 g25 (by decide +kernel) (by decide +kernel)
            exact hK hI24 g76
          · exact (hc (B_z cqb_0_0_0)).elim
        · have r79 : ((1 : Int) = 0) ∨ ((0 ≤ (T21 60 1).toInt) ∧ ((T21 60 1).toInt < (T21 61 1).toInt)) := r68
          clear r68
          have q80 : (0) ≤ (T21 60 1).toInt ∧ (T21 60 1).toInt ≤ (98304) := (show B 0 98304 (T21 60 1) from hI24 60 1)
          have q81 : (0) ≤ (F 61 1).toInt ∧ (F 61 1).toInt ≤ (32768) := (show B 0 32768 (F 61 1) from hI 61 1)
          have e82 : (T21 61 1).toInt = (F 61 1).toInt := (congrArg Int32.toInt (((g25.1 61 1 rfl rfl).trans (g13.1 61 1 rfl rfl)).trans (g3.1 61 1 rfl rfl))).trans rfl
          have b83 : B 0 32767 (T21 60 1) := ⟨by omega, by omega⟩
          refine ⟨fun hc => ?_, fun hc => ?_⟩
          · exact (B_dis cqb_1_1_1 cqb_0_0_0 hc (by decide +kernel)).elim
          · have i84 : (1 : Int32).toInt ≠ (0 : Int32).toInt := i_ne hc
            have n85 : (1 : Int32).toInt = 1 := cqn_1
            have n86 : (0 : Int32).toInt = 0 := cqn_0
            refine ⟨(show ¬ ((60 : Nat) = NU) from by decide +kernel), ?_⟩
            refine ⟨(show ¬ ((60 : Nat) = NU) from by decide +kernel), ?_⟩
            refine ⟨(show c_cl UL 60 = 8 from cl_60), ?_⟩
            have g92 := agc_tr (agc_refl (fs := [5906, 5911, 5912, 5913, 6001, 6002, 6003, 6004, 6005, 6006, 6007, 7300, 7304, 7305, 7306, 8100, 8105, 8600, 8605, 9100, 9105, 9600, 9605, 10500, 10501, 10502, 10505, 10506, 10507, 10508, 10516]) (rs := [74, 75, 76, 77, 78, 79, 82, 83, 84, 85, 87, 88, 89, 90, 92, 93, 94, 95, 97, 98, 99, 100, 101, 102, 103, 104, 106, 107, 108, 109, 110, 111, 112, 113, 999]) (F := F)) g3 (by decide +kernel) (by decide +kernel)
            have g91 := agc_tr g92 g13 (by decide +kernel) (by decide +kernel)
            have g90 := agc_tr g91 g25 (by decide +kernel) (by decide +kernel)
            exact h_Re_fail_u60 (B_w cqb_8_8_8 (by decide +kernel) (by decide +kernel)) hI24 (fun hI g => hT13 hI (agc_tr g90 g (by decide +kernel) (by decide +kernel)))
      · have hq93 := (nle_lt hc)
        have b94 : B 0 32767 (x2_20) := B_w (B_ltL b23 cqb_32768_32768_32768 hq93) (by decide +kernel) (by decide +kernel)
        refine ⟨(show ¬ ((60 : Nat) = NU) from by decide +kernel), ?_⟩
        refine ⟨(show c_cl UL 60 = 8 from cl_60), ?_⟩
        have g102 := agc_tr (agc_refl (fs := [5906, 5911, 5912, 5913, 6001, 6002, 6003, 6004, 6005, 6006, 6007, 7300, 7304, 7305, 7306, 8100, 8105, 8600, 8605, 9100, 9105, 9600, 9605, 10500, 10501, 10502, 10505, 10506, 10507, 10508, 10516]) (rs := [74, 75, 76, 77, 78, 79, 82, 83, 84, 85, 87, 88, 89, 90, 92, 93, 94, 95, 97, 98, 99, 100, 101, 102, 103, 104, 106, 107, 108, 109, 110, 111, 112, 113, 999]) (F := F)) g3 (by decide +kernel) (by decide +kernel)
        have g101 := agc_tr g102 g13 (by decide +kernel) (by decide +kernel)
        have g100 := agc_tr g101 g25 (by decide +kernel) (by decide +kernel)
        refine h_Re_readMark_u60 hI24 (fun {v52_95} {FS52_96} {LFS52_96} b97 hI98 g99 => ?_) (fun hI g => hT13 hI (agc_tr g100 g (by decide +kernel) (by decide +kernel)))
        refine ⟨fun hc => ?_, fun hc => ?_⟩
        · have b103 : B 217 217 (v52_95) := B_w (B_eq hc cqb_217_217_217) (by decide +kernel) (by decide +kernel)
          have q104 : (217) ≤ (v52_95).toInt ∧ (v52_95).toInt ≤ (217) := (show B 217 217 (v52_95) from B_w b103 (by decide +kernel) (by decide +kernel))
          have i105 : (v52_95).toInt = (217 : Int32).toInt := congrArg Int32.toInt hc
          have n106 : (217 : Int32).toInt = 217 := cqn_217
          unfold b_Un_readRow_68
          refine h_Un_canCome_u59_a1 (B_w b103 (by decide +kernel) (by decide +kernel)) hI98 (fun {v71_107} b109 r110 => ?_)
          have r111 : (v71_107.toInt = 0) ∨ (((v52_95.toInt = 192) → ((FS52_96 59 6).toInt = 0)) ∧ ((v52_95.toInt = 218) → ((FS52_96 59 6).toInt = 1))) := r110
          clear r110
          have q112 : (0) ≤ (v71_107).toInt ∧ (v71_107).toInt ≤ (1) := (show B 0 1 (v71_107) from B_w b109 (by decide +kernel) (by decide +kernel))
          have q113 : (0) ≤ (T21 59 6).toInt ∧ (T21 59 6).toInt ≤ (1) := (show B 0 1 (T21 59 6) from hI24 59 6)
          have e114 : (FS52_96 59 6).toInt = (T21 59 6).toInt := (congrArg Int32.toInt (g99.1 59 6 rfl rfl)).trans rfl
          refine ⟨fun hc => ?_, fun hc => ?_⟩
          · have b115 : B 1 1 (v71_107) := B_w (B_n0 b109 hc) (by decide +kernel) (by decide +kernel)
            have q116 : (1) ≤ (v71_107).toInt ∧ (v71_107).toInt ≤ (1) := (show B 1 1 (v71_107) from B_w b115 (by decide +kernel) (by decide +kernel))
            unfold b_Un_readRow_94
            refine ⟨fun hc => ?_, fun hc => ?_⟩
            · have i117 : (0 : Int32).toInt = (0 : Int32).toInt := congrArg Int32.toInt hc
              have n118 : (0 : Int32).toInt = 0 := cqn_0
              have n119 : (0 : Int32).toInt = 0 := cqn_0
              unfold b_Un_readRow_103
              refine ⟨fun hc => ?_, fun hc => ?_⟩
              · have i120 : (v52_95).toInt ≠ (218 : Int32).toInt := i_ne hc
                have n121 : (218 : Int32).toInt = 218 := cqn_218
                unfold b_Un_readRow_114
                have g123 := agc_tr (agc_refl (fs := [5906, 5911, 5912, 5913, 6001, 6002, 6003, 6004, 6005, 7300, 7304, 7305, 7306, 8100, 8105, 8600, 8605, 9100, 9105, 9600, 9605, 10500, 10501, 10502, 10505, 10506, 10507, 10508, 10516]) (rs := [74, 75, 76, 77, 78, 79, 82, 83, 84, 85, 87, 88, 89, 90, 92, 93, 94, 95, 97, 98, 99, 100, 101, 102, 103, 104, 106, 107, 108, 109, 110, 111, 112, 113, 999]) (F := FS8_10)) g25 (by decide +kernel) (by decide +kernel)
                have g122 := agc_tr g123 g99 (by decide +kernel) (by decide +kernel)
                have g124 := agc_tr (agc_refl (fs := [6001]) (rs := [999]) (F := T21)) g99 (by decide +kernel) (by decide +kernel)
                have q125 : (0) ≤ (x2_20).toInt ∧ (x2_20).toInt ≤ (32767) := (show B 0 32767 (x2_20) from B_w b94 (by decide +kernel) (by decide +kernel))
                have e126 : (x2_20 + 1).toInt = ((x2_20).toInt + 1) := (t_add b94 cqb_1_1_1 (by decide +kernel) (by decide +kernel)).trans (by rw [cqn_1])
                have q127 : (1) ≤ (x2_20 + 1).toInt ∧ (x2_20 + 1).toInt ≤ (32768) := (show B 1 32768 (x2_20 + 1) from B_w (B_add b94 cqb_1_1_1 (by decide +kernel) (by decide +kernel)) (by decide +kernel) (by decide +kernel))
                exact hR38 ⟨(B_w cqb_0_0_0 (by decide +kernel) (by decide +kernel)), (B_w (B_add b94 cqb_1_1_1 (by decide +kernel) (by decide +kernel)) (by decide +kernel) (by decide +kernel)), _, _, rfl, hI98, g122, (CV_ag (F := T21) (G := FS52_96) r27 g124 (by decide +kernel) (by decide +kernel)), (FA_tr (m := 105) (F := T21) (G := FS52_96) r29 (g99.1 59 6 rfl rfl) (g99.2 106 rfl rfl) (g99.2 107 rfl rfl) (g99.1 105 2 rfl rfl) (g99.1 105 5 rfl rfl) (g99.1 105 6 rfl rfl) (g99.1 105 7 rfl rfl) (g99.1 105 8 rfl rfl))⟩ (by show (32768 - (x2_20 + 1).toInt).toNat < (32768 - x2_20.toInt).toNat; omega)
              · exact (B_dis b103 cqb_218_218_218 hc (by decide +kernel)).elim
            · exact (hc (B_z cqb_0_0_0)).elim
          · have b128 : B 0 0 (v71_107) := B_w (B_eq hc cqb_0_0_0) (by decide +kernel) (by decide +kernel)
            have q129 : (0) ≤ (v71_107).toInt ∧ (v71_107).toInt ≤ (0) := (show B 0 0 (v71_107) from B_w b128 (by decide +kernel) (by decide +kernel))
            have i130 : (v71_107).toInt = (0 : Int32).toInt := congrArg Int32.toInt hc
            have n131 : (0 : Int32).toInt = 0 := cqn_0
            refine ⟨(show ¬ ((60 : Nat) = NU) from by decide +kernel), ?_⟩
            refine ⟨(show ¬ ((60 : Nat) = NU) from by decide +kernel), ?_⟩
            refine ⟨(show c_cl UL 60 = 8 from cl_60), ?_⟩
            have g138 := agc_tr (agc_refl (fs := [5906, 5911, 5912, 5913, 6001, 6002, 6003, 6004, 6005, 6006, 6007, 7300, 7304, 7305, 7306, 8100, 8105, 8600, 8605, 9100, 9105, 9600, 9605, 10500, 10501, 10502, 10505, 10506, 10507, 10508, 10516]) (rs := [74, 75, 76, 77, 78, 79, 82, 83, 84, 85, 87, 88, 89, 90, 92, 93, 94, 95, 97, 98, 99, 100, 101, 102, 103, 104, 106, 107, 108, 109, 110, 111, 112, 113, 999]) (F := F)) g3 (by decide +kernel) (by decide +kernel)
            have g137 := agc_tr g138 g13 (by decide +kernel) (by decide +kernel)
            have g136 := agc_tr g137 g25 (by decide +kernel) (by decide +kernel)
            have g135 := agc_tr g136 g99 (by decide +kernel) (by decide +kernel)
            exact h_Re_fail_u60 (B_w cqb_3_3_3 (by decide +kernel) (by decide +kernel)) hI98 (fun hI g => hT13 hI (agc_tr g135 g (by decide +kernel) (by decide +kernel)))
        · have q139 : (0) ≤ (v52_95).toInt ∧ (v52_95).toInt ≤ (255) := (show B 0 255 (v52_95) from B_w b97 (by decide +kernel) (by decide +kernel))
          have i140 : (v52_95).toInt ≠ (217 : Int32).toInt := i_ne hc
          have n141 : (217 : Int32).toInt = 217 := cqn_217
          unfold b_Un_readRow_68
          refine h_Un_canCome_u59_a1 b97 hI98 (fun {v71_142} b144 r145 => ?_)
          have r146 : (v71_142.toInt = 0) ∨ (((v52_95.toInt = 192) → ((FS52_96 59 6).toInt = 0)) ∧ ((v52_95.toInt = 218) → ((FS52_96 59 6).toInt = 1))) := r145
          clear r145
          have q147 : (0) ≤ (v71_142).toInt ∧ (v71_142).toInt ≤ (1) := (show B 0 1 (v71_142) from B_w b144 (by decide +kernel) (by decide +kernel))
          have q148 : (0) ≤ (T21 59 6).toInt ∧ (T21 59 6).toInt ≤ (1) := (show B 0 1 (T21 59 6) from hI24 59 6)
          have e149 : (FS52_96 59 6).toInt = (T21 59 6).toInt := (congrArg Int32.toInt (g99.1 59 6 rfl rfl)).trans rfl
          refine ⟨fun hc => ?_, fun hc => ?_⟩
          · have b150 : B 1 1 (v71_142) := B_w (B_n0 b144 hc) (by decide +kernel) (by decide +kernel)
            have q151 : (1) ≤ (v71_142).toInt ∧ (v71_142).toInt ≤ (1) := (show B 1 1 (v71_142) from B_w b150 (by decide +kernel) (by decide +kernel))
            unfold b_Un_readRow_94
            refine ⟨fun hc => ?_, fun hc => ?_⟩
            · exact (B_dis cqb_1_1_1 cqb_0_0_0 hc (by decide +kernel)).elim
            · have i152 : (1 : Int32).toInt ≠ (0 : Int32).toInt := i_ne hc
              have n153 : (1 : Int32).toInt = 1 := cqn_1
              have n154 : (0 : Int32).toInt = 0 := cqn_0
              have g155 := agc_tr (agc_refl (fs := [6001]) (rs := [999]) (F := T21)) g99 (by decide +kernel) (by decide +kernel)
              have g165 := agc_tr (agc_refl (fs := [5906, 5911, 5912, 5913, 6001, 6002, 6003, 6004, 6005, 6006, 6007, 7300, 7304, 7305, 7306, 8100, 8105, 8600, 8605, 9100, 9105, 9600, 9605, 10500, 10501, 10502, 10505, 10506, 10507, 10508, 10516]) (rs := [74, 75, 76, 77, 78, 79, 82, 83, 84, 85, 87, 88, 89, 90, 92, 93, 94, 95, 97, 98, 99, 100, 101, 102, 103, 104, 106, 107, 108, 109, 110, 111, 112, 113, 999]) (F := F)) g3 (by decide +kernel) (by decide +kernel)
              have g164 := agc_tr g165 g13 (by decide +kernel) (by decide +kernel)
              have g163 := agc_tr g164 g25 (by decide +kernel) (by decide +kernel)
              have g162 := agc_tr g163 g99 (by decide +kernel) (by decide +kernel)
              refine h_Un_readSection_u59_a1 b97 hI98 (by show ((v52_95.toInt = 192) → ((FS52_96 59 6).toInt = 0)) ∧ ((v52_95.toInt = 218) → ((FS52_96 59 6).toInt = 1)); first | with_reducible assumption | omega) (CV_ag (F := T21) (G := FS52_96) r27 g155 (by decide +kernel) (by decide +kernel)) (FA_tr (m := 105) (F := T21) (G := FS52_96) r29 (g99.1 59 6 rfl rfl) (g99.2 106 rfl rfl) (g99.2 107 rfl rfl) (g99.1 105 2 rfl rfl) (g99.1 105 5 rfl rfl) (g99.1 105 6 rfl rfl) (g99.1 105 7 rfl rfl) (g99.1 105 8 rfl rfl)) (fun {FS100_156} {LFS100_156} hI157 g158 r159 r160 r161 => ?_) (fun hI g => hT13 hI (agc_tr g162 g (by decide +kernel) (by decide +kernel)))
              have r166 : CV FS100_156 := r159
              clear r159
              have r167 : FA 105 FS100_156 := r160
              clear r160
              have r168 : SR v52_95 FS100_156 := r161
              clear r161
              unfold b_Un_readRow_103
              refine ⟨fun hc => ?_, fun hc => ?_⟩
              · have i169 : (v52_95).toInt ≠ (218 : Int32).toInt := i_ne hc
                have n170 : (218 : Int32).toInt = 218 := cqn_218
                unfold b_Un_readRow_114
                have g173 := agc_tr (agc_refl (fs := [5906, 5911, 5912, 5913, 6001, 6002, 6003, 6004, 6005, 7300, 7304, 7305, 7306, 8100, 8105, 8600, 8605, 9100, 9105, 9600, 9605, 10500, 10501, 10502, 10505, 10506, 10507, 10508, 10516]) (rs := [74, 75, 76, 77, 78, 79, 82, 83, 84, 85, 87, 88, 89, 90, 92, 93, 94, 95, 97, 98, 99, 100, 101, 102, 103, 104, 106, 107, 108, 109, 110, 111, 112, 113, 999]) (F := FS8_10)) g25 (by decide +kernel) (by decide +kernel)
                have g172 := agc_tr g173 g99 (by decide +kernel) (by decide +kernel)
                have g171 := agc_tr g172 g158 (by decide +kernel) (by decide +kernel)
                have q174 : (0) ≤ (x2_20).toInt ∧ (x2_20).toInt ≤ (32767) := (show B 0 32767 (x2_20) from B_w b94 (by decide +kernel) (by decide +kernel))
                have e175 : (x2_20 + 1).toInt = ((x2_20).toInt + 1) := (t_add b94 cqb_1_1_1 (by decide +kernel) (by decide +kernel)).trans (by rw [cqn_1])
                have q176 : (1) ≤ (x2_20 + 1).toInt ∧ (x2_20 + 1).toInt ≤ (32768) := (show B 1 32768 (x2_20 + 1) from B_w (B_add b94 cqb_1_1_1 (by decide +kernel) (by decide +kernel)) (by decide +kernel) (by decide +kernel))
                exact hR38 ⟨(B_w cqb_1_1_1 (by decide +kernel) (by decide +kernel)), (B_w (B_add b94 cqb_1_1_1 (by decide +kernel) (by decide +kernel)) (by decide +kernel) (by decide +kernel)), _, _, rfl, hI157, g171, r166, r167⟩ (by show (32768 - (x2_20 + 1).toInt).toNat < (32768 - x2_20.toInt).toNat; omega)
              · have b177 : B 218 218 (v52_95) := B_w (B_eq hc cqb_218_218_218) (by decide +kernel) (by decide +kernel)
                have q178 : (218) ≤ (v52_95).toInt ∧ (v52_95).toInt ≤ (218) := (show B 218 218 (v52_95) from B_w b177 (by decide +kernel) (by decide +kernel))
                have i179 : (v52_95).toInt = (218 : Int32).toInt := congrArg Int32.toInt hc
                have n180 : (218 : Int32).toInt = 218 := cqn_218
                obtain ⟨r181, r182⟩ := r168 (by assumption)
                have g190 := agc_tr (agc_refl (fs := [5906, 5911, 5912, 5913, 6001, 6002, 6003, 6004, 6005, 6006, 6007, 7300, 7304, 7305, 7306, 8100, 8105, 8600, 8605, 9100, 9105, 9600, 9605, 10500, 10501, 10502, 10505, 10506, 10507, 10508, 10516]) (rs := [74, 75, 76, 77, 78, 79, 82, 83, 84, 85, 87, 88, 89, 90, 92, 93, 94, 95, 97, 98, 99, 100, 101, 102, 103, 104, 106, 107, 108, 109, 110, 111, 112, 113, 999]) (F := F)) g3 (by decide +kernel) (by decide +kernel)
                have g189 := agc_tr g190 g13 (by decide +kernel) (by decide +kernel)
                have g188 := agc_tr g189 g25 (by decide +kernel) (by decide +kernel)
                have g187 := agc_tr g188 g99 (by decide +kernel) (by decide +kernel)
                have g186 := agc_tr g187 g158 (by decide +kernel) (by decide +kernel)
                refine h_Un_readData_u59_a1 hI157 r181 (UPs_tr (F := FS100_156) (G := FS100_156) r182 rfl rfl rfl) (fun {FS111_183} {LFS111_183} hI184 g185 => ?_) (fun hI g => hT13 hI (agc_tr g186 g (by decide +kernel) (by decide +kernel)))
                unfold b_Un_readRow_114
                have g194 := agc_tr (agc_refl (fs := [5906, 5911, 5912, 5913, 6001, 6002, 6003, 6004, 6005, 7300, 7304, 7305, 7306, 8100, 8105, 8600, 8605, 9100, 9105, 9600, 9605, 10500, 10501, 10502, 10505, 10506, 10507, 10508, 10516]) (rs := [74, 75, 76, 77, 78, 79, 82, 83, 84, 85, 87, 88, 89, 90, 92, 93, 94, 95, 97, 98, 99, 100, 101, 102, 103, 104, 106, 107, 108, 109, 110, 111, 112, 113, 999]) (F := FS8_10)) g25 (by decide +kernel) (by decide +kernel)
                have g193 := agc_tr g194 g99 (by decide +kernel) (by decide +kernel)
                have g192 := agc_tr g193 g158 (by decide +kernel) (by decide +kernel)
                have g191 := agc_tr g192 g185 (by decide +kernel) (by decide +kernel)
                have g195 := agc_tr (agc_refl (fs := [6001, 6002, 6003, 6004, 6005]) (rs := [104, 112, 999]) (F := FS100_156)) g185 (by decide +kernel) (by decide +kernel)
                have q196 : (0) ≤ (x2_20).toInt ∧ (x2_20).toInt ≤ (32767) := (show B 0 32767 (x2_20) from B_w b94 (by decide +kernel) (by decide +kernel))
                have e197 : (x2_20 + 1).toInt = ((x2_20).toInt + 1) := (t_add b94 cqb_1_1_1 (by decide +kernel) (by decide +kernel)).trans (by rw [cqn_1])
                have q198 : (1) ≤ (x2_20 + 1).toInt ∧ (x2_20 + 1).toInt ≤ (32768) := (show B 1 32768 (x2_20 + 1) from B_w (B_add b94 cqb_1_1_1 (by decide +kernel) (by decide +kernel)) (by decide +kernel) (by decide +kernel))
                exact hR38 ⟨(B_w cqb_1_1_1 (by decide +kernel) (by decide +kernel)), (B_w (B_add b94 cqb_1_1_1 (by decide +kernel) (by decide +kernel)) (by decide +kernel) (by decide +kernel)), _, _, rfl, hI184, g191, (CV_ag (F := FS100_156) (G := FS111_183) r166 g195 (by decide +kernel) (by decide +kernel)), (FA_tr (m := 105) (F := FS100_156) (G := FS111_183) r167 (g185.1 59 6 rfl rfl) (g185.2 106 rfl rfl) (g185.2 107 rfl rfl) (g185.1 105 2 rfl rfl) (g185.1 105 5 rfl rfl) (g185.1 105 6 rfl rfl) (g185.1 105 7 rfl rfl) (g185.1 105 8 rfl rfl))⟩ (by show (32768 - (x2_20 + 1).toInt).toNat < (32768 - x2_20.toInt).toNat; omega)
          · have b199 : B 0 0 (v71_142) := B_w (B_eq hc cqb_0_0_0) (by decide +kernel) (by decide +kernel)
            have q200 : (0) ≤ (v71_142).toInt ∧ (v71_142).toInt ≤ (0) := (show B 0 0 (v71_142) from B_w b199 (by decide +kernel) (by decide +kernel))
            have i201 : (v71_142).toInt = (0 : Int32).toInt := congrArg Int32.toInt hc
            have n202 : (0 : Int32).toInt = 0 := cqn_0
            refine ⟨(show ¬ ((60 : Nat) = NU) from by decide +kernel), ?_⟩
            refine ⟨(show ¬ ((60 : Nat) = NU) from by decide +kernel), ?_⟩
            refine ⟨(show c_cl UL 60 = 8 from cl_60), ?_⟩
            have g209 := agc_tr (agc_refl (fs := [5906, 5911, 5912, 5913, 6001, 6002, 6003, 6004, 6005, 6006, 6007, 7300, 7304, 7305, 7306, 8100, 8105, 8600, 8605, 9100, 9105, 9600, 9605, 10500, 10501, 10502, 10505, 10506, 10507, 10508, 10516]) (rs := [74, 75, 76, 77, 78, 79, 82, 83, 84, 85, 87, 88, 89, 90, 92, 93, 94, 95, 97, 98, 99, 100, 101, 102, 103, 104, 106, 107, 108, 109, 110, 111, 112, 113, 999]) (F := F)) g3 (by decide +kernel) (by decide +kernel)
            have g208 := agc_tr g209 g13 (by decide +kernel) (by decide +kernel)
            have g207 := agc_tr g208 g25 (by decide +kernel) (by decide +kernel)
            have g206 := agc_tr g207 g99 (by decide +kernel) (by decide +kernel)
            exact h_Re_fail_u60 (B_w cqb_3_3_3 (by decide +kernel) (by decide +kernel)) hI98 (fun hI g => hT13 hI (agc_tr g206 g (by decide +kernel) (by decide +kernel)))
  · have q210 : (0) ≤ (v8_9).toInt ∧ (v8_9).toInt ≤ (255) := (show B 0 255 (v8_9) from B_w b11 (by decide +kernel) (by decide +kernel))
    have i211 : (v8_9).toInt ≠ (216 : Int32).toInt := i_ne hc
    have n212 : (216 : Int32).toInt = 216 := cqn_216
    refine ⟨(show ¬ ((60 : Nat) = NU) from by decide +kernel), ?_⟩
    refine ⟨(show ¬ ((60 : Nat) = NU) from by decide +kernel), ?_⟩
    refine ⟨(show c_cl UL 60 = 8 from cl_60), ?_⟩
    have g217 := agc_tr (agc_refl (fs := [5906, 5911, 5912, 5913, 6001, 6002, 6003, 6004, 6005, 6006, 6007, 7300, 7304, 7305, 7306, 8100, 8105, 8600, 8605, 9100, 9105, 9600, 9605, 10500, 10501, 10502, 10505, 10506, 10507, 10508, 10516]) (rs := [74, 75, 76, 77, 78, 79, 82, 83, 84, 85, 87, 88, 89, 90, 92, 93, 94, 95, 97, 98, 99, 100, 101, 102, 103, 104, 106, 107, 108, 109, 110, 111, 112, 113, 999]) (F := F)) g3 (by decide +kernel) (by decide +kernel)
    have g216 := agc_tr g217 g13 (by decide +kernel) (by decide +kernel)
    exact h_Re_fail_u60 (B_w cqb_3_3_3 (by decide +kernel) (by decide +kernel)) hI12 (fun hI g => hT13 hI (agc_tr g216 g (by decide +kernel) (by decide +kernel)))
